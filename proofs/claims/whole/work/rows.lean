section
-- ===== PART A: goes FIRST, ahead of the names: the tables' words, and 'selects' of the private methods out of them =====
/-- a private method of a class that the tables say can be made, by its rows of tables_1 -/
def lw_okq (q : MethodName × Nat) : Prop := (q.1.cls ≠ "java/lang/invoke/MethodHandle" ∧ q.1.cls ≠ "java/lang/invoke/VarHandle") ∧ Cond.instantiable q.1.cls q.2 ∈ tables_1 ∧ Cond.privateMethod q.1 ∈ tables_1 ∧ Cond.instanceMethod q.1 ∈ tables_1
theorem lw_p0 : lw_okq (⟨"WaysKept", "restart", "(I)V"⟩, 5) := ⟨⟨by decide +kernel, by decide +kernel⟩, List.mem_of_getElem? (i := 12) (by decide +kernel), List.mem_of_getElem? (i := 106) (by decide +kernel), List.mem_of_getElem? (i := 107) (by decide +kernel)⟩
theorem lw_p1 : lw_okq (⟨"WaysKept", "keepAct", "()V"⟩, 5) := ⟨⟨by decide +kernel, by decide +kernel⟩, List.mem_of_getElem? (i := 12) (by decide +kernel), List.mem_of_getElem? (i := 118) (by decide +kernel), List.mem_of_getElem? (i := 119) (by decide +kernel)⟩
theorem lw_p2 : lw_okq (⟨"WaysKept$Ways", "spread", "(III)V"⟩, 3) := ⟨⟨by decide +kernel, by decide +kernel⟩, List.mem_of_getElem? (i := 64) (by decide +kernel), List.mem_of_getElem? (i := 130) (by decide +kernel), List.mem_of_getElem? (i := 131) (by decide +kernel)⟩
theorem lw_p3 : lw_okq (⟨"WaysKept$Ways", "relax", "(I)Z"⟩, 3) := ⟨⟨by decide +kernel, by decide +kernel⟩, List.mem_of_getElem? (i := 64) (by decide +kernel), List.mem_of_getElem? (i := 138) (by decide +kernel), List.mem_of_getElem? (i := 139) (by decide +kernel)⟩
theorem lw_p4 : lw_okq (⟨"WaysKept$Ways", "costOf", "(I)I"⟩, 3) := ⟨⟨by decide +kernel, by decide +kernel⟩, List.mem_of_getElem? (i := 64) (by decide +kernel), List.mem_of_getElem? (i := 142) (by decide +kernel), List.mem_of_getElem? (i := 143) (by decide +kernel)⟩
theorem lw_p5 : lw_okq (⟨"WaysKept$Ways", "lower", "(III)Z"⟩, 3) := ⟨⟨by decide +kernel, by decide +kernel⟩, List.mem_of_getElem? (i := 64) (by decide +kernel), List.mem_of_getElem? (i := 146) (by decide +kernel), List.mem_of_getElem? (i := 147) (by decide +kernel)⟩
theorem lw_p6 : lw_okq (⟨"WaysKept$Past", "makeRoom", "()V"⟩, 2) := ⟨⟨by decide +kernel, by decide +kernel⟩, List.mem_of_getElem? (i := 80) (by decide +kernel), List.mem_of_getElem? (i := 164) (by decide +kernel), List.mem_of_getElem? (i := 165) (by decide +kernel)⟩
theorem lw_p7 : lw_okq (⟨"WaysKept", "wouldSinkAt", "(II)Z"⟩, 5) := ⟨⟨by decide +kernel, by decide +kernel⟩, List.mem_of_getElem? (i := 12) (by decide +kernel), List.mem_of_getElem? (i := 253) (by decide +kernel), List.mem_of_getElem? (i := 254) (by decide +kernel)⟩
theorem lw_p8 : lw_okq (⟨"WaysKept$Ways", "lineToward", "(II)I"⟩, 3) := ⟨⟨by decide +kernel, by decide +kernel⟩, List.mem_of_getElem? (i := 64) (by decide +kernel), List.mem_of_getElem? (i := 315) (by decide +kernel), List.mem_of_getElem? (i := 316) (by decide +kernel)⟩
theorem lw_p9 : lw_okq (⟨"WaysKept$Ways", "isOnWay", "(III)Z"⟩, 3) := ⟨⟨by decide +kernel, by decide +kernel⟩, List.mem_of_getElem? (i := 64) (by decide +kernel), List.mem_of_getElem? (i := 338) (by decide +kernel), List.mem_of_getElem? (i := 339) (by decide +kernel)⟩
theorem lw_p10 : lw_okq (⟨"WaysKept$Ways", "ringOver", "(I)I"⟩, 3) := ⟨⟨by decide +kernel, by decide +kernel⟩, List.mem_of_getElem? (i := 64) (by decide +kernel), List.mem_of_getElem? (i := 356) (by decide +kernel), List.mem_of_getElem? (i := 357) (by decide +kernel)⟩
theorem lw_p11 : lw_okq (⟨"WaysKept$Past", "isMoved", "(II)Z"⟩, 2) := ⟨⟨by decide +kernel, by decide +kernel⟩, List.mem_of_getElem? (i := 80) (by decide +kernel), List.mem_of_getElem? (i := 385) (by decide +kernel), List.mem_of_getElem? (i := 386) (by decide +kernel)⟩
theorem lw_p12 : lw_okq (⟨"WaysKept$Hitting", "meetsAll", "(I)Z"⟩, 2) := ⟨⟨by decide +kernel, by decide +kernel⟩, List.mem_of_getElem? (i := 93) (by decide +kernel), List.mem_of_getElem? (i := 458) (by decide +kernel), List.mem_of_getElem? (i := 459) (by decide +kernel)⟩
theorem lw_p13 : lw_okq (⟨"WaysKeptModel", "learn", "(II)Z"⟩, 13) := ⟨⟨by decide +kernel, by decide +kernel⟩, List.mem_of_getElem? (i := 471) (by decide +kernel), List.mem_of_getElem? (i := 478) (by decide +kernel), List.mem_of_getElem? (i := 479) (by decide +kernel)⟩
theorem lw_p14 : lw_okq (⟨"WaysKeptModel", "keep", "()V"⟩, 13) := ⟨⟨by decide +kernel, by decide +kernel⟩, List.mem_of_getElem? (i := 471) (by decide +kernel), List.mem_of_getElem? (i := 483) (by decide +kernel), List.mem_of_getElem? (i := 484) (by decide +kernel)⟩
theorem lw_p15 : lw_okq (⟨"WaysKeptModel", "noPost", "(I)Z"⟩, 13) := ⟨⟨by decide +kernel, by decide +kernel⟩, List.mem_of_getElem? (i := 471) (by decide +kernel), List.mem_of_getElem? (i := 543) (by decide +kernel), List.mem_of_getElem? (i := 544) (by decide +kernel)⟩
def lw_privs_1 : List (MethodName × Nat) := [(⟨"WaysKept", "restart", "(I)V"⟩, 5), (⟨"WaysKept", "keepAct", "()V"⟩, 5), (⟨"WaysKept$Ways", "spread", "(III)V"⟩, 3), (⟨"WaysKept$Ways", "relax", "(I)Z"⟩, 3), (⟨"WaysKept$Ways", "costOf", "(I)I"⟩, 3), (⟨"WaysKept$Ways", "lower", "(III)Z"⟩, 3), (⟨"WaysKept$Past", "makeRoom", "()V"⟩, 2), (⟨"WaysKept", "wouldSinkAt", "(II)Z"⟩, 5), (⟨"WaysKept$Ways", "lineToward", "(II)I"⟩, 3), (⟨"WaysKept$Ways", "isOnWay", "(III)Z"⟩, 3), (⟨"WaysKept$Ways", "ringOver", "(I)I"⟩, 3), (⟨"WaysKept$Past", "isMoved", "(II)Z"⟩, 2), (⟨"WaysKept$Hitting", "meetsAll", "(I)Z"⟩, 2), (⟨"WaysKeptModel", "learn", "(II)Z"⟩, 13), (⟨"WaysKeptModel", "keep", "()V"⟩, 13), (⟨"WaysKeptModel", "noPost", "(I)Z"⟩, 13)]
theorem lw_r1 : ∀ q ∈ lw_privs_1, lw_okq q := List.forall_mem_cons.mpr ⟨lw_p0, List.forall_mem_cons.mpr ⟨lw_p1, List.forall_mem_cons.mpr ⟨lw_p2, List.forall_mem_cons.mpr ⟨lw_p3, List.forall_mem_cons.mpr ⟨lw_p4, List.forall_mem_cons.mpr ⟨lw_p5, List.forall_mem_cons.mpr ⟨lw_p6, List.forall_mem_cons.mpr ⟨lw_p7, List.forall_mem_cons.mpr ⟨lw_p8, List.forall_mem_cons.mpr ⟨lw_p9, List.forall_mem_cons.mpr ⟨lw_p10, List.forall_mem_cons.mpr ⟨lw_p11, List.forall_mem_cons.mpr ⟨lw_p12, List.forall_mem_cons.mpr ⟨lw_p13, List.forall_mem_cons.mpr ⟨lw_p14, List.forall_mem_cons.mpr ⟨lw_p15, fun _ h => absurd h List.not_mem_nil⟩⟩⟩⟩⟩⟩⟩⟩⟩⟩⟩⟩⟩⟩⟩⟩
theorem lw_p16 : lw_okq (⟨"WaysKeptModel", "farOf", "(II)I"⟩, 13) := ⟨⟨by decide +kernel, by decide +kernel⟩, List.mem_of_getElem? (i := 471) (by decide +kernel), List.mem_of_getElem? (i := 549) (by decide +kernel), List.mem_of_getElem? (i := 550) (by decide +kernel)⟩
theorem lw_p17 : lw_okq (⟨"WaysKeptModel", "did", "()V"⟩, 13) := ⟨⟨by decide +kernel, by decide +kernel⟩, List.mem_of_getElem? (i := 471) (by decide +kernel), List.mem_of_getElem? (i := 553) (by decide +kernel), List.mem_of_getElem? (i := 554) (by decide +kernel)⟩
theorem lw_p18 : lw_okq (⟨"WaysKeptModel", "noLine", "(I)Z"⟩, 13) := ⟨⟨by decide +kernel, by decide +kernel⟩, List.mem_of_getElem? (i := 471) (by decide +kernel), List.mem_of_getElem? (i := 561) (by decide +kernel), List.mem_of_getElem? (i := 562) (by decide +kernel)⟩
theorem lw_p19 : lw_okq (⟨"WaysKeptModel", "there", "()I"⟩, 13) := ⟨⟨by decide +kernel, by decide +kernel⟩, List.mem_of_getElem? (i := 471) (by decide +kernel), List.mem_of_getElem? (i := 569) (by decide +kernel), List.mem_of_getElem? (i := 570) (by decide +kernel)⟩
theorem lw_p20 : lw_okq (⟨"WaysKeptModel", "heightOf", "(I)I"⟩, 13) := ⟨⟨by decide +kernel, by decide +kernel⟩, List.mem_of_getElem? (i := 471) (by decide +kernel), List.mem_of_getElem? (i := 581) (by decide +kernel), List.mem_of_getElem? (i := 582) (by decide +kernel)⟩
theorem lw_p21 : lw_okq (⟨"WaysKeptModel", "nextOf", "(II)I"⟩, 13) := ⟨⟨by decide +kernel, by decide +kernel⟩, List.mem_of_getElem? (i := 471) (by decide +kernel), List.mem_of_getElem? (i := 597) (by decide +kernel), List.mem_of_getElem? (i := 598) (by decide +kernel)⟩
theorem lw_p22 : lw_okq (⟨"WaysKeptModel", "other", "(II)I"⟩, 13) := ⟨⟨by decide +kernel, by decide +kernel⟩, List.mem_of_getElem? (i := 471) (by decide +kernel), List.mem_of_getElem? (i := 601) (by decide +kernel), List.mem_of_getElem? (i := 602) (by decide +kernel)⟩
theorem lw_p23 : lw_okq (⟨"WaysKeptModel", "isMoved", "(II)Z"⟩, 13) := ⟨⟨by decide +kernel, by decide +kernel⟩, List.mem_of_getElem? (i := 471) (by decide +kernel), List.mem_of_getElem? (i := 633) (by decide +kernel), List.mem_of_getElem? (i := 634) (by decide +kernel)⟩
theorem lw_p24 : lw_okq (⟨"WaysKeptModel", "nearOf", "(II)I"⟩, 13) := ⟨⟨by decide +kernel, by decide +kernel⟩, List.mem_of_getElem? (i := 471) (by decide +kernel), List.mem_of_getElem? (i := 659) (by decide +kernel), List.mem_of_getElem? (i := 660) (by decide +kernel)⟩
def lw_privs_2 : List (MethodName × Nat) := [(⟨"WaysKeptModel", "farOf", "(II)I"⟩, 13), (⟨"WaysKeptModel", "did", "()V"⟩, 13), (⟨"WaysKeptModel", "noLine", "(I)Z"⟩, 13), (⟨"WaysKeptModel", "there", "()I"⟩, 13), (⟨"WaysKeptModel", "heightOf", "(I)I"⟩, 13), (⟨"WaysKeptModel", "nextOf", "(II)I"⟩, 13), (⟨"WaysKeptModel", "other", "(II)I"⟩, 13), (⟨"WaysKeptModel", "isMoved", "(II)Z"⟩, 13), (⟨"WaysKeptModel", "nearOf", "(II)I"⟩, 13)]
theorem lw_r2 : ∀ q ∈ lw_privs_2, lw_okq q := List.forall_mem_cons.mpr ⟨lw_p16, List.forall_mem_cons.mpr ⟨lw_p17, List.forall_mem_cons.mpr ⟨lw_p18, List.forall_mem_cons.mpr ⟨lw_p19, List.forall_mem_cons.mpr ⟨lw_p20, List.forall_mem_cons.mpr ⟨lw_p21, List.forall_mem_cons.mpr ⟨lw_p22, List.forall_mem_cons.mpr ⟨lw_p23, List.forall_mem_cons.mpr ⟨lw_p24, fun _ h => absurd h List.not_mem_nil⟩⟩⟩⟩⟩⟩⟩⟩⟩
def lw_privs : List (MethodName × Nat) := lw_privs_1 ++ (lw_privs_2)
def lw_tbl : List Cond := k2_sels lw_privs ++ tables_1
theorem lw_privs_ok : ∀ q ∈ lw_privs, lw_okq q := by
  show ∀ q ∈ lw_privs_1 ++ (lw_privs_2), lw_okq q
  exact List.forall_mem_append.mpr ⟨lw_r1, lw_r2⟩
end
section
/-! ===== BEGIN words of one list among another's, by their places ===== -/
theorem goodIn_r {big : List Cond} (ws : List Cond) (ps : List Nat) (hp : ws = ps.filterMap (fun i => big[i]?)) (h : ws.all goodWord = true) : GoodIn big ws := by
  intro w hw
  have h1 := List.all_eq_true.mp h w hw
  rw [hp] at hw
  obtain ⟨i, -, hi⟩ := List.mem_filterMap.mp hw
  have hm : w ∈ big := by first | exact List.mem_of_getElem? hi | exact List.getElem?_mem hi
  exact ⟨hm, good_of_word h1⟩
theorem goodIn_app {big a b : List Cond} (ha : GoodIn big a) (hb : GoodIn big b) : GoodIn big (a ++ b) := fun w h => (List.mem_append.mp h).elim (ha w) (hb w)
theorem goodIn_ca {big a b : List Cond} {c : Cond} (ha : GoodIn big (c :: a)) (hb : GoodIn big b) : GoodIn big (c :: (a ++ b)) := fun w h => (List.mem_cons.mp h).elim (fun e => ha w (List.mem_cons.mpr (Or.inl e))) (fun h => (List.mem_append.mp h).elim (fun h => ha w (List.mem_cons.mpr (Or.inr h))) (hb w))
theorem goodIn_sub {big ws : List Cond} (hm : ∀ w ∈ ws, w ∈ big) (h : ws.all goodWord = true) : GoodIn big ws := fun w hw => ⟨hm w hw, good_of_word (List.all_eq_true.mp h w hw)⟩
/-! ===== END ===== -/

/-! ===== BEGIN printed: names, fields, word lists, decode rows ===== -/
def RX0 : String := "WaysKept$Hitting"
def TX0 : u_T := fun k => match k with
  | 0 => ("WaysKept$Hitting", "asked", "[I", true)
  | _ => ("WaysKept$Hitting", "size", "I", false)
def tyX0 : Nat → FieldType := fun k => match k with
  | 0 => .array .int
  | _ => .int
abbrev wsX00 : List Cond := u_ws RX0 TX0 2
theorem nmX0 : ∀ a, a < 2 → ∀ b, b < 2 → a ≠ b → (TX0 a).2.1 ≠ (TX0 b).2.1 := by decide +kernel
theorem tyX0_ok : ∀ k, k < 2 → parseFieldDescriptor (TX0 k).2.2.1 = some (tyX0 k) := by decide +kernel
abbrev cX0_init : ByteArray := prog_2_method_1_code
def yX0_init : MethodName := ⟨RX0, "<init>", "()V"⟩
abbrev cX0_askFor : ByteArray := prog_2_method_2_code
def yX0_askFor : MethodName := ⟨RX0, "askFor", "(LWaysKept$Ways;II)V"⟩
abbrev cX0_fewest : ByteArray := prog_2_method_3_code
def yX0_fewest : MethodName := ⟨RX0, "fewest", "(I)I"⟩
abbrev cX0_meetsAll : ByteArray := prog_2_method_4_code
def yX0_meetsAll : MethodName := ⟨RX0, "meetsAll", "(I)Z"⟩
def RX1 : String := "WaysKept$Net"
def TX1 : u_T := fun k => match k with
  | 0 => ("WaysKept$Net", "begins", "[I", true)
  | 1 => ("WaysKept$Net", "ends", "[I", true)
  | 2 => ("WaysKept$Net", "prices", "[I", true)
  | 3 => ("WaysKept$Net", "bothWays", "[Z", true)
  | 4 => ("WaysKept$Net", "there", "[Z", true)
  | 5 => ("WaysKept$Net", "posts", "I", false)
  | _ => ("WaysKept$Net", "lines", "I", false)
def tyX1 : Nat → FieldType := fun k => match k with
  | 0 => .array .int
  | 1 => .array .int
  | 2 => .array .int
  | 3 => .array .boolean
  | 4 => .array .boolean
  | 5 => .int
  | _ => .int
abbrev wsX10 : List Cond := u_ws RX1 TX1 7
theorem nmX1 : ∀ a, a < 7 → ∀ b, b < 7 → a ≠ b → (TX1 a).2.1 ≠ (TX1 b).2.1 := by decide +kernel
theorem tyX1_ok : ∀ k, k < 7 → parseFieldDescriptor (TX1 k).2.2.1 = some (tyX1 k) := by decide +kernel
abbrev cX1_init : ByteArray := prog_3_method_1_code
def yX1_init : MethodName := ⟨RX1, "<init>", "()V"⟩
abbrev cX1_clear : ByteArray := prog_3_method_2_code
def yX1_clear : MethodName := ⟨RX1, "clear", "(I)V"⟩
abbrev cX1_hasPost : ByteArray := prog_3_method_3_code
def yX1_hasPost : MethodName := ⟨RX1, "hasPost", "(I)Z"⟩
abbrev cX1_hasPosts : ByteArray := prog_3_method_4_code
def yX1_hasPosts : MethodName := ⟨RX1, "hasPosts", "(II)Z"⟩
abbrev cX1_hasLine : ByteArray := prog_3_method_5_code
def yX1_hasLine : MethodName := ⟨RX1, "hasLine", "(I)Z"⟩
abbrev cX1_add : ByteArray := prog_3_method_6_code
def yX1_add : MethodName := ⟨RX1, "add", "(IIIZ)I"⟩
abbrev cX1_countThere : ByteArray := prog_3_method_7_code
def yX1_countThere : MethodName := ⟨RX1, "countThere", "()I"⟩
abbrev cX1_target : ByteArray := prog_3_method_8_code
def yX1_target : MethodName := ⟨RX1, "target", "(II)I"⟩
abbrev cX1_touches : ByteArray := prog_3_method_9_code
def yX1_touches : MethodName := ⟨RX1, "touches", "(II)Z"⟩
def RX2 : String := "WaysKept$Past"
def TX2 : u_T := fun k => match k with
  | 0 => ("WaysKept$Past", "fars", "[I", false)
  | _ => ("WaysKept$Past", "rows", "I", false)
def tyX2 : Nat → FieldType := fun k => match k with
  | 0 => .array .int
  | _ => .int
abbrev wsX20 : List Cond := u_ws RX2 TX2 2
theorem nmX2 : ∀ a, a < 2 → ∀ b, b < 2 → a ≠ b → (TX2 a).2.1 ≠ (TX2 b).2.1 := by decide +kernel
theorem tyX2_ok : ∀ k, k < 2 → parseFieldDescriptor (TX2 k).2.2.1 = some (tyX2 k) := by decide +kernel
abbrev cX2_init : ByteArray := prog_4_method_1_code
def yX2_init : MethodName := ⟨RX2, "<init>", "()V"⟩
abbrev cX2_clear : ByteArray := prog_4_method_2_code
def yX2_clear : MethodName := ⟨RX2, "clear", "()V"⟩
abbrev cX2_countActs : ByteArray := prog_4_method_3_code
def yX2_countActs : MethodName := ⟨RX2, "countActs", "()I"⟩
abbrev cX2_isFull : ByteArray := prog_4_method_4_code
def yX2_isFull : MethodName := ⟨RX2, "isFull", "()Z"⟩
abbrev cX2_hasAct : ByteArray := prog_4_method_5_code
def yX2_hasAct : MethodName := ⟨RX2, "hasAct", "(I)Z"⟩
abbrev cX2_keep : ByteArray := prog_4_method_6_code
def yX2_keep : MethodName := ⟨RX2, "keep", "(LWaysKept$Ways;)V"⟩
abbrev cX2_leastAsOf : ByteArray := prog_4_method_7_code
def yX2_leastAsOf : MethodName := ⟨RX2, "leastAsOf", "(II)I"⟩
abbrev cX2_countMoved : ByteArray := prog_4_method_8_code
def yX2_countMoved : MethodName := ⟨RX2, "countMoved", "(I)I"⟩
abbrev cX2_movedPair : ByteArray := prog_4_method_9_code
def yX2_movedPair : MethodName := ⟨RX2, "movedPair", "(II)I"⟩
abbrev cX2_firstWithin : ByteArray := prog_4_method_10_code
def yX2_firstWithin : MethodName := ⟨RX2, "firstWithin", "(III)I"⟩
abbrev cX2_isMoved : ByteArray := prog_4_method_11_code
def yX2_isMoved : MethodName := ⟨RX2, "isMoved", "(II)Z"⟩
abbrev cX2_makeRoom : ByteArray := prog_4_method_12_code
def yX2_makeRoom : MethodName := ⟨RX2, "makeRoom", "()V"⟩
def RX3 : String := "WaysKept$Ways"
def TX3 : u_T := fun k => match k with
  | 0 => ("WaysKept$Ways", "net", "LWaysKept$Net;", true)
  | 1 => ("WaysKept$Ways", "costs", "[I", true)
  | _ => ("WaysKept$Ways", "reached", "[I", true)
def tyX3 : Nat → FieldType := fun k => match k with
  | 0 => .object "WaysKept$Net"
  | 1 => .array .int
  | _ => .array .int
abbrev wsX30 : List Cond := u_ws RX3 TX3 3
theorem nmX3 : ∀ a, a < 3 → ∀ b, b < 3 → a ≠ b → (TX3 a).2.1 ≠ (TX3 b).2.1 := by decide +kernel
theorem tyX3_ok : ∀ k, k < 3 → parseFieldDescriptor (TX3 k).2.2.1 = some (tyX3 k) := by decide +kernel
abbrev cX3_init : ByteArray := prog_5_method_1_code
def yX3_init : MethodName := ⟨RX3, "<init>", "(LWaysKept$Net;)V"⟩
abbrev cX3_measure : ByteArray := prog_5_method_2_code
def yX3_measure : MethodName := ⟨RX3, "measure", "()V"⟩
abbrev cX3_leads : ByteArray := prog_5_method_3_code
def yX3_leads : MethodName := ⟨RX3, "leads", "(II)Z"⟩
abbrev cX3_leastPrice : ByteArray := prog_5_method_4_code
def yX3_leastPrice : MethodName := ⟨RX3, "leastPrice", "(II)I"⟩
abbrev cX3_length : ByteArray := prog_5_method_5_code
def yX3_length : MethodName := ⟨RX3, "length", "(II)I"⟩
abbrev cX3_lineAt : ByteArray := prog_5_method_6_code
def yX3_lineAt : MethodName := ⟨RX3, "lineAt", "(III)I"⟩
abbrev cX3_between : ByteArray := prog_5_method_7_code
def yX3_between : MethodName := ⟨RX3, "between", "(II)I"⟩
abbrev cX3_leastAvoiding : ByteArray := prog_5_method_8_code
def yX3_leastAvoiding : MethodName := ⟨RX3, "leastAvoiding", "(IIII)I"⟩
abbrev cX3_isVital : ByteArray := prog_5_method_9_code
def yX3_isVital : MethodName := ⟨RX3, "isVital", "(III)Z"⟩
abbrev cX3_wouldSink : ByteArray := prog_5_method_10_code
def yX3_wouldSink : MethodName := ⟨RX3, "wouldSink", "(IIIZI)Z"⟩
abbrev cX3_leastRing : ByteArray := prog_5_method_11_code
def yX3_leastRing : MethodName := ⟨RX3, "leastRing", "()I"⟩
abbrev cX3_heightOf : ByteArray := prog_5_method_12_code
def yX3_heightOf : MethodName := ⟨RX3, "heightOf", "(I)I"⟩
abbrev cX3_lifted : ByteArray := prog_5_method_13_code
def yX3_lifted : MethodName := ⟨RX3, "lifted", "(I)I"⟩
abbrev cX3_leastThrough : ByteArray := prog_5_method_14_code
def yX3_leastThrough : MethodName := ⟨RX3, "leastThrough", "(III)I"⟩
abbrev cX3_countLinked : ByteArray := prog_5_method_15_code
def yX3_countLinked : MethodName := ⟨RX3, "countLinked", "()I"⟩
abbrev cX3_spread : ByteArray := prog_5_method_16_code
def yX3_spread : MethodName := ⟨RX3, "spread", "(III)V"⟩
abbrev cX3_relax : ByteArray := prog_5_method_17_code
def yX3_relax : MethodName := ⟨RX3, "relax", "(I)Z"⟩
abbrev cX3_lower : ByteArray := prog_5_method_18_code
def yX3_lower : MethodName := ⟨RX3, "lower", "(III)Z"⟩
abbrev cX3_lineToward : ByteArray := prog_5_method_19_code
def yX3_lineToward : MethodName := ⟨RX3, "lineToward", "(II)I"⟩
abbrev cX3_isOnWay : ByteArray := prog_5_method_20_code
def yX3_isOnWay : MethodName := ⟨RX3, "isOnWay", "(III)Z"⟩
abbrev cX3_ringOver : ByteArray := prog_5_method_21_code
def yX3_ringOver : MethodName := ⟨RX3, "ringOver", "(I)I"⟩
abbrev cX3_costOf : ByteArray := prog_5_method_22_code
def yX3_costOf : MethodName := ⟨RX3, "costOf", "(I)I"⟩
abbrev cX3_closesBelow : ByteArray := prog_5_method_23_code
def yX3_closesBelow : MethodName := ⟨RX3, "closesBelow", "(II)Z"⟩
abbrev cX3_priceIn : ByteArray := prog_5_method_24_code
def yX3_priceIn : MethodName := ⟨RX3, "priceIn", "(I)I"⟩
def RX4 : String := "WaysKept"
def TX4 : u_T := fun k => match k with
  | 0 => ("WaysKept", "net", "LWaysKept$Net;", true)
  | 1 => ("WaysKept", "ways", "LWaysKept$Ways;", true)
  | 2 => ("WaysKept", "past", "LWaysKept$Past;", true)
  | 3 => ("WaysKept", "hitting", "LWaysKept$Hitting;", true)
  | _ => ("WaysKept", "marked", "I", false)
def tyX4 : Nat → FieldType := fun k => match k with
  | 0 => .object "WaysKept$Net"
  | 1 => .object "WaysKept$Ways"
  | 2 => .object "WaysKept$Past"
  | 3 => .object "WaysKept$Hitting"
  | _ => .int
abbrev wsX40 : List Cond := u_ws RX4 TX4 5
theorem nmX4 : ∀ a, a < 5 → ∀ b, b < 5 → a ≠ b → (TX4 a).2.1 ≠ (TX4 b).2.1 := by decide +kernel
theorem tyX4_ok : ∀ k, k < 5 → parseFieldDescriptor (TX4 k).2.2.1 = some (tyX4 k) := by decide +kernel
abbrev cX4_init : ByteArray := prog_1_method_1_code
def yX4_init : MethodName := ⟨RX4, "<init>", "()V"⟩
abbrev cX4_posts : ByteArray := prog_1_method_2_code
def yX4_posts : MethodName := ⟨RX4, "posts", "(I)I"⟩
abbrev cX4_line : ByteArray := prog_1_method_3_code
def yX4_line : MethodName := ⟨RX4, "line", "(IIIZ)I"⟩
abbrev cX4_price : ByteArray := prog_1_method_4_code
def yX4_price : MethodName := ⟨RX4, "price", "(II)I"⟩
abbrev cX4_cut : ByteArray := prog_1_method_5_code
def yX4_cut : MethodName := ⟨RX4, "cut", "(I)I"⟩
abbrev cX4_back : ByteArray := prog_1_method_6_code
def yX4_back : MethodName := ⟨RX4, "back", "(I)I"⟩
abbrev cX4_told : ByteArray := prog_1_method_7_code
def yX4_told : MethodName := ⟨RX4, "told", "(II)I"⟩
abbrev cX4_far : ByteArray := prog_1_method_8_code
def yX4_far : MethodName := ⟨RX4, "far", "(II)I"⟩
abbrev cX4_steps : ByteArray := prog_1_method_9_code
def yX4_steps : MethodName := ⟨RX4, "steps", "(II)I"⟩
abbrev cX4_way : ByteArray := prog_1_method_10_code
def yX4_way : MethodName := ⟨RX4, "way", "(III)I"⟩
abbrev cX4_without : ByteArray := prog_1_method_11_code
def yX4_without : MethodName := ⟨RX4, "without", "(III)I"⟩
abbrev cX4_vital : ByteArray := prog_1_method_12_code
def yX4_vital : MethodName := ⟨RX4, "vital", "(III)I"⟩
abbrev cX4_about : ByteArray := prog_1_method_13_code
def yX4_about : MethodName := ⟨RX4, "about", "(III)I"⟩
abbrev cX4_ring : ByteArray := prog_1_method_14_code
def yX4_ring : MethodName := ⟨RX4, "ring", "()I"⟩
abbrev cX4_height : ByteArray := prog_1_method_15_code
def yX4_height : MethodName := ⟨RX4, "height", "(I)I"⟩
abbrev cX4_acts : ByteArray := prog_1_method_16_code
def yX4_acts : MethodName := ⟨RX4, "acts", "()I"⟩
abbrev cX4_moved : ByteArray := prog_1_method_17_code
def yX4_moved : MethodName := ⟨RX4, "moved", "(I)I"⟩
abbrev cX4_pair : ByteArray := prog_1_method_18_code
def yX4_pair : MethodName := ⟨RX4, "pair", "(II)I"⟩
abbrev cX4_then : ByteArray := prog_1_method_19_code
def yX4_then : MethodName := ⟨RX4, "then", "(III)I"⟩
abbrev cX4_since : ByteArray := prog_1_method_20_code
def yX4_since : MethodName := ⟨RX4, "since", "(IIII)I"⟩
abbrev cX4_marks : ByteArray := prog_1_method_21_code
def yX4_marks : MethodName := ⟨RX4, "marks", "(I)I"⟩
abbrev cX4_near : ByteArray := prog_1_method_22_code
def yX4_near : MethodName := ⟨RX4, "near", "(II)I"⟩
abbrev cX4_worst : ByteArray := prog_1_method_23_code
def yX4_worst : MethodName := ⟨RX4, "worst", "()I"⟩
abbrev cX4_hits : ByteArray := prog_1_method_24_code
def yX4_hits : MethodName := ⟨RX4, "hits", "(I)I"⟩
abbrev cX4_count : ByteArray := prog_1_method_25_code
def yX4_count : MethodName := ⟨RX4, "count", "(I)I"⟩
abbrev cX4_restart : ByteArray := prog_1_method_26_code
def yX4_restart : MethodName := ⟨RX4, "restart", "(I)V"⟩
abbrev cX4_keepAct : ByteArray := prog_1_method_27_code
def yX4_keepAct : MethodName := ⟨RX4, "keepAct", "()V"⟩
abbrev cX4_wouldSinkAt : ByteArray := prog_1_method_28_code
def yX4_wouldSinkAt : MethodName := ⟨RX4, "wouldSinkAt", "(II)Z"⟩
abbrev cX4_mayCost : ByteArray := prog_1_method_29_code
def yX4_mayCost : MethodName := ⟨RX4, "mayCost", "(IZ)Z"⟩
abbrev cX4_asNumber : ByteArray := prog_1_method_30_code
def yX4_asNumber : MethodName := ⟨RX4, "asNumber", "(Z)I"⟩
abbrev cX4_pairOf : ByteArray := prog_1_method_31_code
def yX4_pairOf : MethodName := ⟨RX4, "pairOf", "(II)I"⟩
def RX5 : String := "WaysKeptModel"
def TX5 : u_T := fun k => match k with
  | 0 => ("WaysKeptModel", "thrown", "I", false)
  | 1 => ("WaysKeptModel", "posts", "I", false)
  | 2 => ("WaysKeptModel", "lines", "I", false)
  | 3 => ("WaysKeptModel", "from", "[I", true)
  | 4 => ("WaysKeptModel", "to", "[I", true)
  | 5 => ("WaysKeptModel", "price", "[I", true)
  | 6 => ("WaysKeptModel", "isBoth", "[Z", true)
  | 7 => ("WaysKeptModel", "isThere", "[Z", true)
  | 8 => ("WaysKeptModel", "fine", "[I", true)
  | 9 => ("WaysKeptModel", "kept", "[I", true)
  | 10 => ("WaysKeptModel", "acts", "I", false)
  | 11 => ("WaysKeptModel", "marks", "I", false)
  | _ => ("WaysKeptModel", "inner", "[I", true)
def tyX5 : Nat → FieldType := fun k => match k with
  | 0 => .int
  | 1 => .int
  | 2 => .int
  | 3 => .array .int
  | 4 => .array .int
  | 5 => .array .int
  | 6 => .array .boolean
  | 7 => .array .boolean
  | 8 => .array .int
  | 9 => .array .int
  | 10 => .int
  | 11 => .int
  | _ => .array .int
abbrev wsX50 : List Cond := u_ws RX5 TX5 13
theorem nmX5 : ∀ a, a < 13 → ∀ b, b < 13 → a ≠ b → (TX5 a).2.1 ≠ (TX5 b).2.1 := by decide +kernel
theorem tyX5_ok : ∀ k, k < 13 → parseFieldDescriptor (TX5 k).2.2.1 = some (tyX5 k) := by decide +kernel
abbrev cX5_init : ByteArray := prog_7_method_1_code
def yX5_init : MethodName := ⟨RX5, "<init>", "()V"⟩
abbrev cX5_in : ByteArray := prog_7_method_3_code
def yX5_in : MethodName := ⟨RX5, "in", "(JJJ)Z"⟩
abbrev cX5_noPost : ByteArray := prog_7_method_4_code
def yX5_noPost : MethodName := ⟨RX5, "noPost", "(I)Z"⟩
abbrev cX5_noLine : ByteArray := prog_7_method_5_code
def yX5_noLine : MethodName := ⟨RX5, "noLine", "(I)Z"⟩
abbrev cX5_learn : ByteArray := prog_7_method_6_code
def yX5_learn : MethodName := ⟨RX5, "learn", "(II)Z"⟩
abbrev cX5_coarse : ByteArray := prog_7_method_7_code
def yX5_coarse : MethodName := ⟨RX5, "coarse", "(I)I"⟩
abbrev cX5_farOf : ByteArray := prog_7_method_8_code
def yX5_farOf : MethodName := ⟨RX5, "farOf", "(II)I"⟩
abbrev cX5_keep : ByteArray := prog_7_method_9_code
def yX5_keep : MethodName := ⟨RX5, "keep", "()V"⟩
abbrev cX5_did : ByteArray := prog_7_method_10_code
def yX5_did : MethodName := ⟨RX5, "did", "()V"⟩
abbrev cX5_there : ByteArray := prog_7_method_11_code
def yX5_there : MethodName := ⟨RX5, "there", "()I"⟩
abbrev cX5_posts : ByteArray := prog_7_method_12_code
def yX5_posts : MethodName := ⟨RX5, "posts", "(I)I"⟩
abbrev cX5_line : ByteArray := prog_7_method_13_code
def yX5_line : MethodName := ⟨RX5, "line", "(IIIZ)I"⟩
abbrev cX5_price : ByteArray := prog_7_method_14_code
def yX5_price : MethodName := ⟨RX5, "price", "(II)I"⟩
abbrev cX5_cut : ByteArray := prog_7_method_15_code
def yX5_cut : MethodName := ⟨RX5, "cut", "(I)I"⟩
abbrev cX5_back : ByteArray := prog_7_method_16_code
def yX5_back : MethodName := ⟨RX5, "back", "(I)I"⟩
abbrev cX5_heightOf : ByteArray := prog_7_method_17_code
def yX5_heightOf : MethodName := ⟨RX5, "heightOf", "(I)I"⟩
abbrev cX5_told : ByteArray := prog_7_method_18_code
def yX5_told : MethodName := ⟨RX5, "told", "(II)I"⟩
abbrev cX5_far : ByteArray := prog_7_method_19_code
def yX5_far : MethodName := ⟨RX5, "far", "(II)I"⟩
abbrev cX5_steps : ByteArray := prog_7_method_20_code
def yX5_steps : MethodName := ⟨RX5, "steps", "(II)I"⟩
abbrev cX5_nextOf : ByteArray := prog_7_method_21_code
def yX5_nextOf : MethodName := ⟨RX5, "nextOf", "(II)I"⟩
abbrev cX5_other : ByteArray := prog_7_method_22_code
def yX5_other : MethodName := ⟨RX5, "other", "(II)I"⟩
abbrev cX5_way : ByteArray := prog_7_method_23_code
def yX5_way : MethodName := ⟨RX5, "way", "(III)I"⟩
abbrev cX5_without : ByteArray := prog_7_method_24_code
def yX5_without : MethodName := ⟨RX5, "without", "(III)I"⟩
abbrev cX5_vital : ByteArray := prog_7_method_25_code
def yX5_vital : MethodName := ⟨RX5, "vital", "(III)I"⟩
abbrev cX5_about : ByteArray := prog_7_method_26_code
def yX5_about : MethodName := ⟨RX5, "about", "(III)I"⟩
abbrev cX5_ring : ByteArray := prog_7_method_27_code
def yX5_ring : MethodName := ⟨RX5, "ring", "()I"⟩
abbrev cX5_height : ByteArray := prog_7_method_28_code
def yX5_height : MethodName := ⟨RX5, "height", "(I)I"⟩
abbrev cX5_acts : ByteArray := prog_7_method_29_code
def yX5_acts : MethodName := ⟨RX5, "acts", "()I"⟩
abbrev cX5_isMoved : ByteArray := prog_7_method_30_code
def yX5_isMoved : MethodName := ⟨RX5, "isMoved", "(II)Z"⟩
abbrev cX5_moved : ByteArray := prog_7_method_31_code
def yX5_moved : MethodName := ⟨RX5, "moved", "(I)I"⟩
abbrev cX5_pair : ByteArray := prog_7_method_32_code
def yX5_pair : MethodName := ⟨RX5, "pair", "(II)I"⟩
abbrev cX5_then : ByteArray := prog_7_method_33_code
def yX5_then : MethodName := ⟨RX5, "then", "(III)I"⟩
abbrev cX5_since : ByteArray := prog_7_method_34_code
def yX5_since : MethodName := ⟨RX5, "since", "(IIII)I"⟩
abbrev cX5_marks : ByteArray := prog_7_method_35_code
def yX5_marks : MethodName := ⟨RX5, "marks", "(I)I"⟩
abbrev cX5_nearOf : ByteArray := prog_7_method_36_code
def yX5_nearOf : MethodName := ⟨RX5, "nearOf", "(II)I"⟩
abbrev cX5_near : ByteArray := prog_7_method_37_code
def yX5_near : MethodName := ⟨RX5, "near", "(II)I"⟩
abbrev cX5_worst : ByteArray := prog_7_method_38_code
def yX5_worst : MethodName := ⟨RX5, "worst", "()I"⟩
abbrev cX5_bits : ByteArray := prog_7_method_39_code
def yX5_bits : MethodName := ⟨RX5, "bits", "(I)I"⟩
abbrev cX5_hits : ByteArray := prog_7_method_40_code
def yX5_hits : MethodName := ⟨RX5, "hits", "(I)I"⟩
abbrev cX5_count : ByteArray := prog_7_method_41_code
def yX5_count : MethodName := ⟨RX5, "count", "(I)I"⟩
def RJx8e188 : String := "java/lang/Cloneable"
def TJx8e188 : u_T := fun k => match k with
  | _ => ("", "", "", false)
def tyJx8e188 : Nat → FieldType := fun k => match k with
  | _ => .int
abbrev wsJx8e1880 : List Cond := u_ws RJx8e188 TJx8e188 0
theorem nmJx8e188 : ∀ a, a < 0 → ∀ b, b < 0 → a ≠ b → (TJx8e188 a).2.1 ≠ (TJx8e188 b).2.1 := by decide +kernel
theorem tyJx8e188_ok : ∀ k, k < 0 → parseFieldDescriptor (TJx8e188 k).2.2.1 = some (tyJx8e188 k) := by decide +kernel
def RJ6 : String := "java/lang/Integer"
def TJ6 : u_T := fun k => match k with
  | _ => ("", "", "", false)
def tyJ6 : Nat → FieldType := fun k => match k with
  | _ => .int
abbrev wsJ60 : List Cond := u_ws RJ6 TJ6 0
theorem nmJ6 : ∀ a, a < 0 → ∀ b, b < 0 → a ≠ b → (TJ6 a).2.1 ≠ (TJ6 b).2.1 := by decide +kernel
theorem tyJ6_ok : ∀ k, k < 0 → parseFieldDescriptor (TJ6 k).2.2.1 = some (tyJ6 k) := by decide +kernel
abbrev cJ6_bitCount_0f7a4 : ByteArray := prog_9_method_49_code
def yJ6_bitCount_0f7a4 : MethodName := ⟨RJ6, "bitCount", "(I)I"⟩
def RJ9 : String := "java/lang/Math"
def TJ9 : u_T := fun k => match k with
  | _ => ("", "", "", false)
def tyJ9 : Nat → FieldType := fun k => match k with
  | _ => .int
abbrev wsJ90 : List Cond := u_ws RJ9 TJ9 0
theorem nmJ9 : ∀ a, a < 0 → ∀ b, b < 0 → a ≠ b → (TJ9 a).2.1 ≠ (TJ9 b).2.1 := by decide +kernel
theorem tyJ9_ok : ∀ k, k < 0 → parseFieldDescriptor (TJ9 k).2.2.1 = some (tyJ9 k) := by decide +kernel
abbrev cJ9_floorDiv_7cf53 : ByteArray := prog_10_method_47_code
def yJ9_floorDiv_7cf53 : MethodName := ⟨RJ9, "floorDiv", "(II)I"⟩
abbrev cJ9_floorMod_7cf53 : ByteArray := prog_10_method_50_code
def yJ9_floorMod_7cf53 : MethodName := ⟨RJ9, "floorMod", "(II)I"⟩
abbrev cJ9_max_7cf53 : ByteArray := prog_10_method_65_code
def yJ9_max_7cf53 : MethodName := ⟨RJ9, "max", "(II)I"⟩
abbrev cJ9_min_7cf53 : ByteArray := prog_10_method_69_code
def yJ9_min_7cf53 : MethodName := ⟨RJ9, "min", "(II)I"⟩
def RJ10 : String := "java/lang/System"
def TJ10 : u_T := fun k => match k with
  | _ => ("", "", "", false)
def tyJ10 : Nat → FieldType := fun k => match k with
  | _ => .int
abbrev wsJ100 : List Cond := u_ws RJ10 TJ10 0
theorem nmJ10 : ∀ a, a < 0 → ∀ b, b < 0 → a ≠ b → (TJ10 a).2.1 ≠ (TJ10 b).2.1 := by decide +kernel
theorem tyJ10_ok : ∀ k, k < 0 → parseFieldDescriptor (TJ10 k).2.2.1 = some (tyJ10 k) := by decide +kernel
def RJ7 : String := "java/util/Arrays"
def TJ7 : u_T := fun k => match k with
  | _ => ("", "", "", false)
def tyJ7 : Nat → FieldType := fun k => match k with
  | _ => .int
abbrev wsJ70 : List Cond := u_ws RJ7 TJ7 0
theorem nmJ7 : ∀ a, a < 0 → ∀ b, b < 0 → a ≠ b → (TJ7 a).2.1 ≠ (TJ7 b).2.1 := by decide +kernel
theorem tyJ7_ok : ∀ k, k < 0 → parseFieldDescriptor (TJ7 k).2.2.1 = some (tyJ7 k) := by decide +kernel
abbrev cJ7_fill_53178 : ByteArray := prog_12_method_103_code
def yJ7_fill_53178 : MethodName := ⟨RJ7, "fill", "([II)V"⟩
abbrev cJ7_copyOf_59c91 : ByteArray := prog_12_method_123_code
def yJ7_copyOf_59c91 : MethodName := ⟨RJ7, "copyOf", "([II)[I"⟩
def RL : String := "WaysKeptLaw"
abbrev cL_law : ByteArray := code
def yL_law : MethodName := ⟨RL, "law", "([I)Z"⟩
def wsX0_init : List Cond := .code yX0_init cX0_init 1 none :: ([.methodLink RX0 3 objectInit, .instanceMethod objectInit, .code objectInit ⟨#[0xb1]⟩ 1 none, .arrayClass .int, .fieldLink RX0 9 "WaysKept$Hitting" "asked" "[I"] ++ wsX00)
def wsX4_pairOf : List Cond := .code yX4_pairOf cX4_pairOf 2 (some .int) :: ([])
def wsJ9_floorMod_7cf53 : List Cond := .code yJ9_floorMod_7cf53 cJ9_floorMod_7cf53 3 (some .int) :: ([])
def wsX3_length : List Cond := .code yX3_length cX3_length 4 (some .int) :: ([.fieldLink RX3 11 "WaysKept$Ways" "costs" "[I", .constant RX3 24 (2147483647), .static yX4_pairOf, .initialized RX4, .code yX4_pairOf cX4_pairOf 2 (some .int), .methodLink RX3 55 yJ9_floorMod_7cf53, .static yJ9_floorMod_7cf53, .initialized RJ9, .code yJ9_floorMod_7cf53 cJ9_floorMod_7cf53 3 (some .int)] ++ wsX30)
def wsX1_hasPost : List Cond := .code yX1_hasPost cX1_hasPost 2 (some .boolean) :: ([.fieldLink RX1 28 "WaysKept$Net" "posts" "I"] ++ wsX10)
def wsX3_leads : List Cond := .code yX3_leads cX3_leads 3 (some .boolean) :: ([.fieldLink RX3 11 "WaysKept$Ways" "costs" "[I", .constant RX3 24 (2147483647), .static yX4_pairOf, .initialized RX4, .code yX4_pairOf cX4_pairOf 2 (some .int)] ++ wsX30)
def wsX1_hasLine : List Cond := .code yX1_hasLine cX1_hasLine 2 (some .boolean) :: ([.fieldLink RX1 32 "WaysKept$Net" "lines" "I"] ++ wsX10)
def wsX1_target : List Cond := .code yX1_target cX1_target 3 (some .int) :: ([.fieldLink RX1 25 "WaysKept$Net" "there" "[Z", .fieldLink RX1 9 "WaysKept$Net" "begins" "[I", .fieldLink RX1 15 "WaysKept$Net" "ends" "[I", .fieldLink RX1 21 "WaysKept$Net" "bothWays" "[Z", .methodLink RX1 39 yX1_hasLine, .instanceMethod yX1_hasLine, .selects RX1 yX1_hasLine yX1_hasLine, .initialized RX1, .code yX1_hasLine cX1_hasLine 2 (some .boolean), .fieldLink RX1 32 "WaysKept$Net" "lines" "I"] ++ wsX10)
def wsX3_costOf : List Cond := .code yX3_costOf cX3_costOf 2 (some .int) :: ([.fieldLink RX3 20 "WaysKept$Ways" "net" "LWaysKept$Net;"] ++ wsX30 ++ wsX10)
def wsX3_lineToward_r1 : List Cond := [Cond.fieldLink RX3 20 "WaysKept$Ways" "net" "LWaysKept$Net;", Cond.fieldLink RX3 11 "WaysKept$Ways" "costs" "[I", Cond.methodLink RX3 128 yX1_hasPost, Cond.instanceMethod yX1_hasPost, Cond.selects RX1 yX1_hasPost yX1_hasPost, Cond.initialized RX1, Cond.code yX1_hasPost cX1_hasPost 2 (some .boolean), Cond.fieldLink RX1 28 "WaysKept$Net" "posts" "I", Cond.methodLink RX3 90 yX3_leads, Cond.instanceMethod yX3_leads, Cond.selects RX3 yX3_leads yX3_leads, Cond.initialized RX3, Cond.code yX3_leads cX3_leads 3 (some .boolean), Cond.constant RX3 24 (2147483647), Cond.static yX4_pairOf, Cond.initialized RX4, Cond.code yX4_pairOf cX4_pairOf 2 (some .int), Cond.methodLink RX3 66 yX1_target, Cond.instanceMethod yX1_target, Cond.selects RX1 yX1_target yX1_target, Cond.code yX1_target cX1_target 3 (some .int), Cond.fieldLink RX1 25 "WaysKept$Net" "there" "[Z", Cond.fieldLink RX1 9 "WaysKept$Net" "begins" "[I", Cond.fieldLink RX1 15 "WaysKept$Net" "ends" "[I"]
def wsX3_lineToward_r2 : List Cond := [Cond.fieldLink RX1 21 "WaysKept$Net" "bothWays" "[Z", Cond.methodLink RX1 39 yX1_hasLine, Cond.instanceMethod yX1_hasLine, Cond.selects RX1 yX1_hasLine yX1_hasLine, Cond.code yX1_hasLine cX1_hasLine 2 (some .boolean), Cond.fieldLink RX1 32 "WaysKept$Net" "lines" "I", Cond.methodLink RX3 122 yX3_costOf, Cond.instanceMethod yX3_costOf, Cond.selects RX3 yX3_costOf yX3_costOf, Cond.code yX3_costOf cX3_costOf 2 (some .int)]
def wsX3_lineToward : List Cond := .code yX3_lineToward cX3_lineToward 6 (some .int) :: ((wsX3_lineToward_r1 ++ wsX3_lineToward_r2) ++ wsX30 ++ wsX10)
def wsX3_between_r1 : List Cond := [Cond.fieldLink RX3 20 "WaysKept$Ways" "net" "LWaysKept$Net;", Cond.methodLink RX3 60 yX3_length, Cond.instanceMethod yX3_length, Cond.selects RX3 yX3_length yX3_length, Cond.initialized RX3, Cond.code yX3_length cX3_length 4 (some .int), Cond.fieldLink RX3 11 "WaysKept$Ways" "costs" "[I", Cond.constant RX3 24 (2147483647), Cond.static yX4_pairOf, Cond.initialized RX4, Cond.code yX4_pairOf cX4_pairOf 2 (some .int), Cond.methodLink RX3 55 yJ9_floorMod_7cf53, Cond.static yJ9_floorMod_7cf53, Cond.initialized RJ9, Cond.code yJ9_floorMod_7cf53 cJ9_floorMod_7cf53 3 (some .int), Cond.methodLink RX3 63 yX3_lineToward, Cond.instanceMethod yX3_lineToward, Cond.selects RX3 yX3_lineToward yX3_lineToward, Cond.code yX3_lineToward cX3_lineToward 6 (some .int), Cond.methodLink RX3 128 yX1_hasPost, Cond.instanceMethod yX1_hasPost, Cond.selects RX1 yX1_hasPost yX1_hasPost, Cond.initialized RX1, Cond.code yX1_hasPost cX1_hasPost 2 (some .boolean)]
def wsX3_between_r2 : List Cond := [Cond.fieldLink RX1 28 "WaysKept$Net" "posts" "I", Cond.methodLink RX3 90 yX3_leads, Cond.instanceMethod yX3_leads, Cond.selects RX3 yX3_leads yX3_leads, Cond.code yX3_leads cX3_leads 3 (some .boolean), Cond.methodLink RX3 66 yX1_target, Cond.instanceMethod yX1_target, Cond.selects RX1 yX1_target yX1_target, Cond.code yX1_target cX1_target 3 (some .int), Cond.fieldLink RX1 25 "WaysKept$Net" "there" "[Z", Cond.fieldLink RX1 9 "WaysKept$Net" "begins" "[I", Cond.fieldLink RX1 15 "WaysKept$Net" "ends" "[I", Cond.fieldLink RX1 21 "WaysKept$Net" "bothWays" "[Z", Cond.methodLink RX1 39 yX1_hasLine, Cond.instanceMethod yX1_hasLine, Cond.selects RX1 yX1_hasLine yX1_hasLine, Cond.code yX1_hasLine cX1_hasLine 2 (some .boolean), Cond.fieldLink RX1 32 "WaysKept$Net" "lines" "I", Cond.methodLink RX3 122 yX3_costOf, Cond.instanceMethod yX3_costOf, Cond.selects RX3 yX3_costOf yX3_costOf, Cond.code yX3_costOf cX3_costOf 2 (some .int)]
def wsX3_between : List Cond := .code yX3_between cX3_between 6 (some .int) :: ((wsX3_between_r1 ++ wsX3_between_r2) ++ wsX30 ++ wsX10)
def wsX0_askFor_r1 : List Cond := [Cond.fieldLink RX0 15 "WaysKept$Hitting" "size" "I", Cond.fieldLink RX0 9 "WaysKept$Hitting" "asked" "[I", Cond.methodLink RX0 19 yX3_length, Cond.instanceMethod yX3_length, Cond.selects RX3 yX3_length yX3_length, Cond.initialized RX3, Cond.code yX3_length cX3_length 4 (some .int), Cond.fieldLink RX3 11 "WaysKept$Ways" "costs" "[I", Cond.constant RX3 24 (2147483647), Cond.static yX4_pairOf, Cond.initialized RX4, Cond.code yX4_pairOf cX4_pairOf 2 (some .int), Cond.methodLink RX3 55 yJ9_floorMod_7cf53, Cond.static yJ9_floorMod_7cf53, Cond.initialized RJ9, Cond.code yJ9_floorMod_7cf53 cJ9_floorMod_7cf53 3 (some .int), Cond.methodLink RX0 25 yX3_between, Cond.instanceMethod yX3_between, Cond.selects RX3 yX3_between yX3_between, Cond.code yX3_between cX3_between 6 (some .int), Cond.fieldLink RX3 20 "WaysKept$Ways" "net" "LWaysKept$Net;", Cond.methodLink RX3 60 yX3_length, Cond.methodLink RX3 63 yX3_lineToward, Cond.instanceMethod yX3_lineToward]
def wsX0_askFor_r2 : List Cond := [Cond.selects RX3 yX3_lineToward yX3_lineToward, Cond.code yX3_lineToward cX3_lineToward 6 (some .int), Cond.methodLink RX3 128 yX1_hasPost, Cond.instanceMethod yX1_hasPost, Cond.selects RX1 yX1_hasPost yX1_hasPost, Cond.initialized RX1, Cond.code yX1_hasPost cX1_hasPost 2 (some .boolean), Cond.fieldLink RX1 28 "WaysKept$Net" "posts" "I", Cond.methodLink RX3 90 yX3_leads, Cond.instanceMethod yX3_leads, Cond.selects RX3 yX3_leads yX3_leads, Cond.code yX3_leads cX3_leads 3 (some .boolean), Cond.methodLink RX3 66 yX1_target, Cond.instanceMethod yX1_target, Cond.selects RX1 yX1_target yX1_target, Cond.code yX1_target cX1_target 3 (some .int), Cond.fieldLink RX1 25 "WaysKept$Net" "there" "[Z", Cond.fieldLink RX1 9 "WaysKept$Net" "begins" "[I", Cond.fieldLink RX1 15 "WaysKept$Net" "ends" "[I", Cond.fieldLink RX1 21 "WaysKept$Net" "bothWays" "[Z", Cond.methodLink RX1 39 yX1_hasLine, Cond.instanceMethod yX1_hasLine, Cond.selects RX1 yX1_hasLine yX1_hasLine, Cond.code yX1_hasLine cX1_hasLine 2 (some .boolean)]
def wsX0_askFor_r3 : List Cond := [Cond.fieldLink RX1 32 "WaysKept$Net" "lines" "I", Cond.methodLink RX3 122 yX3_costOf, Cond.instanceMethod yX3_costOf, Cond.selects RX3 yX3_costOf yX3_costOf, Cond.code yX3_costOf cX3_costOf 2 (some .int)]
def wsX0_askFor : List Cond := .code yX0_askFor cX0_askFor 6 none :: ((wsX0_askFor_r1 ++ (wsX0_askFor_r2 ++ wsX0_askFor_r3)) ++ wsX00 ++ wsX30 ++ wsX10)
def wsJ6_bitCount_0f7a4 : List Cond := .code yJ6_bitCount_0f7a4 cJ6_bitCount_0f7a4 1 (some .int) :: ([.constant RJ6 265 (1431655765), .constant RJ6 266 (858993459), .constant RJ6 267 (252645135)])
def wsX0_meetsAll : List Cond := .code yX0_meetsAll cX0_meetsAll 3 (some .boolean) :: ([.fieldLink RX0 15 "WaysKept$Hitting" "size" "I", .fieldLink RX0 9 "WaysKept$Hitting" "asked" "[I"] ++ wsX00)
def wsX0_fewest : List Cond := .code yX0_fewest cX0_fewest 6 (some .int) :: ([.methodLink RX0 28 yJ6_bitCount_0f7a4, .static yJ6_bitCount_0f7a4, .initialized RJ6, .code yJ6_bitCount_0f7a4 cJ6_bitCount_0f7a4 1 (some .int), .constant RJ6 265 (1431655765), .constant RJ6 266 (858993459), .constant RJ6 267 (252645135), .methodLink RX0 34 yX0_meetsAll, .instanceMethod yX0_meetsAll, .selects RX0 yX0_meetsAll yX0_meetsAll, .initialized RX0, .code yX0_meetsAll cX0_meetsAll 3 (some .boolean), .fieldLink RX0 15 "WaysKept$Hitting" "size" "I", .fieldLink RX0 9 "WaysKept$Hitting" "asked" "[I"] ++ wsX00)
def wsX1_init : List Cond := .code yX1_init cX1_init 1 none :: ([.methodLink RX1 3 objectInit, .instanceMethod objectInit, .code objectInit ⟨#[0xb1]⟩ 1 none, .arrayClass .int, .fieldLink RX1 9 "WaysKept$Net" "begins" "[I", .fieldLink RX1 15 "WaysKept$Net" "ends" "[I", .fieldLink RX1 18 "WaysKept$Net" "prices" "[I", .arrayClass .boolean, .fieldLink RX1 21 "WaysKept$Net" "bothWays" "[Z", .fieldLink RX1 25 "WaysKept$Net" "there" "[Z"] ++ wsX10)
def wsX1_clear : List Cond := .code yX1_clear cX1_clear 2 none :: ([.fieldLink RX1 28 "WaysKept$Net" "posts" "I", .fieldLink RX1 32 "WaysKept$Net" "lines" "I"] ++ wsX10)
def wsX1_hasPosts : List Cond := .code yX1_hasPosts cX1_hasPosts 3 (some .boolean) :: ([.methodLink RX1 35 yX1_hasPost, .instanceMethod yX1_hasPost, .selects RX1 yX1_hasPost yX1_hasPost, .initialized RX1, .code yX1_hasPost cX1_hasPost 2 (some .boolean), .fieldLink RX1 28 "WaysKept$Net" "posts" "I"] ++ wsX10)
def wsX1_add : List Cond := .code yX1_add cX1_add 6 (some .int) :: ([.fieldLink RX1 32 "WaysKept$Net" "lines" "I", .fieldLink RX1 9 "WaysKept$Net" "begins" "[I", .fieldLink RX1 15 "WaysKept$Net" "ends" "[I", .fieldLink RX1 18 "WaysKept$Net" "prices" "[I", .fieldLink RX1 21 "WaysKept$Net" "bothWays" "[Z", .fieldLink RX1 25 "WaysKept$Net" "there" "[Z"] ++ wsX10)
def wsX1_countThere : List Cond := .code yX1_countThere cX1_countThere 3 (some .int) :: ([.fieldLink RX1 32 "WaysKept$Net" "lines" "I", .fieldLink RX1 25 "WaysKept$Net" "there" "[Z"] ++ wsX10)
def wsX1_touches : List Cond := .code yX1_touches cX1_touches 3 (some .boolean) :: ([.fieldLink RX1 9 "WaysKept$Net" "begins" "[I", .fieldLink RX1 15 "WaysKept$Net" "ends" "[I"] ++ wsX10)
def wsX2_init : List Cond := .code yX2_init cX2_init 1 none :: ([.methodLink RX2 3 objectInit, .instanceMethod objectInit, .code objectInit ⟨#[0xb1]⟩ 1 none, .arrayClass .int, .fieldLink RX2 11 "WaysKept$Past" "fars" "[I"] ++ wsX20)
def wsX2_clear : List Cond := .code yX2_clear cX2_clear 1 none :: ([.fieldLink RX2 15 "WaysKept$Past" "rows" "I"] ++ wsX20)
def wsX2_countActs : List Cond := .code yX2_countActs cX2_countActs 1 (some .int) :: ([.fieldLink RX2 15 "WaysKept$Past" "rows" "I"] ++ wsX20)
def wsX2_isFull : List Cond := .code yX2_isFull cX2_isFull 1 (some .boolean) :: ([.fieldLink RX2 15 "WaysKept$Past" "rows" "I"] ++ wsX20)
def wsX2_hasAct : List Cond := .code yX2_hasAct cX2_hasAct 2 (some .boolean) :: ([.fieldLink RX2 15 "WaysKept$Past" "rows" "I"] ++ wsX20)
def wsJ7_copyOf_59c91 : List Cond := .code yJ7_copyOf_59c91 cJ7_copyOf_59c91 3 (some (.array .int)) :: ([.methodLink RJ7 316 ⟨"[I", "clone", "()Ljava/lang/Object;"⟩, .sameMethod "[I" "java/lang/Object" "clone" "()Ljava/lang/Object;", .native ⟨"java/lang/Object", "clone", "()Ljava/lang/Object;"⟩, .instanceMethod ⟨"java/lang/Object", "clone", "()Ljava/lang/Object;"⟩, .selects "[I" ⟨"[I", "clone", "()Ljava/lang/Object;"⟩ ⟨"java/lang/Object", "clone", "()Ljava/lang/Object;"⟩, .classLink RJ7 317 "[I", .arrayClass .int, .methodLink RJ7 304 Lib.Math.min.name, .static Lib.Math.min.name, .initialized "java/lang/Math", .code Lib.Math.min.name Lib.Math.min.code 2 (some .int), .methodLink RJ7 150 arraycopyName, .native arraycopyName, .static arraycopyName, .initialized "java/lang/System"])
def wsX2_makeRoom : List Cond := .code yX2_makeRoom cX2_makeRoom 1 none :: ([.fieldLink RX2 15 "WaysKept$Past" "rows" "I", .fieldLink RX2 11 "WaysKept$Past" "fars" "[I", .constant RX2 39 (40100), .methodLink RX2 40 Lib.Math.min.name, .static Lib.Math.min.name, .initialized "java/lang/Math", .code Lib.Math.min.name Lib.Math.min.code 2 (some .int), .methodLink RX2 45 yJ7_copyOf_59c91, .static yJ7_copyOf_59c91, .initialized RJ7, .code yJ7_copyOf_59c91 cJ7_copyOf_59c91 3 (some (.array .int)), .methodLink RJ7 316 ⟨"[I", "clone", "()Ljava/lang/Object;"⟩, .sameMethod "[I" "java/lang/Object" "clone" "()Ljava/lang/Object;", .native ⟨"java/lang/Object", "clone", "()Ljava/lang/Object;"⟩, .instanceMethod ⟨"java/lang/Object", "clone", "()Ljava/lang/Object;"⟩, .selects "[I" ⟨"[I", "clone", "()Ljava/lang/Object;"⟩ ⟨"java/lang/Object", "clone", "()Ljava/lang/Object;"⟩, .classLink RJ7 317 "[I", .arrayClass .int, .methodLink RJ7 304 Lib.Math.min.name, .methodLink RJ7 150 arraycopyName, .native arraycopyName, .static arraycopyName, .initialized "java/lang/System"] ++ wsX20)
def wsJ9_floorDiv_7cf53 : List Cond := .code yJ9_floorDiv_7cf53 cJ9_floorDiv_7cf53 3 (some .int) :: ([])
def wsX3_priceIn : List Cond := .code yX3_priceIn cX3_priceIn 1 (some .int) :: ([.constant RX3 24 (2147483647), .methodLink RX3 135 yJ9_floorDiv_7cf53, .static yJ9_floorDiv_7cf53, .initialized RJ9, .code yJ9_floorDiv_7cf53 cJ9_floorDiv_7cf53 3 (some .int)])
def wsX3_leastPrice : List Cond := .code yX3_leastPrice cX3_leastPrice 3 (some .int) :: ([.fieldLink RX3 11 "WaysKept$Ways" "costs" "[I", .static yX4_pairOf, .initialized RX4, .code yX4_pairOf cX4_pairOf 2 (some .int), .methodLink RX3 51 yX3_priceIn, .static yX3_priceIn, .initialized RX3, .code yX3_priceIn cX3_priceIn 1 (some .int), .constant RX3 24 (2147483647), .methodLink RX3 135 yJ9_floorDiv_7cf53, .static yJ9_floorDiv_7cf53, .initialized RJ9, .code yJ9_floorDiv_7cf53 cJ9_floorDiv_7cf53 3 (some .int)] ++ wsX30)
def wsX2_keep_r1 : List Cond := [Cond.fieldLink RX2 11 "WaysKept$Past" "fars" "[I", Cond.fieldLink RX2 15 "WaysKept$Past" "rows" "I", Cond.methodLink RX2 19 yX2_isFull, Cond.instanceMethod yX2_isFull, Cond.selects RX2 yX2_isFull yX2_isFull, Cond.initialized RX2, Cond.code yX2_isFull cX2_isFull 1 (some .boolean), Cond.methodLink RX2 23 yX2_makeRoom, Cond.instanceMethod yX2_makeRoom, Cond.selects RX2 yX2_makeRoom yX2_makeRoom, Cond.code yX2_makeRoom cX2_makeRoom 1 none, Cond.constant RX2 39 (40100), Cond.methodLink RX2 40 Lib.Math.min.name, Cond.static Lib.Math.min.name, Cond.initialized "java/lang/Math", Cond.code Lib.Math.min.name Lib.Math.min.code 2 (some .int), Cond.methodLink RX2 45 yJ7_copyOf_59c91, Cond.static yJ7_copyOf_59c91, Cond.initialized RJ7, Cond.code yJ7_copyOf_59c91 cJ7_copyOf_59c91 3 (some (.array .int)), Cond.methodLink RJ7 316 ⟨"[I", "clone", "()Ljava/lang/Object;"⟩, Cond.sameMethod "[I" "java/lang/Object" "clone" "()Ljava/lang/Object;", Cond.native ⟨"java/lang/Object", "clone", "()Ljava/lang/Object;"⟩, Cond.instanceMethod ⟨"java/lang/Object", "clone", "()Ljava/lang/Object;"⟩]
def wsX2_keep_r2 : List Cond := [Cond.selects "[I" ⟨"[I", "clone", "()Ljava/lang/Object;"⟩ ⟨"java/lang/Object", "clone", "()Ljava/lang/Object;"⟩, Cond.classLink RJ7 317 "[I", Cond.arrayClass .int, Cond.methodLink RJ7 304 Lib.Math.min.name, Cond.methodLink RJ7 150 arraycopyName, Cond.native arraycopyName, Cond.static arraycopyName, Cond.initialized "java/lang/System", Cond.methodLink RX2 26 yX3_leastPrice, Cond.instanceMethod yX3_leastPrice, Cond.selects RX3 yX3_leastPrice yX3_leastPrice, Cond.initialized RX3, Cond.code yX3_leastPrice cX3_leastPrice 3 (some .int), Cond.fieldLink RX3 11 "WaysKept$Ways" "costs" "[I", Cond.static yX4_pairOf, Cond.initialized RX4, Cond.code yX4_pairOf cX4_pairOf 2 (some .int), Cond.methodLink RX3 51 yX3_priceIn, Cond.static yX3_priceIn, Cond.code yX3_priceIn cX3_priceIn 1 (some .int), Cond.constant RX3 24 (2147483647), Cond.methodLink RX3 135 yJ9_floorDiv_7cf53, Cond.static yJ9_floorDiv_7cf53, Cond.initialized RJ9]
def wsX2_keep_r3 : List Cond := [Cond.code yJ9_floorDiv_7cf53 cJ9_floorDiv_7cf53 3 (some .int)]
def wsX2_keep : List Cond := .code yX2_keep cX2_keep 3 none :: ((wsX2_keep_r1 ++ (wsX2_keep_r2 ++ wsX2_keep_r3)) ++ wsX20 ++ wsX30)
def wsX2_leastAsOf : List Cond := .code yX2_leastAsOf cX2_leastAsOf 3 (some .int) :: ([.fieldLink RX2 11 "WaysKept$Past" "fars" "[I"] ++ wsX20)
def wsX2_isMoved : List Cond := .code yX2_isMoved cX2_isMoved 3 (some .boolean) :: ([.methodLink RX2 36 yX2_leastAsOf, .instanceMethod yX2_leastAsOf, .selects RX2 yX2_leastAsOf yX2_leastAsOf, .initialized RX2, .code yX2_leastAsOf cX2_leastAsOf 3 (some .int), .fieldLink RX2 11 "WaysKept$Past" "fars" "[I"] ++ wsX20)
def wsX2_countMoved : List Cond := .code yX2_countMoved cX2_countMoved 4 (some .int) :: ([.methodLink RX2 32 yX2_isMoved, .instanceMethod yX2_isMoved, .selects RX2 yX2_isMoved yX2_isMoved, .initialized RX2, .code yX2_isMoved cX2_isMoved 3 (some .boolean), .methodLink RX2 36 yX2_leastAsOf, .instanceMethod yX2_leastAsOf, .selects RX2 yX2_leastAsOf yX2_leastAsOf, .code yX2_leastAsOf cX2_leastAsOf 3 (some .int), .fieldLink RX2 11 "WaysKept$Past" "fars" "[I"] ++ wsX20)
def wsX2_movedPair : List Cond := .code yX2_movedPair cX2_movedPair 5 (some .int) :: ([.methodLink RX2 32 yX2_isMoved, .instanceMethod yX2_isMoved, .selects RX2 yX2_isMoved yX2_isMoved, .initialized RX2, .code yX2_isMoved cX2_isMoved 3 (some .boolean), .methodLink RX2 36 yX2_leastAsOf, .instanceMethod yX2_leastAsOf, .selects RX2 yX2_leastAsOf yX2_leastAsOf, .code yX2_leastAsOf cX2_leastAsOf 3 (some .int), .fieldLink RX2 11 "WaysKept$Past" "fars" "[I"] ++ wsX20)
def wsX2_firstWithin : List Cond := .code yX2_firstWithin cX2_firstWithin 6 (some .int) :: ([.fieldLink RX2 15 "WaysKept$Past" "rows" "I", .methodLink RX2 36 yX2_leastAsOf, .instanceMethod yX2_leastAsOf, .selects RX2 yX2_leastAsOf yX2_leastAsOf, .initialized RX2, .code yX2_leastAsOf cX2_leastAsOf 3 (some .int), .fieldLink RX2 11 "WaysKept$Past" "fars" "[I"] ++ wsX20)
def wsX3_init : List Cond := .code yX3_init cX3_init 2 none :: ([.methodLink RX3 5 objectInit, .instanceMethod objectInit, .code objectInit ⟨#[0xb1]⟩ 1 none, .arrayClass .int, .fieldLink RX3 11 "WaysKept$Ways" "costs" "[I", .fieldLink RX3 17 "WaysKept$Ways" "reached" "[I", .fieldLink RX3 20 "WaysKept$Ways" "net" "LWaysKept$Net;"] ++ wsX30)
def wsJ7_fill_53178 : List Cond := .code yJ7_fill_53178 cJ7_fill_53178 4 none :: ([])
def wsX3_lower : List Cond := .code yX3_lower cX3_lower 4 (some .boolean) :: ([.fieldLink RX3 17 "WaysKept$Ways" "reached" "[I", .constant RX3 24 (2147483647)] ++ wsX30)
def wsX3_relax : List Cond := .code yX3_relax cX3_relax 6 (some .boolean) :: ([.fieldLink RX3 20 "WaysKept$Ways" "net" "LWaysKept$Net;", .methodLink RX3 122 yX3_costOf, .instanceMethod yX3_costOf, .selects RX3 yX3_costOf yX3_costOf, .initialized RX3, .code yX3_costOf cX3_costOf 2 (some .int), .methodLink RX3 125 yX3_lower, .instanceMethod yX3_lower, .selects RX3 yX3_lower yX3_lower, .code yX3_lower cX3_lower 4 (some .boolean), .fieldLink RX3 17 "WaysKept$Ways" "reached" "[I", .constant RX3 24 (2147483647)] ++ wsX30 ++ wsX10)
def wsX3_spread_r1 : List Cond := [Cond.fieldLink RX3 17 "WaysKept$Ways" "reached" "[I", Cond.constant RX3 24 (2147483647), Cond.fieldLink RX3 20 "WaysKept$Ways" "net" "LWaysKept$Net;", Cond.methodLink RX3 25 yJ7_fill_53178, Cond.static yJ7_fill_53178, Cond.initialized RJ7, Cond.code yJ7_fill_53178 cJ7_fill_53178 4 none, Cond.methodLink RX3 115 yX1_touches, Cond.instanceMethod yX1_touches, Cond.selects RX1 yX1_touches yX1_touches, Cond.initialized RX1, Cond.code yX1_touches cX1_touches 3 (some .boolean), Cond.fieldLink RX1 9 "WaysKept$Net" "begins" "[I", Cond.fieldLink RX1 15 "WaysKept$Net" "ends" "[I", Cond.methodLink RX3 118 yX3_relax, Cond.instanceMethod yX3_relax, Cond.selects RX3 yX3_relax yX3_relax, Cond.initialized RX3, Cond.code yX3_relax cX3_relax 6 (some .boolean), Cond.methodLink RX3 122 yX3_costOf, Cond.instanceMethod yX3_costOf, Cond.selects RX3 yX3_costOf yX3_costOf, Cond.code yX3_costOf cX3_costOf 2 (some .int), Cond.methodLink RX3 125 yX3_lower]
def wsX3_spread_r2 : List Cond := [Cond.instanceMethod yX3_lower, Cond.selects RX3 yX3_lower yX3_lower, Cond.code yX3_lower cX3_lower 4 (some .boolean)]
def wsX3_spread : List Cond := .code yX3_spread cX3_spread 7 none :: ((wsX3_spread_r1 ++ wsX3_spread_r2) ++ wsX30 ++ wsX10)
def wsX3_measure_r1 : List Cond := [Cond.fieldLink RX3 11 "WaysKept$Ways" "costs" "[I", Cond.constant RX3 24 (2147483647), Cond.fieldLink RX3 20 "WaysKept$Ways" "net" "LWaysKept$Net;", Cond.fieldLink RX3 17 "WaysKept$Ways" "reached" "[I", Cond.methodLink RX3 45 arraycopyName, Cond.native arraycopyName, Cond.static arraycopyName, Cond.initialized "java/lang/System", Cond.methodLink RX3 25 yJ7_fill_53178, Cond.static yJ7_fill_53178, Cond.initialized RJ7, Cond.code yJ7_fill_53178 cJ7_fill_53178 4 none, Cond.methodLink RX3 37 yX3_spread, Cond.instanceMethod yX3_spread, Cond.selects RX3 yX3_spread yX3_spread, Cond.initialized RX3, Cond.code yX3_spread cX3_spread 7 none, Cond.methodLink RX3 115 yX1_touches, Cond.instanceMethod yX1_touches, Cond.selects RX1 yX1_touches yX1_touches, Cond.initialized RX1, Cond.code yX1_touches cX1_touches 3 (some .boolean), Cond.fieldLink RX1 9 "WaysKept$Net" "begins" "[I", Cond.fieldLink RX1 15 "WaysKept$Net" "ends" "[I"]
def wsX3_measure_r2 : List Cond := [Cond.methodLink RX3 118 yX3_relax, Cond.instanceMethod yX3_relax, Cond.selects RX3 yX3_relax yX3_relax, Cond.code yX3_relax cX3_relax 6 (some .boolean), Cond.methodLink RX3 122 yX3_costOf, Cond.instanceMethod yX3_costOf, Cond.selects RX3 yX3_costOf yX3_costOf, Cond.code yX3_costOf cX3_costOf 2 (some .int), Cond.methodLink RX3 125 yX3_lower, Cond.instanceMethod yX3_lower, Cond.selects RX3 yX3_lower yX3_lower, Cond.code yX3_lower cX3_lower 4 (some .boolean), Cond.static yX4_pairOf, Cond.initialized RX4, Cond.code yX4_pairOf cX4_pairOf 2 (some .int)]
def wsX3_measure : List Cond := .code yX3_measure cX3_measure 2 none :: ((wsX3_measure_r1 ++ wsX3_measure_r2) ++ wsX30 ++ wsX10)
def wsX3_lineAt_r1 : List Cond := [Cond.fieldLink RX3 20 "WaysKept$Ways" "net" "LWaysKept$Net;", Cond.methodLink RX3 60 yX3_length, Cond.instanceMethod yX3_length, Cond.selects RX3 yX3_length yX3_length, Cond.initialized RX3, Cond.code yX3_length cX3_length 4 (some .int), Cond.fieldLink RX3 11 "WaysKept$Ways" "costs" "[I", Cond.constant RX3 24 (2147483647), Cond.static yX4_pairOf, Cond.initialized RX4, Cond.code yX4_pairOf cX4_pairOf 2 (some .int), Cond.methodLink RX3 55 yJ9_floorMod_7cf53, Cond.static yJ9_floorMod_7cf53, Cond.initialized RJ9, Cond.code yJ9_floorMod_7cf53 cJ9_floorMod_7cf53 3 (some .int), Cond.methodLink RX3 63 yX3_lineToward, Cond.instanceMethod yX3_lineToward, Cond.selects RX3 yX3_lineToward yX3_lineToward, Cond.code yX3_lineToward cX3_lineToward 6 (some .int), Cond.methodLink RX3 128 yX1_hasPost, Cond.instanceMethod yX1_hasPost, Cond.selects RX1 yX1_hasPost yX1_hasPost, Cond.initialized RX1, Cond.code yX1_hasPost cX1_hasPost 2 (some .boolean)]
def wsX3_lineAt_r2 : List Cond := [Cond.fieldLink RX1 28 "WaysKept$Net" "posts" "I", Cond.methodLink RX3 90 yX3_leads, Cond.instanceMethod yX3_leads, Cond.selects RX3 yX3_leads yX3_leads, Cond.code yX3_leads cX3_leads 3 (some .boolean), Cond.methodLink RX3 66 yX1_target, Cond.instanceMethod yX1_target, Cond.selects RX1 yX1_target yX1_target, Cond.code yX1_target cX1_target 3 (some .int), Cond.fieldLink RX1 25 "WaysKept$Net" "there" "[Z", Cond.fieldLink RX1 9 "WaysKept$Net" "begins" "[I", Cond.fieldLink RX1 15 "WaysKept$Net" "ends" "[I", Cond.fieldLink RX1 21 "WaysKept$Net" "bothWays" "[Z", Cond.methodLink RX1 39 yX1_hasLine, Cond.instanceMethod yX1_hasLine, Cond.selects RX1 yX1_hasLine yX1_hasLine, Cond.code yX1_hasLine cX1_hasLine 2 (some .boolean), Cond.fieldLink RX1 32 "WaysKept$Net" "lines" "I", Cond.methodLink RX3 122 yX3_costOf, Cond.instanceMethod yX3_costOf, Cond.selects RX3 yX3_costOf yX3_costOf, Cond.code yX3_costOf cX3_costOf 2 (some .int)]
def wsX3_lineAt : List Cond := .code yX3_lineAt cX3_lineAt 6 (some .int) :: ((wsX3_lineAt_r1 ++ wsX3_lineAt_r2) ++ wsX30 ++ wsX10)
def wsX3_leastAvoiding_r1 : List Cond := [Cond.fieldLink RX3 17 "WaysKept$Ways" "reached" "[I", Cond.methodLink RX3 37 yX3_spread, Cond.instanceMethod yX3_spread, Cond.selects RX3 yX3_spread yX3_spread, Cond.initialized RX3, Cond.code yX3_spread cX3_spread 7 none, Cond.constant RX3 24 (2147483647), Cond.fieldLink RX3 20 "WaysKept$Ways" "net" "LWaysKept$Net;", Cond.methodLink RX3 25 yJ7_fill_53178, Cond.static yJ7_fill_53178, Cond.initialized RJ7, Cond.code yJ7_fill_53178 cJ7_fill_53178 4 none, Cond.methodLink RX3 115 yX1_touches, Cond.instanceMethod yX1_touches, Cond.selects RX1 yX1_touches yX1_touches, Cond.initialized RX1, Cond.code yX1_touches cX1_touches 3 (some .boolean), Cond.fieldLink RX1 9 "WaysKept$Net" "begins" "[I", Cond.fieldLink RX1 15 "WaysKept$Net" "ends" "[I", Cond.methodLink RX3 118 yX3_relax, Cond.instanceMethod yX3_relax, Cond.selects RX3 yX3_relax yX3_relax, Cond.code yX3_relax cX3_relax 6 (some .boolean), Cond.methodLink RX3 122 yX3_costOf]
def wsX3_leastAvoiding_r2 : List Cond := [Cond.instanceMethod yX3_costOf, Cond.selects RX3 yX3_costOf yX3_costOf, Cond.code yX3_costOf cX3_costOf 2 (some .int), Cond.methodLink RX3 125 yX3_lower, Cond.instanceMethod yX3_lower, Cond.selects RX3 yX3_lower yX3_lower, Cond.code yX3_lower cX3_lower 4 (some .boolean), Cond.methodLink RX3 51 yX3_priceIn, Cond.static yX3_priceIn, Cond.code yX3_priceIn cX3_priceIn 1 (some .int), Cond.methodLink RX3 135 yJ9_floorDiv_7cf53, Cond.static yJ9_floorDiv_7cf53, Cond.initialized RJ9, Cond.code yJ9_floorDiv_7cf53 cJ9_floorDiv_7cf53 3 (some .int)]
def wsX3_leastAvoiding : List Cond := .code yX3_leastAvoiding cX3_leastAvoiding 5 (some .int) :: ((wsX3_leastAvoiding_r1 ++ wsX3_leastAvoiding_r2) ++ wsX30 ++ wsX10)
def wsX3_isOnWay_r1 : List Cond := [Cond.methodLink RX3 60 yX3_length, Cond.instanceMethod yX3_length, Cond.selects RX3 yX3_length yX3_length, Cond.initialized RX3, Cond.code yX3_length cX3_length 4 (some .int), Cond.fieldLink RX3 11 "WaysKept$Ways" "costs" "[I", Cond.constant RX3 24 (2147483647), Cond.static yX4_pairOf, Cond.initialized RX4, Cond.code yX4_pairOf cX4_pairOf 2 (some .int), Cond.methodLink RX3 55 yJ9_floorMod_7cf53, Cond.static yJ9_floorMod_7cf53, Cond.initialized RJ9, Cond.code yJ9_floorMod_7cf53 cJ9_floorMod_7cf53 3 (some .int), Cond.methodLink RX3 131 yX3_lineAt, Cond.instanceMethod yX3_lineAt, Cond.selects RX3 yX3_lineAt yX3_lineAt, Cond.code yX3_lineAt cX3_lineAt 6 (some .int), Cond.fieldLink RX3 20 "WaysKept$Ways" "net" "LWaysKept$Net;", Cond.methodLink RX3 63 yX3_lineToward, Cond.instanceMethod yX3_lineToward, Cond.selects RX3 yX3_lineToward yX3_lineToward, Cond.code yX3_lineToward cX3_lineToward 6 (some .int), Cond.methodLink RX3 128 yX1_hasPost]
def wsX3_isOnWay_r2 : List Cond := [Cond.instanceMethod yX1_hasPost, Cond.selects RX1 yX1_hasPost yX1_hasPost, Cond.initialized RX1, Cond.code yX1_hasPost cX1_hasPost 2 (some .boolean), Cond.fieldLink RX1 28 "WaysKept$Net" "posts" "I", Cond.methodLink RX3 90 yX3_leads, Cond.instanceMethod yX3_leads, Cond.selects RX3 yX3_leads yX3_leads, Cond.code yX3_leads cX3_leads 3 (some .boolean), Cond.methodLink RX3 66 yX1_target, Cond.instanceMethod yX1_target, Cond.selects RX1 yX1_target yX1_target, Cond.code yX1_target cX1_target 3 (some .int), Cond.fieldLink RX1 25 "WaysKept$Net" "there" "[Z", Cond.fieldLink RX1 9 "WaysKept$Net" "begins" "[I", Cond.fieldLink RX1 15 "WaysKept$Net" "ends" "[I", Cond.fieldLink RX1 21 "WaysKept$Net" "bothWays" "[Z", Cond.methodLink RX1 39 yX1_hasLine, Cond.instanceMethod yX1_hasLine, Cond.selects RX1 yX1_hasLine yX1_hasLine, Cond.code yX1_hasLine cX1_hasLine 2 (some .boolean), Cond.fieldLink RX1 32 "WaysKept$Net" "lines" "I", Cond.methodLink RX3 122 yX3_costOf, Cond.instanceMethod yX3_costOf]
def wsX3_isOnWay_r3 : List Cond := [Cond.selects RX3 yX3_costOf yX3_costOf, Cond.code yX3_costOf cX3_costOf 2 (some .int)]
def wsX3_isOnWay : List Cond := .code yX3_isOnWay cX3_isOnWay 5 (some .boolean) :: ((wsX3_isOnWay_r1 ++ (wsX3_isOnWay_r2 ++ wsX3_isOnWay_r3)) ++ wsX30 ++ wsX10)
def wsX3_isVital_r1 : List Cond := [Cond.methodLink RX3 69 yX3_isOnWay, Cond.instanceMethod yX3_isOnWay, Cond.selects RX3 yX3_isOnWay yX3_isOnWay, Cond.initialized RX3, Cond.code yX3_isOnWay cX3_isOnWay 5 (some .boolean), Cond.methodLink RX3 60 yX3_length, Cond.instanceMethod yX3_length, Cond.selects RX3 yX3_length yX3_length, Cond.code yX3_length cX3_length 4 (some .int), Cond.fieldLink RX3 11 "WaysKept$Ways" "costs" "[I", Cond.constant RX3 24 (2147483647), Cond.static yX4_pairOf, Cond.initialized RX4, Cond.code yX4_pairOf cX4_pairOf 2 (some .int), Cond.methodLink RX3 55 yJ9_floorMod_7cf53, Cond.static yJ9_floorMod_7cf53, Cond.initialized RJ9, Cond.code yJ9_floorMod_7cf53 cJ9_floorMod_7cf53 3 (some .int), Cond.methodLink RX3 131 yX3_lineAt, Cond.instanceMethod yX3_lineAt, Cond.selects RX3 yX3_lineAt yX3_lineAt, Cond.code yX3_lineAt cX3_lineAt 6 (some .int), Cond.fieldLink RX3 20 "WaysKept$Ways" "net" "LWaysKept$Net;", Cond.methodLink RX3 63 yX3_lineToward]
def wsX3_isVital_r2 : List Cond := [Cond.instanceMethod yX3_lineToward, Cond.selects RX3 yX3_lineToward yX3_lineToward, Cond.code yX3_lineToward cX3_lineToward 6 (some .int), Cond.methodLink RX3 128 yX1_hasPost, Cond.instanceMethod yX1_hasPost, Cond.selects RX1 yX1_hasPost yX1_hasPost, Cond.initialized RX1, Cond.code yX1_hasPost cX1_hasPost 2 (some .boolean), Cond.fieldLink RX1 28 "WaysKept$Net" "posts" "I", Cond.methodLink RX3 90 yX3_leads, Cond.instanceMethod yX3_leads, Cond.selects RX3 yX3_leads yX3_leads, Cond.code yX3_leads cX3_leads 3 (some .boolean), Cond.methodLink RX3 66 yX1_target, Cond.instanceMethod yX1_target, Cond.selects RX1 yX1_target yX1_target, Cond.code yX1_target cX1_target 3 (some .int), Cond.fieldLink RX1 25 "WaysKept$Net" "there" "[Z", Cond.fieldLink RX1 9 "WaysKept$Net" "begins" "[I", Cond.fieldLink RX1 15 "WaysKept$Net" "ends" "[I", Cond.fieldLink RX1 21 "WaysKept$Net" "bothWays" "[Z", Cond.methodLink RX1 39 yX1_hasLine, Cond.instanceMethod yX1_hasLine, Cond.selects RX1 yX1_hasLine yX1_hasLine]
def wsX3_isVital_r3 : List Cond := [Cond.code yX1_hasLine cX1_hasLine 2 (some .boolean), Cond.fieldLink RX1 32 "WaysKept$Net" "lines" "I", Cond.methodLink RX3 122 yX3_costOf, Cond.instanceMethod yX3_costOf, Cond.selects RX3 yX3_costOf yX3_costOf, Cond.code yX3_costOf cX3_costOf 2 (some .int), Cond.methodLink RX3 73 yX3_leastAvoiding, Cond.instanceMethod yX3_leastAvoiding, Cond.selects RX3 yX3_leastAvoiding yX3_leastAvoiding, Cond.code yX3_leastAvoiding cX3_leastAvoiding 5 (some .int), Cond.fieldLink RX3 17 "WaysKept$Ways" "reached" "[I", Cond.methodLink RX3 37 yX3_spread, Cond.instanceMethod yX3_spread, Cond.selects RX3 yX3_spread yX3_spread, Cond.code yX3_spread cX3_spread 7 none, Cond.methodLink RX3 25 yJ7_fill_53178, Cond.static yJ7_fill_53178, Cond.initialized RJ7, Cond.code yJ7_fill_53178 cJ7_fill_53178 4 none, Cond.methodLink RX3 115 yX1_touches, Cond.instanceMethod yX1_touches, Cond.selects RX1 yX1_touches yX1_touches, Cond.code yX1_touches cX1_touches 3 (some .boolean), Cond.methodLink RX3 118 yX3_relax]
def wsX3_isVital_r4 : List Cond := [Cond.instanceMethod yX3_relax, Cond.selects RX3 yX3_relax yX3_relax, Cond.code yX3_relax cX3_relax 6 (some .boolean), Cond.methodLink RX3 125 yX3_lower, Cond.instanceMethod yX3_lower, Cond.selects RX3 yX3_lower yX3_lower, Cond.code yX3_lower cX3_lower 4 (some .boolean), Cond.methodLink RX3 51 yX3_priceIn, Cond.static yX3_priceIn, Cond.code yX3_priceIn cX3_priceIn 1 (some .int), Cond.methodLink RX3 135 yJ9_floorDiv_7cf53, Cond.static yJ9_floorDiv_7cf53, Cond.code yJ9_floorDiv_7cf53 cJ9_floorDiv_7cf53 3 (some .int), Cond.methodLink RX3 77 yX3_leastPrice, Cond.instanceMethod yX3_leastPrice, Cond.selects RX3 yX3_leastPrice yX3_leastPrice, Cond.code yX3_leastPrice cX3_leastPrice 3 (some .int)]
def wsX3_isVital : List Cond := .code yX3_isVital cX3_isVital 4 (some .boolean) :: ((wsX3_isVital_r1 ++ (wsX3_isVital_r2 ++ (wsX3_isVital_r3 ++ wsX3_isVital_r4))) ++ wsX30 ++ wsX10)
def wsX3_closesBelow : List Cond := .code yX3_closesBelow cX3_closesBelow 2 (some .boolean) :: ([])
def wsX3_wouldSink_r1 : List Cond := [Cond.methodLink RX3 73 yX3_leastAvoiding, Cond.instanceMethod yX3_leastAvoiding, Cond.selects RX3 yX3_leastAvoiding yX3_leastAvoiding, Cond.initialized RX3, Cond.code yX3_leastAvoiding cX3_leastAvoiding 5 (some .int), Cond.fieldLink RX3 17 "WaysKept$Ways" "reached" "[I", Cond.methodLink RX3 37 yX3_spread, Cond.instanceMethod yX3_spread, Cond.selects RX3 yX3_spread yX3_spread, Cond.code yX3_spread cX3_spread 7 none, Cond.constant RX3 24 (2147483647), Cond.fieldLink RX3 20 "WaysKept$Ways" "net" "LWaysKept$Net;", Cond.methodLink RX3 25 yJ7_fill_53178, Cond.static yJ7_fill_53178, Cond.initialized RJ7, Cond.code yJ7_fill_53178 cJ7_fill_53178 4 none, Cond.methodLink RX3 115 yX1_touches, Cond.instanceMethod yX1_touches, Cond.selects RX1 yX1_touches yX1_touches, Cond.initialized RX1, Cond.code yX1_touches cX1_touches 3 (some .boolean), Cond.fieldLink RX1 9 "WaysKept$Net" "begins" "[I", Cond.fieldLink RX1 15 "WaysKept$Net" "ends" "[I", Cond.methodLink RX3 118 yX3_relax]
def wsX3_wouldSink_r2 : List Cond := [Cond.instanceMethod yX3_relax, Cond.selects RX3 yX3_relax yX3_relax, Cond.code yX3_relax cX3_relax 6 (some .boolean), Cond.methodLink RX3 122 yX3_costOf, Cond.instanceMethod yX3_costOf, Cond.selects RX3 yX3_costOf yX3_costOf, Cond.code yX3_costOf cX3_costOf 2 (some .int), Cond.methodLink RX3 125 yX3_lower, Cond.instanceMethod yX3_lower, Cond.selects RX3 yX3_lower yX3_lower, Cond.code yX3_lower cX3_lower 4 (some .boolean), Cond.methodLink RX3 51 yX3_priceIn, Cond.static yX3_priceIn, Cond.code yX3_priceIn cX3_priceIn 1 (some .int), Cond.methodLink RX3 135 yJ9_floorDiv_7cf53, Cond.static yJ9_floorDiv_7cf53, Cond.initialized RJ9, Cond.code yJ9_floorDiv_7cf53 cJ9_floorDiv_7cf53 3 (some .int), Cond.methodLink RX3 80 yX3_closesBelow, Cond.static yX3_closesBelow, Cond.code yX3_closesBelow cX3_closesBelow 2 (some .boolean)]
def wsX3_wouldSink : List Cond := .code yX3_wouldSink cX3_wouldSink 6 (some .boolean) :: ((wsX3_wouldSink_r1 ++ wsX3_wouldSink_r2) ++ wsX30 ++ wsX10)
def wsX3_ringOver : List Cond := .code yX3_ringOver cX3_ringOver 4 (some .int) :: ([.fieldLink RX3 20 "WaysKept$Ways" "net" "LWaysKept$Net;", .methodLink RX3 93 Lib.Math.min.name, .static Lib.Math.min.name, .initialized "java/lang/Math", .code Lib.Math.min.name Lib.Math.min.code 2 (some .int), .methodLink RX3 77 yX3_leastPrice, .instanceMethod yX3_leastPrice, .selects RX3 yX3_leastPrice yX3_leastPrice, .initialized RX3, .code yX3_leastPrice cX3_leastPrice 3 (some .int), .fieldLink RX3 11 "WaysKept$Ways" "costs" "[I", .static yX4_pairOf, .initialized RX4, .code yX4_pairOf cX4_pairOf 2 (some .int), .methodLink RX3 51 yX3_priceIn, .static yX3_priceIn, .code yX3_priceIn cX3_priceIn 1 (some .int), .constant RX3 24 (2147483647), .methodLink RX3 135 yJ9_floorDiv_7cf53, .static yJ9_floorDiv_7cf53, .initialized RJ9, .code yJ9_floorDiv_7cf53 cJ9_floorDiv_7cf53 3 (some .int)] ++ wsX30 ++ wsX10)
def wsX3_leastRing_r1 : List Cond := [Cond.fieldLink RX3 20 "WaysKept$Ways" "net" "LWaysKept$Net;", Cond.methodLink RX3 87 yX3_ringOver, Cond.instanceMethod yX3_ringOver, Cond.selects RX3 yX3_ringOver yX3_ringOver, Cond.initialized RX3, Cond.code yX3_ringOver cX3_ringOver 4 (some .int), Cond.methodLink RX3 93 Lib.Math.min.name, Cond.static Lib.Math.min.name, Cond.initialized "java/lang/Math", Cond.code Lib.Math.min.name Lib.Math.min.code 2 (some .int), Cond.methodLink RX3 77 yX3_leastPrice, Cond.instanceMethod yX3_leastPrice, Cond.selects RX3 yX3_leastPrice yX3_leastPrice, Cond.code yX3_leastPrice cX3_leastPrice 3 (some .int), Cond.fieldLink RX3 11 "WaysKept$Ways" "costs" "[I", Cond.static yX4_pairOf, Cond.initialized RX4, Cond.code yX4_pairOf cX4_pairOf 2 (some .int), Cond.methodLink RX3 51 yX3_priceIn, Cond.static yX3_priceIn, Cond.code yX3_priceIn cX3_priceIn 1 (some .int), Cond.constant RX3 24 (2147483647), Cond.methodLink RX3 135 yJ9_floorDiv_7cf53, Cond.static yJ9_floorDiv_7cf53]
def wsX3_leastRing_r2 : List Cond := [Cond.initialized RJ9, Cond.code yJ9_floorDiv_7cf53 cJ9_floorDiv_7cf53 3 (some .int)]
def wsX3_leastRing : List Cond := .code yX3_leastRing cX3_leastRing 4 (some .int) :: ((wsX3_leastRing_r1 ++ wsX3_leastRing_r2) ++ wsX30 ++ wsX10)
def wsX3_heightOf_r1 : List Cond := [Cond.fieldLink RX3 20 "WaysKept$Ways" "net" "LWaysKept$Net;", Cond.methodLink RX3 93 Lib.Math.min.name, Cond.static Lib.Math.min.name, Cond.initialized "java/lang/Math", Cond.code Lib.Math.min.name Lib.Math.min.code 2 (some .int), Cond.methodLink RX3 90 yX3_leads, Cond.instanceMethod yX3_leads, Cond.selects RX3 yX3_leads yX3_leads, Cond.initialized RX3, Cond.code yX3_leads cX3_leads 3 (some .boolean), Cond.fieldLink RX3 11 "WaysKept$Ways" "costs" "[I", Cond.constant RX3 24 (2147483647), Cond.static yX4_pairOf, Cond.initialized RX4, Cond.code yX4_pairOf cX4_pairOf 2 (some .int), Cond.methodLink RX3 77 yX3_leastPrice, Cond.instanceMethod yX3_leastPrice, Cond.selects RX3 yX3_leastPrice yX3_leastPrice, Cond.code yX3_leastPrice cX3_leastPrice 3 (some .int), Cond.methodLink RX3 51 yX3_priceIn, Cond.static yX3_priceIn, Cond.code yX3_priceIn cX3_priceIn 1 (some .int), Cond.methodLink RX3 135 yJ9_floorDiv_7cf53, Cond.static yJ9_floorDiv_7cf53]
def wsX3_heightOf_r2 : List Cond := [Cond.initialized RJ9, Cond.code yJ9_floorDiv_7cf53 cJ9_floorDiv_7cf53 3 (some .int)]
def wsX3_heightOf : List Cond := .code yX3_heightOf cX3_heightOf 4 (some .int) :: ((wsX3_heightOf_r1 ++ wsX3_heightOf_r2) ++ wsX30 ++ wsX10)
def wsX3_lifted_r1 : List Cond := [Cond.fieldLink RX3 20 "WaysKept$Ways" "net" "LWaysKept$Net;", Cond.methodLink RX3 93 Lib.Math.min.name, Cond.static Lib.Math.min.name, Cond.initialized "java/lang/Math", Cond.code Lib.Math.min.name Lib.Math.min.code 2 (some .int), Cond.methodLink RX3 102 yX3_heightOf, Cond.instanceMethod yX3_heightOf, Cond.selects RX3 yX3_heightOf yX3_heightOf, Cond.initialized RX3, Cond.code yX3_heightOf cX3_heightOf 4 (some .int), Cond.methodLink RX3 90 yX3_leads, Cond.instanceMethod yX3_leads, Cond.selects RX3 yX3_leads yX3_leads, Cond.code yX3_leads cX3_leads 3 (some .boolean), Cond.fieldLink RX3 11 "WaysKept$Ways" "costs" "[I", Cond.constant RX3 24 (2147483647), Cond.static yX4_pairOf, Cond.initialized RX4, Cond.code yX4_pairOf cX4_pairOf 2 (some .int), Cond.methodLink RX3 77 yX3_leastPrice, Cond.instanceMethod yX3_leastPrice, Cond.selects RX3 yX3_leastPrice yX3_leastPrice, Cond.code yX3_leastPrice cX3_leastPrice 3 (some .int), Cond.methodLink RX3 51 yX3_priceIn]
def wsX3_lifted_r2 : List Cond := [Cond.static yX3_priceIn, Cond.code yX3_priceIn cX3_priceIn 1 (some .int), Cond.methodLink RX3 135 yJ9_floorDiv_7cf53, Cond.static yJ9_floorDiv_7cf53, Cond.initialized RJ9, Cond.code yJ9_floorDiv_7cf53 cJ9_floorDiv_7cf53 3 (some .int)]
def wsX3_lifted : List Cond := .code yX3_lifted cX3_lifted 4 (some .int) :: ((wsX3_lifted_r1 ++ wsX3_lifted_r2) ++ wsX30 ++ wsX10)
def wsX3_leastThrough_r1 : List Cond := [Cond.fieldLink RX3 20 "WaysKept$Ways" "net" "LWaysKept$Net;", Cond.methodLink RX3 93 Lib.Math.min.name, Cond.static Lib.Math.min.name, Cond.initialized "java/lang/Math", Cond.code Lib.Math.min.name Lib.Math.min.code 2 (some .int), Cond.methodLink RX3 90 yX3_leads, Cond.instanceMethod yX3_leads, Cond.selects RX3 yX3_leads yX3_leads, Cond.initialized RX3, Cond.code yX3_leads cX3_leads 3 (some .boolean), Cond.fieldLink RX3 11 "WaysKept$Ways" "costs" "[I", Cond.constant RX3 24 (2147483647), Cond.static yX4_pairOf, Cond.initialized RX4, Cond.code yX4_pairOf cX4_pairOf 2 (some .int), Cond.methodLink RX3 77 yX3_leastPrice, Cond.instanceMethod yX3_leastPrice, Cond.selects RX3 yX3_leastPrice yX3_leastPrice, Cond.code yX3_leastPrice cX3_leastPrice 3 (some .int), Cond.methodLink RX3 51 yX3_priceIn, Cond.static yX3_priceIn, Cond.code yX3_priceIn cX3_priceIn 1 (some .int), Cond.methodLink RX3 135 yJ9_floorDiv_7cf53, Cond.static yJ9_floorDiv_7cf53]
def wsX3_leastThrough_r2 : List Cond := [Cond.initialized RJ9, Cond.code yJ9_floorDiv_7cf53 cJ9_floorDiv_7cf53 3 (some .int)]
def wsX3_leastThrough : List Cond := .code yX3_leastThrough cX3_leastThrough 7 (some .int) :: ((wsX3_leastThrough_r1 ++ wsX3_leastThrough_r2) ++ wsX30 ++ wsX10)
def wsX3_countLinked : List Cond := .code yX3_countLinked cX3_countLinked 4 (some .int) :: ([.fieldLink RX3 20 "WaysKept$Ways" "net" "LWaysKept$Net;", .methodLink RX3 90 yX3_leads, .instanceMethod yX3_leads, .selects RX3 yX3_leads yX3_leads, .initialized RX3, .code yX3_leads cX3_leads 3 (some .boolean), .fieldLink RX3 11 "WaysKept$Ways" "costs" "[I", .constant RX3 24 (2147483647), .static yX4_pairOf, .initialized RX4, .code yX4_pairOf cX4_pairOf 2 (some .int)] ++ wsX30 ++ wsX10)
def wsX4_keepAct_r1 : List Cond := [Cond.fieldLink RX4 21 "WaysKept" "ways" "LWaysKept$Ways;", Cond.fieldLink RX4 28 "WaysKept" "past" "LWaysKept$Past;", Cond.methodLink RX4 192 yX3_measure, Cond.instanceMethod yX3_measure, Cond.selects RX3 yX3_measure yX3_measure, Cond.initialized RX3, Cond.code yX3_measure cX3_measure 2 none, Cond.fieldLink RX3 11 "WaysKept$Ways" "costs" "[I", Cond.constant RX3 24 (2147483647), Cond.fieldLink RX3 20 "WaysKept$Ways" "net" "LWaysKept$Net;", Cond.fieldLink RX3 17 "WaysKept$Ways" "reached" "[I", Cond.methodLink RX3 45 arraycopyName, Cond.native arraycopyName, Cond.static arraycopyName, Cond.initialized "java/lang/System", Cond.methodLink RX3 25 yJ7_fill_53178, Cond.static yJ7_fill_53178, Cond.initialized RJ7, Cond.code yJ7_fill_53178 cJ7_fill_53178 4 none, Cond.methodLink RX3 37 yX3_spread, Cond.instanceMethod yX3_spread, Cond.selects RX3 yX3_spread yX3_spread, Cond.code yX3_spread cX3_spread 7 none, Cond.methodLink RX3 115 yX1_touches]
def wsX4_keepAct_r2 : List Cond := [Cond.instanceMethod yX1_touches, Cond.selects RX1 yX1_touches yX1_touches, Cond.initialized RX1, Cond.code yX1_touches cX1_touches 3 (some .boolean), Cond.fieldLink RX1 9 "WaysKept$Net" "begins" "[I", Cond.fieldLink RX1 15 "WaysKept$Net" "ends" "[I", Cond.methodLink RX3 118 yX3_relax, Cond.instanceMethod yX3_relax, Cond.selects RX3 yX3_relax yX3_relax, Cond.code yX3_relax cX3_relax 6 (some .boolean), Cond.methodLink RX3 122 yX3_costOf, Cond.instanceMethod yX3_costOf, Cond.selects RX3 yX3_costOf yX3_costOf, Cond.code yX3_costOf cX3_costOf 2 (some .int), Cond.methodLink RX3 125 yX3_lower, Cond.instanceMethod yX3_lower, Cond.selects RX3 yX3_lower yX3_lower, Cond.code yX3_lower cX3_lower 4 (some .boolean), Cond.static yX4_pairOf, Cond.initialized RX4, Cond.code yX4_pairOf cX4_pairOf 2 (some .int), Cond.methodLink RX4 195 yX2_keep, Cond.instanceMethod yX2_keep, Cond.selects RX2 yX2_keep yX2_keep]
def wsX4_keepAct_r3 : List Cond := [Cond.initialized RX2, Cond.code yX2_keep cX2_keep 3 none, Cond.fieldLink RX2 11 "WaysKept$Past" "fars" "[I", Cond.fieldLink RX2 15 "WaysKept$Past" "rows" "I", Cond.methodLink RX2 19 yX2_isFull, Cond.instanceMethod yX2_isFull, Cond.selects RX2 yX2_isFull yX2_isFull, Cond.code yX2_isFull cX2_isFull 1 (some .boolean), Cond.methodLink RX2 23 yX2_makeRoom, Cond.instanceMethod yX2_makeRoom, Cond.selects RX2 yX2_makeRoom yX2_makeRoom, Cond.code yX2_makeRoom cX2_makeRoom 1 none, Cond.constant RX2 39 (40100), Cond.methodLink RX2 40 Lib.Math.min.name, Cond.static Lib.Math.min.name, Cond.initialized "java/lang/Math", Cond.code Lib.Math.min.name Lib.Math.min.code 2 (some .int), Cond.methodLink RX2 45 yJ7_copyOf_59c91, Cond.static yJ7_copyOf_59c91, Cond.code yJ7_copyOf_59c91 cJ7_copyOf_59c91 3 (some (.array .int)), Cond.methodLink RJ7 316 ⟨"[I", "clone", "()Ljava/lang/Object;"⟩, Cond.sameMethod "[I" "java/lang/Object" "clone" "()Ljava/lang/Object;", Cond.native ⟨"java/lang/Object", "clone", "()Ljava/lang/Object;"⟩, Cond.instanceMethod ⟨"java/lang/Object", "clone", "()Ljava/lang/Object;"⟩]
def wsX4_keepAct_r4 : List Cond := [Cond.selects "[I" ⟨"[I", "clone", "()Ljava/lang/Object;"⟩ ⟨"java/lang/Object", "clone", "()Ljava/lang/Object;"⟩, Cond.classLink RJ7 317 "[I", Cond.arrayClass .int, Cond.methodLink RJ7 304 Lib.Math.min.name, Cond.methodLink RJ7 150 arraycopyName, Cond.methodLink RX2 26 yX3_leastPrice, Cond.instanceMethod yX3_leastPrice, Cond.selects RX3 yX3_leastPrice yX3_leastPrice, Cond.code yX3_leastPrice cX3_leastPrice 3 (some .int), Cond.methodLink RX3 51 yX3_priceIn, Cond.static yX3_priceIn, Cond.code yX3_priceIn cX3_priceIn 1 (some .int), Cond.methodLink RX3 135 yJ9_floorDiv_7cf53, Cond.static yJ9_floorDiv_7cf53, Cond.initialized RJ9, Cond.code yJ9_floorDiv_7cf53 cJ9_floorDiv_7cf53 3 (some .int)]
def wsX4_keepAct : List Cond := .code yX4_keepAct cX4_keepAct 1 none :: ((wsX4_keepAct_r1 ++ (wsX4_keepAct_r2 ++ (wsX4_keepAct_r3 ++ wsX4_keepAct_r4))) ++ wsX40 ++ wsX30 ++ wsX10 ++ wsX20)
def wsX4_restart_r1 : List Cond := [Cond.fieldLink RX4 12 "WaysKept" "net" "LWaysKept$Net;", Cond.fieldLink RX4 28 "WaysKept" "past" "LWaysKept$Past;", Cond.fieldLink RX4 158 "WaysKept" "marked" "I", Cond.methodLink RX4 187 yX1_clear, Cond.instanceMethod yX1_clear, Cond.selects RX1 yX1_clear yX1_clear, Cond.initialized RX1, Cond.code yX1_clear cX1_clear 2 none, Cond.fieldLink RX1 28 "WaysKept$Net" "posts" "I", Cond.fieldLink RX1 32 "WaysKept$Net" "lines" "I", Cond.methodLink RX4 190 yX2_clear, Cond.instanceMethod yX2_clear, Cond.selects RX2 yX2_clear yX2_clear, Cond.initialized RX2, Cond.code yX2_clear cX2_clear 1 none, Cond.fieldLink RX2 15 "WaysKept$Past" "rows" "I", Cond.methodLink RX4 70 yX4_keepAct, Cond.instanceMethod yX4_keepAct, Cond.selects RX4 yX4_keepAct yX4_keepAct, Cond.initialized RX4, Cond.code yX4_keepAct cX4_keepAct 1 none, Cond.fieldLink RX4 21 "WaysKept" "ways" "LWaysKept$Ways;", Cond.methodLink RX4 192 yX3_measure, Cond.instanceMethod yX3_measure]
def wsX4_restart_r2 : List Cond := [Cond.selects RX3 yX3_measure yX3_measure, Cond.initialized RX3, Cond.code yX3_measure cX3_measure 2 none, Cond.fieldLink RX3 11 "WaysKept$Ways" "costs" "[I", Cond.constant RX3 24 (2147483647), Cond.fieldLink RX3 20 "WaysKept$Ways" "net" "LWaysKept$Net;", Cond.fieldLink RX3 17 "WaysKept$Ways" "reached" "[I", Cond.methodLink RX3 45 arraycopyName, Cond.native arraycopyName, Cond.static arraycopyName, Cond.initialized "java/lang/System", Cond.methodLink RX3 25 yJ7_fill_53178, Cond.static yJ7_fill_53178, Cond.initialized RJ7, Cond.code yJ7_fill_53178 cJ7_fill_53178 4 none, Cond.methodLink RX3 37 yX3_spread, Cond.instanceMethod yX3_spread, Cond.selects RX3 yX3_spread yX3_spread, Cond.code yX3_spread cX3_spread 7 none, Cond.methodLink RX3 115 yX1_touches, Cond.instanceMethod yX1_touches, Cond.selects RX1 yX1_touches yX1_touches, Cond.code yX1_touches cX1_touches 3 (some .boolean), Cond.fieldLink RX1 9 "WaysKept$Net" "begins" "[I"]
def wsX4_restart_r3 : List Cond := [Cond.fieldLink RX1 15 "WaysKept$Net" "ends" "[I", Cond.methodLink RX3 118 yX3_relax, Cond.instanceMethod yX3_relax, Cond.selects RX3 yX3_relax yX3_relax, Cond.code yX3_relax cX3_relax 6 (some .boolean), Cond.methodLink RX3 122 yX3_costOf, Cond.instanceMethod yX3_costOf, Cond.selects RX3 yX3_costOf yX3_costOf, Cond.code yX3_costOf cX3_costOf 2 (some .int), Cond.methodLink RX3 125 yX3_lower, Cond.instanceMethod yX3_lower, Cond.selects RX3 yX3_lower yX3_lower, Cond.code yX3_lower cX3_lower 4 (some .boolean), Cond.static yX4_pairOf, Cond.code yX4_pairOf cX4_pairOf 2 (some .int), Cond.methodLink RX4 195 yX2_keep, Cond.instanceMethod yX2_keep, Cond.selects RX2 yX2_keep yX2_keep, Cond.code yX2_keep cX2_keep 3 none, Cond.fieldLink RX2 11 "WaysKept$Past" "fars" "[I", Cond.methodLink RX2 19 yX2_isFull, Cond.instanceMethod yX2_isFull, Cond.selects RX2 yX2_isFull yX2_isFull, Cond.code yX2_isFull cX2_isFull 1 (some .boolean)]
def wsX4_restart_r4 : List Cond := [Cond.methodLink RX2 23 yX2_makeRoom, Cond.instanceMethod yX2_makeRoom, Cond.selects RX2 yX2_makeRoom yX2_makeRoom, Cond.code yX2_makeRoom cX2_makeRoom 1 none, Cond.constant RX2 39 (40100), Cond.methodLink RX2 40 Lib.Math.min.name, Cond.static Lib.Math.min.name, Cond.initialized "java/lang/Math", Cond.code Lib.Math.min.name Lib.Math.min.code 2 (some .int), Cond.methodLink RX2 45 yJ7_copyOf_59c91, Cond.static yJ7_copyOf_59c91, Cond.code yJ7_copyOf_59c91 cJ7_copyOf_59c91 3 (some (.array .int)), Cond.methodLink RJ7 316 ⟨"[I", "clone", "()Ljava/lang/Object;"⟩, Cond.sameMethod "[I" "java/lang/Object" "clone" "()Ljava/lang/Object;", Cond.native ⟨"java/lang/Object", "clone", "()Ljava/lang/Object;"⟩, Cond.instanceMethod ⟨"java/lang/Object", "clone", "()Ljava/lang/Object;"⟩, Cond.selects "[I" ⟨"[I", "clone", "()Ljava/lang/Object;"⟩ ⟨"java/lang/Object", "clone", "()Ljava/lang/Object;"⟩, Cond.classLink RJ7 317 "[I", Cond.arrayClass .int, Cond.methodLink RJ7 304 Lib.Math.min.name, Cond.methodLink RJ7 150 arraycopyName, Cond.methodLink RX2 26 yX3_leastPrice, Cond.instanceMethod yX3_leastPrice, Cond.selects RX3 yX3_leastPrice yX3_leastPrice]
def wsX4_restart_r5 : List Cond := [Cond.code yX3_leastPrice cX3_leastPrice 3 (some .int), Cond.methodLink RX3 51 yX3_priceIn, Cond.static yX3_priceIn, Cond.code yX3_priceIn cX3_priceIn 1 (some .int), Cond.methodLink RX3 135 yJ9_floorDiv_7cf53, Cond.static yJ9_floorDiv_7cf53, Cond.initialized RJ9, Cond.code yJ9_floorDiv_7cf53 cJ9_floorDiv_7cf53 3 (some .int)]
def wsX4_restart : List Cond := .code yX4_restart cX4_restart 2 none :: ((wsX4_restart_r1 ++ (wsX4_restart_r2 ++ (wsX4_restart_r3 ++ (wsX4_restart_r4 ++ wsX4_restart_r5)))) ++ wsX40 ++ wsX10 ++ wsX20 ++ wsX30)
def wsX4_init_r1 : List Cond := [Cond.methodLink RX4 3 objectInit, Cond.instanceMethod objectInit, Cond.code objectInit ⟨#[0xb1]⟩ 1 none, Cond.classLink RX4 9 RX1, Cond.instantiable RX1 7, Cond.initialized RX1, Cond.fieldLink RX4 12 "WaysKept" "net" "LWaysKept$Net;", Cond.classLink RX4 16 RX3, Cond.instantiable RX3 3, Cond.initialized RX3, Cond.fieldLink RX4 21 "WaysKept" "ways" "LWaysKept$Ways;", Cond.classLink RX4 25 RX2, Cond.instantiable RX2 2, Cond.initialized RX2, Cond.fieldLink RX4 28 "WaysKept" "past" "LWaysKept$Past;", Cond.classLink RX4 32 RX0, Cond.instantiable RX0 2, Cond.initialized RX0, Cond.fieldLink RX4 35 "WaysKept" "hitting" "LWaysKept$Hitting;", Cond.instanceMethod yX1_init, Cond.code yX1_init cX1_init 1 none, Cond.methodLink RX1 3 objectInit, Cond.arrayClass .int, Cond.fieldLink RX1 9 "WaysKept$Net" "begins" "[I"]
def wsX4_init_r2 : List Cond := [Cond.fieldLink RX1 15 "WaysKept$Net" "ends" "[I", Cond.fieldLink RX1 18 "WaysKept$Net" "prices" "[I", Cond.arrayClass .boolean, Cond.fieldLink RX1 21 "WaysKept$Net" "bothWays" "[Z", Cond.fieldLink RX1 25 "WaysKept$Net" "there" "[Z", Cond.methodLink RX4 18 yX3_init, Cond.instanceMethod yX3_init, Cond.code yX3_init cX3_init 2 none, Cond.methodLink RX3 5 objectInit, Cond.fieldLink RX3 11 "WaysKept$Ways" "costs" "[I", Cond.fieldLink RX3 17 "WaysKept$Ways" "reached" "[I", Cond.fieldLink RX3 20 "WaysKept$Ways" "net" "LWaysKept$Net;", Cond.instanceMethod yX2_init, Cond.code yX2_init cX2_init 1 none, Cond.methodLink RX2 3 objectInit, Cond.fieldLink RX2 11 "WaysKept$Past" "fars" "[I", Cond.instanceMethod yX0_init, Cond.code yX0_init cX0_init 1 none, Cond.methodLink RX0 3 objectInit, Cond.fieldLink RX0 9 "WaysKept$Hitting" "asked" "[I", Cond.methodLink RX4 39 yX4_restart, Cond.instanceMethod yX4_restart, Cond.selects RX4 yX4_restart yX4_restart, Cond.initialized RX4]
def wsX4_init_r3 : List Cond := [Cond.code yX4_restart cX4_restart 2 none, Cond.fieldLink RX4 158 "WaysKept" "marked" "I", Cond.methodLink RX4 187 yX1_clear, Cond.instanceMethod yX1_clear, Cond.selects RX1 yX1_clear yX1_clear, Cond.code yX1_clear cX1_clear 2 none, Cond.fieldLink RX1 28 "WaysKept$Net" "posts" "I", Cond.fieldLink RX1 32 "WaysKept$Net" "lines" "I", Cond.methodLink RX4 190 yX2_clear, Cond.instanceMethod yX2_clear, Cond.selects RX2 yX2_clear yX2_clear, Cond.code yX2_clear cX2_clear 1 none, Cond.fieldLink RX2 15 "WaysKept$Past" "rows" "I", Cond.methodLink RX4 70 yX4_keepAct, Cond.instanceMethod yX4_keepAct, Cond.selects RX4 yX4_keepAct yX4_keepAct, Cond.code yX4_keepAct cX4_keepAct 1 none, Cond.methodLink RX4 192 yX3_measure, Cond.instanceMethod yX3_measure, Cond.selects RX3 yX3_measure yX3_measure, Cond.code yX3_measure cX3_measure 2 none, Cond.constant RX3 24 (2147483647), Cond.methodLink RX3 45 arraycopyName, Cond.native arraycopyName]
def wsX4_init_r4 : List Cond := [Cond.static arraycopyName, Cond.initialized "java/lang/System", Cond.methodLink RX3 25 yJ7_fill_53178, Cond.static yJ7_fill_53178, Cond.initialized RJ7, Cond.code yJ7_fill_53178 cJ7_fill_53178 4 none, Cond.methodLink RX3 37 yX3_spread, Cond.instanceMethod yX3_spread, Cond.selects RX3 yX3_spread yX3_spread, Cond.code yX3_spread cX3_spread 7 none, Cond.methodLink RX3 115 yX1_touches, Cond.instanceMethod yX1_touches, Cond.selects RX1 yX1_touches yX1_touches, Cond.code yX1_touches cX1_touches 3 (some .boolean), Cond.methodLink RX3 118 yX3_relax, Cond.instanceMethod yX3_relax, Cond.selects RX3 yX3_relax yX3_relax, Cond.code yX3_relax cX3_relax 6 (some .boolean), Cond.methodLink RX3 122 yX3_costOf, Cond.instanceMethod yX3_costOf, Cond.selects RX3 yX3_costOf yX3_costOf, Cond.code yX3_costOf cX3_costOf 2 (some .int), Cond.methodLink RX3 125 yX3_lower, Cond.instanceMethod yX3_lower]
def wsX4_init_r5 : List Cond := [Cond.selects RX3 yX3_lower yX3_lower, Cond.code yX3_lower cX3_lower 4 (some .boolean), Cond.static yX4_pairOf, Cond.code yX4_pairOf cX4_pairOf 2 (some .int), Cond.methodLink RX4 195 yX2_keep, Cond.instanceMethod yX2_keep, Cond.selects RX2 yX2_keep yX2_keep, Cond.code yX2_keep cX2_keep 3 none, Cond.methodLink RX2 19 yX2_isFull, Cond.instanceMethod yX2_isFull, Cond.selects RX2 yX2_isFull yX2_isFull, Cond.code yX2_isFull cX2_isFull 1 (some .boolean), Cond.methodLink RX2 23 yX2_makeRoom, Cond.instanceMethod yX2_makeRoom, Cond.selects RX2 yX2_makeRoom yX2_makeRoom, Cond.code yX2_makeRoom cX2_makeRoom 1 none, Cond.constant RX2 39 (40100), Cond.methodLink RX2 40 Lib.Math.min.name, Cond.static Lib.Math.min.name, Cond.initialized "java/lang/Math", Cond.code Lib.Math.min.name Lib.Math.min.code 2 (some .int), Cond.methodLink RX2 45 yJ7_copyOf_59c91, Cond.static yJ7_copyOf_59c91, Cond.code yJ7_copyOf_59c91 cJ7_copyOf_59c91 3 (some (.array .int))]
def wsX4_init_r6 : List Cond := [Cond.methodLink RJ7 316 ⟨"[I", "clone", "()Ljava/lang/Object;"⟩, Cond.sameMethod "[I" "java/lang/Object" "clone" "()Ljava/lang/Object;", Cond.native ⟨"java/lang/Object", "clone", "()Ljava/lang/Object;"⟩, Cond.instanceMethod ⟨"java/lang/Object", "clone", "()Ljava/lang/Object;"⟩, Cond.selects "[I" ⟨"[I", "clone", "()Ljava/lang/Object;"⟩ ⟨"java/lang/Object", "clone", "()Ljava/lang/Object;"⟩, Cond.classLink RJ7 317 "[I", Cond.methodLink RJ7 304 Lib.Math.min.name, Cond.methodLink RJ7 150 arraycopyName, Cond.methodLink RX2 26 yX3_leastPrice, Cond.instanceMethod yX3_leastPrice, Cond.selects RX3 yX3_leastPrice yX3_leastPrice, Cond.code yX3_leastPrice cX3_leastPrice 3 (some .int), Cond.methodLink RX3 51 yX3_priceIn, Cond.static yX3_priceIn, Cond.code yX3_priceIn cX3_priceIn 1 (some .int), Cond.methodLink RX3 135 yJ9_floorDiv_7cf53, Cond.static yJ9_floorDiv_7cf53, Cond.initialized RJ9, Cond.code yJ9_floorDiv_7cf53 cJ9_floorDiv_7cf53 3 (some .int)]
def wsX4_init : List Cond := .code yX4_init cX4_init 1 none :: ((wsX4_init_r1 ++ (wsX4_init_r2 ++ (wsX4_init_r3 ++ (wsX4_init_r4 ++ (wsX4_init_r5 ++ wsX4_init_r6))))) ++ wsX10 ++ wsX40 ++ wsX30 ++ wsX20 ++ wsX00)
def wsX4_posts_r1 : List Cond := [Cond.fieldLink RX4 12 "WaysKept" "net" "LWaysKept$Net;", Cond.methodLink RX4 39 yX4_restart, Cond.instanceMethod yX4_restart, Cond.selects RX4 yX4_restart yX4_restart, Cond.initialized RX4, Cond.code yX4_restart cX4_restart 2 none, Cond.fieldLink RX4 28 "WaysKept" "past" "LWaysKept$Past;", Cond.fieldLink RX4 158 "WaysKept" "marked" "I", Cond.methodLink RX4 187 yX1_clear, Cond.instanceMethod yX1_clear, Cond.selects RX1 yX1_clear yX1_clear, Cond.initialized RX1, Cond.code yX1_clear cX1_clear 2 none, Cond.fieldLink RX1 28 "WaysKept$Net" "posts" "I", Cond.fieldLink RX1 32 "WaysKept$Net" "lines" "I", Cond.methodLink RX4 190 yX2_clear, Cond.instanceMethod yX2_clear, Cond.selects RX2 yX2_clear yX2_clear, Cond.initialized RX2, Cond.code yX2_clear cX2_clear 1 none, Cond.fieldLink RX2 15 "WaysKept$Past" "rows" "I", Cond.methodLink RX4 70 yX4_keepAct, Cond.instanceMethod yX4_keepAct, Cond.selects RX4 yX4_keepAct yX4_keepAct]
def wsX4_posts_r2 : List Cond := [Cond.code yX4_keepAct cX4_keepAct 1 none, Cond.fieldLink RX4 21 "WaysKept" "ways" "LWaysKept$Ways;", Cond.methodLink RX4 192 yX3_measure, Cond.instanceMethod yX3_measure, Cond.selects RX3 yX3_measure yX3_measure, Cond.initialized RX3, Cond.code yX3_measure cX3_measure 2 none, Cond.fieldLink RX3 11 "WaysKept$Ways" "costs" "[I", Cond.constant RX3 24 (2147483647), Cond.fieldLink RX3 20 "WaysKept$Ways" "net" "LWaysKept$Net;", Cond.fieldLink RX3 17 "WaysKept$Ways" "reached" "[I", Cond.methodLink RX3 45 arraycopyName, Cond.native arraycopyName, Cond.static arraycopyName, Cond.initialized "java/lang/System", Cond.methodLink RX3 25 yJ7_fill_53178, Cond.static yJ7_fill_53178, Cond.initialized RJ7, Cond.code yJ7_fill_53178 cJ7_fill_53178 4 none, Cond.methodLink RX3 37 yX3_spread, Cond.instanceMethod yX3_spread, Cond.selects RX3 yX3_spread yX3_spread, Cond.code yX3_spread cX3_spread 7 none, Cond.methodLink RX3 115 yX1_touches]
def wsX4_posts_r3 : List Cond := [Cond.instanceMethod yX1_touches, Cond.selects RX1 yX1_touches yX1_touches, Cond.code yX1_touches cX1_touches 3 (some .boolean), Cond.fieldLink RX1 9 "WaysKept$Net" "begins" "[I", Cond.fieldLink RX1 15 "WaysKept$Net" "ends" "[I", Cond.methodLink RX3 118 yX3_relax, Cond.instanceMethod yX3_relax, Cond.selects RX3 yX3_relax yX3_relax, Cond.code yX3_relax cX3_relax 6 (some .boolean), Cond.methodLink RX3 122 yX3_costOf, Cond.instanceMethod yX3_costOf, Cond.selects RX3 yX3_costOf yX3_costOf, Cond.code yX3_costOf cX3_costOf 2 (some .int), Cond.methodLink RX3 125 yX3_lower, Cond.instanceMethod yX3_lower, Cond.selects RX3 yX3_lower yX3_lower, Cond.code yX3_lower cX3_lower 4 (some .boolean), Cond.static yX4_pairOf, Cond.code yX4_pairOf cX4_pairOf 2 (some .int), Cond.methodLink RX4 195 yX2_keep, Cond.instanceMethod yX2_keep, Cond.selects RX2 yX2_keep yX2_keep, Cond.code yX2_keep cX2_keep 3 none, Cond.fieldLink RX2 11 "WaysKept$Past" "fars" "[I"]
def wsX4_posts_r4 : List Cond := [Cond.methodLink RX2 19 yX2_isFull, Cond.instanceMethod yX2_isFull, Cond.selects RX2 yX2_isFull yX2_isFull, Cond.code yX2_isFull cX2_isFull 1 (some .boolean), Cond.methodLink RX2 23 yX2_makeRoom, Cond.instanceMethod yX2_makeRoom, Cond.selects RX2 yX2_makeRoom yX2_makeRoom, Cond.code yX2_makeRoom cX2_makeRoom 1 none, Cond.constant RX2 39 (40100), Cond.methodLink RX2 40 Lib.Math.min.name, Cond.static Lib.Math.min.name, Cond.initialized "java/lang/Math", Cond.code Lib.Math.min.name Lib.Math.min.code 2 (some .int), Cond.methodLink RX2 45 yJ7_copyOf_59c91, Cond.static yJ7_copyOf_59c91, Cond.code yJ7_copyOf_59c91 cJ7_copyOf_59c91 3 (some (.array .int)), Cond.methodLink RJ7 316 ⟨"[I", "clone", "()Ljava/lang/Object;"⟩, Cond.sameMethod "[I" "java/lang/Object" "clone" "()Ljava/lang/Object;", Cond.native ⟨"java/lang/Object", "clone", "()Ljava/lang/Object;"⟩, Cond.instanceMethod ⟨"java/lang/Object", "clone", "()Ljava/lang/Object;"⟩, Cond.selects "[I" ⟨"[I", "clone", "()Ljava/lang/Object;"⟩ ⟨"java/lang/Object", "clone", "()Ljava/lang/Object;"⟩, Cond.classLink RJ7 317 "[I", Cond.arrayClass .int, Cond.methodLink RJ7 304 Lib.Math.min.name]
def wsX4_posts_r5 : List Cond := [Cond.methodLink RJ7 150 arraycopyName, Cond.methodLink RX2 26 yX3_leastPrice, Cond.instanceMethod yX3_leastPrice, Cond.selects RX3 yX3_leastPrice yX3_leastPrice, Cond.code yX3_leastPrice cX3_leastPrice 3 (some .int), Cond.methodLink RX3 51 yX3_priceIn, Cond.static yX3_priceIn, Cond.code yX3_priceIn cX3_priceIn 1 (some .int), Cond.methodLink RX3 135 yJ9_floorDiv_7cf53, Cond.static yJ9_floorDiv_7cf53, Cond.initialized RJ9, Cond.code yJ9_floorDiv_7cf53 cJ9_floorDiv_7cf53 3 (some .int)]
def wsX4_posts : List Cond := .code yX4_posts cX4_posts 3 (some .int) :: ((wsX4_posts_r1 ++ (wsX4_posts_r2 ++ (wsX4_posts_r3 ++ (wsX4_posts_r4 ++ wsX4_posts_r5)))) ++ wsX40 ++ wsX10 ++ wsX20 ++ wsX30)
def wsX4_mayCost : List Cond := .code yX4_mayCost cX4_mayCost 2 (some .boolean) :: ([])
def wsX4_line_r1 : List Cond := [Cond.fieldLink RX4 12 "WaysKept" "net" "LWaysKept$Net;", Cond.fieldLink RX4 21 "WaysKept" "ways" "LWaysKept$Ways;", Cond.fieldLink RX4 28 "WaysKept" "past" "LWaysKept$Past;", Cond.methodLink RX4 47 yX1_hasPosts, Cond.instanceMethod yX1_hasPosts, Cond.selects RX1 yX1_hasPosts yX1_hasPosts, Cond.initialized RX1, Cond.code yX1_hasPosts cX1_hasPosts 3 (some .boolean), Cond.methodLink RX1 35 yX1_hasPost, Cond.instanceMethod yX1_hasPost, Cond.selects RX1 yX1_hasPost yX1_hasPost, Cond.code yX1_hasPost cX1_hasPost 2 (some .boolean), Cond.fieldLink RX1 28 "WaysKept$Net" "posts" "I", Cond.methodLink RX4 51 yX4_mayCost, Cond.static yX4_mayCost, Cond.initialized RX4, Cond.code yX4_mayCost cX4_mayCost 2 (some .boolean), Cond.methodLink RX4 55 yX3_wouldSink, Cond.instanceMethod yX3_wouldSink, Cond.selects RX3 yX3_wouldSink yX3_wouldSink, Cond.initialized RX3, Cond.code yX3_wouldSink cX3_wouldSink 6 (some .boolean), Cond.methodLink RX3 73 yX3_leastAvoiding, Cond.instanceMethod yX3_leastAvoiding]
def wsX4_line_r2 : List Cond := [Cond.selects RX3 yX3_leastAvoiding yX3_leastAvoiding, Cond.code yX3_leastAvoiding cX3_leastAvoiding 5 (some .int), Cond.fieldLink RX3 17 "WaysKept$Ways" "reached" "[I", Cond.methodLink RX3 37 yX3_spread, Cond.instanceMethod yX3_spread, Cond.selects RX3 yX3_spread yX3_spread, Cond.code yX3_spread cX3_spread 7 none, Cond.constant RX3 24 (2147483647), Cond.fieldLink RX3 20 "WaysKept$Ways" "net" "LWaysKept$Net;", Cond.methodLink RX3 25 yJ7_fill_53178, Cond.static yJ7_fill_53178, Cond.initialized RJ7, Cond.code yJ7_fill_53178 cJ7_fill_53178 4 none, Cond.methodLink RX3 115 yX1_touches, Cond.instanceMethod yX1_touches, Cond.selects RX1 yX1_touches yX1_touches, Cond.code yX1_touches cX1_touches 3 (some .boolean), Cond.fieldLink RX1 9 "WaysKept$Net" "begins" "[I", Cond.fieldLink RX1 15 "WaysKept$Net" "ends" "[I", Cond.methodLink RX3 118 yX3_relax, Cond.instanceMethod yX3_relax, Cond.selects RX3 yX3_relax yX3_relax, Cond.code yX3_relax cX3_relax 6 (some .boolean), Cond.methodLink RX3 122 yX3_costOf]
def wsX4_line_r3 : List Cond := [Cond.instanceMethod yX3_costOf, Cond.selects RX3 yX3_costOf yX3_costOf, Cond.code yX3_costOf cX3_costOf 2 (some .int), Cond.methodLink RX3 125 yX3_lower, Cond.instanceMethod yX3_lower, Cond.selects RX3 yX3_lower yX3_lower, Cond.code yX3_lower cX3_lower 4 (some .boolean), Cond.methodLink RX3 51 yX3_priceIn, Cond.static yX3_priceIn, Cond.code yX3_priceIn cX3_priceIn 1 (some .int), Cond.methodLink RX3 135 yJ9_floorDiv_7cf53, Cond.static yJ9_floorDiv_7cf53, Cond.initialized RJ9, Cond.code yJ9_floorDiv_7cf53 cJ9_floorDiv_7cf53 3 (some .int), Cond.methodLink RX3 80 yX3_closesBelow, Cond.static yX3_closesBelow, Cond.code yX3_closesBelow cX3_closesBelow 2 (some .boolean), Cond.methodLink RX4 62 yX2_isFull, Cond.instanceMethod yX2_isFull, Cond.selects RX2 yX2_isFull yX2_isFull, Cond.initialized RX2, Cond.code yX2_isFull cX2_isFull 1 (some .boolean), Cond.fieldLink RX2 15 "WaysKept$Past" "rows" "I", Cond.methodLink RX4 66 yX1_add]
def wsX4_line_r4 : List Cond := [Cond.instanceMethod yX1_add, Cond.selects RX1 yX1_add yX1_add, Cond.code yX1_add cX1_add 6 (some .int), Cond.fieldLink RX1 32 "WaysKept$Net" "lines" "I", Cond.fieldLink RX1 18 "WaysKept$Net" "prices" "[I", Cond.fieldLink RX1 21 "WaysKept$Net" "bothWays" "[Z", Cond.fieldLink RX1 25 "WaysKept$Net" "there" "[Z", Cond.methodLink RX4 70 yX4_keepAct, Cond.instanceMethod yX4_keepAct, Cond.selects RX4 yX4_keepAct yX4_keepAct, Cond.code yX4_keepAct cX4_keepAct 1 none, Cond.methodLink RX4 192 yX3_measure, Cond.instanceMethod yX3_measure, Cond.selects RX3 yX3_measure yX3_measure, Cond.code yX3_measure cX3_measure 2 none, Cond.fieldLink RX3 11 "WaysKept$Ways" "costs" "[I", Cond.methodLink RX3 45 arraycopyName, Cond.native arraycopyName, Cond.static arraycopyName, Cond.initialized "java/lang/System", Cond.static yX4_pairOf, Cond.code yX4_pairOf cX4_pairOf 2 (some .int), Cond.methodLink RX4 195 yX2_keep, Cond.instanceMethod yX2_keep]
def wsX4_line_r5 : List Cond := [Cond.selects RX2 yX2_keep yX2_keep, Cond.code yX2_keep cX2_keep 3 none, Cond.fieldLink RX2 11 "WaysKept$Past" "fars" "[I", Cond.methodLink RX2 19 yX2_isFull, Cond.methodLink RX2 23 yX2_makeRoom, Cond.instanceMethod yX2_makeRoom, Cond.selects RX2 yX2_makeRoom yX2_makeRoom, Cond.code yX2_makeRoom cX2_makeRoom 1 none, Cond.constant RX2 39 (40100), Cond.methodLink RX2 40 Lib.Math.min.name, Cond.static Lib.Math.min.name, Cond.initialized "java/lang/Math", Cond.code Lib.Math.min.name Lib.Math.min.code 2 (some .int), Cond.methodLink RX2 45 yJ7_copyOf_59c91, Cond.static yJ7_copyOf_59c91, Cond.code yJ7_copyOf_59c91 cJ7_copyOf_59c91 3 (some (.array .int)), Cond.methodLink RJ7 316 ⟨"[I", "clone", "()Ljava/lang/Object;"⟩, Cond.sameMethod "[I" "java/lang/Object" "clone" "()Ljava/lang/Object;", Cond.native ⟨"java/lang/Object", "clone", "()Ljava/lang/Object;"⟩, Cond.instanceMethod ⟨"java/lang/Object", "clone", "()Ljava/lang/Object;"⟩, Cond.selects "[I" ⟨"[I", "clone", "()Ljava/lang/Object;"⟩ ⟨"java/lang/Object", "clone", "()Ljava/lang/Object;"⟩, Cond.classLink RJ7 317 "[I", Cond.arrayClass .int, Cond.methodLink RJ7 304 Lib.Math.min.name]
def wsX4_line_r6 : List Cond := [Cond.methodLink RJ7 150 arraycopyName, Cond.methodLink RX2 26 yX3_leastPrice, Cond.instanceMethod yX3_leastPrice, Cond.selects RX3 yX3_leastPrice yX3_leastPrice, Cond.code yX3_leastPrice cX3_leastPrice 3 (some .int)]
def wsX4_line : List Cond := .code yX4_line cX4_line 6 (some .int) :: ((wsX4_line_r1 ++ (wsX4_line_r2 ++ (wsX4_line_r3 ++ (wsX4_line_r4 ++ (wsX4_line_r5 ++ wsX4_line_r6))))) ++ wsX40 ++ wsX10 ++ wsX30 ++ wsX20)
def wsX4_wouldSinkAt_r1 : List Cond := [Cond.fieldLink RX4 21 "WaysKept" "ways" "LWaysKept$Ways;", Cond.fieldLink RX4 12 "WaysKept" "net" "LWaysKept$Net;", Cond.methodLink RX4 55 yX3_wouldSink, Cond.instanceMethod yX3_wouldSink, Cond.selects RX3 yX3_wouldSink yX3_wouldSink, Cond.initialized RX3, Cond.code yX3_wouldSink cX3_wouldSink 6 (some .boolean), Cond.methodLink RX3 73 yX3_leastAvoiding, Cond.instanceMethod yX3_leastAvoiding, Cond.selects RX3 yX3_leastAvoiding yX3_leastAvoiding, Cond.code yX3_leastAvoiding cX3_leastAvoiding 5 (some .int), Cond.fieldLink RX3 17 "WaysKept$Ways" "reached" "[I", Cond.methodLink RX3 37 yX3_spread, Cond.instanceMethod yX3_spread, Cond.selects RX3 yX3_spread yX3_spread, Cond.code yX3_spread cX3_spread 7 none, Cond.constant RX3 24 (2147483647), Cond.fieldLink RX3 20 "WaysKept$Ways" "net" "LWaysKept$Net;", Cond.methodLink RX3 25 yJ7_fill_53178, Cond.static yJ7_fill_53178, Cond.initialized RJ7, Cond.code yJ7_fill_53178 cJ7_fill_53178 4 none, Cond.methodLink RX3 115 yX1_touches, Cond.instanceMethod yX1_touches]
def wsX4_wouldSinkAt_r2 : List Cond := [Cond.selects RX1 yX1_touches yX1_touches, Cond.initialized RX1, Cond.code yX1_touches cX1_touches 3 (some .boolean), Cond.fieldLink RX1 9 "WaysKept$Net" "begins" "[I", Cond.fieldLink RX1 15 "WaysKept$Net" "ends" "[I", Cond.methodLink RX3 118 yX3_relax, Cond.instanceMethod yX3_relax, Cond.selects RX3 yX3_relax yX3_relax, Cond.code yX3_relax cX3_relax 6 (some .boolean), Cond.methodLink RX3 122 yX3_costOf, Cond.instanceMethod yX3_costOf, Cond.selects RX3 yX3_costOf yX3_costOf, Cond.code yX3_costOf cX3_costOf 2 (some .int), Cond.methodLink RX3 125 yX3_lower, Cond.instanceMethod yX3_lower, Cond.selects RX3 yX3_lower yX3_lower, Cond.code yX3_lower cX3_lower 4 (some .boolean), Cond.methodLink RX3 51 yX3_priceIn, Cond.static yX3_priceIn, Cond.code yX3_priceIn cX3_priceIn 1 (some .int), Cond.methodLink RX3 135 yJ9_floorDiv_7cf53, Cond.static yJ9_floorDiv_7cf53, Cond.initialized RJ9, Cond.code yJ9_floorDiv_7cf53 cJ9_floorDiv_7cf53 3 (some .int)]
def wsX4_wouldSinkAt_r3 : List Cond := [Cond.methodLink RX3 80 yX3_closesBelow, Cond.static yX3_closesBelow, Cond.code yX3_closesBelow cX3_closesBelow 2 (some .boolean)]
def wsX4_wouldSinkAt : List Cond := .code yX4_wouldSinkAt cX4_wouldSinkAt 3 (some .boolean) :: ((wsX4_wouldSinkAt_r1 ++ (wsX4_wouldSinkAt_r2 ++ wsX4_wouldSinkAt_r3)) ++ wsX40 ++ wsX10 ++ wsX30)
def wsX4_price_r1 : List Cond := [Cond.fieldLink RX4 12 "WaysKept" "net" "LWaysKept$Net;", Cond.fieldLink RX4 28 "WaysKept" "past" "LWaysKept$Past;", Cond.methodLink RX4 73 yX1_hasLine, Cond.instanceMethod yX1_hasLine, Cond.selects RX1 yX1_hasLine yX1_hasLine, Cond.initialized RX1, Cond.code yX1_hasLine cX1_hasLine 2 (some .boolean), Cond.fieldLink RX1 32 "WaysKept$Net" "lines" "I", Cond.methodLink RX4 51 yX4_mayCost, Cond.static yX4_mayCost, Cond.initialized RX4, Cond.code yX4_mayCost cX4_mayCost 2 (some .boolean), Cond.methodLink RX4 88 yX4_wouldSinkAt, Cond.instanceMethod yX4_wouldSinkAt, Cond.selects RX4 yX4_wouldSinkAt yX4_wouldSinkAt, Cond.code yX4_wouldSinkAt cX4_wouldSinkAt 3 (some .boolean), Cond.fieldLink RX4 21 "WaysKept" "ways" "LWaysKept$Ways;", Cond.methodLink RX4 55 yX3_wouldSink, Cond.instanceMethod yX3_wouldSink, Cond.selects RX3 yX3_wouldSink yX3_wouldSink, Cond.initialized RX3, Cond.code yX3_wouldSink cX3_wouldSink 6 (some .boolean), Cond.methodLink RX3 73 yX3_leastAvoiding, Cond.instanceMethod yX3_leastAvoiding]
def wsX4_price_r2 : List Cond := [Cond.selects RX3 yX3_leastAvoiding yX3_leastAvoiding, Cond.code yX3_leastAvoiding cX3_leastAvoiding 5 (some .int), Cond.fieldLink RX3 17 "WaysKept$Ways" "reached" "[I", Cond.methodLink RX3 37 yX3_spread, Cond.instanceMethod yX3_spread, Cond.selects RX3 yX3_spread yX3_spread, Cond.code yX3_spread cX3_spread 7 none, Cond.constant RX3 24 (2147483647), Cond.fieldLink RX3 20 "WaysKept$Ways" "net" "LWaysKept$Net;", Cond.methodLink RX3 25 yJ7_fill_53178, Cond.static yJ7_fill_53178, Cond.initialized RJ7, Cond.code yJ7_fill_53178 cJ7_fill_53178 4 none, Cond.methodLink RX3 115 yX1_touches, Cond.instanceMethod yX1_touches, Cond.selects RX1 yX1_touches yX1_touches, Cond.code yX1_touches cX1_touches 3 (some .boolean), Cond.fieldLink RX1 9 "WaysKept$Net" "begins" "[I", Cond.fieldLink RX1 15 "WaysKept$Net" "ends" "[I", Cond.methodLink RX3 118 yX3_relax, Cond.instanceMethod yX3_relax, Cond.selects RX3 yX3_relax yX3_relax, Cond.code yX3_relax cX3_relax 6 (some .boolean), Cond.methodLink RX3 122 yX3_costOf]
def wsX4_price_r3 : List Cond := [Cond.instanceMethod yX3_costOf, Cond.selects RX3 yX3_costOf yX3_costOf, Cond.code yX3_costOf cX3_costOf 2 (some .int), Cond.methodLink RX3 125 yX3_lower, Cond.instanceMethod yX3_lower, Cond.selects RX3 yX3_lower yX3_lower, Cond.code yX3_lower cX3_lower 4 (some .boolean), Cond.methodLink RX3 51 yX3_priceIn, Cond.static yX3_priceIn, Cond.code yX3_priceIn cX3_priceIn 1 (some .int), Cond.methodLink RX3 135 yJ9_floorDiv_7cf53, Cond.static yJ9_floorDiv_7cf53, Cond.initialized RJ9, Cond.code yJ9_floorDiv_7cf53 cJ9_floorDiv_7cf53 3 (some .int), Cond.methodLink RX3 80 yX3_closesBelow, Cond.static yX3_closesBelow, Cond.code yX3_closesBelow cX3_closesBelow 2 (some .boolean), Cond.methodLink RX4 62 yX2_isFull, Cond.instanceMethod yX2_isFull, Cond.selects RX2 yX2_isFull yX2_isFull, Cond.initialized RX2, Cond.code yX2_isFull cX2_isFull 1 (some .boolean), Cond.fieldLink RX2 15 "WaysKept$Past" "rows" "I", Cond.methodLink RX4 70 yX4_keepAct]
def wsX4_price_r4 : List Cond := [Cond.instanceMethod yX4_keepAct, Cond.selects RX4 yX4_keepAct yX4_keepAct, Cond.code yX4_keepAct cX4_keepAct 1 none, Cond.methodLink RX4 192 yX3_measure, Cond.instanceMethod yX3_measure, Cond.selects RX3 yX3_measure yX3_measure, Cond.code yX3_measure cX3_measure 2 none, Cond.fieldLink RX3 11 "WaysKept$Ways" "costs" "[I", Cond.methodLink RX3 45 arraycopyName, Cond.native arraycopyName, Cond.static arraycopyName, Cond.initialized "java/lang/System", Cond.static yX4_pairOf, Cond.code yX4_pairOf cX4_pairOf 2 (some .int), Cond.methodLink RX4 195 yX2_keep, Cond.instanceMethod yX2_keep, Cond.selects RX2 yX2_keep yX2_keep, Cond.code yX2_keep cX2_keep 3 none, Cond.fieldLink RX2 11 "WaysKept$Past" "fars" "[I", Cond.methodLink RX2 19 yX2_isFull, Cond.methodLink RX2 23 yX2_makeRoom, Cond.instanceMethod yX2_makeRoom, Cond.selects RX2 yX2_makeRoom yX2_makeRoom, Cond.code yX2_makeRoom cX2_makeRoom 1 none]
def wsX4_price_r5 : List Cond := [Cond.constant RX2 39 (40100), Cond.methodLink RX2 40 Lib.Math.min.name, Cond.static Lib.Math.min.name, Cond.initialized "java/lang/Math", Cond.code Lib.Math.min.name Lib.Math.min.code 2 (some .int), Cond.methodLink RX2 45 yJ7_copyOf_59c91, Cond.static yJ7_copyOf_59c91, Cond.code yJ7_copyOf_59c91 cJ7_copyOf_59c91 3 (some (.array .int)), Cond.methodLink RJ7 316 ⟨"[I", "clone", "()Ljava/lang/Object;"⟩, Cond.sameMethod "[I" "java/lang/Object" "clone" "()Ljava/lang/Object;", Cond.native ⟨"java/lang/Object", "clone", "()Ljava/lang/Object;"⟩, Cond.instanceMethod ⟨"java/lang/Object", "clone", "()Ljava/lang/Object;"⟩, Cond.selects "[I" ⟨"[I", "clone", "()Ljava/lang/Object;"⟩ ⟨"java/lang/Object", "clone", "()Ljava/lang/Object;"⟩, Cond.classLink RJ7 317 "[I", Cond.arrayClass .int, Cond.methodLink RJ7 304 Lib.Math.min.name, Cond.methodLink RJ7 150 arraycopyName, Cond.methodLink RX2 26 yX3_leastPrice, Cond.instanceMethod yX3_leastPrice, Cond.selects RX3 yX3_leastPrice yX3_leastPrice, Cond.code yX3_leastPrice cX3_leastPrice 3 (some .int)]
def wsX4_price : List Cond := .code yX4_price cX4_price 4 (some .int) :: ((wsX4_price_r1 ++ (wsX4_price_r2 ++ (wsX4_price_r3 ++ (wsX4_price_r4 ++ wsX4_price_r5)))) ++ wsX40 ++ wsX10 ++ wsX30 ++ wsX20)
def wsX4_cut_r1 : List Cond := [Cond.fieldLink RX4 12 "WaysKept" "net" "LWaysKept$Net;", Cond.fieldLink RX4 28 "WaysKept" "past" "LWaysKept$Past;", Cond.methodLink RX4 73 yX1_hasLine, Cond.instanceMethod yX1_hasLine, Cond.selects RX1 yX1_hasLine yX1_hasLine, Cond.initialized RX1, Cond.code yX1_hasLine cX1_hasLine 2 (some .boolean), Cond.fieldLink RX1 32 "WaysKept$Net" "lines" "I", Cond.methodLink RX4 62 yX2_isFull, Cond.instanceMethod yX2_isFull, Cond.selects RX2 yX2_isFull yX2_isFull, Cond.initialized RX2, Cond.code yX2_isFull cX2_isFull 1 (some .boolean), Cond.fieldLink RX2 15 "WaysKept$Past" "rows" "I", Cond.methodLink RX4 70 yX4_keepAct, Cond.instanceMethod yX4_keepAct, Cond.selects RX4 yX4_keepAct yX4_keepAct, Cond.initialized RX4, Cond.code yX4_keepAct cX4_keepAct 1 none, Cond.fieldLink RX4 21 "WaysKept" "ways" "LWaysKept$Ways;", Cond.methodLink RX4 192 yX3_measure, Cond.instanceMethod yX3_measure, Cond.selects RX3 yX3_measure yX3_measure, Cond.initialized RX3]
def wsX4_cut_r2 : List Cond := [Cond.code yX3_measure cX3_measure 2 none, Cond.fieldLink RX3 11 "WaysKept$Ways" "costs" "[I", Cond.constant RX3 24 (2147483647), Cond.fieldLink RX3 20 "WaysKept$Ways" "net" "LWaysKept$Net;", Cond.fieldLink RX3 17 "WaysKept$Ways" "reached" "[I", Cond.methodLink RX3 45 arraycopyName, Cond.native arraycopyName, Cond.static arraycopyName, Cond.initialized "java/lang/System", Cond.methodLink RX3 25 yJ7_fill_53178, Cond.static yJ7_fill_53178, Cond.initialized RJ7, Cond.code yJ7_fill_53178 cJ7_fill_53178 4 none, Cond.methodLink RX3 37 yX3_spread, Cond.instanceMethod yX3_spread, Cond.selects RX3 yX3_spread yX3_spread, Cond.code yX3_spread cX3_spread 7 none, Cond.methodLink RX3 115 yX1_touches, Cond.instanceMethod yX1_touches, Cond.selects RX1 yX1_touches yX1_touches, Cond.code yX1_touches cX1_touches 3 (some .boolean), Cond.fieldLink RX1 9 "WaysKept$Net" "begins" "[I", Cond.fieldLink RX1 15 "WaysKept$Net" "ends" "[I", Cond.methodLink RX3 118 yX3_relax]
def wsX4_cut_r3 : List Cond := [Cond.instanceMethod yX3_relax, Cond.selects RX3 yX3_relax yX3_relax, Cond.code yX3_relax cX3_relax 6 (some .boolean), Cond.methodLink RX3 122 yX3_costOf, Cond.instanceMethod yX3_costOf, Cond.selects RX3 yX3_costOf yX3_costOf, Cond.code yX3_costOf cX3_costOf 2 (some .int), Cond.methodLink RX3 125 yX3_lower, Cond.instanceMethod yX3_lower, Cond.selects RX3 yX3_lower yX3_lower, Cond.code yX3_lower cX3_lower 4 (some .boolean), Cond.static yX4_pairOf, Cond.code yX4_pairOf cX4_pairOf 2 (some .int), Cond.methodLink RX4 195 yX2_keep, Cond.instanceMethod yX2_keep, Cond.selects RX2 yX2_keep yX2_keep, Cond.code yX2_keep cX2_keep 3 none, Cond.fieldLink RX2 11 "WaysKept$Past" "fars" "[I", Cond.methodLink RX2 19 yX2_isFull, Cond.methodLink RX2 23 yX2_makeRoom, Cond.instanceMethod yX2_makeRoom, Cond.selects RX2 yX2_makeRoom yX2_makeRoom, Cond.code yX2_makeRoom cX2_makeRoom 1 none, Cond.constant RX2 39 (40100)]
def wsX4_cut_r4 : List Cond := [Cond.methodLink RX2 40 Lib.Math.min.name, Cond.static Lib.Math.min.name, Cond.initialized "java/lang/Math", Cond.code Lib.Math.min.name Lib.Math.min.code 2 (some .int), Cond.methodLink RX2 45 yJ7_copyOf_59c91, Cond.static yJ7_copyOf_59c91, Cond.code yJ7_copyOf_59c91 cJ7_copyOf_59c91 3 (some (.array .int)), Cond.methodLink RJ7 316 ⟨"[I", "clone", "()Ljava/lang/Object;"⟩, Cond.sameMethod "[I" "java/lang/Object" "clone" "()Ljava/lang/Object;", Cond.native ⟨"java/lang/Object", "clone", "()Ljava/lang/Object;"⟩, Cond.instanceMethod ⟨"java/lang/Object", "clone", "()Ljava/lang/Object;"⟩, Cond.selects "[I" ⟨"[I", "clone", "()Ljava/lang/Object;"⟩ ⟨"java/lang/Object", "clone", "()Ljava/lang/Object;"⟩, Cond.classLink RJ7 317 "[I", Cond.arrayClass .int, Cond.methodLink RJ7 304 Lib.Math.min.name, Cond.methodLink RJ7 150 arraycopyName, Cond.methodLink RX2 26 yX3_leastPrice, Cond.instanceMethod yX3_leastPrice, Cond.selects RX3 yX3_leastPrice yX3_leastPrice, Cond.code yX3_leastPrice cX3_leastPrice 3 (some .int), Cond.methodLink RX3 51 yX3_priceIn, Cond.static yX3_priceIn, Cond.code yX3_priceIn cX3_priceIn 1 (some .int), Cond.methodLink RX3 135 yJ9_floorDiv_7cf53]
def wsX4_cut_r5 : List Cond := [Cond.static yJ9_floorDiv_7cf53, Cond.initialized RJ9, Cond.code yJ9_floorDiv_7cf53 cJ9_floorDiv_7cf53 3 (some .int), Cond.methodLink RX4 91 yX1_countThere, Cond.instanceMethod yX1_countThere, Cond.selects RX1 yX1_countThere yX1_countThere, Cond.code yX1_countThere cX1_countThere 3 (some .int), Cond.fieldLink RX1 25 "WaysKept$Net" "there" "[Z"]
def wsX4_cut : List Cond := .code yX4_cut cX4_cut 2 (some .int) :: ((wsX4_cut_r1 ++ (wsX4_cut_r2 ++ (wsX4_cut_r3 ++ (wsX4_cut_r4 ++ wsX4_cut_r5)))) ++ wsX40 ++ wsX10 ++ wsX20 ++ wsX30)
def wsX4_back_r1 : List Cond := [Cond.fieldLink RX4 12 "WaysKept" "net" "LWaysKept$Net;", Cond.fieldLink RX4 28 "WaysKept" "past" "LWaysKept$Past;", Cond.methodLink RX4 73 yX1_hasLine, Cond.instanceMethod yX1_hasLine, Cond.selects RX1 yX1_hasLine yX1_hasLine, Cond.initialized RX1, Cond.code yX1_hasLine cX1_hasLine 2 (some .boolean), Cond.fieldLink RX1 32 "WaysKept$Net" "lines" "I", Cond.methodLink RX4 88 yX4_wouldSinkAt, Cond.instanceMethod yX4_wouldSinkAt, Cond.selects RX4 yX4_wouldSinkAt yX4_wouldSinkAt, Cond.initialized RX4, Cond.code yX4_wouldSinkAt cX4_wouldSinkAt 3 (some .boolean), Cond.fieldLink RX4 21 "WaysKept" "ways" "LWaysKept$Ways;", Cond.methodLink RX4 55 yX3_wouldSink, Cond.instanceMethod yX3_wouldSink, Cond.selects RX3 yX3_wouldSink yX3_wouldSink, Cond.initialized RX3, Cond.code yX3_wouldSink cX3_wouldSink 6 (some .boolean), Cond.methodLink RX3 73 yX3_leastAvoiding, Cond.instanceMethod yX3_leastAvoiding, Cond.selects RX3 yX3_leastAvoiding yX3_leastAvoiding, Cond.code yX3_leastAvoiding cX3_leastAvoiding 5 (some .int), Cond.fieldLink RX3 17 "WaysKept$Ways" "reached" "[I"]
def wsX4_back_r2 : List Cond := [Cond.methodLink RX3 37 yX3_spread, Cond.instanceMethod yX3_spread, Cond.selects RX3 yX3_spread yX3_spread, Cond.code yX3_spread cX3_spread 7 none, Cond.constant RX3 24 (2147483647), Cond.fieldLink RX3 20 "WaysKept$Ways" "net" "LWaysKept$Net;", Cond.methodLink RX3 25 yJ7_fill_53178, Cond.static yJ7_fill_53178, Cond.initialized RJ7, Cond.code yJ7_fill_53178 cJ7_fill_53178 4 none, Cond.methodLink RX3 115 yX1_touches, Cond.instanceMethod yX1_touches, Cond.selects RX1 yX1_touches yX1_touches, Cond.code yX1_touches cX1_touches 3 (some .boolean), Cond.fieldLink RX1 9 "WaysKept$Net" "begins" "[I", Cond.fieldLink RX1 15 "WaysKept$Net" "ends" "[I", Cond.methodLink RX3 118 yX3_relax, Cond.instanceMethod yX3_relax, Cond.selects RX3 yX3_relax yX3_relax, Cond.code yX3_relax cX3_relax 6 (some .boolean), Cond.methodLink RX3 122 yX3_costOf, Cond.instanceMethod yX3_costOf, Cond.selects RX3 yX3_costOf yX3_costOf, Cond.code yX3_costOf cX3_costOf 2 (some .int)]
def wsX4_back_r3 : List Cond := [Cond.methodLink RX3 125 yX3_lower, Cond.instanceMethod yX3_lower, Cond.selects RX3 yX3_lower yX3_lower, Cond.code yX3_lower cX3_lower 4 (some .boolean), Cond.methodLink RX3 51 yX3_priceIn, Cond.static yX3_priceIn, Cond.code yX3_priceIn cX3_priceIn 1 (some .int), Cond.methodLink RX3 135 yJ9_floorDiv_7cf53, Cond.static yJ9_floorDiv_7cf53, Cond.initialized RJ9, Cond.code yJ9_floorDiv_7cf53 cJ9_floorDiv_7cf53 3 (some .int), Cond.methodLink RX3 80 yX3_closesBelow, Cond.static yX3_closesBelow, Cond.code yX3_closesBelow cX3_closesBelow 2 (some .boolean), Cond.methodLink RX4 62 yX2_isFull, Cond.instanceMethod yX2_isFull, Cond.selects RX2 yX2_isFull yX2_isFull, Cond.initialized RX2, Cond.code yX2_isFull cX2_isFull 1 (some .boolean), Cond.fieldLink RX2 15 "WaysKept$Past" "rows" "I", Cond.methodLink RX4 70 yX4_keepAct, Cond.instanceMethod yX4_keepAct, Cond.selects RX4 yX4_keepAct yX4_keepAct, Cond.code yX4_keepAct cX4_keepAct 1 none]
def wsX4_back_r4 : List Cond := [Cond.methodLink RX4 192 yX3_measure, Cond.instanceMethod yX3_measure, Cond.selects RX3 yX3_measure yX3_measure, Cond.code yX3_measure cX3_measure 2 none, Cond.fieldLink RX3 11 "WaysKept$Ways" "costs" "[I", Cond.methodLink RX3 45 arraycopyName, Cond.native arraycopyName, Cond.static arraycopyName, Cond.initialized "java/lang/System", Cond.static yX4_pairOf, Cond.code yX4_pairOf cX4_pairOf 2 (some .int), Cond.methodLink RX4 195 yX2_keep, Cond.instanceMethod yX2_keep, Cond.selects RX2 yX2_keep yX2_keep, Cond.code yX2_keep cX2_keep 3 none, Cond.fieldLink RX2 11 "WaysKept$Past" "fars" "[I", Cond.methodLink RX2 19 yX2_isFull, Cond.methodLink RX2 23 yX2_makeRoom, Cond.instanceMethod yX2_makeRoom, Cond.selects RX2 yX2_makeRoom yX2_makeRoom, Cond.code yX2_makeRoom cX2_makeRoom 1 none, Cond.constant RX2 39 (40100), Cond.methodLink RX2 40 Lib.Math.min.name, Cond.static Lib.Math.min.name]
def wsX4_back_r5 : List Cond := [Cond.initialized "java/lang/Math", Cond.code Lib.Math.min.name Lib.Math.min.code 2 (some .int), Cond.methodLink RX2 45 yJ7_copyOf_59c91, Cond.static yJ7_copyOf_59c91, Cond.code yJ7_copyOf_59c91 cJ7_copyOf_59c91 3 (some (.array .int)), Cond.methodLink RJ7 316 ⟨"[I", "clone", "()Ljava/lang/Object;"⟩, Cond.sameMethod "[I" "java/lang/Object" "clone" "()Ljava/lang/Object;", Cond.native ⟨"java/lang/Object", "clone", "()Ljava/lang/Object;"⟩, Cond.instanceMethod ⟨"java/lang/Object", "clone", "()Ljava/lang/Object;"⟩, Cond.selects "[I" ⟨"[I", "clone", "()Ljava/lang/Object;"⟩ ⟨"java/lang/Object", "clone", "()Ljava/lang/Object;"⟩, Cond.classLink RJ7 317 "[I", Cond.arrayClass .int, Cond.methodLink RJ7 304 Lib.Math.min.name, Cond.methodLink RJ7 150 arraycopyName, Cond.methodLink RX2 26 yX3_leastPrice, Cond.instanceMethod yX3_leastPrice, Cond.selects RX3 yX3_leastPrice yX3_leastPrice, Cond.code yX3_leastPrice cX3_leastPrice 3 (some .int), Cond.methodLink RX4 91 yX1_countThere, Cond.instanceMethod yX1_countThere, Cond.selects RX1 yX1_countThere yX1_countThere, Cond.code yX1_countThere cX1_countThere 3 (some .int), Cond.fieldLink RX1 25 "WaysKept$Net" "there" "[Z"]
def wsX4_back : List Cond := .code yX4_back cX4_back 2 (some .int) :: ((wsX4_back_r1 ++ (wsX4_back_r2 ++ (wsX4_back_r3 ++ (wsX4_back_r4 ++ wsX4_back_r5)))) ++ wsX40 ++ wsX10 ++ wsX30 ++ wsX20)
def wsX4_asNumber : List Cond := .code yX4_asNumber cX4_asNumber 1 (some .int) :: ([])
def wsX4_told_r1 : List Cond := [Cond.fieldLink RX4 12 "WaysKept" "net" "LWaysKept$Net;", Cond.fieldLink RX4 21 "WaysKept" "ways" "LWaysKept$Ways;", Cond.methodLink RX4 73 yX1_hasLine, Cond.instanceMethod yX1_hasLine, Cond.selects RX1 yX1_hasLine yX1_hasLine, Cond.initialized RX1, Cond.code yX1_hasLine cX1_hasLine 2 (some .boolean), Cond.fieldLink RX1 32 "WaysKept$Net" "lines" "I", Cond.methodLink RX4 101 yX4_asNumber, Cond.static yX4_asNumber, Cond.initialized RX4, Cond.code yX4_asNumber cX4_asNumber 1 (some .int), Cond.methodLink RX4 105 yX3_lifted, Cond.instanceMethod yX3_lifted, Cond.selects RX3 yX3_lifted yX3_lifted, Cond.initialized RX3, Cond.code yX3_lifted cX3_lifted 4 (some .int), Cond.fieldLink RX3 20 "WaysKept$Ways" "net" "LWaysKept$Net;", Cond.methodLink RX3 93 Lib.Math.min.name, Cond.static Lib.Math.min.name, Cond.initialized "java/lang/Math", Cond.code Lib.Math.min.name Lib.Math.min.code 2 (some .int), Cond.methodLink RX3 102 yX3_heightOf, Cond.instanceMethod yX3_heightOf]
def wsX4_told_r2 : List Cond := [Cond.selects RX3 yX3_heightOf yX3_heightOf, Cond.code yX3_heightOf cX3_heightOf 4 (some .int), Cond.methodLink RX3 90 yX3_leads, Cond.instanceMethod yX3_leads, Cond.selects RX3 yX3_leads yX3_leads, Cond.code yX3_leads cX3_leads 3 (some .boolean), Cond.fieldLink RX3 11 "WaysKept$Ways" "costs" "[I", Cond.constant RX3 24 (2147483647), Cond.static yX4_pairOf, Cond.code yX4_pairOf cX4_pairOf 2 (some .int), Cond.methodLink RX3 77 yX3_leastPrice, Cond.instanceMethod yX3_leastPrice, Cond.selects RX3 yX3_leastPrice yX3_leastPrice, Cond.code yX3_leastPrice cX3_leastPrice 3 (some .int), Cond.methodLink RX3 51 yX3_priceIn, Cond.static yX3_priceIn, Cond.code yX3_priceIn cX3_priceIn 1 (some .int), Cond.methodLink RX3 135 yJ9_floorDiv_7cf53, Cond.static yJ9_floorDiv_7cf53, Cond.initialized RJ9, Cond.code yJ9_floorDiv_7cf53 cJ9_floorDiv_7cf53 3 (some .int)]
def wsX4_told : List Cond := .code yX4_told cX4_told 3 (some .int) :: ((wsX4_told_r1 ++ wsX4_told_r2) ++ wsX40 ++ wsX10 ++ wsX30)
def wsX4_far_r1 : List Cond := [Cond.fieldLink RX4 12 "WaysKept" "net" "LWaysKept$Net;", Cond.fieldLink RX4 21 "WaysKept" "ways" "LWaysKept$Ways;", Cond.methodLink RX4 47 yX1_hasPosts, Cond.instanceMethod yX1_hasPosts, Cond.selects RX1 yX1_hasPosts yX1_hasPosts, Cond.initialized RX1, Cond.code yX1_hasPosts cX1_hasPosts 3 (some .boolean), Cond.methodLink RX1 35 yX1_hasPost, Cond.instanceMethod yX1_hasPost, Cond.selects RX1 yX1_hasPost yX1_hasPost, Cond.code yX1_hasPost cX1_hasPost 2 (some .boolean), Cond.fieldLink RX1 28 "WaysKept$Net" "posts" "I", Cond.methodLink RX4 109 yX3_leastPrice, Cond.instanceMethod yX3_leastPrice, Cond.selects RX3 yX3_leastPrice yX3_leastPrice, Cond.initialized RX3, Cond.code yX3_leastPrice cX3_leastPrice 3 (some .int), Cond.fieldLink RX3 11 "WaysKept$Ways" "costs" "[I", Cond.static yX4_pairOf, Cond.initialized RX4, Cond.code yX4_pairOf cX4_pairOf 2 (some .int), Cond.methodLink RX3 51 yX3_priceIn, Cond.static yX3_priceIn, Cond.code yX3_priceIn cX3_priceIn 1 (some .int)]
def wsX4_far_r2 : List Cond := [Cond.constant RX3 24 (2147483647), Cond.methodLink RX3 135 yJ9_floorDiv_7cf53, Cond.static yJ9_floorDiv_7cf53, Cond.initialized RJ9, Cond.code yJ9_floorDiv_7cf53 cJ9_floorDiv_7cf53 3 (some .int)]
def wsX4_far : List Cond := .code yX4_far cX4_far 3 (some .int) :: ((wsX4_far_r1 ++ wsX4_far_r2) ++ wsX40 ++ wsX10 ++ wsX30)
def wsX4_steps_r1 : List Cond := [Cond.fieldLink RX4 12 "WaysKept" "net" "LWaysKept$Net;", Cond.fieldLink RX4 21 "WaysKept" "ways" "LWaysKept$Ways;", Cond.methodLink RX4 47 yX1_hasPosts, Cond.instanceMethod yX1_hasPosts, Cond.selects RX1 yX1_hasPosts yX1_hasPosts, Cond.initialized RX1, Cond.code yX1_hasPosts cX1_hasPosts 3 (some .boolean), Cond.methodLink RX1 35 yX1_hasPost, Cond.instanceMethod yX1_hasPost, Cond.selects RX1 yX1_hasPost yX1_hasPost, Cond.code yX1_hasPost cX1_hasPost 2 (some .boolean), Cond.fieldLink RX1 28 "WaysKept$Net" "posts" "I", Cond.methodLink RX4 113 yX3_length, Cond.instanceMethod yX3_length, Cond.selects RX3 yX3_length yX3_length, Cond.initialized RX3, Cond.code yX3_length cX3_length 4 (some .int), Cond.fieldLink RX3 11 "WaysKept$Ways" "costs" "[I", Cond.constant RX3 24 (2147483647), Cond.static yX4_pairOf, Cond.initialized RX4, Cond.code yX4_pairOf cX4_pairOf 2 (some .int), Cond.methodLink RX3 55 yJ9_floorMod_7cf53, Cond.static yJ9_floorMod_7cf53]
def wsX4_steps_r2 : List Cond := [Cond.initialized RJ9, Cond.code yJ9_floorMod_7cf53 cJ9_floorMod_7cf53 3 (some .int)]
def wsX4_steps : List Cond := .code yX4_steps cX4_steps 3 (some .int) :: ((wsX4_steps_r1 ++ wsX4_steps_r2) ++ wsX40 ++ wsX10 ++ wsX30)
def wsX4_way_r1 : List Cond := [Cond.fieldLink RX4 12 "WaysKept" "net" "LWaysKept$Net;", Cond.fieldLink RX4 21 "WaysKept" "ways" "LWaysKept$Ways;", Cond.methodLink RX4 47 yX1_hasPosts, Cond.instanceMethod yX1_hasPosts, Cond.selects RX1 yX1_hasPosts yX1_hasPosts, Cond.initialized RX1, Cond.code yX1_hasPosts cX1_hasPosts 3 (some .boolean), Cond.methodLink RX1 35 yX1_hasPost, Cond.instanceMethod yX1_hasPost, Cond.selects RX1 yX1_hasPost yX1_hasPost, Cond.code yX1_hasPost cX1_hasPost 2 (some .boolean), Cond.fieldLink RX1 28 "WaysKept$Net" "posts" "I", Cond.methodLink RX4 116 yX3_lineAt, Cond.instanceMethod yX3_lineAt, Cond.selects RX3 yX3_lineAt yX3_lineAt, Cond.initialized RX3, Cond.code yX3_lineAt cX3_lineAt 6 (some .int), Cond.fieldLink RX3 20 "WaysKept$Ways" "net" "LWaysKept$Net;", Cond.methodLink RX3 60 yX3_length, Cond.instanceMethod yX3_length, Cond.selects RX3 yX3_length yX3_length, Cond.code yX3_length cX3_length 4 (some .int), Cond.fieldLink RX3 11 "WaysKept$Ways" "costs" "[I", Cond.constant RX3 24 (2147483647)]
def wsX4_way_r2 : List Cond := [Cond.static yX4_pairOf, Cond.initialized RX4, Cond.code yX4_pairOf cX4_pairOf 2 (some .int), Cond.methodLink RX3 55 yJ9_floorMod_7cf53, Cond.static yJ9_floorMod_7cf53, Cond.initialized RJ9, Cond.code yJ9_floorMod_7cf53 cJ9_floorMod_7cf53 3 (some .int), Cond.methodLink RX3 63 yX3_lineToward, Cond.instanceMethod yX3_lineToward, Cond.selects RX3 yX3_lineToward yX3_lineToward, Cond.code yX3_lineToward cX3_lineToward 6 (some .int), Cond.methodLink RX3 128 yX1_hasPost, Cond.methodLink RX3 90 yX3_leads, Cond.instanceMethod yX3_leads, Cond.selects RX3 yX3_leads yX3_leads, Cond.code yX3_leads cX3_leads 3 (some .boolean), Cond.methodLink RX3 66 yX1_target, Cond.instanceMethod yX1_target, Cond.selects RX1 yX1_target yX1_target, Cond.code yX1_target cX1_target 3 (some .int), Cond.fieldLink RX1 25 "WaysKept$Net" "there" "[Z", Cond.fieldLink RX1 9 "WaysKept$Net" "begins" "[I", Cond.fieldLink RX1 15 "WaysKept$Net" "ends" "[I", Cond.fieldLink RX1 21 "WaysKept$Net" "bothWays" "[Z"]
def wsX4_way_r3 : List Cond := [Cond.methodLink RX1 39 yX1_hasLine, Cond.instanceMethod yX1_hasLine, Cond.selects RX1 yX1_hasLine yX1_hasLine, Cond.code yX1_hasLine cX1_hasLine 2 (some .boolean), Cond.fieldLink RX1 32 "WaysKept$Net" "lines" "I", Cond.methodLink RX3 122 yX3_costOf, Cond.instanceMethod yX3_costOf, Cond.selects RX3 yX3_costOf yX3_costOf, Cond.code yX3_costOf cX3_costOf 2 (some .int)]
def wsX4_way : List Cond := .code yX4_way cX4_way 4 (some .int) :: ((wsX4_way_r1 ++ (wsX4_way_r2 ++ wsX4_way_r3)) ++ wsX40 ++ wsX10 ++ wsX30)
def wsX4_without_r1 : List Cond := [Cond.fieldLink RX4 12 "WaysKept" "net" "LWaysKept$Net;", Cond.fieldLink RX4 21 "WaysKept" "ways" "LWaysKept$Ways;", Cond.methodLink RX4 47 yX1_hasPosts, Cond.instanceMethod yX1_hasPosts, Cond.selects RX1 yX1_hasPosts yX1_hasPosts, Cond.initialized RX1, Cond.code yX1_hasPosts cX1_hasPosts 3 (some .boolean), Cond.methodLink RX1 35 yX1_hasPost, Cond.instanceMethod yX1_hasPost, Cond.selects RX1 yX1_hasPost yX1_hasPost, Cond.code yX1_hasPost cX1_hasPost 2 (some .boolean), Cond.fieldLink RX1 28 "WaysKept$Net" "posts" "I", Cond.methodLink RX4 73 yX1_hasLine, Cond.instanceMethod yX1_hasLine, Cond.selects RX1 yX1_hasLine yX1_hasLine, Cond.code yX1_hasLine cX1_hasLine 2 (some .boolean), Cond.fieldLink RX1 32 "WaysKept$Net" "lines" "I", Cond.methodLink RX4 120 yX3_leastAvoiding, Cond.instanceMethod yX3_leastAvoiding, Cond.selects RX3 yX3_leastAvoiding yX3_leastAvoiding, Cond.initialized RX3, Cond.code yX3_leastAvoiding cX3_leastAvoiding 5 (some .int), Cond.fieldLink RX3 17 "WaysKept$Ways" "reached" "[I", Cond.methodLink RX3 37 yX3_spread]
def wsX4_without_r2 : List Cond := [Cond.instanceMethod yX3_spread, Cond.selects RX3 yX3_spread yX3_spread, Cond.code yX3_spread cX3_spread 7 none, Cond.constant RX3 24 (2147483647), Cond.fieldLink RX3 20 "WaysKept$Ways" "net" "LWaysKept$Net;", Cond.methodLink RX3 25 yJ7_fill_53178, Cond.static yJ7_fill_53178, Cond.initialized RJ7, Cond.code yJ7_fill_53178 cJ7_fill_53178 4 none, Cond.methodLink RX3 115 yX1_touches, Cond.instanceMethod yX1_touches, Cond.selects RX1 yX1_touches yX1_touches, Cond.code yX1_touches cX1_touches 3 (some .boolean), Cond.fieldLink RX1 9 "WaysKept$Net" "begins" "[I", Cond.fieldLink RX1 15 "WaysKept$Net" "ends" "[I", Cond.methodLink RX3 118 yX3_relax, Cond.instanceMethod yX3_relax, Cond.selects RX3 yX3_relax yX3_relax, Cond.code yX3_relax cX3_relax 6 (some .boolean), Cond.methodLink RX3 122 yX3_costOf, Cond.instanceMethod yX3_costOf, Cond.selects RX3 yX3_costOf yX3_costOf, Cond.code yX3_costOf cX3_costOf 2 (some .int), Cond.methodLink RX3 125 yX3_lower]
def wsX4_without_r3 : List Cond := [Cond.instanceMethod yX3_lower, Cond.selects RX3 yX3_lower yX3_lower, Cond.code yX3_lower cX3_lower 4 (some .boolean), Cond.methodLink RX3 51 yX3_priceIn, Cond.static yX3_priceIn, Cond.code yX3_priceIn cX3_priceIn 1 (some .int), Cond.methodLink RX3 135 yJ9_floorDiv_7cf53, Cond.static yJ9_floorDiv_7cf53, Cond.initialized RJ9, Cond.code yJ9_floorDiv_7cf53 cJ9_floorDiv_7cf53 3 (some .int)]
def wsX4_without : List Cond := .code yX4_without cX4_without 4 (some .int) :: ((wsX4_without_r1 ++ (wsX4_without_r2 ++ wsX4_without_r3)) ++ wsX40 ++ wsX10 ++ wsX30)
def wsX4_vital_r1 : List Cond := [Cond.fieldLink RX4 12 "WaysKept" "net" "LWaysKept$Net;", Cond.fieldLink RX4 21 "WaysKept" "ways" "LWaysKept$Ways;", Cond.methodLink RX4 47 yX1_hasPosts, Cond.instanceMethod yX1_hasPosts, Cond.selects RX1 yX1_hasPosts yX1_hasPosts, Cond.initialized RX1, Cond.code yX1_hasPosts cX1_hasPosts 3 (some .boolean), Cond.methodLink RX1 35 yX1_hasPost, Cond.instanceMethod yX1_hasPost, Cond.selects RX1 yX1_hasPost yX1_hasPost, Cond.code yX1_hasPost cX1_hasPost 2 (some .boolean), Cond.fieldLink RX1 28 "WaysKept$Net" "posts" "I", Cond.methodLink RX4 124 yX3_isVital, Cond.instanceMethod yX3_isVital, Cond.selects RX3 yX3_isVital yX3_isVital, Cond.initialized RX3, Cond.code yX3_isVital cX3_isVital 4 (some .boolean), Cond.methodLink RX3 69 yX3_isOnWay, Cond.instanceMethod yX3_isOnWay, Cond.selects RX3 yX3_isOnWay yX3_isOnWay, Cond.code yX3_isOnWay cX3_isOnWay 5 (some .boolean), Cond.methodLink RX3 60 yX3_length, Cond.instanceMethod yX3_length, Cond.selects RX3 yX3_length yX3_length]
def wsX4_vital_r2 : List Cond := [Cond.code yX3_length cX3_length 4 (some .int), Cond.fieldLink RX3 11 "WaysKept$Ways" "costs" "[I", Cond.constant RX3 24 (2147483647), Cond.static yX4_pairOf, Cond.initialized RX4, Cond.code yX4_pairOf cX4_pairOf 2 (some .int), Cond.methodLink RX3 55 yJ9_floorMod_7cf53, Cond.static yJ9_floorMod_7cf53, Cond.initialized RJ9, Cond.code yJ9_floorMod_7cf53 cJ9_floorMod_7cf53 3 (some .int), Cond.methodLink RX3 131 yX3_lineAt, Cond.instanceMethod yX3_lineAt, Cond.selects RX3 yX3_lineAt yX3_lineAt, Cond.code yX3_lineAt cX3_lineAt 6 (some .int), Cond.fieldLink RX3 20 "WaysKept$Ways" "net" "LWaysKept$Net;", Cond.methodLink RX3 63 yX3_lineToward, Cond.instanceMethod yX3_lineToward, Cond.selects RX3 yX3_lineToward yX3_lineToward, Cond.code yX3_lineToward cX3_lineToward 6 (some .int), Cond.methodLink RX3 128 yX1_hasPost, Cond.methodLink RX3 90 yX3_leads, Cond.instanceMethod yX3_leads, Cond.selects RX3 yX3_leads yX3_leads, Cond.code yX3_leads cX3_leads 3 (some .boolean)]
def wsX4_vital_r3 : List Cond := [Cond.methodLink RX3 66 yX1_target, Cond.instanceMethod yX1_target, Cond.selects RX1 yX1_target yX1_target, Cond.code yX1_target cX1_target 3 (some .int), Cond.fieldLink RX1 25 "WaysKept$Net" "there" "[Z", Cond.fieldLink RX1 9 "WaysKept$Net" "begins" "[I", Cond.fieldLink RX1 15 "WaysKept$Net" "ends" "[I", Cond.fieldLink RX1 21 "WaysKept$Net" "bothWays" "[Z", Cond.methodLink RX1 39 yX1_hasLine, Cond.instanceMethod yX1_hasLine, Cond.selects RX1 yX1_hasLine yX1_hasLine, Cond.code yX1_hasLine cX1_hasLine 2 (some .boolean), Cond.fieldLink RX1 32 "WaysKept$Net" "lines" "I", Cond.methodLink RX3 122 yX3_costOf, Cond.instanceMethod yX3_costOf, Cond.selects RX3 yX3_costOf yX3_costOf, Cond.code yX3_costOf cX3_costOf 2 (some .int), Cond.methodLink RX3 73 yX3_leastAvoiding, Cond.instanceMethod yX3_leastAvoiding, Cond.selects RX3 yX3_leastAvoiding yX3_leastAvoiding, Cond.code yX3_leastAvoiding cX3_leastAvoiding 5 (some .int), Cond.fieldLink RX3 17 "WaysKept$Ways" "reached" "[I", Cond.methodLink RX3 37 yX3_spread, Cond.instanceMethod yX3_spread]
def wsX4_vital_r4 : List Cond := [Cond.selects RX3 yX3_spread yX3_spread, Cond.code yX3_spread cX3_spread 7 none, Cond.methodLink RX3 25 yJ7_fill_53178, Cond.static yJ7_fill_53178, Cond.initialized RJ7, Cond.code yJ7_fill_53178 cJ7_fill_53178 4 none, Cond.methodLink RX3 115 yX1_touches, Cond.instanceMethod yX1_touches, Cond.selects RX1 yX1_touches yX1_touches, Cond.code yX1_touches cX1_touches 3 (some .boolean), Cond.methodLink RX3 118 yX3_relax, Cond.instanceMethod yX3_relax, Cond.selects RX3 yX3_relax yX3_relax, Cond.code yX3_relax cX3_relax 6 (some .boolean), Cond.methodLink RX3 125 yX3_lower, Cond.instanceMethod yX3_lower, Cond.selects RX3 yX3_lower yX3_lower, Cond.code yX3_lower cX3_lower 4 (some .boolean), Cond.methodLink RX3 51 yX3_priceIn, Cond.static yX3_priceIn, Cond.code yX3_priceIn cX3_priceIn 1 (some .int), Cond.methodLink RX3 135 yJ9_floorDiv_7cf53, Cond.static yJ9_floorDiv_7cf53, Cond.code yJ9_floorDiv_7cf53 cJ9_floorDiv_7cf53 3 (some .int)]
def wsX4_vital_r5 : List Cond := [Cond.methodLink RX3 77 yX3_leastPrice, Cond.instanceMethod yX3_leastPrice, Cond.selects RX3 yX3_leastPrice yX3_leastPrice, Cond.code yX3_leastPrice cX3_leastPrice 3 (some .int)]
def wsX4_vital : List Cond := .code yX4_vital cX4_vital 6 (some .int) :: ((wsX4_vital_r1 ++ (wsX4_vital_r2 ++ (wsX4_vital_r3 ++ (wsX4_vital_r4 ++ wsX4_vital_r5)))) ++ wsX40 ++ wsX10 ++ wsX30)
def wsX4_about_r1 : List Cond := [Cond.fieldLink RX4 12 "WaysKept" "net" "LWaysKept$Net;", Cond.fieldLink RX4 21 "WaysKept" "ways" "LWaysKept$Ways;", Cond.methodLink RX4 47 yX1_hasPosts, Cond.instanceMethod yX1_hasPosts, Cond.selects RX1 yX1_hasPosts yX1_hasPosts, Cond.initialized RX1, Cond.code yX1_hasPosts cX1_hasPosts 3 (some .boolean), Cond.methodLink RX1 35 yX1_hasPost, Cond.instanceMethod yX1_hasPost, Cond.selects RX1 yX1_hasPost yX1_hasPost, Cond.code yX1_hasPost cX1_hasPost 2 (some .boolean), Cond.fieldLink RX1 28 "WaysKept$Net" "posts" "I", Cond.methodLink RX4 128 yX1_hasPost, Cond.methodLink RX4 120 yX3_leastAvoiding, Cond.instanceMethod yX3_leastAvoiding, Cond.selects RX3 yX3_leastAvoiding yX3_leastAvoiding, Cond.initialized RX3, Cond.code yX3_leastAvoiding cX3_leastAvoiding 5 (some .int), Cond.fieldLink RX3 17 "WaysKept$Ways" "reached" "[I", Cond.methodLink RX3 37 yX3_spread, Cond.instanceMethod yX3_spread, Cond.selects RX3 yX3_spread yX3_spread, Cond.code yX3_spread cX3_spread 7 none, Cond.constant RX3 24 (2147483647)]
def wsX4_about_r2 : List Cond := [Cond.fieldLink RX3 20 "WaysKept$Ways" "net" "LWaysKept$Net;", Cond.methodLink RX3 25 yJ7_fill_53178, Cond.static yJ7_fill_53178, Cond.initialized RJ7, Cond.code yJ7_fill_53178 cJ7_fill_53178 4 none, Cond.methodLink RX3 115 yX1_touches, Cond.instanceMethod yX1_touches, Cond.selects RX1 yX1_touches yX1_touches, Cond.code yX1_touches cX1_touches 3 (some .boolean), Cond.fieldLink RX1 9 "WaysKept$Net" "begins" "[I", Cond.fieldLink RX1 15 "WaysKept$Net" "ends" "[I", Cond.methodLink RX3 118 yX3_relax, Cond.instanceMethod yX3_relax, Cond.selects RX3 yX3_relax yX3_relax, Cond.code yX3_relax cX3_relax 6 (some .boolean), Cond.methodLink RX3 122 yX3_costOf, Cond.instanceMethod yX3_costOf, Cond.selects RX3 yX3_costOf yX3_costOf, Cond.code yX3_costOf cX3_costOf 2 (some .int), Cond.methodLink RX3 125 yX3_lower, Cond.instanceMethod yX3_lower, Cond.selects RX3 yX3_lower yX3_lower, Cond.code yX3_lower cX3_lower 4 (some .boolean), Cond.methodLink RX3 51 yX3_priceIn]
def wsX4_about_r3 : List Cond := [Cond.static yX3_priceIn, Cond.code yX3_priceIn cX3_priceIn 1 (some .int), Cond.methodLink RX3 135 yJ9_floorDiv_7cf53, Cond.static yJ9_floorDiv_7cf53, Cond.initialized RJ9, Cond.code yJ9_floorDiv_7cf53 cJ9_floorDiv_7cf53 3 (some .int)]
def wsX4_about : List Cond := .code yX4_about cX4_about 4 (some .int) :: ((wsX4_about_r1 ++ (wsX4_about_r2 ++ wsX4_about_r3)) ++ wsX40 ++ wsX10 ++ wsX30)
def wsX4_ring_r1 : List Cond := [Cond.fieldLink RX4 21 "WaysKept" "ways" "LWaysKept$Ways;", Cond.methodLink RX4 131 yX3_leastRing, Cond.instanceMethod yX3_leastRing, Cond.selects RX3 yX3_leastRing yX3_leastRing, Cond.initialized RX3, Cond.code yX3_leastRing cX3_leastRing 4 (some .int), Cond.fieldLink RX3 20 "WaysKept$Ways" "net" "LWaysKept$Net;", Cond.methodLink RX3 87 yX3_ringOver, Cond.instanceMethod yX3_ringOver, Cond.selects RX3 yX3_ringOver yX3_ringOver, Cond.code yX3_ringOver cX3_ringOver 4 (some .int), Cond.methodLink RX3 93 Lib.Math.min.name, Cond.static Lib.Math.min.name, Cond.initialized "java/lang/Math", Cond.code Lib.Math.min.name Lib.Math.min.code 2 (some .int), Cond.methodLink RX3 77 yX3_leastPrice, Cond.instanceMethod yX3_leastPrice, Cond.selects RX3 yX3_leastPrice yX3_leastPrice, Cond.code yX3_leastPrice cX3_leastPrice 3 (some .int), Cond.fieldLink RX3 11 "WaysKept$Ways" "costs" "[I", Cond.static yX4_pairOf, Cond.initialized RX4, Cond.code yX4_pairOf cX4_pairOf 2 (some .int), Cond.methodLink RX3 51 yX3_priceIn]
def wsX4_ring_r2 : List Cond := [Cond.static yX3_priceIn, Cond.code yX3_priceIn cX3_priceIn 1 (some .int), Cond.constant RX3 24 (2147483647), Cond.methodLink RX3 135 yJ9_floorDiv_7cf53, Cond.static yJ9_floorDiv_7cf53, Cond.initialized RJ9, Cond.code yJ9_floorDiv_7cf53 cJ9_floorDiv_7cf53 3 (some .int)]
def wsX4_ring : List Cond := .code yX4_ring cX4_ring 1 (some .int) :: ((wsX4_ring_r1 ++ wsX4_ring_r2) ++ wsX40 ++ wsX30 ++ wsX10)
def wsX4_height_r1 : List Cond := [Cond.fieldLink RX4 12 "WaysKept" "net" "LWaysKept$Net;", Cond.fieldLink RX4 21 "WaysKept" "ways" "LWaysKept$Ways;", Cond.methodLink RX4 128 yX1_hasPost, Cond.instanceMethod yX1_hasPost, Cond.selects RX1 yX1_hasPost yX1_hasPost, Cond.initialized RX1, Cond.code yX1_hasPost cX1_hasPost 2 (some .boolean), Cond.fieldLink RX1 28 "WaysKept$Net" "posts" "I", Cond.methodLink RX4 134 yX3_heightOf, Cond.instanceMethod yX3_heightOf, Cond.selects RX3 yX3_heightOf yX3_heightOf, Cond.initialized RX3, Cond.code yX3_heightOf cX3_heightOf 4 (some .int), Cond.fieldLink RX3 20 "WaysKept$Ways" "net" "LWaysKept$Net;", Cond.methodLink RX3 93 Lib.Math.min.name, Cond.static Lib.Math.min.name, Cond.initialized "java/lang/Math", Cond.code Lib.Math.min.name Lib.Math.min.code 2 (some .int), Cond.methodLink RX3 90 yX3_leads, Cond.instanceMethod yX3_leads, Cond.selects RX3 yX3_leads yX3_leads, Cond.code yX3_leads cX3_leads 3 (some .boolean), Cond.fieldLink RX3 11 "WaysKept$Ways" "costs" "[I", Cond.constant RX3 24 (2147483647)]
def wsX4_height_r2 : List Cond := [Cond.static yX4_pairOf, Cond.initialized RX4, Cond.code yX4_pairOf cX4_pairOf 2 (some .int), Cond.methodLink RX3 77 yX3_leastPrice, Cond.instanceMethod yX3_leastPrice, Cond.selects RX3 yX3_leastPrice yX3_leastPrice, Cond.code yX3_leastPrice cX3_leastPrice 3 (some .int), Cond.methodLink RX3 51 yX3_priceIn, Cond.static yX3_priceIn, Cond.code yX3_priceIn cX3_priceIn 1 (some .int), Cond.methodLink RX3 135 yJ9_floorDiv_7cf53, Cond.static yJ9_floorDiv_7cf53, Cond.initialized RJ9, Cond.code yJ9_floorDiv_7cf53 cJ9_floorDiv_7cf53 3 (some .int)]
def wsX4_height : List Cond := .code yX4_height cX4_height 2 (some .int) :: ((wsX4_height_r1 ++ wsX4_height_r2) ++ wsX40 ++ wsX10 ++ wsX30)
def wsX4_acts : List Cond := .code yX4_acts cX4_acts 1 (some .int) :: ([.fieldLink RX4 28 "WaysKept" "past" "LWaysKept$Past;", .methodLink RX4 137 yX2_countActs, .instanceMethod yX2_countActs, .selects RX2 yX2_countActs yX2_countActs, .initialized RX2, .code yX2_countActs cX2_countActs 1 (some .int), .fieldLink RX2 15 "WaysKept$Past" "rows" "I"] ++ wsX40 ++ wsX20)
def wsX4_moved : List Cond := .code yX4_moved cX4_moved 2 (some .int) :: ([.fieldLink RX4 28 "WaysKept" "past" "LWaysKept$Past;", .methodLink RX4 140 yX2_hasAct, .instanceMethod yX2_hasAct, .selects RX2 yX2_hasAct yX2_hasAct, .initialized RX2, .code yX2_hasAct cX2_hasAct 2 (some .boolean), .fieldLink RX2 15 "WaysKept$Past" "rows" "I", .methodLink RX4 143 yX2_countMoved, .instanceMethod yX2_countMoved, .selects RX2 yX2_countMoved yX2_countMoved, .code yX2_countMoved cX2_countMoved 4 (some .int), .methodLink RX2 32 yX2_isMoved, .instanceMethod yX2_isMoved, .selects RX2 yX2_isMoved yX2_isMoved, .code yX2_isMoved cX2_isMoved 3 (some .boolean), .methodLink RX2 36 yX2_leastAsOf, .instanceMethod yX2_leastAsOf, .selects RX2 yX2_leastAsOf yX2_leastAsOf, .code yX2_leastAsOf cX2_leastAsOf 3 (some .int), .fieldLink RX2 11 "WaysKept$Past" "fars" "[I"] ++ wsX40 ++ wsX20)
def wsX4_pair : List Cond := .code yX4_pair cX4_pair 3 (some .int) :: ([.fieldLink RX4 28 "WaysKept" "past" "LWaysKept$Past;", .methodLink RX4 140 yX2_hasAct, .instanceMethod yX2_hasAct, .selects RX2 yX2_hasAct yX2_hasAct, .initialized RX2, .code yX2_hasAct cX2_hasAct 2 (some .boolean), .fieldLink RX2 15 "WaysKept$Past" "rows" "I", .methodLink RX4 146 yX2_movedPair, .instanceMethod yX2_movedPair, .selects RX2 yX2_movedPair yX2_movedPair, .code yX2_movedPair cX2_movedPair 5 (some .int), .methodLink RX2 32 yX2_isMoved, .instanceMethod yX2_isMoved, .selects RX2 yX2_isMoved yX2_isMoved, .code yX2_isMoved cX2_isMoved 3 (some .boolean), .methodLink RX2 36 yX2_leastAsOf, .instanceMethod yX2_leastAsOf, .selects RX2 yX2_leastAsOf yX2_leastAsOf, .code yX2_leastAsOf cX2_leastAsOf 3 (some .int), .fieldLink RX2 11 "WaysKept$Past" "fars" "[I"] ++ wsX40 ++ wsX20)
def wsX4_then_r1 : List Cond := [Cond.fieldLink RX4 12 "WaysKept" "net" "LWaysKept$Net;", Cond.fieldLink RX4 28 "WaysKept" "past" "LWaysKept$Past;", Cond.methodLink RX4 47 yX1_hasPosts, Cond.instanceMethod yX1_hasPosts, Cond.selects RX1 yX1_hasPosts yX1_hasPosts, Cond.initialized RX1, Cond.code yX1_hasPosts cX1_hasPosts 3 (some .boolean), Cond.methodLink RX1 35 yX1_hasPost, Cond.instanceMethod yX1_hasPost, Cond.selects RX1 yX1_hasPost yX1_hasPost, Cond.code yX1_hasPost cX1_hasPost 2 (some .boolean), Cond.fieldLink RX1 28 "WaysKept$Net" "posts" "I", Cond.methodLink RX4 140 yX2_hasAct, Cond.instanceMethod yX2_hasAct, Cond.selects RX2 yX2_hasAct yX2_hasAct, Cond.initialized RX2, Cond.code yX2_hasAct cX2_hasAct 2 (some .boolean), Cond.fieldLink RX2 15 "WaysKept$Past" "rows" "I", Cond.methodLink RX4 149 yX4_pairOf, Cond.static yX4_pairOf, Cond.initialized RX4, Cond.code yX4_pairOf cX4_pairOf 2 (some .int), Cond.methodLink RX4 152 yX2_leastAsOf, Cond.instanceMethod yX2_leastAsOf]
def wsX4_then_r2 : List Cond := [Cond.selects RX2 yX2_leastAsOf yX2_leastAsOf, Cond.code yX2_leastAsOf cX2_leastAsOf 3 (some .int), Cond.fieldLink RX2 11 "WaysKept$Past" "fars" "[I"]
def wsX4_then : List Cond := .code yX4_then cX4_then 4 (some .int) :: ((wsX4_then_r1 ++ wsX4_then_r2) ++ wsX40 ++ wsX10 ++ wsX20)
def wsX4_since_r1 : List Cond := [Cond.fieldLink RX4 12 "WaysKept" "net" "LWaysKept$Net;", Cond.fieldLink RX4 28 "WaysKept" "past" "LWaysKept$Past;", Cond.methodLink RX4 47 yX1_hasPosts, Cond.instanceMethod yX1_hasPosts, Cond.selects RX1 yX1_hasPosts yX1_hasPosts, Cond.initialized RX1, Cond.code yX1_hasPosts cX1_hasPosts 3 (some .boolean), Cond.methodLink RX1 35 yX1_hasPost, Cond.instanceMethod yX1_hasPost, Cond.selects RX1 yX1_hasPost yX1_hasPost, Cond.code yX1_hasPost cX1_hasPost 2 (some .boolean), Cond.fieldLink RX1 28 "WaysKept$Net" "posts" "I", Cond.methodLink RX4 140 yX2_hasAct, Cond.instanceMethod yX2_hasAct, Cond.selects RX2 yX2_hasAct yX2_hasAct, Cond.initialized RX2, Cond.code yX2_hasAct cX2_hasAct 2 (some .boolean), Cond.fieldLink RX2 15 "WaysKept$Past" "rows" "I", Cond.methodLink RX4 149 yX4_pairOf, Cond.static yX4_pairOf, Cond.initialized RX4, Cond.code yX4_pairOf cX4_pairOf 2 (some .int), Cond.methodLink RX4 155 yX2_firstWithin, Cond.instanceMethod yX2_firstWithin]
def wsX4_since_r2 : List Cond := [Cond.selects RX2 yX2_firstWithin yX2_firstWithin, Cond.code yX2_firstWithin cX2_firstWithin 6 (some .int), Cond.methodLink RX2 36 yX2_leastAsOf, Cond.instanceMethod yX2_leastAsOf, Cond.selects RX2 yX2_leastAsOf yX2_leastAsOf, Cond.code yX2_leastAsOf cX2_leastAsOf 3 (some .int), Cond.fieldLink RX2 11 "WaysKept$Past" "fars" "[I"]
def wsX4_since : List Cond := .code yX4_since cX4_since 5 (some .int) :: ((wsX4_since_r1 ++ wsX4_since_r2) ++ wsX40 ++ wsX10 ++ wsX20)
def wsX4_marks : List Cond := .code yX4_marks cX4_marks 3 (some .int) :: ([.fieldLink RX4 12 "WaysKept" "net" "LWaysKept$Net;", .fieldLink RX4 158 "WaysKept" "marked" "I"] ++ wsX40 ++ wsX10)
def wsX4_near_r1 : List Cond := [Cond.fieldLink RX4 12 "WaysKept" "net" "LWaysKept$Net;", Cond.fieldLink RX4 21 "WaysKept" "ways" "LWaysKept$Ways;", Cond.fieldLink RX4 158 "WaysKept" "marked" "I", Cond.methodLink RX4 47 yX1_hasPosts, Cond.instanceMethod yX1_hasPosts, Cond.selects RX1 yX1_hasPosts yX1_hasPosts, Cond.initialized RX1, Cond.code yX1_hasPosts cX1_hasPosts 3 (some .boolean), Cond.methodLink RX1 35 yX1_hasPost, Cond.instanceMethod yX1_hasPost, Cond.selects RX1 yX1_hasPost yX1_hasPost, Cond.code yX1_hasPost cX1_hasPost 2 (some .boolean), Cond.fieldLink RX1 28 "WaysKept$Net" "posts" "I", Cond.methodLink RX4 161 yX3_leastThrough, Cond.instanceMethod yX3_leastThrough, Cond.selects RX3 yX3_leastThrough yX3_leastThrough, Cond.initialized RX3, Cond.code yX3_leastThrough cX3_leastThrough 7 (some .int), Cond.fieldLink RX3 20 "WaysKept$Ways" "net" "LWaysKept$Net;", Cond.methodLink RX3 93 Lib.Math.min.name, Cond.static Lib.Math.min.name, Cond.initialized "java/lang/Math", Cond.code Lib.Math.min.name Lib.Math.min.code 2 (some .int), Cond.methodLink RX3 90 yX3_leads]
def wsX4_near_r2 : List Cond := [Cond.instanceMethod yX3_leads, Cond.selects RX3 yX3_leads yX3_leads, Cond.code yX3_leads cX3_leads 3 (some .boolean), Cond.fieldLink RX3 11 "WaysKept$Ways" "costs" "[I", Cond.constant RX3 24 (2147483647), Cond.static yX4_pairOf, Cond.initialized RX4, Cond.code yX4_pairOf cX4_pairOf 2 (some .int), Cond.methodLink RX3 77 yX3_leastPrice, Cond.instanceMethod yX3_leastPrice, Cond.selects RX3 yX3_leastPrice yX3_leastPrice, Cond.code yX3_leastPrice cX3_leastPrice 3 (some .int), Cond.methodLink RX3 51 yX3_priceIn, Cond.static yX3_priceIn, Cond.code yX3_priceIn cX3_priceIn 1 (some .int), Cond.methodLink RX3 135 yJ9_floorDiv_7cf53, Cond.static yJ9_floorDiv_7cf53, Cond.initialized RJ9, Cond.code yJ9_floorDiv_7cf53 cJ9_floorDiv_7cf53 3 (some .int)]
def wsX4_near : List Cond := .code yX4_near cX4_near 3 (some .int) :: ((wsX4_near_r1 ++ wsX4_near_r2) ++ wsX40 ++ wsX10 ++ wsX30)
def wsX4_worst_r1 : List Cond := [Cond.fieldLink RX4 12 "WaysKept" "net" "LWaysKept$Net;", Cond.fieldLink RX4 21 "WaysKept" "ways" "LWaysKept$Ways;", Cond.fieldLink RX4 158 "WaysKept" "marked" "I", Cond.methodLink RX4 167 Lib.Math.max.name, Cond.static Lib.Math.max.name, Cond.initialized "java/lang/Math", Cond.code Lib.Math.max.name Lib.Math.max.code 2 (some .int), Cond.methodLink RX4 164 yX3_leads, Cond.instanceMethod yX3_leads, Cond.selects RX3 yX3_leads yX3_leads, Cond.initialized RX3, Cond.code yX3_leads cX3_leads 3 (some .boolean), Cond.fieldLink RX3 11 "WaysKept$Ways" "costs" "[I", Cond.constant RX3 24 (2147483647), Cond.static yX4_pairOf, Cond.initialized RX4, Cond.code yX4_pairOf cX4_pairOf 2 (some .int), Cond.methodLink RX4 161 yX3_leastThrough, Cond.instanceMethod yX3_leastThrough, Cond.selects RX3 yX3_leastThrough yX3_leastThrough, Cond.code yX3_leastThrough cX3_leastThrough 7 (some .int), Cond.fieldLink RX3 20 "WaysKept$Ways" "net" "LWaysKept$Net;", Cond.methodLink RX3 93 Lib.Math.min.name, Cond.static Lib.Math.min.name]
def wsX4_worst_r2 : List Cond := [Cond.code Lib.Math.min.name Lib.Math.min.code 2 (some .int), Cond.methodLink RX3 90 yX3_leads, Cond.methodLink RX3 77 yX3_leastPrice, Cond.instanceMethod yX3_leastPrice, Cond.selects RX3 yX3_leastPrice yX3_leastPrice, Cond.code yX3_leastPrice cX3_leastPrice 3 (some .int), Cond.methodLink RX3 51 yX3_priceIn, Cond.static yX3_priceIn, Cond.code yX3_priceIn cX3_priceIn 1 (some .int), Cond.methodLink RX3 135 yJ9_floorDiv_7cf53, Cond.static yJ9_floorDiv_7cf53, Cond.initialized RJ9, Cond.code yJ9_floorDiv_7cf53 cJ9_floorDiv_7cf53 3 (some .int), Cond.methodLink RX4 109 yX3_leastPrice]
def wsX4_worst : List Cond := .code yX4_worst cX4_worst 5 (some .int) :: ((wsX4_worst_r1 ++ wsX4_worst_r2) ++ wsX40 ++ wsX10 ++ wsX30)
def wsX4_hits_r1 : List Cond := [Cond.fieldLink RX4 35 "WaysKept" "hitting" "LWaysKept$Hitting;", Cond.fieldLink RX4 21 "WaysKept" "ways" "LWaysKept$Ways;", Cond.fieldLink RX4 12 "WaysKept" "net" "LWaysKept$Net;", Cond.methodLink RX4 172 yX0_askFor, Cond.instanceMethod yX0_askFor, Cond.selects RX0 yX0_askFor yX0_askFor, Cond.initialized RX0, Cond.code yX0_askFor cX0_askFor 6 none, Cond.fieldLink RX0 15 "WaysKept$Hitting" "size" "I", Cond.fieldLink RX0 9 "WaysKept$Hitting" "asked" "[I", Cond.methodLink RX0 19 yX3_length, Cond.instanceMethod yX3_length, Cond.selects RX3 yX3_length yX3_length, Cond.initialized RX3, Cond.code yX3_length cX3_length 4 (some .int), Cond.fieldLink RX3 11 "WaysKept$Ways" "costs" "[I", Cond.constant RX3 24 (2147483647), Cond.static yX4_pairOf, Cond.initialized RX4, Cond.code yX4_pairOf cX4_pairOf 2 (some .int), Cond.methodLink RX3 55 yJ9_floorMod_7cf53, Cond.static yJ9_floorMod_7cf53, Cond.initialized RJ9, Cond.code yJ9_floorMod_7cf53 cJ9_floorMod_7cf53 3 (some .int)]
def wsX4_hits_r2 : List Cond := [Cond.methodLink RX0 25 yX3_between, Cond.instanceMethod yX3_between, Cond.selects RX3 yX3_between yX3_between, Cond.code yX3_between cX3_between 6 (some .int), Cond.fieldLink RX3 20 "WaysKept$Ways" "net" "LWaysKept$Net;", Cond.methodLink RX3 60 yX3_length, Cond.methodLink RX3 63 yX3_lineToward, Cond.instanceMethod yX3_lineToward, Cond.selects RX3 yX3_lineToward yX3_lineToward, Cond.code yX3_lineToward cX3_lineToward 6 (some .int), Cond.methodLink RX3 128 yX1_hasPost, Cond.instanceMethod yX1_hasPost, Cond.selects RX1 yX1_hasPost yX1_hasPost, Cond.initialized RX1, Cond.code yX1_hasPost cX1_hasPost 2 (some .boolean), Cond.fieldLink RX1 28 "WaysKept$Net" "posts" "I", Cond.methodLink RX3 90 yX3_leads, Cond.instanceMethod yX3_leads, Cond.selects RX3 yX3_leads yX3_leads, Cond.code yX3_leads cX3_leads 3 (some .boolean), Cond.methodLink RX3 66 yX1_target, Cond.instanceMethod yX1_target, Cond.selects RX1 yX1_target yX1_target, Cond.code yX1_target cX1_target 3 (some .int)]
def wsX4_hits_r3 : List Cond := [Cond.fieldLink RX1 25 "WaysKept$Net" "there" "[Z", Cond.fieldLink RX1 9 "WaysKept$Net" "begins" "[I", Cond.fieldLink RX1 15 "WaysKept$Net" "ends" "[I", Cond.fieldLink RX1 21 "WaysKept$Net" "bothWays" "[Z", Cond.methodLink RX1 39 yX1_hasLine, Cond.instanceMethod yX1_hasLine, Cond.selects RX1 yX1_hasLine yX1_hasLine, Cond.code yX1_hasLine cX1_hasLine 2 (some .boolean), Cond.fieldLink RX1 32 "WaysKept$Net" "lines" "I", Cond.methodLink RX3 122 yX3_costOf, Cond.instanceMethod yX3_costOf, Cond.selects RX3 yX3_costOf yX3_costOf, Cond.code yX3_costOf cX3_costOf 2 (some .int), Cond.methodLink RX4 176 yX0_fewest, Cond.instanceMethod yX0_fewest, Cond.selects RX0 yX0_fewest yX0_fewest, Cond.code yX0_fewest cX0_fewest 6 (some .int), Cond.methodLink RX0 28 yJ6_bitCount_0f7a4, Cond.static yJ6_bitCount_0f7a4, Cond.initialized RJ6, Cond.code yJ6_bitCount_0f7a4 cJ6_bitCount_0f7a4 1 (some .int), Cond.constant RJ6 265 (1431655765), Cond.constant RJ6 266 (858993459), Cond.constant RJ6 267 (252645135)]
def wsX4_hits_r4 : List Cond := [Cond.methodLink RX0 34 yX0_meetsAll, Cond.instanceMethod yX0_meetsAll, Cond.selects RX0 yX0_meetsAll yX0_meetsAll, Cond.code yX0_meetsAll cX0_meetsAll 3 (some .boolean)]
def wsX4_hits : List Cond := .code yX4_hits cX4_hits 2 (some .int) :: ((wsX4_hits_r1 ++ (wsX4_hits_r2 ++ (wsX4_hits_r3 ++ wsX4_hits_r4))) ++ wsX40 ++ wsX10 ++ wsX00 ++ wsX30)
def wsX4_count_r1 : List Cond := [Cond.fieldLink RX4 12 "WaysKept" "net" "LWaysKept$Net;", Cond.fieldLink RX4 21 "WaysKept" "ways" "LWaysKept$Ways;", Cond.fieldLink RX4 158 "WaysKept" "marked" "I", Cond.methodLink RX4 91 yX1_countThere, Cond.instanceMethod yX1_countThere, Cond.selects RX1 yX1_countThere yX1_countThere, Cond.initialized RX1, Cond.code yX1_countThere cX1_countThere 3 (some .int), Cond.fieldLink RX1 32 "WaysKept$Net" "lines" "I", Cond.fieldLink RX1 25 "WaysKept$Net" "there" "[Z", Cond.methodLink RX4 179 yX3_countLinked, Cond.instanceMethod yX3_countLinked, Cond.selects RX3 yX3_countLinked yX3_countLinked, Cond.initialized RX3, Cond.code yX3_countLinked cX3_countLinked 4 (some .int), Cond.fieldLink RX3 20 "WaysKept$Ways" "net" "LWaysKept$Net;", Cond.methodLink RX3 90 yX3_leads, Cond.instanceMethod yX3_leads, Cond.selects RX3 yX3_leads yX3_leads, Cond.code yX3_leads cX3_leads 3 (some .boolean), Cond.fieldLink RX3 11 "WaysKept$Ways" "costs" "[I", Cond.constant RX3 24 (2147483647), Cond.static yX4_pairOf, Cond.initialized RX4]
def wsX4_count_r2 : List Cond := [Cond.code yX4_pairOf cX4_pairOf 2 (some .int), Cond.methodLink RX4 182 yJ6_bitCount_0f7a4, Cond.static yJ6_bitCount_0f7a4, Cond.initialized RJ6, Cond.code yJ6_bitCount_0f7a4 cJ6_bitCount_0f7a4 1 (some .int), Cond.constant RJ6 265 (1431655765), Cond.constant RJ6 266 (858993459), Cond.constant RJ6 267 (252645135)]
def wsX4_count : List Cond := .code yX4_count cX4_count 2 (some .int) :: ((wsX4_count_r1 ++ wsX4_count_r2) ++ wsX40 ++ wsX10 ++ wsX30)
def wsX5_learn : List Cond := .code yX5_learn cX5_learn 8 (some .boolean) :: ([.fieldLink RX5 30 "WaysKeptModel" "fine" "[I", .constant RX5 57 (10000000), .fieldLink RX5 54 "WaysKeptModel" "lines" "I", .fieldLink RX5 27 "WaysKeptModel" "isThere" "[Z", .fieldLink RX5 13 "WaysKeptModel" "from" "[I", .fieldLink RX5 17 "WaysKeptModel" "to" "[I", .fieldLink RX5 20 "WaysKeptModel" "price" "[I", .fieldLink RX5 23 "WaysKeptModel" "isBoth" "[Z", .fieldLink RX5 7 "WaysKeptModel" "posts" "I"] ++ wsX50)
def wsX5_coarse : List Cond := .code yX5_coarse cX5_coarse 2 (some .int) :: ([.constant RX5 57 (10000000)])
def wsX5_keep : List Cond := .code yX5_keep cX5_keep 2 none :: ([.fieldLink RX5 34 "WaysKeptModel" "kept" "[I", .fieldLink RX5 62 "WaysKeptModel" "acts" "I", .fieldLink RX5 30 "WaysKeptModel" "fine" "[I", .methodLink RX5 58 yX5_coarse, .static yX5_coarse, .initialized RX5, .code yX5_coarse cX5_coarse 2 (some .int), .constant RX5 57 (10000000)] ++ wsX50)
def wsX5_init_r1 : List Cond := [Cond.methodLink RX5 1 objectInit, Cond.instanceMethod objectInit, Cond.code objectInit ⟨#[0xb1]⟩ 1 none, Cond.fieldLink RX5 7 "WaysKeptModel" "posts" "I", Cond.arrayClass .int, Cond.fieldLink RX5 13 "WaysKeptModel" "from" "[I", Cond.fieldLink RX5 17 "WaysKeptModel" "to" "[I", Cond.fieldLink RX5 20 "WaysKeptModel" "price" "[I", Cond.arrayClass .boolean, Cond.fieldLink RX5 23 "WaysKeptModel" "isBoth" "[Z", Cond.fieldLink RX5 27 "WaysKeptModel" "isThere" "[Z", Cond.fieldLink RX5 30 "WaysKeptModel" "fine" "[I", Cond.constant RX5 33 (40100), Cond.fieldLink RX5 34 "WaysKeptModel" "kept" "[I", Cond.fieldLink RX5 37 "WaysKeptModel" "inner" "[I", Cond.methodLink RX5 40 yX5_learn, Cond.instanceMethod yX5_learn, Cond.selects RX5 yX5_learn yX5_learn, Cond.initialized RX5, Cond.code yX5_learn cX5_learn 8 (some .boolean), Cond.constant RX5 57 (10000000), Cond.fieldLink RX5 54 "WaysKeptModel" "lines" "I", Cond.methodLink RX5 44 yX5_keep, Cond.instanceMethod yX5_keep]
def wsX5_init_r2 : List Cond := [Cond.selects RX5 yX5_keep yX5_keep, Cond.code yX5_keep cX5_keep 2 none, Cond.fieldLink RX5 62 "WaysKeptModel" "acts" "I", Cond.methodLink RX5 58 yX5_coarse, Cond.static yX5_coarse, Cond.code yX5_coarse cX5_coarse 2 (some .int)]
def wsX5_init : List Cond := .code yX5_init cX5_init 1 none :: ((wsX5_init_r1 ++ wsX5_init_r2) ++ wsX50)
def wsX5_in : List Cond := .code yX5_in cX5_in 6 (some .boolean) :: ([])
def wsX5_noPost : List Cond := .code yX5_noPost cX5_noPost 2 (some .boolean) :: ([.fieldLink RX5 7 "WaysKeptModel" "posts" "I", .methodLink RX5 50 yX5_in, .static yX5_in, .initialized RX5, .code yX5_in cX5_in 6 (some .boolean)] ++ wsX50)
def wsX5_noLine : List Cond := .code yX5_noLine cX5_noLine 2 (some .boolean) :: ([.fieldLink RX5 54 "WaysKeptModel" "lines" "I", .methodLink RX5 50 yX5_in, .static yX5_in, .initialized RX5, .code yX5_in cX5_in 6 (some .boolean)] ++ wsX50)
def wsX5_farOf : List Cond := .code yX5_farOf cX5_farOf 3 (some .int) :: ([.fieldLink RX5 30 "WaysKeptModel" "fine" "[I", .methodLink RX5 58 yX5_coarse, .static yX5_coarse, .initialized RX5, .code yX5_coarse cX5_coarse 2 (some .int), .constant RX5 57 (10000000)] ++ wsX50)
def wsX5_did : List Cond := .code yX5_did cX5_did 1 none :: ([.fieldLink RX5 62 "WaysKeptModel" "acts" "I", .methodLink RX5 40 yX5_learn, .instanceMethod yX5_learn, .selects RX5 yX5_learn yX5_learn, .initialized RX5, .code yX5_learn cX5_learn 8 (some .boolean), .fieldLink RX5 30 "WaysKeptModel" "fine" "[I", .constant RX5 57 (10000000), .fieldLink RX5 54 "WaysKeptModel" "lines" "I", .fieldLink RX5 27 "WaysKeptModel" "isThere" "[Z", .fieldLink RX5 13 "WaysKeptModel" "from" "[I", .fieldLink RX5 17 "WaysKeptModel" "to" "[I", .fieldLink RX5 20 "WaysKeptModel" "price" "[I", .fieldLink RX5 23 "WaysKeptModel" "isBoth" "[Z", .fieldLink RX5 7 "WaysKeptModel" "posts" "I", .methodLink RX5 44 yX5_keep, .instanceMethod yX5_keep, .selects RX5 yX5_keep yX5_keep, .code yX5_keep cX5_keep 2 none, .fieldLink RX5 34 "WaysKeptModel" "kept" "[I", .methodLink RX5 58 yX5_coarse, .static yX5_coarse, .code yX5_coarse cX5_coarse 2 (some .int)] ++ wsX50)
def wsX5_there : List Cond := .code yX5_there cX5_there 3 (some .int) :: ([.fieldLink RX5 54 "WaysKeptModel" "lines" "I", .fieldLink RX5 27 "WaysKeptModel" "isThere" "[Z"] ++ wsX50)
def wsX5_posts_r1 : List Cond := [Cond.fieldLink RX5 47 "WaysKeptModel" "thrown" "I", Cond.constantLong RX5 65 (2), Cond.constantLong RX5 67 (10), Cond.fieldLink RX5 7 "WaysKeptModel" "posts" "I", Cond.fieldLink RX5 54 "WaysKeptModel" "lines" "I", Cond.fieldLink RX5 62 "WaysKeptModel" "acts" "I", Cond.fieldLink RX5 69 "WaysKeptModel" "marks" "I", Cond.methodLink RX5 50 yX5_in, Cond.static yX5_in, Cond.initialized RX5, Cond.code yX5_in cX5_in 6 (some .boolean), Cond.methodLink RX5 40 yX5_learn, Cond.instanceMethod yX5_learn, Cond.selects RX5 yX5_learn yX5_learn, Cond.code yX5_learn cX5_learn 8 (some .boolean), Cond.fieldLink RX5 30 "WaysKeptModel" "fine" "[I", Cond.constant RX5 57 (10000000), Cond.fieldLink RX5 27 "WaysKeptModel" "isThere" "[Z", Cond.fieldLink RX5 13 "WaysKeptModel" "from" "[I", Cond.fieldLink RX5 17 "WaysKeptModel" "to" "[I", Cond.fieldLink RX5 20 "WaysKeptModel" "price" "[I", Cond.fieldLink RX5 23 "WaysKeptModel" "isBoth" "[Z", Cond.methodLink RX5 44 yX5_keep, Cond.instanceMethod yX5_keep]
def wsX5_posts_r2 : List Cond := [Cond.selects RX5 yX5_keep yX5_keep, Cond.code yX5_keep cX5_keep 2 none, Cond.fieldLink RX5 34 "WaysKeptModel" "kept" "[I", Cond.methodLink RX5 58 yX5_coarse, Cond.static yX5_coarse, Cond.code yX5_coarse cX5_coarse 2 (some .int)]
def wsX5_posts : List Cond := .code yX5_posts cX5_posts 3 (some .int) :: ((wsX5_posts_r1 ++ wsX5_posts_r2) ++ wsX50)
def wsX5_line_r1 : List Cond := [Cond.fieldLink RX5 47 "WaysKeptModel" "thrown" "I", Cond.constantLong RX5 76 (-50), Cond.constantLong RX5 78 (99), Cond.fieldLink RX5 54 "WaysKeptModel" "lines" "I", Cond.fieldLink RX5 62 "WaysKeptModel" "acts" "I", Cond.fieldLink RX5 13 "WaysKeptModel" "from" "[I", Cond.fieldLink RX5 17 "WaysKeptModel" "to" "[I", Cond.fieldLink RX5 20 "WaysKeptModel" "price" "[I", Cond.fieldLink RX5 23 "WaysKeptModel" "isBoth" "[Z", Cond.fieldLink RX5 27 "WaysKeptModel" "isThere" "[Z", Cond.methodLink RX5 72 yX5_noPost, Cond.instanceMethod yX5_noPost, Cond.selects RX5 yX5_noPost yX5_noPost, Cond.initialized RX5, Cond.code yX5_noPost cX5_noPost 2 (some .boolean), Cond.fieldLink RX5 7 "WaysKeptModel" "posts" "I", Cond.methodLink RX5 50 yX5_in, Cond.static yX5_in, Cond.code yX5_in cX5_in 6 (some .boolean), Cond.methodLink RX5 40 yX5_learn, Cond.instanceMethod yX5_learn, Cond.selects RX5 yX5_learn yX5_learn, Cond.code yX5_learn cX5_learn 8 (some .boolean), Cond.fieldLink RX5 30 "WaysKeptModel" "fine" "[I"]
def wsX5_line_r2 : List Cond := [Cond.constant RX5 57 (10000000), Cond.methodLink RX5 80 yX5_farOf, Cond.instanceMethod yX5_farOf, Cond.selects RX5 yX5_farOf yX5_farOf, Cond.code yX5_farOf cX5_farOf 3 (some .int), Cond.methodLink RX5 58 yX5_coarse, Cond.static yX5_coarse, Cond.code yX5_coarse cX5_coarse 2 (some .int), Cond.methodLink RX5 84 yX5_did, Cond.instanceMethod yX5_did, Cond.selects RX5 yX5_did yX5_did, Cond.code yX5_did cX5_did 1 none, Cond.methodLink RX5 44 yX5_keep, Cond.instanceMethod yX5_keep, Cond.selects RX5 yX5_keep yX5_keep, Cond.code yX5_keep cX5_keep 2 none, Cond.fieldLink RX5 34 "WaysKeptModel" "kept" "[I"]
def wsX5_line : List Cond := .code yX5_line cX5_line 6 (some .int) :: ((wsX5_line_r1 ++ wsX5_line_r2) ++ wsX50)
def wsX5_price_r1 : List Cond := [Cond.fieldLink RX5 47 "WaysKeptModel" "thrown" "I", Cond.fieldLink RX5 23 "WaysKeptModel" "isBoth" "[Z", Cond.constantLong RX5 76 (-50), Cond.constantLong RX5 78 (99), Cond.fieldLink RX5 20 "WaysKeptModel" "price" "[I", Cond.fieldLink RX5 62 "WaysKeptModel" "acts" "I", Cond.methodLink RX5 87 yX5_noLine, Cond.instanceMethod yX5_noLine, Cond.selects RX5 yX5_noLine yX5_noLine, Cond.initialized RX5, Cond.code yX5_noLine cX5_noLine 2 (some .boolean), Cond.fieldLink RX5 54 "WaysKeptModel" "lines" "I", Cond.methodLink RX5 50 yX5_in, Cond.static yX5_in, Cond.code yX5_in cX5_in 6 (some .boolean), Cond.methodLink RX5 40 yX5_learn, Cond.instanceMethod yX5_learn, Cond.selects RX5 yX5_learn yX5_learn, Cond.code yX5_learn cX5_learn 8 (some .boolean), Cond.fieldLink RX5 30 "WaysKeptModel" "fine" "[I", Cond.constant RX5 57 (10000000), Cond.fieldLink RX5 27 "WaysKeptModel" "isThere" "[Z", Cond.fieldLink RX5 13 "WaysKeptModel" "from" "[I", Cond.fieldLink RX5 17 "WaysKeptModel" "to" "[I"]
def wsX5_price_r2 : List Cond := [Cond.fieldLink RX5 7 "WaysKeptModel" "posts" "I", Cond.methodLink RX5 84 yX5_did, Cond.instanceMethod yX5_did, Cond.selects RX5 yX5_did yX5_did, Cond.code yX5_did cX5_did 1 none, Cond.methodLink RX5 44 yX5_keep, Cond.instanceMethod yX5_keep, Cond.selects RX5 yX5_keep yX5_keep, Cond.code yX5_keep cX5_keep 2 none, Cond.fieldLink RX5 34 "WaysKeptModel" "kept" "[I", Cond.methodLink RX5 58 yX5_coarse, Cond.static yX5_coarse, Cond.code yX5_coarse cX5_coarse 2 (some .int)]
def wsX5_price : List Cond := .code yX5_price cX5_price 4 (some .int) :: ((wsX5_price_r1 ++ wsX5_price_r2) ++ wsX50)
def wsX5_cut_r1 : List Cond := [Cond.fieldLink RX5 47 "WaysKeptModel" "thrown" "I", Cond.fieldLink RX5 27 "WaysKeptModel" "isThere" "[Z", Cond.fieldLink RX5 62 "WaysKeptModel" "acts" "I", Cond.methodLink RX5 87 yX5_noLine, Cond.instanceMethod yX5_noLine, Cond.selects RX5 yX5_noLine yX5_noLine, Cond.initialized RX5, Cond.code yX5_noLine cX5_noLine 2 (some .boolean), Cond.fieldLink RX5 54 "WaysKeptModel" "lines" "I", Cond.methodLink RX5 50 yX5_in, Cond.static yX5_in, Cond.code yX5_in cX5_in 6 (some .boolean), Cond.methodLink RX5 84 yX5_did, Cond.instanceMethod yX5_did, Cond.selects RX5 yX5_did yX5_did, Cond.code yX5_did cX5_did 1 none, Cond.methodLink RX5 40 yX5_learn, Cond.instanceMethod yX5_learn, Cond.selects RX5 yX5_learn yX5_learn, Cond.code yX5_learn cX5_learn 8 (some .boolean), Cond.fieldLink RX5 30 "WaysKeptModel" "fine" "[I", Cond.constant RX5 57 (10000000), Cond.fieldLink RX5 13 "WaysKeptModel" "from" "[I", Cond.fieldLink RX5 17 "WaysKeptModel" "to" "[I"]
def wsX5_cut_r2 : List Cond := [Cond.fieldLink RX5 20 "WaysKeptModel" "price" "[I", Cond.fieldLink RX5 23 "WaysKeptModel" "isBoth" "[Z", Cond.fieldLink RX5 7 "WaysKeptModel" "posts" "I", Cond.methodLink RX5 44 yX5_keep, Cond.instanceMethod yX5_keep, Cond.selects RX5 yX5_keep yX5_keep, Cond.code yX5_keep cX5_keep 2 none, Cond.fieldLink RX5 34 "WaysKeptModel" "kept" "[I", Cond.methodLink RX5 58 yX5_coarse, Cond.static yX5_coarse, Cond.code yX5_coarse cX5_coarse 2 (some .int), Cond.methodLink RX5 90 yX5_there, Cond.instanceMethod yX5_there, Cond.selects RX5 yX5_there yX5_there, Cond.code yX5_there cX5_there 3 (some .int)]
def wsX5_cut : List Cond := .code yX5_cut cX5_cut 2 (some .int) :: ((wsX5_cut_r1 ++ wsX5_cut_r2) ++ wsX50)
def wsX5_back_r1 : List Cond := [Cond.fieldLink RX5 47 "WaysKeptModel" "thrown" "I", Cond.fieldLink RX5 27 "WaysKeptModel" "isThere" "[Z", Cond.fieldLink RX5 62 "WaysKeptModel" "acts" "I", Cond.methodLink RX5 87 yX5_noLine, Cond.instanceMethod yX5_noLine, Cond.selects RX5 yX5_noLine yX5_noLine, Cond.initialized RX5, Cond.code yX5_noLine cX5_noLine 2 (some .boolean), Cond.fieldLink RX5 54 "WaysKeptModel" "lines" "I", Cond.methodLink RX5 50 yX5_in, Cond.static yX5_in, Cond.code yX5_in cX5_in 6 (some .boolean), Cond.methodLink RX5 40 yX5_learn, Cond.instanceMethod yX5_learn, Cond.selects RX5 yX5_learn yX5_learn, Cond.code yX5_learn cX5_learn 8 (some .boolean), Cond.fieldLink RX5 30 "WaysKeptModel" "fine" "[I", Cond.constant RX5 57 (10000000), Cond.fieldLink RX5 13 "WaysKeptModel" "from" "[I", Cond.fieldLink RX5 17 "WaysKeptModel" "to" "[I", Cond.fieldLink RX5 20 "WaysKeptModel" "price" "[I", Cond.fieldLink RX5 23 "WaysKeptModel" "isBoth" "[Z", Cond.fieldLink RX5 7 "WaysKeptModel" "posts" "I", Cond.methodLink RX5 84 yX5_did]
def wsX5_back_r2 : List Cond := [Cond.instanceMethod yX5_did, Cond.selects RX5 yX5_did yX5_did, Cond.code yX5_did cX5_did 1 none, Cond.methodLink RX5 44 yX5_keep, Cond.instanceMethod yX5_keep, Cond.selects RX5 yX5_keep yX5_keep, Cond.code yX5_keep cX5_keep 2 none, Cond.fieldLink RX5 34 "WaysKeptModel" "kept" "[I", Cond.methodLink RX5 58 yX5_coarse, Cond.static yX5_coarse, Cond.code yX5_coarse cX5_coarse 2 (some .int), Cond.methodLink RX5 90 yX5_there, Cond.instanceMethod yX5_there, Cond.selects RX5 yX5_there yX5_there, Cond.code yX5_there cX5_there 3 (some .int)]
def wsX5_back : List Cond := .code yX5_back cX5_back 3 (some .int) :: ((wsX5_back_r1 ++ wsX5_back_r2) ++ wsX50)
def wsX5_heightOf : List Cond := .code yX5_heightOf cX5_heightOf 4 (some .int) :: ([.fieldLink RX5 7 "WaysKeptModel" "posts" "I", .methodLink RX5 80 yX5_farOf, .instanceMethod yX5_farOf, .selects RX5 yX5_farOf yX5_farOf, .initialized RX5, .code yX5_farOf cX5_farOf 3 (some .int), .fieldLink RX5 30 "WaysKeptModel" "fine" "[I", .methodLink RX5 58 yX5_coarse, .static yX5_coarse, .code yX5_coarse cX5_coarse 2 (some .int), .constant RX5 57 (10000000)] ++ wsX50)
def wsX5_told_r1 : List Cond := [Cond.fieldLink RX5 47 "WaysKeptModel" "thrown" "I", Cond.fieldLink RX5 13 "WaysKeptModel" "from" "[I", Cond.fieldLink RX5 17 "WaysKeptModel" "to" "[I", Cond.fieldLink RX5 20 "WaysKeptModel" "price" "[I", Cond.fieldLink RX5 23 "WaysKeptModel" "isBoth" "[Z", Cond.fieldLink RX5 27 "WaysKeptModel" "isThere" "[Z", Cond.methodLink RX5 87 yX5_noLine, Cond.instanceMethod yX5_noLine, Cond.selects RX5 yX5_noLine yX5_noLine, Cond.initialized RX5, Cond.code yX5_noLine cX5_noLine 2 (some .boolean), Cond.fieldLink RX5 54 "WaysKeptModel" "lines" "I", Cond.methodLink RX5 50 yX5_in, Cond.static yX5_in, Cond.code yX5_in cX5_in 6 (some .boolean), Cond.methodLink RX5 40 yX5_learn, Cond.instanceMethod yX5_learn, Cond.selects RX5 yX5_learn yX5_learn, Cond.code yX5_learn cX5_learn 8 (some .boolean), Cond.fieldLink RX5 30 "WaysKeptModel" "fine" "[I", Cond.constant RX5 57 (10000000), Cond.fieldLink RX5 7 "WaysKeptModel" "posts" "I", Cond.methodLink RX5 94 yX5_heightOf, Cond.instanceMethod yX5_heightOf]
def wsX5_told_r2 : List Cond := [Cond.selects RX5 yX5_heightOf yX5_heightOf, Cond.code yX5_heightOf cX5_heightOf 4 (some .int), Cond.methodLink RX5 80 yX5_farOf, Cond.instanceMethod yX5_farOf, Cond.selects RX5 yX5_farOf yX5_farOf, Cond.code yX5_farOf cX5_farOf 3 (some .int), Cond.methodLink RX5 58 yX5_coarse, Cond.static yX5_coarse, Cond.code yX5_coarse cX5_coarse 2 (some .int)]
def wsX5_told : List Cond := .code yX5_told cX5_told 4 (some .int) :: ((wsX5_told_r1 ++ wsX5_told_r2) ++ wsX50)
def wsX5_far_r1 : List Cond := [Cond.fieldLink RX5 47 "WaysKeptModel" "thrown" "I", Cond.methodLink RX5 72 yX5_noPost, Cond.instanceMethod yX5_noPost, Cond.selects RX5 yX5_noPost yX5_noPost, Cond.initialized RX5, Cond.code yX5_noPost cX5_noPost 2 (some .boolean), Cond.fieldLink RX5 7 "WaysKeptModel" "posts" "I", Cond.methodLink RX5 50 yX5_in, Cond.static yX5_in, Cond.code yX5_in cX5_in 6 (some .boolean), Cond.methodLink RX5 40 yX5_learn, Cond.instanceMethod yX5_learn, Cond.selects RX5 yX5_learn yX5_learn, Cond.code yX5_learn cX5_learn 8 (some .boolean), Cond.fieldLink RX5 30 "WaysKeptModel" "fine" "[I", Cond.constant RX5 57 (10000000), Cond.fieldLink RX5 54 "WaysKeptModel" "lines" "I", Cond.fieldLink RX5 27 "WaysKeptModel" "isThere" "[Z", Cond.fieldLink RX5 13 "WaysKeptModel" "from" "[I", Cond.fieldLink RX5 17 "WaysKeptModel" "to" "[I", Cond.fieldLink RX5 20 "WaysKeptModel" "price" "[I", Cond.fieldLink RX5 23 "WaysKeptModel" "isBoth" "[Z", Cond.methodLink RX5 80 yX5_farOf, Cond.instanceMethod yX5_farOf]
def wsX5_far_r2 : List Cond := [Cond.selects RX5 yX5_farOf yX5_farOf, Cond.code yX5_farOf cX5_farOf 3 (some .int), Cond.methodLink RX5 58 yX5_coarse, Cond.static yX5_coarse, Cond.code yX5_coarse cX5_coarse 2 (some .int)]
def wsX5_far : List Cond := .code yX5_far cX5_far 3 (some .int) :: ((wsX5_far_r1 ++ wsX5_far_r2) ++ wsX50)
def wsX5_steps_r1 : List Cond := [Cond.fieldLink RX5 47 "WaysKeptModel" "thrown" "I", Cond.fieldLink RX5 30 "WaysKeptModel" "fine" "[I", Cond.constant RX5 57 (10000000), Cond.methodLink RX5 72 yX5_noPost, Cond.instanceMethod yX5_noPost, Cond.selects RX5 yX5_noPost yX5_noPost, Cond.initialized RX5, Cond.code yX5_noPost cX5_noPost 2 (some .boolean), Cond.fieldLink RX5 7 "WaysKeptModel" "posts" "I", Cond.methodLink RX5 50 yX5_in, Cond.static yX5_in, Cond.code yX5_in cX5_in 6 (some .boolean), Cond.methodLink RX5 40 yX5_learn, Cond.instanceMethod yX5_learn, Cond.selects RX5 yX5_learn yX5_learn, Cond.code yX5_learn cX5_learn 8 (some .boolean), Cond.fieldLink RX5 54 "WaysKeptModel" "lines" "I", Cond.fieldLink RX5 27 "WaysKeptModel" "isThere" "[Z", Cond.fieldLink RX5 13 "WaysKeptModel" "from" "[I", Cond.fieldLink RX5 17 "WaysKeptModel" "to" "[I", Cond.fieldLink RX5 20 "WaysKeptModel" "price" "[I", Cond.fieldLink RX5 23 "WaysKeptModel" "isBoth" "[Z", Cond.methodLink RX5 58 yX5_coarse, Cond.static yX5_coarse]
def wsX5_steps_r2 : List Cond := [Cond.code yX5_coarse cX5_coarse 2 (some .int)]
def wsX5_steps : List Cond := .code yX5_steps cX5_steps 4 (some .int) :: ((wsX5_steps_r1 ++ wsX5_steps_r2) ++ wsX50)
def wsX5_nextOf : List Cond := .code yX5_nextOf cX5_nextOf 5 (some .int) :: ([.fieldLink RX5 54 "WaysKeptModel" "lines" "I", .fieldLink RX5 13 "WaysKeptModel" "from" "[I", .fieldLink RX5 17 "WaysKeptModel" "to" "[I", .fieldLink RX5 23 "WaysKeptModel" "isBoth" "[Z", .fieldLink RX5 27 "WaysKeptModel" "isThere" "[Z", .fieldLink RX5 30 "WaysKeptModel" "fine" "[I", .constant RX5 57 (10000000), .fieldLink RX5 20 "WaysKeptModel" "price" "[I"] ++ wsX50)
def wsX5_other : List Cond := .code yX5_other cX5_other 3 (some .int) :: ([.fieldLink RX5 13 "WaysKeptModel" "from" "[I", .fieldLink RX5 17 "WaysKeptModel" "to" "[I"] ++ wsX50)
def wsX5_way_r1 : List Cond := [Cond.fieldLink RX5 47 "WaysKeptModel" "thrown" "I", Cond.fieldLink RX5 30 "WaysKeptModel" "fine" "[I", Cond.constant RX5 57 (10000000), Cond.methodLink RX5 72 yX5_noPost, Cond.instanceMethod yX5_noPost, Cond.selects RX5 yX5_noPost yX5_noPost, Cond.initialized RX5, Cond.code yX5_noPost cX5_noPost 2 (some .boolean), Cond.fieldLink RX5 7 "WaysKeptModel" "posts" "I", Cond.methodLink RX5 50 yX5_in, Cond.static yX5_in, Cond.code yX5_in cX5_in 6 (some .boolean), Cond.methodLink RX5 40 yX5_learn, Cond.instanceMethod yX5_learn, Cond.selects RX5 yX5_learn yX5_learn, Cond.code yX5_learn cX5_learn 8 (some .boolean), Cond.fieldLink RX5 54 "WaysKeptModel" "lines" "I", Cond.fieldLink RX5 27 "WaysKeptModel" "isThere" "[Z", Cond.fieldLink RX5 13 "WaysKeptModel" "from" "[I", Cond.fieldLink RX5 17 "WaysKeptModel" "to" "[I", Cond.fieldLink RX5 20 "WaysKeptModel" "price" "[I", Cond.fieldLink RX5 23 "WaysKeptModel" "isBoth" "[Z", Cond.methodLink RX5 58 yX5_coarse, Cond.static yX5_coarse]
def wsX5_way_r2 : List Cond := [Cond.code yX5_coarse cX5_coarse 2 (some .int), Cond.methodLink RX5 97 yX5_nextOf, Cond.instanceMethod yX5_nextOf, Cond.selects RX5 yX5_nextOf yX5_nextOf, Cond.code yX5_nextOf cX5_nextOf 5 (some .int), Cond.methodLink RX5 100 yX5_other, Cond.instanceMethod yX5_other, Cond.selects RX5 yX5_other yX5_other, Cond.code yX5_other cX5_other 3 (some .int)]
def wsX5_way : List Cond := .code yX5_way cX5_way 8 (some .int) :: ((wsX5_way_r1 ++ wsX5_way_r2) ++ wsX50)
def wsX5_without_r1 : List Cond := [Cond.fieldLink RX5 47 "WaysKeptModel" "thrown" "I", Cond.methodLink RX5 72 yX5_noPost, Cond.instanceMethod yX5_noPost, Cond.selects RX5 yX5_noPost yX5_noPost, Cond.initialized RX5, Cond.code yX5_noPost cX5_noPost 2 (some .boolean), Cond.fieldLink RX5 7 "WaysKeptModel" "posts" "I", Cond.methodLink RX5 50 yX5_in, Cond.static yX5_in, Cond.code yX5_in cX5_in 6 (some .boolean), Cond.methodLink RX5 87 yX5_noLine, Cond.instanceMethod yX5_noLine, Cond.selects RX5 yX5_noLine yX5_noLine, Cond.code yX5_noLine cX5_noLine 2 (some .boolean), Cond.fieldLink RX5 54 "WaysKeptModel" "lines" "I", Cond.methodLink RX5 40 yX5_learn, Cond.instanceMethod yX5_learn, Cond.selects RX5 yX5_learn yX5_learn, Cond.code yX5_learn cX5_learn 8 (some .boolean), Cond.fieldLink RX5 30 "WaysKeptModel" "fine" "[I", Cond.constant RX5 57 (10000000), Cond.fieldLink RX5 27 "WaysKeptModel" "isThere" "[Z", Cond.fieldLink RX5 13 "WaysKeptModel" "from" "[I", Cond.fieldLink RX5 17 "WaysKeptModel" "to" "[I"]
def wsX5_without_r2 : List Cond := [Cond.fieldLink RX5 20 "WaysKeptModel" "price" "[I", Cond.fieldLink RX5 23 "WaysKeptModel" "isBoth" "[Z", Cond.methodLink RX5 80 yX5_farOf, Cond.instanceMethod yX5_farOf, Cond.selects RX5 yX5_farOf yX5_farOf, Cond.code yX5_farOf cX5_farOf 3 (some .int), Cond.methodLink RX5 58 yX5_coarse, Cond.static yX5_coarse, Cond.code yX5_coarse cX5_coarse 2 (some .int)]
def wsX5_without : List Cond := .code yX5_without cX5_without 4 (some .int) :: ((wsX5_without_r1 ++ wsX5_without_r2) ++ wsX50)
def wsX5_vital_r1 : List Cond := [Cond.fieldLink RX5 47 "WaysKeptModel" "thrown" "I", Cond.fieldLink RX5 54 "WaysKeptModel" "lines" "I", Cond.methodLink RX5 72 yX5_noPost, Cond.instanceMethod yX5_noPost, Cond.selects RX5 yX5_noPost yX5_noPost, Cond.initialized RX5, Cond.code yX5_noPost cX5_noPost 2 (some .boolean), Cond.fieldLink RX5 7 "WaysKeptModel" "posts" "I", Cond.methodLink RX5 50 yX5_in, Cond.static yX5_in, Cond.code yX5_in cX5_in 6 (some .boolean), Cond.methodLink RX5 40 yX5_learn, Cond.instanceMethod yX5_learn, Cond.selects RX5 yX5_learn yX5_learn, Cond.code yX5_learn cX5_learn 8 (some .boolean), Cond.fieldLink RX5 30 "WaysKeptModel" "fine" "[I", Cond.constant RX5 57 (10000000), Cond.fieldLink RX5 27 "WaysKeptModel" "isThere" "[Z", Cond.fieldLink RX5 13 "WaysKeptModel" "from" "[I", Cond.fieldLink RX5 17 "WaysKeptModel" "to" "[I", Cond.fieldLink RX5 20 "WaysKeptModel" "price" "[I", Cond.fieldLink RX5 23 "WaysKeptModel" "isBoth" "[Z", Cond.methodLink RX5 80 yX5_farOf, Cond.instanceMethod yX5_farOf]
def wsX5_vital_r2 : List Cond := [Cond.selects RX5 yX5_farOf yX5_farOf, Cond.code yX5_farOf cX5_farOf 3 (some .int), Cond.methodLink RX5 58 yX5_coarse, Cond.static yX5_coarse, Cond.code yX5_coarse cX5_coarse 2 (some .int)]
def wsX5_vital : List Cond := .code yX5_vital cX5_vital 7 (some .int) :: ((wsX5_vital_r1 ++ wsX5_vital_r2) ++ wsX50)
def wsX5_about_r1 : List Cond := [Cond.fieldLink RX5 47 "WaysKeptModel" "thrown" "I", Cond.methodLink RX5 72 yX5_noPost, Cond.instanceMethod yX5_noPost, Cond.selects RX5 yX5_noPost yX5_noPost, Cond.initialized RX5, Cond.code yX5_noPost cX5_noPost 2 (some .boolean), Cond.fieldLink RX5 7 "WaysKeptModel" "posts" "I", Cond.methodLink RX5 50 yX5_in, Cond.static yX5_in, Cond.code yX5_in cX5_in 6 (some .boolean), Cond.methodLink RX5 40 yX5_learn, Cond.instanceMethod yX5_learn, Cond.selects RX5 yX5_learn yX5_learn, Cond.code yX5_learn cX5_learn 8 (some .boolean), Cond.fieldLink RX5 30 "WaysKeptModel" "fine" "[I", Cond.constant RX5 57 (10000000), Cond.fieldLink RX5 54 "WaysKeptModel" "lines" "I", Cond.fieldLink RX5 27 "WaysKeptModel" "isThere" "[Z", Cond.fieldLink RX5 13 "WaysKeptModel" "from" "[I", Cond.fieldLink RX5 17 "WaysKeptModel" "to" "[I", Cond.fieldLink RX5 20 "WaysKeptModel" "price" "[I", Cond.fieldLink RX5 23 "WaysKeptModel" "isBoth" "[Z", Cond.methodLink RX5 80 yX5_farOf, Cond.instanceMethod yX5_farOf]
def wsX5_about_r2 : List Cond := [Cond.selects RX5 yX5_farOf yX5_farOf, Cond.code yX5_farOf cX5_farOf 3 (some .int), Cond.methodLink RX5 58 yX5_coarse, Cond.static yX5_coarse, Cond.code yX5_coarse cX5_coarse 2 (some .int)]
def wsX5_about : List Cond := .code yX5_about cX5_about 4 (some .int) :: ((wsX5_about_r1 ++ wsX5_about_r2) ++ wsX50)
def wsX5_ring : List Cond := .code yX5_ring cX5_ring 5 (some .int) :: ([.fieldLink RX5 47 "WaysKeptModel" "thrown" "I", .fieldLink RX5 54 "WaysKeptModel" "lines" "I", .fieldLink RX5 23 "WaysKeptModel" "isBoth" "[Z", .fieldLink RX5 17 "WaysKeptModel" "to" "[I", .fieldLink RX5 13 "WaysKeptModel" "from" "[I", .fieldLink RX5 27 "WaysKeptModel" "isThere" "[Z", .fieldLink RX5 20 "WaysKeptModel" "price" "[I", .methodLink RX5 40 yX5_learn, .instanceMethod yX5_learn, .selects RX5 yX5_learn yX5_learn, .initialized RX5, .code yX5_learn cX5_learn 8 (some .boolean), .fieldLink RX5 30 "WaysKeptModel" "fine" "[I", .constant RX5 57 (10000000), .fieldLink RX5 7 "WaysKeptModel" "posts" "I", .methodLink RX5 80 yX5_farOf, .instanceMethod yX5_farOf, .selects RX5 yX5_farOf yX5_farOf, .code yX5_farOf cX5_farOf 3 (some .int), .methodLink RX5 58 yX5_coarse, .static yX5_coarse, .code yX5_coarse cX5_coarse 2 (some .int)] ++ wsX50)
def wsX5_height_r1 : List Cond := [Cond.fieldLink RX5 47 "WaysKeptModel" "thrown" "I", Cond.methodLink RX5 72 yX5_noPost, Cond.instanceMethod yX5_noPost, Cond.selects RX5 yX5_noPost yX5_noPost, Cond.initialized RX5, Cond.code yX5_noPost cX5_noPost 2 (some .boolean), Cond.fieldLink RX5 7 "WaysKeptModel" "posts" "I", Cond.methodLink RX5 50 yX5_in, Cond.static yX5_in, Cond.code yX5_in cX5_in 6 (some .boolean), Cond.methodLink RX5 40 yX5_learn, Cond.instanceMethod yX5_learn, Cond.selects RX5 yX5_learn yX5_learn, Cond.code yX5_learn cX5_learn 8 (some .boolean), Cond.fieldLink RX5 30 "WaysKeptModel" "fine" "[I", Cond.constant RX5 57 (10000000), Cond.fieldLink RX5 54 "WaysKeptModel" "lines" "I", Cond.fieldLink RX5 27 "WaysKeptModel" "isThere" "[Z", Cond.fieldLink RX5 13 "WaysKeptModel" "from" "[I", Cond.fieldLink RX5 17 "WaysKeptModel" "to" "[I", Cond.fieldLink RX5 20 "WaysKeptModel" "price" "[I", Cond.fieldLink RX5 23 "WaysKeptModel" "isBoth" "[Z", Cond.methodLink RX5 94 yX5_heightOf, Cond.instanceMethod yX5_heightOf]
def wsX5_height_r2 : List Cond := [Cond.selects RX5 yX5_heightOf yX5_heightOf, Cond.code yX5_heightOf cX5_heightOf 4 (some .int), Cond.methodLink RX5 80 yX5_farOf, Cond.instanceMethod yX5_farOf, Cond.selects RX5 yX5_farOf yX5_farOf, Cond.code yX5_farOf cX5_farOf 3 (some .int), Cond.methodLink RX5 58 yX5_coarse, Cond.static yX5_coarse, Cond.code yX5_coarse cX5_coarse 2 (some .int)]
def wsX5_height : List Cond := .code yX5_height cX5_height 2 (some .int) :: ((wsX5_height_r1 ++ wsX5_height_r2) ++ wsX50)
def wsX5_acts : List Cond := .code yX5_acts cX5_acts 1 (some .int) :: ([.fieldLink RX5 47 "WaysKeptModel" "thrown" "I", .fieldLink RX5 62 "WaysKeptModel" "acts" "I"] ++ wsX50)
def wsX5_isMoved : List Cond := .code yX5_isMoved cX5_isMoved 3 (some .boolean) :: ([.fieldLink RX5 7 "WaysKeptModel" "posts" "I", .fieldLink RX5 34 "WaysKeptModel" "kept" "[I"] ++ wsX50)
def wsX5_moved : List Cond := .code yX5_moved cX5_moved 4 (some .int) :: ([.fieldLink RX5 47 "WaysKeptModel" "thrown" "I", .fieldLink RX5 62 "WaysKeptModel" "acts" "I", .methodLink RX5 50 yX5_in, .static yX5_in, .initialized RX5, .code yX5_in cX5_in 6 (some .boolean), .methodLink RX5 103 yX5_isMoved, .instanceMethod yX5_isMoved, .selects RX5 yX5_isMoved yX5_isMoved, .code yX5_isMoved cX5_isMoved 3 (some .boolean), .fieldLink RX5 7 "WaysKeptModel" "posts" "I", .fieldLink RX5 34 "WaysKeptModel" "kept" "[I"] ++ wsX50)
def wsX5_pair : List Cond := .code yX5_pair cX5_pair 5 (some .int) :: ([.fieldLink RX5 47 "WaysKeptModel" "thrown" "I", .fieldLink RX5 62 "WaysKeptModel" "acts" "I", .methodLink RX5 50 yX5_in, .static yX5_in, .initialized RX5, .code yX5_in cX5_in 6 (some .boolean), .methodLink RX5 103 yX5_isMoved, .instanceMethod yX5_isMoved, .selects RX5 yX5_isMoved yX5_isMoved, .code yX5_isMoved cX5_isMoved 3 (some .boolean), .fieldLink RX5 7 "WaysKeptModel" "posts" "I", .fieldLink RX5 34 "WaysKeptModel" "kept" "[I"] ++ wsX50)
def wsX5_then : List Cond := .code yX5_then cX5_then 4 (some .int) :: ([.fieldLink RX5 47 "WaysKeptModel" "thrown" "I", .fieldLink RX5 62 "WaysKeptModel" "acts" "I", .fieldLink RX5 34 "WaysKeptModel" "kept" "[I", .methodLink RX5 72 yX5_noPost, .instanceMethod yX5_noPost, .selects RX5 yX5_noPost yX5_noPost, .initialized RX5, .code yX5_noPost cX5_noPost 2 (some .boolean), .fieldLink RX5 7 "WaysKeptModel" "posts" "I", .methodLink RX5 50 yX5_in, .static yX5_in, .code yX5_in cX5_in 6 (some .boolean)] ++ wsX50)
def wsX5_since : List Cond := .code yX5_since cX5_since 7 (some .int) :: ([.fieldLink RX5 47 "WaysKeptModel" "thrown" "I", .fieldLink RX5 62 "WaysKeptModel" "acts" "I", .constantLong RX5 106 (-500), .constantLong RX5 108 (1000), .fieldLink RX5 34 "WaysKeptModel" "kept" "[I", .methodLink RX5 72 yX5_noPost, .instanceMethod yX5_noPost, .selects RX5 yX5_noPost yX5_noPost, .initialized RX5, .code yX5_noPost cX5_noPost 2 (some .boolean), .fieldLink RX5 7 "WaysKeptModel" "posts" "I", .methodLink RX5 50 yX5_in, .static yX5_in, .code yX5_in cX5_in 6 (some .boolean)] ++ wsX50)
def wsX5_marks : List Cond := .code yX5_marks cX5_marks 3 (some .int) :: ([.fieldLink RX5 47 "WaysKeptModel" "thrown" "I", .fieldLink RX5 7 "WaysKeptModel" "posts" "I", .fieldLink RX5 69 "WaysKeptModel" "marks" "I"] ++ wsX50)
def wsX5_nearOf : List Cond := .code yX5_nearOf cX5_nearOf 6 (some .int) :: ([.fieldLink RX5 7 "WaysKeptModel" "posts" "I", .fieldLink RX5 69 "WaysKeptModel" "marks" "I", .methodLink RX5 80 yX5_farOf, .instanceMethod yX5_farOf, .selects RX5 yX5_farOf yX5_farOf, .initialized RX5, .code yX5_farOf cX5_farOf 3 (some .int), .fieldLink RX5 30 "WaysKeptModel" "fine" "[I", .methodLink RX5 58 yX5_coarse, .static yX5_coarse, .code yX5_coarse cX5_coarse 2 (some .int), .constant RX5 57 (10000000)] ++ wsX50)
def wsX5_near_r1 : List Cond := [Cond.fieldLink RX5 47 "WaysKeptModel" "thrown" "I", Cond.methodLink RX5 72 yX5_noPost, Cond.instanceMethod yX5_noPost, Cond.selects RX5 yX5_noPost yX5_noPost, Cond.initialized RX5, Cond.code yX5_noPost cX5_noPost 2 (some .boolean), Cond.fieldLink RX5 7 "WaysKeptModel" "posts" "I", Cond.methodLink RX5 50 yX5_in, Cond.static yX5_in, Cond.code yX5_in cX5_in 6 (some .boolean), Cond.methodLink RX5 40 yX5_learn, Cond.instanceMethod yX5_learn, Cond.selects RX5 yX5_learn yX5_learn, Cond.code yX5_learn cX5_learn 8 (some .boolean), Cond.fieldLink RX5 30 "WaysKeptModel" "fine" "[I", Cond.constant RX5 57 (10000000), Cond.fieldLink RX5 54 "WaysKeptModel" "lines" "I", Cond.fieldLink RX5 27 "WaysKeptModel" "isThere" "[Z", Cond.fieldLink RX5 13 "WaysKeptModel" "from" "[I", Cond.fieldLink RX5 17 "WaysKeptModel" "to" "[I", Cond.fieldLink RX5 20 "WaysKeptModel" "price" "[I", Cond.fieldLink RX5 23 "WaysKeptModel" "isBoth" "[Z", Cond.methodLink RX5 110 yX5_nearOf, Cond.instanceMethod yX5_nearOf]
def wsX5_near_r2 : List Cond := [Cond.selects RX5 yX5_nearOf yX5_nearOf, Cond.code yX5_nearOf cX5_nearOf 6 (some .int), Cond.fieldLink RX5 69 "WaysKeptModel" "marks" "I", Cond.methodLink RX5 80 yX5_farOf, Cond.instanceMethod yX5_farOf, Cond.selects RX5 yX5_farOf yX5_farOf, Cond.code yX5_farOf cX5_farOf 3 (some .int), Cond.methodLink RX5 58 yX5_coarse, Cond.static yX5_coarse, Cond.code yX5_coarse cX5_coarse 2 (some .int)]
def wsX5_near : List Cond := .code yX5_near cX5_near 3 (some .int) :: ((wsX5_near_r1 ++ wsX5_near_r2) ++ wsX50)
def wsX5_worst_r1 : List Cond := [Cond.fieldLink RX5 47 "WaysKeptModel" "thrown" "I", Cond.fieldLink RX5 7 "WaysKeptModel" "posts" "I", Cond.methodLink RX5 40 yX5_learn, Cond.instanceMethod yX5_learn, Cond.selects RX5 yX5_learn yX5_learn, Cond.initialized RX5, Cond.code yX5_learn cX5_learn 8 (some .boolean), Cond.fieldLink RX5 30 "WaysKeptModel" "fine" "[I", Cond.constant RX5 57 (10000000), Cond.fieldLink RX5 54 "WaysKeptModel" "lines" "I", Cond.fieldLink RX5 27 "WaysKeptModel" "isThere" "[Z", Cond.fieldLink RX5 13 "WaysKeptModel" "from" "[I", Cond.fieldLink RX5 17 "WaysKeptModel" "to" "[I", Cond.fieldLink RX5 20 "WaysKeptModel" "price" "[I", Cond.fieldLink RX5 23 "WaysKeptModel" "isBoth" "[Z", Cond.methodLink RX5 80 yX5_farOf, Cond.instanceMethod yX5_farOf, Cond.selects RX5 yX5_farOf yX5_farOf, Cond.code yX5_farOf cX5_farOf 3 (some .int), Cond.methodLink RX5 58 yX5_coarse, Cond.static yX5_coarse, Cond.code yX5_coarse cX5_coarse 2 (some .int), Cond.methodLink RX5 110 yX5_nearOf, Cond.instanceMethod yX5_nearOf]
def wsX5_worst_r2 : List Cond := [Cond.selects RX5 yX5_nearOf yX5_nearOf, Cond.code yX5_nearOf cX5_nearOf 6 (some .int), Cond.fieldLink RX5 69 "WaysKeptModel" "marks" "I"]
def wsX5_worst : List Cond := .code yX5_worst cX5_worst 4 (some .int) :: ((wsX5_worst_r1 ++ wsX5_worst_r2) ++ wsX50)
def wsX5_bits : List Cond := .code yX5_bits cX5_bits 3 (some .int) :: ([])
def wsX5_hits_r1 : List Cond := [Cond.fieldLink RX5 47 "WaysKeptModel" "thrown" "I", Cond.constantLong RX5 113 (9), Cond.fieldLink RX5 7 "WaysKeptModel" "posts" "I", Cond.fieldLink RX5 30 "WaysKeptModel" "fine" "[I", Cond.constant RX5 57 (10000000), Cond.fieldLink RX5 37 "WaysKeptModel" "inner" "[I", Cond.methodLink RX5 50 yX5_in, Cond.static yX5_in, Cond.initialized RX5, Cond.code yX5_in cX5_in 6 (some .boolean), Cond.methodLink RX5 40 yX5_learn, Cond.instanceMethod yX5_learn, Cond.selects RX5 yX5_learn yX5_learn, Cond.code yX5_learn cX5_learn 8 (some .boolean), Cond.fieldLink RX5 54 "WaysKeptModel" "lines" "I", Cond.fieldLink RX5 27 "WaysKeptModel" "isThere" "[Z", Cond.fieldLink RX5 13 "WaysKeptModel" "from" "[I", Cond.fieldLink RX5 17 "WaysKeptModel" "to" "[I", Cond.fieldLink RX5 20 "WaysKeptModel" "price" "[I", Cond.fieldLink RX5 23 "WaysKeptModel" "isBoth" "[Z", Cond.methodLink RX5 58 yX5_coarse, Cond.static yX5_coarse, Cond.code yX5_coarse cX5_coarse 2 (some .int), Cond.methodLink RX5 97 yX5_nextOf]
def wsX5_hits_r2 : List Cond := [Cond.instanceMethod yX5_nextOf, Cond.selects RX5 yX5_nextOf yX5_nextOf, Cond.code yX5_nextOf cX5_nextOf 5 (some .int), Cond.methodLink RX5 100 yX5_other, Cond.instanceMethod yX5_other, Cond.selects RX5 yX5_other yX5_other, Cond.code yX5_other cX5_other 3 (some .int), Cond.methodLink RX5 115 yX5_bits, Cond.static yX5_bits, Cond.code yX5_bits cX5_bits 3 (some .int)]
def wsX5_hits : List Cond := .code yX5_hits cX5_hits 9 (some .int) :: ((wsX5_hits_r1 ++ wsX5_hits_r2) ++ wsX50)
def wsX5_count_r1 : List Cond := [Cond.fieldLink RX5 47 "WaysKeptModel" "thrown" "I", Cond.fieldLink RX5 7 "WaysKeptModel" "posts" "I", Cond.fieldLink RX5 54 "WaysKeptModel" "lines" "I", Cond.fieldLink RX5 69 "WaysKeptModel" "marks" "I", Cond.methodLink RX5 40 yX5_learn, Cond.instanceMethod yX5_learn, Cond.selects RX5 yX5_learn yX5_learn, Cond.initialized RX5, Cond.code yX5_learn cX5_learn 8 (some .boolean), Cond.fieldLink RX5 30 "WaysKeptModel" "fine" "[I", Cond.constant RX5 57 (10000000), Cond.fieldLink RX5 27 "WaysKeptModel" "isThere" "[Z", Cond.fieldLink RX5 13 "WaysKeptModel" "from" "[I", Cond.fieldLink RX5 17 "WaysKeptModel" "to" "[I", Cond.fieldLink RX5 20 "WaysKeptModel" "price" "[I", Cond.fieldLink RX5 23 "WaysKeptModel" "isBoth" "[Z", Cond.methodLink RX5 80 yX5_farOf, Cond.instanceMethod yX5_farOf, Cond.selects RX5 yX5_farOf yX5_farOf, Cond.code yX5_farOf cX5_farOf 3 (some .int), Cond.methodLink RX5 58 yX5_coarse, Cond.static yX5_coarse, Cond.code yX5_coarse cX5_coarse 2 (some .int), Cond.methodLink RX5 90 yX5_there]
def wsX5_count_r2 : List Cond := [Cond.instanceMethod yX5_there, Cond.selects RX5 yX5_there yX5_there, Cond.code yX5_there cX5_there 3 (some .int), Cond.methodLink RX5 115 yX5_bits, Cond.static yX5_bits, Cond.code yX5_bits cX5_bits 3 (some .int)]
def wsX5_count : List Cond := .code yX5_count cX5_count 5 (some .int) :: ((wsX5_count_r1 ++ wsX5_count_r2) ++ wsX50)
def wsJ9_max_7cf53 : List Cond := .code yJ9_max_7cf53 cJ9_max_7cf53 2 (some .int) :: ([])
def wsJ9_min_7cf53 : List Cond := .code yJ9_min_7cf53 cJ9_min_7cf53 2 (some .int) :: ([])
def wsL_law_r1 : List Cond := [Cond.classLink RL 7 RX4, Cond.instantiable RX4 5, Cond.initialized RX4, Cond.classLink RL 10 RX5, Cond.instantiable RX5 13, Cond.initialized RX5, Cond.methodLink RL 9 yX4_init, Cond.instanceMethod yX4_init, Cond.code yX4_init cX4_init 1 none, Cond.methodLink RX4 3 objectInit, Cond.instanceMethod objectInit, Cond.code objectInit ⟨#[0xb1]⟩ 1 none, Cond.classLink RX4 9 RX1, Cond.instantiable RX1 7, Cond.initialized RX1, Cond.fieldLink RX4 12 "WaysKept" "net" "LWaysKept$Net;", Cond.classLink RX4 16 RX3, Cond.instantiable RX3 3, Cond.initialized RX3, Cond.fieldLink RX4 21 "WaysKept" "ways" "LWaysKept$Ways;", Cond.classLink RX4 25 RX2, Cond.instantiable RX2 2, Cond.initialized RX2, Cond.fieldLink RX4 28 "WaysKept" "past" "LWaysKept$Past;"]
def wsL_law_r2 : List Cond := [Cond.classLink RX4 32 RX0, Cond.instantiable RX0 2, Cond.initialized RX0, Cond.fieldLink RX4 35 "WaysKept" "hitting" "LWaysKept$Hitting;", Cond.instanceMethod yX1_init, Cond.code yX1_init cX1_init 1 none, Cond.methodLink RX1 3 objectInit, Cond.arrayClass .int, Cond.fieldLink RX1 9 "WaysKept$Net" "begins" "[I", Cond.fieldLink RX1 15 "WaysKept$Net" "ends" "[I", Cond.fieldLink RX1 18 "WaysKept$Net" "prices" "[I", Cond.arrayClass .boolean, Cond.fieldLink RX1 21 "WaysKept$Net" "bothWays" "[Z", Cond.fieldLink RX1 25 "WaysKept$Net" "there" "[Z", Cond.methodLink RX4 18 yX3_init, Cond.instanceMethod yX3_init, Cond.code yX3_init cX3_init 2 none, Cond.methodLink RX3 5 objectInit, Cond.fieldLink RX3 11 "WaysKept$Ways" "costs" "[I", Cond.fieldLink RX3 17 "WaysKept$Ways" "reached" "[I", Cond.fieldLink RX3 20 "WaysKept$Ways" "net" "LWaysKept$Net;", Cond.instanceMethod yX2_init, Cond.code yX2_init cX2_init 1 none, Cond.methodLink RX2 3 objectInit]
def wsL_law_r3 : List Cond := [Cond.fieldLink RX2 11 "WaysKept$Past" "fars" "[I", Cond.instanceMethod yX0_init, Cond.code yX0_init cX0_init 1 none, Cond.methodLink RX0 3 objectInit, Cond.fieldLink RX0 9 "WaysKept$Hitting" "asked" "[I", Cond.methodLink RX4 39 yX4_restart, Cond.instanceMethod yX4_restart, Cond.selects RX4 yX4_restart yX4_restart, Cond.code yX4_restart cX4_restart 2 none, Cond.fieldLink RX4 158 "WaysKept" "marked" "I", Cond.methodLink RX4 187 yX1_clear, Cond.instanceMethod yX1_clear, Cond.selects RX1 yX1_clear yX1_clear, Cond.code yX1_clear cX1_clear 2 none, Cond.fieldLink RX1 28 "WaysKept$Net" "posts" "I", Cond.fieldLink RX1 32 "WaysKept$Net" "lines" "I", Cond.methodLink RX4 190 yX2_clear, Cond.instanceMethod yX2_clear, Cond.selects RX2 yX2_clear yX2_clear, Cond.code yX2_clear cX2_clear 1 none, Cond.fieldLink RX2 15 "WaysKept$Past" "rows" "I", Cond.methodLink RX4 70 yX4_keepAct, Cond.instanceMethod yX4_keepAct, Cond.selects RX4 yX4_keepAct yX4_keepAct]
def wsL_law_r4 : List Cond := [Cond.code yX4_keepAct cX4_keepAct 1 none, Cond.methodLink RX4 192 yX3_measure, Cond.instanceMethod yX3_measure, Cond.selects RX3 yX3_measure yX3_measure, Cond.code yX3_measure cX3_measure 2 none, Cond.constant RX3 24 (2147483647), Cond.methodLink RX3 45 arraycopyName, Cond.native arraycopyName, Cond.static arraycopyName, Cond.initialized "java/lang/System", Cond.methodLink RX3 25 yJ7_fill_53178, Cond.static yJ7_fill_53178, Cond.initialized RJ7, Cond.code yJ7_fill_53178 cJ7_fill_53178 4 none, Cond.methodLink RX3 37 yX3_spread, Cond.instanceMethod yX3_spread, Cond.selects RX3 yX3_spread yX3_spread, Cond.code yX3_spread cX3_spread 7 none, Cond.methodLink RX3 115 yX1_touches, Cond.instanceMethod yX1_touches, Cond.selects RX1 yX1_touches yX1_touches, Cond.code yX1_touches cX1_touches 3 (some .boolean), Cond.methodLink RX3 118 yX3_relax, Cond.instanceMethod yX3_relax]
def wsL_law_r5 : List Cond := [Cond.selects RX3 yX3_relax yX3_relax, Cond.code yX3_relax cX3_relax 6 (some .boolean), Cond.methodLink RX3 122 yX3_costOf, Cond.instanceMethod yX3_costOf, Cond.selects RX3 yX3_costOf yX3_costOf, Cond.code yX3_costOf cX3_costOf 2 (some .int), Cond.methodLink RX3 125 yX3_lower, Cond.instanceMethod yX3_lower, Cond.selects RX3 yX3_lower yX3_lower, Cond.code yX3_lower cX3_lower 4 (some .boolean), Cond.static yX4_pairOf, Cond.code yX4_pairOf cX4_pairOf 2 (some .int), Cond.methodLink RX4 195 yX2_keep, Cond.instanceMethod yX2_keep, Cond.selects RX2 yX2_keep yX2_keep, Cond.code yX2_keep cX2_keep 3 none, Cond.methodLink RX2 19 yX2_isFull, Cond.instanceMethod yX2_isFull, Cond.selects RX2 yX2_isFull yX2_isFull, Cond.code yX2_isFull cX2_isFull 1 (some .boolean), Cond.methodLink RX2 23 yX2_makeRoom, Cond.instanceMethod yX2_makeRoom, Cond.selects RX2 yX2_makeRoom yX2_makeRoom, Cond.code yX2_makeRoom cX2_makeRoom 1 none]
def wsL_law_r6 : List Cond := [Cond.constant RX2 39 (40100), Cond.methodLink RX2 40 Lib.Math.min.name, Cond.static Lib.Math.min.name, Cond.initialized "java/lang/Math", Cond.code Lib.Math.min.name Lib.Math.min.code 2 (some .int), Cond.methodLink RX2 45 yJ7_copyOf_59c91, Cond.static yJ7_copyOf_59c91, Cond.code yJ7_copyOf_59c91 cJ7_copyOf_59c91 3 (some (.array .int)), Cond.methodLink RJ7 316 ⟨"[I", "clone", "()Ljava/lang/Object;"⟩, Cond.sameMethod "[I" "java/lang/Object" "clone" "()Ljava/lang/Object;", Cond.native ⟨"java/lang/Object", "clone", "()Ljava/lang/Object;"⟩, Cond.instanceMethod ⟨"java/lang/Object", "clone", "()Ljava/lang/Object;"⟩, Cond.selects "[I" ⟨"[I", "clone", "()Ljava/lang/Object;"⟩ ⟨"java/lang/Object", "clone", "()Ljava/lang/Object;"⟩, Cond.classLink RJ7 317 "[I", Cond.methodLink RJ7 304 Lib.Math.min.name, Cond.methodLink RJ7 150 arraycopyName, Cond.methodLink RX2 26 yX3_leastPrice, Cond.instanceMethod yX3_leastPrice, Cond.selects RX3 yX3_leastPrice yX3_leastPrice, Cond.code yX3_leastPrice cX3_leastPrice 3 (some .int), Cond.methodLink RX3 51 yX3_priceIn, Cond.static yX3_priceIn, Cond.code yX3_priceIn cX3_priceIn 1 (some .int), Cond.methodLink RX3 135 yJ9_floorDiv_7cf53]
def wsL_law_r7 : List Cond := [Cond.static yJ9_floorDiv_7cf53, Cond.initialized RJ9, Cond.code yJ9_floorDiv_7cf53 cJ9_floorDiv_7cf53 3 (some .int), Cond.methodLink RL 12 yX5_init, Cond.instanceMethod yX5_init, Cond.code yX5_init cX5_init 1 none, Cond.methodLink RX5 1 objectInit, Cond.fieldLink RX5 7 "WaysKeptModel" "posts" "I", Cond.fieldLink RX5 13 "WaysKeptModel" "from" "[I", Cond.fieldLink RX5 17 "WaysKeptModel" "to" "[I", Cond.fieldLink RX5 20 "WaysKeptModel" "price" "[I", Cond.fieldLink RX5 23 "WaysKeptModel" "isBoth" "[Z", Cond.fieldLink RX5 27 "WaysKeptModel" "isThere" "[Z", Cond.fieldLink RX5 30 "WaysKeptModel" "fine" "[I", Cond.constant RX5 33 (40100), Cond.fieldLink RX5 34 "WaysKeptModel" "kept" "[I", Cond.fieldLink RX5 37 "WaysKeptModel" "inner" "[I", Cond.methodLink RX5 40 yX5_learn, Cond.instanceMethod yX5_learn, Cond.selects RX5 yX5_learn yX5_learn, Cond.code yX5_learn cX5_learn 8 (some .boolean), Cond.constant RX5 57 (10000000), Cond.fieldLink RX5 54 "WaysKeptModel" "lines" "I", Cond.methodLink RX5 44 yX5_keep]
def wsL_law_r8 : List Cond := [Cond.instanceMethod yX5_keep, Cond.selects RX5 yX5_keep yX5_keep, Cond.code yX5_keep cX5_keep 2 none, Cond.fieldLink RX5 62 "WaysKeptModel" "acts" "I", Cond.methodLink RX5 58 yX5_coarse, Cond.static yX5_coarse, Cond.code yX5_coarse cX5_coarse 2 (some .int), Cond.methodLink RL 13 yX4_posts, Cond.instanceMethod yX4_posts, Cond.selects RX4 yX4_posts yX4_posts, Cond.code yX4_posts cX4_posts 3 (some .int), Cond.methodLink RL 17 yX5_posts, Cond.instanceMethod yX5_posts, Cond.selects RX5 yX5_posts yX5_posts, Cond.code yX5_posts cX5_posts 3 (some .int), Cond.fieldLink RX5 47 "WaysKeptModel" "thrown" "I", Cond.constantLong RX5 65 (2), Cond.constantLong RX5 67 (10), Cond.fieldLink RX5 69 "WaysKeptModel" "marks" "I", Cond.methodLink RX5 50 yX5_in, Cond.static yX5_in, Cond.code yX5_in cX5_in 6 (some .boolean), Cond.methodLink RL 18 yX4_line, Cond.instanceMethod yX4_line]
def wsL_law_r9 : List Cond := [Cond.selects RX4 yX4_line yX4_line, Cond.code yX4_line cX4_line 6 (some .int), Cond.methodLink RX4 47 yX1_hasPosts, Cond.instanceMethod yX1_hasPosts, Cond.selects RX1 yX1_hasPosts yX1_hasPosts, Cond.code yX1_hasPosts cX1_hasPosts 3 (some .boolean), Cond.methodLink RX1 35 yX1_hasPost, Cond.instanceMethod yX1_hasPost, Cond.selects RX1 yX1_hasPost yX1_hasPost, Cond.code yX1_hasPost cX1_hasPost 2 (some .boolean), Cond.methodLink RX4 51 yX4_mayCost, Cond.static yX4_mayCost, Cond.code yX4_mayCost cX4_mayCost 2 (some .boolean), Cond.methodLink RX4 55 yX3_wouldSink, Cond.instanceMethod yX3_wouldSink, Cond.selects RX3 yX3_wouldSink yX3_wouldSink, Cond.code yX3_wouldSink cX3_wouldSink 6 (some .boolean), Cond.methodLink RX3 73 yX3_leastAvoiding, Cond.instanceMethod yX3_leastAvoiding, Cond.selects RX3 yX3_leastAvoiding yX3_leastAvoiding, Cond.code yX3_leastAvoiding cX3_leastAvoiding 5 (some .int), Cond.methodLink RX3 80 yX3_closesBelow, Cond.static yX3_closesBelow, Cond.code yX3_closesBelow cX3_closesBelow 2 (some .boolean)]
def wsL_law_r10 : List Cond := [Cond.methodLink RX4 62 yX2_isFull, Cond.methodLink RX4 66 yX1_add, Cond.instanceMethod yX1_add, Cond.selects RX1 yX1_add yX1_add, Cond.code yX1_add cX1_add 6 (some .int), Cond.methodLink RL 22 yX5_line, Cond.instanceMethod yX5_line, Cond.selects RX5 yX5_line yX5_line, Cond.code yX5_line cX5_line 6 (some .int), Cond.constantLong RX5 76 (-50), Cond.constantLong RX5 78 (99), Cond.methodLink RX5 72 yX5_noPost, Cond.instanceMethod yX5_noPost, Cond.selects RX5 yX5_noPost yX5_noPost, Cond.code yX5_noPost cX5_noPost 2 (some .boolean), Cond.methodLink RX5 80 yX5_farOf, Cond.instanceMethod yX5_farOf, Cond.selects RX5 yX5_farOf yX5_farOf, Cond.code yX5_farOf cX5_farOf 3 (some .int), Cond.methodLink RX5 84 yX5_did, Cond.instanceMethod yX5_did, Cond.selects RX5 yX5_did yX5_did, Cond.code yX5_did cX5_did 1 none, Cond.methodLink RL 23 yX4_price]
def wsL_law_r11 : List Cond := [Cond.instanceMethod yX4_price, Cond.selects RX4 yX4_price yX4_price, Cond.code yX4_price cX4_price 4 (some .int), Cond.methodLink RX4 73 yX1_hasLine, Cond.instanceMethod yX1_hasLine, Cond.selects RX1 yX1_hasLine yX1_hasLine, Cond.code yX1_hasLine cX1_hasLine 2 (some .boolean), Cond.methodLink RX4 88 yX4_wouldSinkAt, Cond.instanceMethod yX4_wouldSinkAt, Cond.selects RX4 yX4_wouldSinkAt yX4_wouldSinkAt, Cond.code yX4_wouldSinkAt cX4_wouldSinkAt 3 (some .boolean), Cond.methodLink RL 27 yX5_price, Cond.instanceMethod yX5_price, Cond.selects RX5 yX5_price yX5_price, Cond.code yX5_price cX5_price 4 (some .int), Cond.methodLink RX5 87 yX5_noLine, Cond.instanceMethod yX5_noLine, Cond.selects RX5 yX5_noLine yX5_noLine, Cond.code yX5_noLine cX5_noLine 2 (some .boolean), Cond.methodLink RL 28 yX4_cut, Cond.instanceMethod yX4_cut, Cond.selects RX4 yX4_cut yX4_cut, Cond.code yX4_cut cX4_cut 2 (some .int), Cond.methodLink RX4 91 yX1_countThere]
def wsL_law_r12 : List Cond := [Cond.instanceMethod yX1_countThere, Cond.selects RX1 yX1_countThere yX1_countThere, Cond.code yX1_countThere cX1_countThere 3 (some .int), Cond.methodLink RL 31 yX5_cut, Cond.instanceMethod yX5_cut, Cond.selects RX5 yX5_cut yX5_cut, Cond.code yX5_cut cX5_cut 2 (some .int), Cond.methodLink RX5 90 yX5_there, Cond.instanceMethod yX5_there, Cond.selects RX5 yX5_there yX5_there, Cond.code yX5_there cX5_there 3 (some .int), Cond.methodLink RL 32 yX4_back, Cond.instanceMethod yX4_back, Cond.selects RX4 yX4_back yX4_back, Cond.code yX4_back cX4_back 2 (some .int), Cond.methodLink RL 35 yX5_back, Cond.instanceMethod yX5_back, Cond.selects RX5 yX5_back yX5_back, Cond.code yX5_back cX5_back 3 (some .int), Cond.methodLink RL 36 yX4_told, Cond.instanceMethod yX4_told, Cond.selects RX4 yX4_told yX4_told, Cond.code yX4_told cX4_told 3 (some .int), Cond.methodLink RX4 101 yX4_asNumber]
def wsL_law_r13 : List Cond := [Cond.static yX4_asNumber, Cond.code yX4_asNumber cX4_asNumber 1 (some .int), Cond.methodLink RX4 105 yX3_lifted, Cond.instanceMethod yX3_lifted, Cond.selects RX3 yX3_lifted yX3_lifted, Cond.code yX3_lifted cX3_lifted 4 (some .int), Cond.methodLink RX3 93 Lib.Math.min.name, Cond.methodLink RX3 102 yX3_heightOf, Cond.instanceMethod yX3_heightOf, Cond.selects RX3 yX3_heightOf yX3_heightOf, Cond.code yX3_heightOf cX3_heightOf 4 (some .int), Cond.methodLink RX3 90 yX3_leads, Cond.instanceMethod yX3_leads, Cond.selects RX3 yX3_leads yX3_leads, Cond.code yX3_leads cX3_leads 3 (some .boolean), Cond.methodLink RX3 77 yX3_leastPrice, Cond.methodLink RL 39 yX5_told, Cond.instanceMethod yX5_told, Cond.selects RX5 yX5_told yX5_told, Cond.code yX5_told cX5_told 4 (some .int), Cond.methodLink RX5 94 yX5_heightOf, Cond.instanceMethod yX5_heightOf, Cond.selects RX5 yX5_heightOf yX5_heightOf, Cond.code yX5_heightOf cX5_heightOf 4 (some .int)]
def wsL_law_r14 : List Cond := [Cond.methodLink RL 40 yX4_far, Cond.instanceMethod yX4_far, Cond.selects RX4 yX4_far yX4_far, Cond.code yX4_far cX4_far 3 (some .int), Cond.methodLink RX4 109 yX3_leastPrice, Cond.methodLink RL 43 yX5_far, Cond.instanceMethod yX5_far, Cond.selects RX5 yX5_far yX5_far, Cond.code yX5_far cX5_far 3 (some .int), Cond.methodLink RL 44 yX4_steps, Cond.instanceMethod yX4_steps, Cond.selects RX4 yX4_steps yX4_steps, Cond.code yX4_steps cX4_steps 3 (some .int), Cond.methodLink RX4 113 yX3_length, Cond.instanceMethod yX3_length, Cond.selects RX3 yX3_length yX3_length, Cond.code yX3_length cX3_length 4 (some .int), Cond.methodLink RX3 55 yJ9_floorMod_7cf53, Cond.static yJ9_floorMod_7cf53, Cond.code yJ9_floorMod_7cf53 cJ9_floorMod_7cf53 3 (some .int), Cond.methodLink RL 47 yX5_steps, Cond.instanceMethod yX5_steps, Cond.selects RX5 yX5_steps yX5_steps, Cond.code yX5_steps cX5_steps 4 (some .int)]
def wsL_law_r15 : List Cond := [Cond.methodLink RL 48 yX4_way, Cond.instanceMethod yX4_way, Cond.selects RX4 yX4_way yX4_way, Cond.code yX4_way cX4_way 4 (some .int), Cond.methodLink RX4 116 yX3_lineAt, Cond.instanceMethod yX3_lineAt, Cond.selects RX3 yX3_lineAt yX3_lineAt, Cond.code yX3_lineAt cX3_lineAt 6 (some .int), Cond.methodLink RX3 60 yX3_length, Cond.methodLink RX3 63 yX3_lineToward, Cond.instanceMethod yX3_lineToward, Cond.selects RX3 yX3_lineToward yX3_lineToward, Cond.code yX3_lineToward cX3_lineToward 6 (some .int), Cond.methodLink RX3 128 yX1_hasPost, Cond.methodLink RX3 66 yX1_target, Cond.instanceMethod yX1_target, Cond.selects RX1 yX1_target yX1_target, Cond.code yX1_target cX1_target 3 (some .int), Cond.methodLink RX1 39 yX1_hasLine, Cond.methodLink RL 52 yX5_way, Cond.instanceMethod yX5_way, Cond.selects RX5 yX5_way yX5_way, Cond.code yX5_way cX5_way 8 (some .int), Cond.methodLink RX5 97 yX5_nextOf]
def wsL_law_r16 : List Cond := [Cond.instanceMethod yX5_nextOf, Cond.selects RX5 yX5_nextOf yX5_nextOf, Cond.code yX5_nextOf cX5_nextOf 5 (some .int), Cond.methodLink RX5 100 yX5_other, Cond.instanceMethod yX5_other, Cond.selects RX5 yX5_other yX5_other, Cond.code yX5_other cX5_other 3 (some .int), Cond.methodLink RL 53 yX4_without, Cond.instanceMethod yX4_without, Cond.selects RX4 yX4_without yX4_without, Cond.code yX4_without cX4_without 4 (some .int), Cond.methodLink RX4 120 yX3_leastAvoiding, Cond.methodLink RL 56 yX5_without, Cond.instanceMethod yX5_without, Cond.selects RX5 yX5_without yX5_without, Cond.code yX5_without cX5_without 4 (some .int), Cond.methodLink RL 57 yX4_vital, Cond.instanceMethod yX4_vital, Cond.selects RX4 yX4_vital yX4_vital, Cond.code yX4_vital cX4_vital 6 (some .int), Cond.methodLink RX4 124 yX3_isVital, Cond.instanceMethod yX3_isVital, Cond.selects RX3 yX3_isVital yX3_isVital, Cond.code yX3_isVital cX3_isVital 4 (some .boolean)]
def wsL_law_r17 : List Cond := [Cond.methodLink RX3 69 yX3_isOnWay, Cond.instanceMethod yX3_isOnWay, Cond.selects RX3 yX3_isOnWay yX3_isOnWay, Cond.code yX3_isOnWay cX3_isOnWay 5 (some .boolean), Cond.methodLink RX3 131 yX3_lineAt, Cond.methodLink RL 60 yX5_vital, Cond.instanceMethod yX5_vital, Cond.selects RX5 yX5_vital yX5_vital, Cond.code yX5_vital cX5_vital 7 (some .int), Cond.methodLink RL 61 yX4_about, Cond.instanceMethod yX4_about, Cond.selects RX4 yX4_about yX4_about, Cond.code yX4_about cX4_about 4 (some .int), Cond.methodLink RX4 128 yX1_hasPost, Cond.methodLink RL 64 yX5_about, Cond.instanceMethod yX5_about, Cond.selects RX5 yX5_about yX5_about, Cond.code yX5_about cX5_about 4 (some .int), Cond.methodLink RL 65 yX4_ring, Cond.instanceMethod yX4_ring, Cond.selects RX4 yX4_ring yX4_ring, Cond.code yX4_ring cX4_ring 1 (some .int), Cond.methodLink RX4 131 yX3_leastRing, Cond.instanceMethod yX3_leastRing]
def wsL_law_r18 : List Cond := [Cond.selects RX3 yX3_leastRing yX3_leastRing, Cond.code yX3_leastRing cX3_leastRing 4 (some .int), Cond.methodLink RX3 87 yX3_ringOver, Cond.instanceMethod yX3_ringOver, Cond.selects RX3 yX3_ringOver yX3_ringOver, Cond.code yX3_ringOver cX3_ringOver 4 (some .int), Cond.methodLink RL 69 yX5_ring, Cond.instanceMethod yX5_ring, Cond.selects RX5 yX5_ring yX5_ring, Cond.code yX5_ring cX5_ring 5 (some .int), Cond.methodLink RL 70 yX4_height, Cond.instanceMethod yX4_height, Cond.selects RX4 yX4_height yX4_height, Cond.code yX4_height cX4_height 2 (some .int), Cond.methodLink RX4 134 yX3_heightOf, Cond.methodLink RL 73 yX5_height, Cond.instanceMethod yX5_height, Cond.selects RX5 yX5_height yX5_height, Cond.code yX5_height cX5_height 2 (some .int), Cond.methodLink RL 74 yX4_acts, Cond.instanceMethod yX4_acts, Cond.selects RX4 yX4_acts yX4_acts, Cond.code yX4_acts cX4_acts 1 (some .int), Cond.methodLink RX4 137 yX2_countActs]
def wsL_law_r19 : List Cond := [Cond.instanceMethod yX2_countActs, Cond.selects RX2 yX2_countActs yX2_countActs, Cond.code yX2_countActs cX2_countActs 1 (some .int), Cond.methodLink RL 77 yX5_acts, Cond.instanceMethod yX5_acts, Cond.selects RX5 yX5_acts yX5_acts, Cond.code yX5_acts cX5_acts 1 (some .int), Cond.methodLink RL 78 yX4_moved, Cond.instanceMethod yX4_moved, Cond.selects RX4 yX4_moved yX4_moved, Cond.code yX4_moved cX4_moved 2 (some .int), Cond.methodLink RX4 140 yX2_hasAct, Cond.instanceMethod yX2_hasAct, Cond.selects RX2 yX2_hasAct yX2_hasAct, Cond.code yX2_hasAct cX2_hasAct 2 (some .boolean), Cond.methodLink RX4 143 yX2_countMoved, Cond.instanceMethod yX2_countMoved, Cond.selects RX2 yX2_countMoved yX2_countMoved, Cond.code yX2_countMoved cX2_countMoved 4 (some .int), Cond.methodLink RX2 32 yX2_isMoved, Cond.instanceMethod yX2_isMoved, Cond.selects RX2 yX2_isMoved yX2_isMoved, Cond.code yX2_isMoved cX2_isMoved 3 (some .boolean), Cond.methodLink RX2 36 yX2_leastAsOf]
def wsL_law_r20 : List Cond := [Cond.instanceMethod yX2_leastAsOf, Cond.selects RX2 yX2_leastAsOf yX2_leastAsOf, Cond.code yX2_leastAsOf cX2_leastAsOf 3 (some .int), Cond.methodLink RL 81 yX5_moved, Cond.instanceMethod yX5_moved, Cond.selects RX5 yX5_moved yX5_moved, Cond.code yX5_moved cX5_moved 4 (some .int), Cond.methodLink RX5 103 yX5_isMoved, Cond.instanceMethod yX5_isMoved, Cond.selects RX5 yX5_isMoved yX5_isMoved, Cond.code yX5_isMoved cX5_isMoved 3 (some .boolean), Cond.methodLink RL 82 yX4_pair, Cond.instanceMethod yX4_pair, Cond.selects RX4 yX4_pair yX4_pair, Cond.code yX4_pair cX4_pair 3 (some .int), Cond.methodLink RX4 146 yX2_movedPair, Cond.instanceMethod yX2_movedPair, Cond.selects RX2 yX2_movedPair yX2_movedPair, Cond.code yX2_movedPair cX2_movedPair 5 (some .int), Cond.methodLink RL 85 yX5_pair, Cond.instanceMethod yX5_pair, Cond.selects RX5 yX5_pair yX5_pair, Cond.code yX5_pair cX5_pair 5 (some .int), Cond.methodLink RL 86 yX4_then]
def wsL_law_r21 : List Cond := [Cond.instanceMethod yX4_then, Cond.selects RX4 yX4_then yX4_then, Cond.code yX4_then cX4_then 4 (some .int), Cond.methodLink RX4 149 yX4_pairOf, Cond.methodLink RX4 152 yX2_leastAsOf, Cond.methodLink RL 89 yX5_then, Cond.instanceMethod yX5_then, Cond.selects RX5 yX5_then yX5_then, Cond.code yX5_then cX5_then 4 (some .int), Cond.methodLink RL 90 yX4_since, Cond.instanceMethod yX4_since, Cond.selects RX4 yX4_since yX4_since, Cond.code yX4_since cX4_since 5 (some .int), Cond.methodLink RX4 155 yX2_firstWithin, Cond.instanceMethod yX2_firstWithin, Cond.selects RX2 yX2_firstWithin yX2_firstWithin, Cond.code yX2_firstWithin cX2_firstWithin 6 (some .int), Cond.methodLink RL 94 yX5_since, Cond.instanceMethod yX5_since, Cond.selects RX5 yX5_since yX5_since, Cond.code yX5_since cX5_since 7 (some .int), Cond.constantLong RX5 106 (-500), Cond.constantLong RX5 108 (1000), Cond.methodLink RL 95 yX4_marks]
def wsL_law_r22 : List Cond := [Cond.instanceMethod yX4_marks, Cond.selects RX4 yX4_marks yX4_marks, Cond.code yX4_marks cX4_marks 3 (some .int), Cond.methodLink RL 98 yX5_marks, Cond.instanceMethod yX5_marks, Cond.selects RX5 yX5_marks yX5_marks, Cond.code yX5_marks cX5_marks 3 (some .int), Cond.methodLink RL 99 yX4_near, Cond.instanceMethod yX4_near, Cond.selects RX4 yX4_near yX4_near, Cond.code yX4_near cX4_near 3 (some .int), Cond.methodLink RX4 161 yX3_leastThrough, Cond.instanceMethod yX3_leastThrough, Cond.selects RX3 yX3_leastThrough yX3_leastThrough, Cond.code yX3_leastThrough cX3_leastThrough 7 (some .int), Cond.methodLink RL 102 yX5_near, Cond.instanceMethod yX5_near, Cond.selects RX5 yX5_near yX5_near, Cond.code yX5_near cX5_near 3 (some .int), Cond.methodLink RX5 110 yX5_nearOf, Cond.instanceMethod yX5_nearOf, Cond.selects RX5 yX5_nearOf yX5_nearOf, Cond.code yX5_nearOf cX5_nearOf 6 (some .int), Cond.methodLink RL 103 yX4_worst]
def wsL_law_r23 : List Cond := [Cond.instanceMethod yX4_worst, Cond.selects RX4 yX4_worst yX4_worst, Cond.code yX4_worst cX4_worst 5 (some .int), Cond.methodLink RX4 167 Lib.Math.max.name, Cond.static Lib.Math.max.name, Cond.code Lib.Math.max.name Lib.Math.max.code 2 (some .int), Cond.methodLink RX4 164 yX3_leads, Cond.methodLink RL 106 yX5_worst, Cond.instanceMethod yX5_worst, Cond.selects RX5 yX5_worst yX5_worst, Cond.code yX5_worst cX5_worst 4 (some .int), Cond.methodLink RL 107 yX4_hits, Cond.instanceMethod yX4_hits, Cond.selects RX4 yX4_hits yX4_hits, Cond.code yX4_hits cX4_hits 2 (some .int), Cond.methodLink RX4 172 yX0_askFor, Cond.instanceMethod yX0_askFor, Cond.selects RX0 yX0_askFor yX0_askFor, Cond.code yX0_askFor cX0_askFor 6 none, Cond.fieldLink RX0 15 "WaysKept$Hitting" "size" "I", Cond.methodLink RX0 19 yX3_length, Cond.methodLink RX0 25 yX3_between, Cond.instanceMethod yX3_between, Cond.selects RX3 yX3_between yX3_between]
def wsL_law_r24 : List Cond := [Cond.code yX3_between cX3_between 6 (some .int), Cond.methodLink RX4 176 yX0_fewest, Cond.instanceMethod yX0_fewest, Cond.selects RX0 yX0_fewest yX0_fewest, Cond.code yX0_fewest cX0_fewest 6 (some .int), Cond.methodLink RX0 28 yJ6_bitCount_0f7a4, Cond.static yJ6_bitCount_0f7a4, Cond.initialized RJ6, Cond.code yJ6_bitCount_0f7a4 cJ6_bitCount_0f7a4 1 (some .int), Cond.constant RJ6 265 (1431655765), Cond.constant RJ6 266 (858993459), Cond.constant RJ6 267 (252645135), Cond.methodLink RX0 34 yX0_meetsAll, Cond.instanceMethod yX0_meetsAll, Cond.selects RX0 yX0_meetsAll yX0_meetsAll, Cond.code yX0_meetsAll cX0_meetsAll 3 (some .boolean), Cond.methodLink RL 110 yX5_hits, Cond.instanceMethod yX5_hits, Cond.selects RX5 yX5_hits yX5_hits, Cond.code yX5_hits cX5_hits 9 (some .int), Cond.constantLong RX5 113 (9), Cond.methodLink RX5 115 yX5_bits, Cond.static yX5_bits, Cond.code yX5_bits cX5_bits 3 (some .int)]
def wsL_law_r25 : List Cond := [Cond.methodLink RL 111 yX4_count, Cond.instanceMethod yX4_count, Cond.selects RX4 yX4_count yX4_count, Cond.code yX4_count cX4_count 2 (some .int), Cond.methodLink RX4 179 yX3_countLinked, Cond.instanceMethod yX3_countLinked, Cond.selects RX3 yX3_countLinked yX3_countLinked, Cond.code yX3_countLinked cX3_countLinked 4 (some .int), Cond.methodLink RX4 182 yJ6_bitCount_0f7a4, Cond.methodLink RL 114 yX5_count, Cond.instanceMethod yX5_count, Cond.selects RX5 yX5_count yX5_count, Cond.code yX5_count cX5_count 5 (some .int)]
def wsL_law : List Cond := (wsL_law_r1 ++ (wsL_law_r2 ++ (wsL_law_r3 ++ (wsL_law_r4 ++ (wsL_law_r5 ++ (wsL_law_r6 ++ (wsL_law_r7 ++ (wsL_law_r8 ++ (wsL_law_r9 ++ (wsL_law_r10 ++ (wsL_law_r11 ++ (wsL_law_r12 ++ (wsL_law_r13 ++ (wsL_law_r14 ++ (wsL_law_r15 ++ (wsL_law_r16 ++ (wsL_law_r17 ++ (wsL_law_r18 ++ (wsL_law_r19 ++ (wsL_law_r20 ++ (wsL_law_r21 ++ (wsL_law_r22 ++ (wsL_law_r23 ++ (wsL_law_r24 ++ wsL_law_r25)))))))))))))))))))))))) ++ wsX40 ++ wsX50 ++ wsX10 ++ wsX30 ++ wsX20 ++ wsX00 ++ ([] : List Cond)
set_option maxRecDepth 100000 in
theorem wsLi_1 : ∀ w ∈ wsL_law_r1, w ∈ lw_tbl := by
  have h : wsL_law_r1 = [36, 37, 26, 495, 496, 34, 38, 39, 40, 41, 42, 43, 44, 45, 27, 218, 88, 89, 28, 219, 104, 105, 29, 220].filterMap (fun i => lw_tbl[i]?) := rfl
  intro w hw
  rw [h] at hw
  obtain ⟨i, -, hi⟩ := List.mem_filterMap.mp hw
  exact List.mem_of_getElem? hi
set_option maxRecDepth 100000 in
theorem wsLi_2 : ∀ w ∈ wsL_law_r2, w ∈ lw_tbl := by
  have h : wsL_law_r2 = [117, 118, 30, 221, 47, 48, 49, 86, 50, 53, 56, 87, 59, 62, 90, 91, 92, 93, 95, 96, 94, 107, 108, 109].filterMap (fun i => lw_tbl[i]?) := rfl
  intro w hw
  rw [h] at hw
  obtain ⟨i, -, hi⟩ := List.mem_filterMap.mp hw
  exact List.mem_of_getElem? hi
set_option maxRecDepth 100000 in
theorem wsLi_3 : ∀ w ∈ wsL_law_r3, w ∈ lw_tbl := by
  have h : wsL_law_r3 = [110, 120, 121, 122, 123, 130, 132, 0, 133, 222, 134, 135, 136, 137, 65, 68, 138, 139, 140, 141, 111, 142, 144, 1].filterMap (fun i => lw_tbl[i]?) := rfl
  intro w hw
  rw [h] at hw
  obtain ⟨i, -, hi⟩ := List.mem_filterMap.mp hw
  exact List.mem_of_getElem? hi
set_option maxRecDepth 100000 in
theorem wsLi_4 : ∀ w ∈ wsL_law_r4, w ∈ lw_tbl := by
  have h : wsL_law_r4 = [145, 146, 147, 148, 149, 150, 177, 179, 178, 32, 151, 152, 31, 153, 154, 156, 2, 157, 158, 159, 160, 161, 162, 164].filterMap (fun i => lw_tbl[i]?) := rfl
  intro w hw
  rw [h] at hw
  obtain ⟨i, -, hi⟩ := List.mem_filterMap.mp hw
  exact List.mem_of_getElem? hi
set_option maxRecDepth 100000 in
theorem wsLi_5 : ∀ w ∈ wsL_law_r5, w ∈ lw_tbl := by
  have h : wsL_law_r5 = [3, 165, 166, 168, 4, 169, 170, 172, 5, 173, 175, 176, 180, 181, 182, 183, 184, 185, 186, 187, 188, 190, 6, 191].filterMap (fun i => lw_tbl[i]?) := rfl
  intro w hw
  rw [h] at hw
  obtain ⟨i, -, hi⟩ := List.mem_filterMap.mp hw
  exact List.mem_of_getElem? hi
set_option maxRecDepth 100000 in
theorem wsLi_6 : ∀ w ∈ wsL_law_r6, w ∈ lw_tbl := by
  have h : wsL_law_r6 = [192, 193, 194, 33, 195, 196, 197, 198, 199, 200, 201, 202, 203, 205, 206, 207, 208, 209, 210, 211, 212, 213, 214, 215].filterMap (fun i => lw_tbl[i]?) := rfl
  intro w hw
  rw [h] at hw
  obtain ⟨i, -, hi⟩ := List.mem_filterMap.mp hw
  exact List.mem_of_getElem? hi
set_option maxRecDepth 100000 in
theorem wsLi_7 : ∀ w ∈ wsL_law_r7, w ∈ lw_tbl := by
  have h : wsL_law_r7 = [216, 33, 217, 497, 498, 499, 500, 515, 517, 518, 519, 520, 521, 522, 501, 523, 526, 502, 504, 13, 505, 506, 516, 507].filterMap (fun i => lw_tbl[i]?) := rfl
  intro w hw
  rw [h] at hw
  obtain ⟨i, -, hi⟩ := List.mem_filterMap.mp hw
  exact List.mem_of_getElem? hi
set_option maxRecDepth 100000 in
theorem wsLi_8 : ∀ w ∈ wsL_law_r8, w ∈ lw_tbl := by
  have h : wsL_law_r8 = [509, 14, 510, 524, 511, 512, 513, 234, 235, 236, 237, 554, 555, 556, 557, 514, 558, 559, 525, 560, 561, 562, 238, 239].filterMap (fun i => lw_tbl[i]?) := rfl
  intro w hw
  rw [h] at hw
  obtain ⟨i, -, hi⟩ := List.mem_filterMap.mp hw
  exact List.mem_of_getElem? hi
set_option maxRecDepth 100000 in
theorem wsLi_9 : ∀ w ∈ wsL_law_r9, w ∈ lw_tbl := by
  have h : wsL_law_r9 = [240, 241, 242, 243, 244, 245, 246, 247, 248, 249, 250, 251, 252, 253, 254, 255, 256, 257, 258, 259, 260, 261, 262, 263].filterMap (fun i => lw_tbl[i]?) := rfl
  intro w hw
  rw [h] at hw
  obtain ⟨i, -, hi⟩ := List.mem_filterMap.mp hw
  exact List.mem_of_getElem? hi
set_option maxRecDepth 100000 in
theorem wsLi_10 : ∀ w ∈ wsL_law_r10, w ∈ lw_tbl := by
  have h : wsL_law_r10 = [264, 265, 266, 267, 268, 563, 564, 565, 566, 571, 572, 567, 569, 15, 570, 573, 575, 16, 576, 577, 579, 17, 580, 269].filterMap (fun i => lw_tbl[i]?) := rfl
  intro w hw
  rw [h] at hw
  obtain ⟨i, -, hi⟩ := List.mem_filterMap.mp hw
  exact List.mem_of_getElem? hi
set_option maxRecDepth 100000 in
theorem wsLi_11 : ∀ w ∈ wsL_law_r11, w ∈ lw_tbl := by
  have h : wsL_law_r11 = [270, 271, 272, 273, 274, 275, 276, 277, 279, 7, 280, 581, 582, 583, 584, 585, 587, 18, 588, 281, 282, 283, 284, 285].filterMap (fun i => lw_tbl[i]?) := rfl
  intro w hw
  rw [h] at hw
  obtain ⟨i, -, hi⟩ := List.mem_filterMap.mp hw
  exact List.mem_of_getElem? hi
set_option maxRecDepth 100000 in
theorem wsLi_12 : ∀ w ∈ wsL_law_r12, w ∈ lw_tbl := by
  have h : wsL_law_r12 = [286, 287, 288, 589, 590, 591, 592, 593, 595, 19, 596, 289, 290, 291, 292, 597, 598, 599, 600, 293, 294, 295, 296, 297].filterMap (fun i => lw_tbl[i]?) := rfl
  intro w hw
  rw [h] at hw
  obtain ⟨i, -, hi⟩ := List.mem_filterMap.mp hw
  exact List.mem_of_getElem? hi
set_option maxRecDepth 100000 in
theorem wsLi_13 : ∀ w ∈ wsL_law_r13, w ∈ lw_tbl := by
  have h : wsL_law_r13 = [298, 299, 300, 301, 302, 303, 313, 304, 305, 306, 307, 308, 309, 310, 311, 312, 601, 602, 603, 604, 605, 607, 20, 608].filterMap (fun i => lw_tbl[i]?) := rfl
  intro w hw
  rw [h] at hw
  obtain ⟨i, -, hi⟩ := List.mem_filterMap.mp hw
  exact List.mem_of_getElem? hi
set_option maxRecDepth 100000 in
theorem wsLi_14 : ∀ w ∈ wsL_law_r14, w ∈ lw_tbl := by
  have h : wsL_law_r14 = [314, 315, 316, 317, 318, 609, 610, 611, 612, 319, 320, 321, 322, 323, 324, 325, 326, 327, 328, 329, 613, 614, 615, 616].filterMap (fun i => lw_tbl[i]?) := rfl
  intro w hw
  rw [h] at hw
  obtain ⟨i, -, hi⟩ := List.mem_filterMap.mp hw
  exact List.mem_of_getElem? hi
set_option maxRecDepth 100000 in
theorem wsLi_15 : ∀ w ∈ wsL_law_r15, w ∈ lw_tbl := by
  have h : wsL_law_r15 = [330, 331, 332, 333, 334, 335, 336, 337, 338, 339, 341, 8, 342, 343, 344, 345, 346, 347, 348, 617, 618, 619, 620, 621].filterMap (fun i => lw_tbl[i]?) := rfl
  intro w hw
  rw [h] at hw
  obtain ⟨i, -, hi⟩ := List.mem_filterMap.mp hw
  exact List.mem_of_getElem? hi
set_option maxRecDepth 100000 in
theorem wsLi_16 : ∀ w ∈ wsL_law_r16, w ∈ lw_tbl := by
  have h : wsL_law_r16 = [623, 21, 624, 625, 627, 22, 628, 349, 350, 351, 352, 353, 629, 630, 631, 632, 354, 355, 356, 357, 358, 359, 360, 361].filterMap (fun i => lw_tbl[i]?) := rfl
  intro w hw
  rw [h] at hw
  obtain ⟨i, -, hi⟩ := List.mem_filterMap.mp hw
  exact List.mem_of_getElem? hi
set_option maxRecDepth 100000 in
theorem wsLi_17 : ∀ w ∈ wsL_law_r17, w ∈ lw_tbl := by
  have h : wsL_law_r17 = [362, 364, 9, 365, 366, 633, 634, 635, 636, 367, 368, 369, 370, 371, 637, 638, 639, 640, 372, 373, 374, 375, 376, 377].filterMap (fun i => lw_tbl[i]?) := rfl
  intro w hw
  rw [h] at hw
  obtain ⟨i, -, hi⟩ := List.mem_filterMap.mp hw
  exact List.mem_of_getElem? hi
set_option maxRecDepth 100000 in
theorem wsLi_18 : ∀ w ∈ wsL_law_r18, w ∈ lw_tbl := by
  have h : wsL_law_r18 = [378, 379, 380, 382, 10, 383, 641, 642, 643, 644, 384, 385, 386, 387, 388, 645, 646, 647, 648, 389, 390, 391, 392, 393].filterMap (fun i => lw_tbl[i]?) := rfl
  intro w hw
  rw [h] at hw
  obtain ⟨i, -, hi⟩ := List.mem_filterMap.mp hw
  exact List.mem_of_getElem? hi
set_option maxRecDepth 100000 in
theorem wsLi_19 : ∀ w ∈ wsL_law_r19, w ∈ lw_tbl := by
  have h : wsL_law_r19 = [394, 395, 396, 649, 650, 651, 652, 397, 398, 399, 400, 401, 402, 403, 404, 405, 406, 407, 408, 409, 411, 11, 412, 413].filterMap (fun i => lw_tbl[i]?) := rfl
  intro w hw
  rw [h] at hw
  obtain ⟨i, -, hi⟩ := List.mem_filterMap.mp hw
  exact List.mem_of_getElem? hi
set_option maxRecDepth 100000 in
theorem wsLi_20 : ∀ w ∈ wsL_law_r20, w ∈ lw_tbl := by
  have h : wsL_law_r20 = [414, 415, 416, 653, 654, 655, 656, 657, 659, 23, 660, 417, 418, 419, 420, 421, 422, 423, 424, 661, 662, 663, 664, 425].filterMap (fun i => lw_tbl[i]?) := rfl
  intro w hw
  rw [h] at hw
  obtain ⟨i, -, hi⟩ := List.mem_filterMap.mp hw
  exact List.mem_of_getElem? hi
set_option maxRecDepth 100000 in
theorem wsLi_21 : ∀ w ∈ wsL_law_r21, w ∈ lw_tbl := by
  have h : wsL_law_r21 = [426, 427, 428, 429, 430, 665, 666, 667, 668, 431, 432, 433, 434, 435, 436, 437, 438, 669, 670, 671, 672, 673, 674, 439].filterMap (fun i => lw_tbl[i]?) := rfl
  intro w hw
  rw [h] at hw
  obtain ⟨i, -, hi⟩ := List.mem_filterMap.mp hw
  exact List.mem_of_getElem? hi
set_option maxRecDepth 100000 in
theorem wsLi_22 : ∀ w ∈ wsL_law_r22, w ∈ lw_tbl := by
  have h : wsL_law_r22 = [440, 441, 442, 675, 676, 677, 678, 443, 444, 445, 446, 447, 448, 449, 450, 679, 680, 681, 682, 683, 685, 24, 686, 451].filterMap (fun i => lw_tbl[i]?) := rfl
  intro w hw
  rw [h] at hw
  obtain ⟨i, -, hi⟩ := List.mem_filterMap.mp hw
  exact List.mem_of_getElem? hi
set_option maxRecDepth 100000 in
theorem wsLi_23 : ∀ w ∈ wsL_law_r23, w ∈ lw_tbl := by
  have h : wsL_law_r23 = [452, 453, 454, 456, 457, 458, 455, 687, 688, 689, 690, 459, 460, 461, 462, 463, 464, 465, 466, 124, 467, 468, 469, 470].filterMap (fun i => lw_tbl[i]?) := rfl
  intro w hw
  rw [h] at hw
  obtain ⟨i, -, hi⟩ := List.mem_filterMap.mp hw
  exact List.mem_of_getElem? hi
set_option maxRecDepth 100000 in
theorem wsLi_24 : ∀ w ∈ wsL_law_r24, w ∈ lw_tbl := by
  have h : wsL_law_r24 = [471, 472, 473, 474, 475, 476, 477, 35, 478, 479, 480, 481, 482, 484, 12, 485, 691, 692, 693, 694, 695, 696, 697, 698].filterMap (fun i => lw_tbl[i]?) := rfl
  intro w hw
  rw [h] at hw
  obtain ⟨i, -, hi⟩ := List.mem_filterMap.mp hw
  exact List.mem_of_getElem? hi
set_option maxRecDepth 100000 in
theorem wsLi_25 : ∀ w ∈ wsL_law_r25, w ∈ lw_tbl := by
  have h : wsL_law_r25 = [486, 487, 488, 489, 490, 491, 492, 493, 494, 699, 700, 701, 702].filterMap (fun i => lw_tbl[i]?) := rfl
  intro w hw
  rw [h] at hw
  obtain ⟨i, -, hi⟩ := List.mem_filterMap.mp hw
  exact List.mem_of_getElem? hi
theorem wsLu_wsX40 : ∀ w ∈ wsX40, w ∈ lw_tbl := by decide +kernel
theorem wsLu_wsX50 : ∀ w ∈ wsX50, w ∈ lw_tbl := by decide +kernel
theorem wsLu_wsX10 : ∀ w ∈ wsX10, w ∈ lw_tbl := by decide +kernel
theorem wsLu_wsX30 : ∀ w ∈ wsX30, w ∈ lw_tbl := by decide +kernel
theorem wsLu_wsX20 : ∀ w ∈ wsX20, w ∈ lw_tbl := by decide +kernel
theorem wsLu_wsX00 : ∀ w ∈ wsX00, w ∈ lw_tbl := by decide +kernel
theorem wsL_law_in : ∀ w ∈ wsL_law, w ∈ lw_tbl := List.forall_mem_append.mpr ⟨List.forall_mem_append.mpr ⟨List.forall_mem_append.mpr ⟨List.forall_mem_append.mpr ⟨List.forall_mem_append.mpr ⟨List.forall_mem_append.mpr ⟨List.forall_mem_append.mpr ⟨List.forall_mem_append.mpr ⟨wsLi_1, List.forall_mem_append.mpr ⟨wsLi_2, List.forall_mem_append.mpr ⟨wsLi_3, List.forall_mem_append.mpr ⟨wsLi_4, List.forall_mem_append.mpr ⟨wsLi_5, List.forall_mem_append.mpr ⟨wsLi_6, List.forall_mem_append.mpr ⟨wsLi_7, List.forall_mem_append.mpr ⟨wsLi_8, List.forall_mem_append.mpr ⟨wsLi_9, List.forall_mem_append.mpr ⟨wsLi_10, List.forall_mem_append.mpr ⟨wsLi_11, List.forall_mem_append.mpr ⟨wsLi_12, List.forall_mem_append.mpr ⟨wsLi_13, List.forall_mem_append.mpr ⟨wsLi_14, List.forall_mem_append.mpr ⟨wsLi_15, List.forall_mem_append.mpr ⟨wsLi_16, List.forall_mem_append.mpr ⟨wsLi_17, List.forall_mem_append.mpr ⟨wsLi_18, List.forall_mem_append.mpr ⟨wsLi_19, List.forall_mem_append.mpr ⟨wsLi_20, List.forall_mem_append.mpr ⟨wsLi_21, List.forall_mem_append.mpr ⟨wsLi_22, List.forall_mem_append.mpr ⟨wsLi_23, List.forall_mem_append.mpr ⟨wsLi_24, wsLi_25⟩⟩⟩⟩⟩⟩⟩⟩⟩⟩⟩⟩⟩⟩⟩⟩⟩⟩⟩⟩⟩⟩⟩⟩, wsLu_wsX40⟩, wsLu_wsX50⟩, wsLu_wsX10⟩, wsLu_wsX30⟩, wsLu_wsX20⟩, wsLu_wsX00⟩, fun _ h => absurd h List.not_mem_nil⟩
theorem inlX0 : ∀ w ∈ wsX00, w ∈ wsL_law := fun _ h => List.mem_append_left _ (List.mem_append_right _ h)
theorem inX0 : ∀ w ∈ wsX00, w ∈ lw_tbl := fun w h => wsL_law_in w (inlX0 w h)
theorem inlX1 : ∀ w ∈ wsX10, w ∈ wsL_law := fun _ h => List.mem_append_left _ (List.mem_append_left _ (List.mem_append_left _ (List.mem_append_left _ (List.mem_append_right _ h))))
theorem inX1 : ∀ w ∈ wsX10, w ∈ lw_tbl := fun w h => wsL_law_in w (inlX1 w h)
theorem inlX2 : ∀ w ∈ wsX20, w ∈ wsL_law := fun _ h => List.mem_append_left _ (List.mem_append_left _ (List.mem_append_right _ h))
theorem inX2 : ∀ w ∈ wsX20, w ∈ lw_tbl := fun w h => wsL_law_in w (inlX2 w h)
theorem inlX3 : ∀ w ∈ wsX30, w ∈ wsL_law := fun _ h => List.mem_append_left _ (List.mem_append_left _ (List.mem_append_left _ (List.mem_append_right _ h)))
theorem inX3 : ∀ w ∈ wsX30, w ∈ lw_tbl := fun w h => wsL_law_in w (inlX3 w h)
theorem inlX4 : ∀ w ∈ wsX40, w ∈ wsL_law := fun _ h => List.mem_append_left _ (List.mem_append_left _ (List.mem_append_left _ (List.mem_append_left _ (List.mem_append_left _ (List.mem_append_left _ (List.mem_append_right _ h))))))
theorem inX4 : ∀ w ∈ wsX40, w ∈ lw_tbl := fun w h => wsL_law_in w (inlX4 w h)
theorem inlX5 : ∀ w ∈ wsX50, w ∈ wsL_law := fun _ h => List.mem_append_left _ (List.mem_append_left _ (List.mem_append_left _ (List.mem_append_left _ (List.mem_append_left _ (List.mem_append_right _ h)))))
theorem inX5 : ∀ w ∈ wsX50, w ∈ lw_tbl := fun w h => wsL_law_in w (inlX5 w h)
theorem inJx8e188 : ∀ w ∈ wsJx8e1880, w ∈ lw_tbl := by decide +kernel
theorem inJ6 : ∀ w ∈ wsJ60, w ∈ lw_tbl := by decide +kernel
theorem inJ9 : ∀ w ∈ wsJ90, w ∈ lw_tbl := by decide +kernel
theorem inJ10 : ∀ w ∈ wsJ100, w ∈ lw_tbl := by decide +kernel
theorem inJ7 : ∀ w ∈ wsJ70, w ∈ lw_tbl := by decide +kernel
abbrev vwCl : List vw_C := [(RX0, TX0, 2), (RX1, TX1, 7), (RX2, TX2, 2), (RX3, TX3, 3), (RX4, TX4, 5), (RX5, TX5, 13)]
end
section
set_option maxRecDepth 200000 in
theorem ggX0_askFor_X3_length : GoodIn wsX0_askFor wsX3_length := goodIn_r _ [7, 8, 9, 10, 11, 12, 13, 14, 15, 16, 56, 57, 58] rfl rfl
set_option maxRecDepth 200000 in
theorem gX0_askFor_X3_length : GoodIn wsX0_askFor (wsV RX0 19 RX3 yX3_length wsX3_length) := goodIn_app (goodIn_r _ [3, 4, 5, 6] rfl rfl) ggX0_askFor_X3_length
set_option maxRecDepth 200000 in
theorem ggX0_askFor_X3_between : GoodIn wsX0_askFor wsX3_between := goodIn_r _ [20, 21, 22, 4, 5, 6, 7, 8, 9, 10, 11, 12, 13, 14, 15, 16, 23, 24, 25, 26, 27, 28, 29, 30, 31, 32, 33, 34, 35, 36, 37, 38, 39, 40, 41, 42, 43, 44, 45, 46, 47, 48, 49, 50, 51, 52, 53, 56, 57, 58, 59, 60, 61, 62, 63, 64, 65] rfl rfl
set_option maxRecDepth 200000 in
theorem gX0_askFor_X3_between : GoodIn wsX0_askFor (wsV RX0 25 RX3 yX3_between wsX3_between) := goodIn_app (goodIn_r _ [17, 18, 19, 6] rfl rfl) ggX0_askFor_X3_between
set_option maxRecDepth 200000 in
theorem ggX0_fewest_J6_bitCount_0f7a4 : GoodIn wsX0_fewest wsJ6_bitCount_0f7a4 := goodIn_r _ [4, 5, 6, 7] rfl rfl
set_option maxRecDepth 200000 in
theorem gX0_fewest_J6_bitCount_0f7a4 : GoodIn wsX0_fewest (va_wsS RX0 28 yJ6_bitCount_0f7a4 wsJ6_bitCount_0f7a4) := goodIn_app (goodIn_r _ [1, 2, 3] rfl rfl) ggX0_fewest_J6_bitCount_0f7a4
set_option maxRecDepth 200000 in
theorem ggX0_fewest_X0_meetsAll : GoodIn wsX0_fewest wsX0_meetsAll := goodIn_r _ [12, 13, 14, 15, 16] rfl rfl
set_option maxRecDepth 200000 in
theorem gX0_fewest_X0_meetsAll : GoodIn wsX0_fewest (wsV RX0 34 RX0 yX0_meetsAll wsX0_meetsAll) := goodIn_app (goodIn_r _ [8, 9, 10, 11] rfl rfl) ggX0_fewest_X0_meetsAll
set_option maxRecDepth 200000 in
theorem ggX1_hasPosts_X1_hasPost : GoodIn wsX1_hasPosts wsX1_hasPost := goodIn_r _ [5, 6, 7, 8, 9, 10, 11, 12, 13] rfl rfl
set_option maxRecDepth 200000 in
theorem gX1_hasPosts_X1_hasPost : GoodIn wsX1_hasPosts (wsV RX1 35 RX1 yX1_hasPost wsX1_hasPost) := goodIn_app (goodIn_r _ [1, 2, 3, 4] rfl rfl) ggX1_hasPosts_X1_hasPost
set_option maxRecDepth 200000 in
theorem ggX1_target_X1_hasLine : GoodIn wsX1_target wsX1_hasLine := goodIn_r _ [9, 10, 11, 12, 13, 14, 15, 16, 17] rfl rfl
set_option maxRecDepth 200000 in
theorem gX1_target_X1_hasLine : GoodIn wsX1_target (wsV RX1 39 RX1 yX1_hasLine wsX1_hasLine) := goodIn_app (goodIn_r _ [5, 6, 7, 8] rfl rfl) ggX1_target_X1_hasLine
set_option maxRecDepth 200000 in
theorem ggX2_keep_X2_isFull : GoodIn wsX2_keep wsX2_isFull := goodIn_r _ [7, 2, 50, 51] rfl rfl
set_option maxRecDepth 200000 in
theorem gX2_keep_X2_isFull : GoodIn wsX2_keep (wsV RX2 19 RX2 yX2_isFull wsX2_isFull) := goodIn_app (goodIn_r _ [3, 4, 5, 6] rfl rfl) ggX2_keep_X2_isFull
set_option maxRecDepth 200000 in
theorem ggX2_keep_X2_makeRoom : GoodIn wsX2_keep wsX2_makeRoom := goodIn_r _ [11, 2, 1, 12, 13, 14, 15, 16, 17, 18, 19, 20, 21, 22, 23, 24, 25, 26, 27, 28, 29, 30, 31, 32, 50, 51] rfl rfl
set_option maxRecDepth 200000 in
theorem gX2_keep_X2_makeRoom : GoodIn wsX2_keep (wsV RX2 23 RX2 yX2_makeRoom wsX2_makeRoom) := goodIn_app (goodIn_r _ [8, 9, 10, 6] rfl rfl) ggX2_keep_X2_makeRoom
set_option maxRecDepth 200000 in
theorem ggX2_keep_X3_leastPrice : GoodIn wsX2_keep wsX3_leastPrice := goodIn_r _ [37, 38, 39, 40, 41, 42, 43, 36, 44, 45, 46, 47, 48, 49, 52, 53, 54] rfl rfl
set_option maxRecDepth 200000 in
theorem gX2_keep_X3_leastPrice : GoodIn wsX2_keep (wsV RX2 26 RX3 yX3_leastPrice wsX3_leastPrice) := goodIn_app (goodIn_r _ [33, 34, 35, 36] rfl rfl) ggX2_keep_X3_leastPrice
set_option maxRecDepth 200000 in
theorem ggX2_countMoved_X2_isMoved : GoodIn wsX2_countMoved wsX2_isMoved := goodIn_r _ [5, 6, 7, 8, 4, 9, 10, 11, 12] rfl rfl
set_option maxRecDepth 200000 in
theorem gX2_countMoved_X2_isMoved : GoodIn wsX2_countMoved (wsV RX2 32 RX2 yX2_isMoved wsX2_isMoved) := goodIn_app (goodIn_r _ [1, 2, 3, 4] rfl rfl) ggX2_countMoved_X2_isMoved
set_option maxRecDepth 200000 in
theorem ggX2_movedPair_X2_isMoved : GoodIn wsX2_movedPair wsX2_isMoved := goodIn_r _ [5, 6, 7, 8, 4, 9, 10, 11, 12] rfl rfl
set_option maxRecDepth 200000 in
theorem gX2_movedPair_X2_isMoved : GoodIn wsX2_movedPair (wsV RX2 32 RX2 yX2_isMoved wsX2_isMoved) := goodIn_app (goodIn_r _ [1, 2, 3, 4] rfl rfl) ggX2_movedPair_X2_isMoved
set_option maxRecDepth 200000 in
theorem ggX2_firstWithin_X2_leastAsOf : GoodIn wsX2_firstWithin wsX2_leastAsOf := goodIn_r _ [6, 7, 8, 9] rfl rfl
set_option maxRecDepth 200000 in
theorem gX2_firstWithin_X2_leastAsOf : GoodIn wsX2_firstWithin (wsV RX2 36 RX2 yX2_leastAsOf wsX2_leastAsOf) := goodIn_app (goodIn_r _ [2, 3, 4, 5] rfl rfl) ggX2_firstWithin_X2_leastAsOf
set_option maxRecDepth 200000 in
theorem ggX2_isMoved_X2_leastAsOf : GoodIn wsX2_isMoved wsX2_leastAsOf := goodIn_r _ [5, 6, 7, 8] rfl rfl
set_option maxRecDepth 200000 in
theorem gX2_isMoved_X2_leastAsOf : GoodIn wsX2_isMoved (wsV RX2 36 RX2 yX2_leastAsOf wsX2_leastAsOf) := goodIn_app (goodIn_r _ [1, 2, 3, 4] rfl rfl) ggX2_isMoved_X2_leastAsOf
set_option maxRecDepth 200000 in
theorem ggX2_makeRoom_J7_copyOf_59c91 : GoodIn wsX2_makeRoom wsJ7_copyOf_59c91 := goodIn_r _ [11, 12, 13, 14, 15, 16, 17, 18, 19, 5, 6, 7, 20, 21, 22, 23] rfl rfl
set_option maxRecDepth 200000 in
theorem gX2_makeRoom_J7_copyOf_59c91 : GoodIn wsX2_makeRoom (va_wsS RX2 45 yJ7_copyOf_59c91 wsJ7_copyOf_59c91) := goodIn_app (goodIn_r _ [8, 9, 10] rfl rfl) ggX2_makeRoom_J7_copyOf_59c91
set_option maxRecDepth 200000 in
theorem ggX3_measure_J7_fill_53178 : GoodIn wsX3_measure wsJ7_fill_53178 := goodIn_r _ [12] rfl rfl
set_option maxRecDepth 200000 in
theorem gX3_measure_J7_fill_53178 : GoodIn wsX3_measure (va_wsS RX3 25 yJ7_fill_53178 wsJ7_fill_53178) := goodIn_app (goodIn_r _ [9, 10, 11] rfl rfl) ggX3_measure_J7_fill_53178
set_option maxRecDepth 200000 in
theorem ggX3_measure_X3_spread : GoodIn wsX3_measure wsX3_spread := goodIn_r _ [17, 4, 2, 3, 9, 10, 11, 12, 18, 19, 20, 21, 22, 23, 24, 25, 26, 27, 16, 28, 29, 30, 31, 32, 33, 34, 35, 36, 40, 41, 42, 43, 44, 45, 46, 47, 48, 49] rfl rfl
set_option maxRecDepth 200000 in
theorem gX3_measure_X3_spread : GoodIn wsX3_measure (wsV RX3 37 RX3 yX3_spread wsX3_spread) := goodIn_app (goodIn_r _ [13, 14, 15, 16] rfl rfl) ggX3_measure_X3_spread
set_option maxRecDepth 200000 in
theorem ggX3_measure_X4_pairOf : GoodIn wsX3_measure wsX4_pairOf := goodIn_r _ [39] rfl rfl
set_option maxRecDepth 200000 in
theorem gX3_measure_X4_pairOf_n41 : GoodIn wsX3_measure (wsX4_pairOf) := ggX3_measure_X4_pairOf
set_option maxRecDepth 200000 in
theorem ggX3_leads_X4_pairOf : GoodIn wsX3_leads wsX4_pairOf := goodIn_r _ [5] rfl rfl
set_option maxRecDepth 200000 in
theorem gX3_leads_X4_pairOf_n41 : GoodIn wsX3_leads (wsX4_pairOf) := ggX3_leads_X4_pairOf
set_option maxRecDepth 200000 in
theorem ggX3_leastPrice_X4_pairOf : GoodIn wsX3_leastPrice wsX4_pairOf := goodIn_r _ [4] rfl rfl
set_option maxRecDepth 200000 in
theorem gX3_leastPrice_X4_pairOf_n41 : GoodIn wsX3_leastPrice (wsX4_pairOf) := ggX3_leastPrice_X4_pairOf
set_option maxRecDepth 200000 in
theorem ggX3_leastPrice_X3_priceIn : GoodIn wsX3_leastPrice wsX3_priceIn := goodIn_r _ [8, 9, 10, 11, 12, 13] rfl rfl
set_option maxRecDepth 200000 in
theorem gX3_leastPrice_X3_priceIn : GoodIn wsX3_leastPrice (va_wsS RX3 51 yX3_priceIn wsX3_priceIn) := goodIn_app (goodIn_r _ [5, 6, 7] rfl rfl) ggX3_leastPrice_X3_priceIn
set_option maxRecDepth 200000 in
theorem ggX3_length_X4_pairOf : GoodIn wsX3_length wsX4_pairOf := goodIn_r _ [5] rfl rfl
set_option maxRecDepth 200000 in
theorem gX3_length_X4_pairOf_n41 : GoodIn wsX3_length (wsX4_pairOf) := ggX3_length_X4_pairOf
set_option maxRecDepth 200000 in
theorem ggX3_length_J9_floorMod_7cf53 : GoodIn wsX3_length wsJ9_floorMod_7cf53 := goodIn_r _ [9] rfl rfl
set_option maxRecDepth 200000 in
theorem gX3_length_J9_floorMod_7cf53 : GoodIn wsX3_length (va_wsS RX3 55 yJ9_floorMod_7cf53 wsJ9_floorMod_7cf53) := goodIn_app (goodIn_r _ [6, 7, 8] rfl rfl) ggX3_length_J9_floorMod_7cf53
set_option maxRecDepth 200000 in
theorem ggX3_lineAt_X3_length : GoodIn wsX3_lineAt wsX3_length := goodIn_r _ [6, 7, 8, 9, 10, 11, 12, 13, 14, 15, 47, 48, 49] rfl rfl
set_option maxRecDepth 200000 in
theorem gX3_lineAt_X3_length : GoodIn wsX3_lineAt (wsV RX3 60 RX3 yX3_length wsX3_length) := goodIn_app (goodIn_r _ [2, 3, 4, 5] rfl rfl) ggX3_lineAt_X3_length
set_option maxRecDepth 200000 in
theorem ggX3_lineAt_X3_lineToward : GoodIn wsX3_lineAt wsX3_lineToward := goodIn_r _ [19, 1, 7, 20, 21, 22, 23, 24, 25, 26, 27, 28, 5, 29, 8, 9, 10, 11, 30, 31, 32, 33, 34, 35, 36, 37, 38, 39, 40, 41, 42, 43, 44, 45, 46, 47, 48, 49, 50, 51, 52, 53, 54, 55, 56] rfl rfl
set_option maxRecDepth 200000 in
theorem gX3_lineAt_X3_lineToward : GoodIn wsX3_lineAt (wsV RX3 63 RX3 yX3_lineToward wsX3_lineToward) := goodIn_app (goodIn_r _ [16, 17, 18, 5] rfl rfl) ggX3_lineAt_X3_lineToward
set_option maxRecDepth 200000 in
theorem ggX3_lineAt_X1_target : GoodIn wsX3_lineAt wsX1_target := goodIn_r _ [33, 34, 35, 36, 37, 38, 39, 40, 23, 41, 42, 50, 51, 52, 53, 54, 55, 56] rfl rfl
set_option maxRecDepth 200000 in
theorem gX3_lineAt_X1_target : GoodIn wsX3_lineAt (wsV RX3 66 RX1 yX1_target wsX1_target) := goodIn_app (goodIn_r _ [30, 31, 32, 23] rfl rfl) ggX3_lineAt_X1_target
set_option maxRecDepth 200000 in
theorem ggX3_between_X3_length : GoodIn wsX3_between wsX3_length := goodIn_r _ [6, 7, 8, 9, 10, 11, 12, 13, 14, 15, 47, 48, 49] rfl rfl
set_option maxRecDepth 200000 in
theorem gX3_between_X3_length : GoodIn wsX3_between (wsV RX3 60 RX3 yX3_length wsX3_length) := goodIn_app (goodIn_r _ [2, 3, 4, 5] rfl rfl) ggX3_between_X3_length
set_option maxRecDepth 200000 in
theorem ggX3_between_X3_lineToward : GoodIn wsX3_between wsX3_lineToward := goodIn_r _ [19, 1, 7, 20, 21, 22, 23, 24, 25, 26, 27, 28, 5, 29, 8, 9, 10, 11, 30, 31, 32, 33, 34, 35, 36, 37, 38, 39, 40, 41, 42, 43, 44, 45, 46, 47, 48, 49, 50, 51, 52, 53, 54, 55, 56] rfl rfl
set_option maxRecDepth 200000 in
theorem gX3_between_X3_lineToward : GoodIn wsX3_between (wsV RX3 63 RX3 yX3_lineToward wsX3_lineToward) := goodIn_app (goodIn_r _ [16, 17, 18, 5] rfl rfl) ggX3_between_X3_lineToward
set_option maxRecDepth 200000 in
theorem ggX3_between_X1_target : GoodIn wsX3_between wsX1_target := goodIn_r _ [33, 34, 35, 36, 37, 38, 39, 40, 23, 41, 42, 50, 51, 52, 53, 54, 55, 56] rfl rfl
set_option maxRecDepth 200000 in
theorem gX3_between_X1_target : GoodIn wsX3_between (wsV RX3 66 RX1 yX1_target wsX1_target) := goodIn_app (goodIn_r _ [30, 31, 32, 23] rfl rfl) ggX3_between_X1_target
set_option maxRecDepth 200000 in
theorem ggX3_leastAvoiding_X3_spread : GoodIn wsX3_leastAvoiding wsX3_spread := goodIn_r _ [6, 1, 7, 8, 9, 10, 11, 12, 13, 14, 15, 16, 17, 18, 19, 20, 21, 22, 5, 23, 24, 25, 26, 27, 28, 29, 30, 31, 39, 40, 41, 42, 43, 44, 45, 46, 47, 48] rfl rfl
set_option maxRecDepth 200000 in
theorem gX3_leastAvoiding_X3_spread : GoodIn wsX3_leastAvoiding (wsV RX3 37 RX3 yX3_spread wsX3_spread) := goodIn_app (goodIn_r _ [2, 3, 4, 5] rfl rfl) ggX3_leastAvoiding_X3_spread
set_option maxRecDepth 200000 in
theorem ggX3_leastAvoiding_X3_priceIn : GoodIn wsX3_leastAvoiding wsX3_priceIn := goodIn_r _ [34, 7, 35, 36, 37, 38] rfl rfl
set_option maxRecDepth 200000 in
theorem gX3_leastAvoiding_X3_priceIn : GoodIn wsX3_leastAvoiding (va_wsS RX3 51 yX3_priceIn wsX3_priceIn) := goodIn_app (goodIn_r _ [32, 33, 5] rfl rfl) ggX3_leastAvoiding_X3_priceIn
set_option maxRecDepth 200000 in
theorem ggX3_isVital_X3_isOnWay : GoodIn wsX3_isVital wsX3_isOnWay := goodIn_r _ [5, 6, 7, 8, 4, 9, 10, 11, 12, 13, 14, 15, 16, 17, 18, 19, 20, 21, 22, 23, 24, 25, 26, 27, 28, 29, 30, 31, 32, 33, 34, 35, 36, 37, 38, 39, 40, 41, 42, 43, 44, 45, 46, 47, 48, 49, 50, 51, 52, 53, 54, 90, 91, 92, 93, 94, 95, 96, 97, 98, 99] rfl rfl
set_option maxRecDepth 200000 in
theorem gX3_isVital_X3_isOnWay : GoodIn wsX3_isVital (wsV RX3 69 RX3 yX3_isOnWay wsX3_isOnWay) := goodIn_app (goodIn_r _ [1, 2, 3, 4] rfl rfl) ggX3_isVital_X3_isOnWay
set_option maxRecDepth 200000 in
theorem ggX3_isVital_X3_leastAvoiding : GoodIn wsX3_isVital wsX3_leastAvoiding := goodIn_r _ [58, 59, 60, 61, 62, 4, 63, 11, 23, 64, 65, 66, 67, 68, 69, 70, 31, 71, 43, 44, 72, 73, 74, 75, 51, 52, 53, 54, 76, 77, 78, 79, 80, 81, 82, 83, 84, 17, 85, 90, 91, 92, 93, 94, 95, 96, 97, 98, 99] rfl rfl
set_option maxRecDepth 200000 in
theorem gX3_isVital_X3_leastAvoiding : GoodIn wsX3_isVital (wsV RX3 73 RX3 yX3_leastAvoiding wsX3_leastAvoiding) := goodIn_app (goodIn_r _ [55, 56, 57, 4] rfl rfl) ggX3_isVital_X3_leastAvoiding
set_option maxRecDepth 200000 in
theorem ggX3_isVital_X3_leastPrice : GoodIn wsX3_isVital wsX3_leastPrice := goodIn_r _ [89, 10, 12, 13, 14, 80, 81, 4, 82, 11, 83, 84, 17, 85, 90, 91, 92] rfl rfl
set_option maxRecDepth 200000 in
theorem gX3_isVital_X3_leastPrice : GoodIn wsX3_isVital (wsV RX3 77 RX3 yX3_leastPrice wsX3_leastPrice) := goodIn_app (goodIn_r _ [86, 87, 88, 4] rfl rfl) ggX3_isVital_X3_leastPrice
set_option maxRecDepth 200000 in
theorem ggX3_wouldSink_X3_leastAvoiding : GoodIn wsX3_wouldSink wsX3_leastAvoiding := goodIn_r _ [5, 6, 7, 8, 9, 4, 10, 11, 12, 13, 14, 15, 16, 17, 18, 19, 20, 21, 22, 23, 24, 25, 26, 27, 28, 29, 30, 31, 32, 33, 34, 35, 36, 37, 38, 39, 40, 41, 42, 46, 47, 48, 49, 50, 51, 52, 53, 54, 55] rfl rfl
set_option maxRecDepth 200000 in
theorem gX3_wouldSink_X3_leastAvoiding : GoodIn wsX3_wouldSink (wsV RX3 73 RX3 yX3_leastAvoiding wsX3_leastAvoiding) := goodIn_app (goodIn_r _ [1, 2, 3, 4] rfl rfl) ggX3_wouldSink_X3_leastAvoiding
set_option maxRecDepth 200000 in
theorem ggX3_wouldSink_X3_closesBelow : GoodIn wsX3_wouldSink wsX3_closesBelow := goodIn_r _ [45] rfl rfl
set_option maxRecDepth 200000 in
theorem gX3_wouldSink_X3_closesBelow : GoodIn wsX3_wouldSink (va_wsS RX3 80 yX3_closesBelow wsX3_closesBelow) := goodIn_app (goodIn_r _ [43, 44, 4] rfl rfl) ggX3_wouldSink_X3_closesBelow
set_option maxRecDepth 200000 in
theorem ggX3_leastRing_X3_ringOver : GoodIn wsX3_leastRing wsX3_ringOver := goodIn_r _ [6, 1, 7, 8, 9, 10, 11, 12, 13, 5, 14, 15, 16, 17, 18, 19, 20, 21, 22, 23, 24, 25, 26, 27, 28, 29, 30, 31, 32, 33, 34, 35, 36] rfl rfl
set_option maxRecDepth 200000 in
theorem gX3_leastRing_X3_ringOver : GoodIn wsX3_leastRing (wsV RX3 87 RX3 yX3_ringOver wsX3_ringOver) := goodIn_app (goodIn_r _ [2, 3, 4, 5] rfl rfl) ggX3_leastRing_X3_ringOver
set_option maxRecDepth 200000 in
theorem ggX3_heightOf_X3_leads : GoodIn wsX3_heightOf wsX3_leads := goodIn_r _ [10, 11, 12, 13, 14, 15, 27, 28, 29] rfl rfl
set_option maxRecDepth 200000 in
theorem gX3_heightOf_X3_leads : GoodIn wsX3_heightOf (wsV RX3 90 RX3 yX3_leads wsX3_leads) := goodIn_app (goodIn_r _ [6, 7, 8, 9] rfl rfl) ggX3_heightOf_X3_leads
set_option maxRecDepth 200000 in
theorem ggX3_heightOf_X3_leastPrice : GoodIn wsX3_heightOf wsX3_leastPrice := goodIn_r _ [19, 11, 13, 14, 15, 20, 21, 9, 22, 12, 23, 24, 25, 26, 27, 28, 29] rfl rfl
set_option maxRecDepth 200000 in
theorem gX3_heightOf_X3_leastPrice : GoodIn wsX3_heightOf (wsV RX3 77 RX3 yX3_leastPrice wsX3_leastPrice) := goodIn_app (goodIn_r _ [16, 17, 18, 9] rfl rfl) ggX3_heightOf_X3_leastPrice
set_option maxRecDepth 200000 in
theorem ggX3_lifted_X3_heightOf : GoodIn wsX3_lifted wsX3_heightOf := goodIn_r _ [10, 1, 2, 3, 4, 5, 11, 12, 13, 9, 14, 15, 16, 17, 18, 19, 20, 21, 22, 23, 24, 25, 26, 27, 28, 29, 30, 31, 32, 33, 34, 35, 36, 37, 38, 39, 40] rfl rfl
set_option maxRecDepth 200000 in
theorem gX3_lifted_X3_heightOf : GoodIn wsX3_lifted (wsV RX3 102 RX3 yX3_heightOf wsX3_heightOf) := goodIn_app (goodIn_r _ [6, 7, 8, 9] rfl rfl) ggX3_lifted_X3_heightOf
set_option maxRecDepth 200000 in
theorem ggX3_leastThrough_X3_leads : GoodIn wsX3_leastThrough wsX3_leads := goodIn_r _ [10, 11, 12, 13, 14, 15, 27, 28, 29] rfl rfl
set_option maxRecDepth 200000 in
theorem gX3_leastThrough_X3_leads : GoodIn wsX3_leastThrough (wsV RX3 90 RX3 yX3_leads wsX3_leads) := goodIn_app (goodIn_r _ [6, 7, 8, 9] rfl rfl) ggX3_leastThrough_X3_leads
set_option maxRecDepth 200000 in
theorem ggX3_leastThrough_X3_leastPrice : GoodIn wsX3_leastThrough wsX3_leastPrice := goodIn_r _ [19, 11, 13, 14, 15, 20, 21, 9, 22, 12, 23, 24, 25, 26, 27, 28, 29] rfl rfl
set_option maxRecDepth 200000 in
theorem gX3_leastThrough_X3_leastPrice : GoodIn wsX3_leastThrough (wsV RX3 77 RX3 yX3_leastPrice wsX3_leastPrice) := goodIn_app (goodIn_r _ [16, 17, 18, 9] rfl rfl) ggX3_leastThrough_X3_leastPrice
set_option maxRecDepth 200000 in
theorem ggX3_countLinked_X3_leads : GoodIn wsX3_countLinked wsX3_leads := goodIn_r _ [6, 7, 8, 9, 10, 11, 12, 13, 14] rfl rfl
set_option maxRecDepth 200000 in
theorem gX3_countLinked_X3_leads : GoodIn wsX3_countLinked (wsV RX3 90 RX3 yX3_leads wsX3_leads) := goodIn_app (goodIn_r _ [2, 3, 4, 5] rfl rfl) ggX3_countLinked_X3_leads
set_option maxRecDepth 200000 in
theorem ggX3_spread_J7_fill_53178 : GoodIn wsX3_spread wsJ7_fill_53178 := goodIn_r _ [7] rfl rfl
set_option maxRecDepth 200000 in
theorem gX3_spread_J7_fill_53178 : GoodIn wsX3_spread (va_wsS RX3 25 yJ7_fill_53178 wsJ7_fill_53178) := goodIn_app (goodIn_r _ [4, 5, 6] rfl rfl) ggX3_spread_J7_fill_53178
set_option maxRecDepth 200000 in
theorem ggX3_spread_X1_touches : GoodIn wsX3_spread wsX1_touches := goodIn_r _ [12, 13, 14, 31, 32, 33, 34, 35, 36, 37] rfl rfl
set_option maxRecDepth 200000 in
theorem gX3_spread_X1_touches : GoodIn wsX3_spread (wsV RX3 115 RX1 yX1_touches wsX1_touches) := goodIn_app (goodIn_r _ [8, 9, 10, 11] rfl rfl) ggX3_spread_X1_touches
set_option maxRecDepth 200000 in
theorem ggX3_spread_X3_relax : GoodIn wsX3_spread wsX3_relax := goodIn_r _ [19, 3, 20, 21, 22, 18, 23, 24, 25, 26, 27, 1, 2, 28, 29, 30, 31, 32, 33, 34, 35, 36, 37] rfl rfl
set_option maxRecDepth 200000 in
theorem gX3_spread_X3_relax : GoodIn wsX3_spread (wsV RX3 118 RX3 yX3_relax wsX3_relax) := goodIn_app (goodIn_r _ [15, 16, 17, 18] rfl rfl) ggX3_spread_X3_relax
set_option maxRecDepth 200000 in
theorem ggX3_relax_X3_costOf : GoodIn wsX3_relax wsX3_costOf := goodIn_r _ [6, 1, 13, 14, 15, 16, 17, 18, 19, 20, 21, 22] rfl rfl
set_option maxRecDepth 200000 in
theorem gX3_relax_X3_costOf : GoodIn wsX3_relax (wsV RX3 122 RX3 yX3_costOf wsX3_costOf) := goodIn_app (goodIn_r _ [2, 3, 4, 5] rfl rfl) ggX3_relax_X3_costOf
set_option maxRecDepth 200000 in
theorem ggX3_relax_X3_lower : GoodIn wsX3_relax wsX3_lower := goodIn_r _ [10, 11, 12, 13, 14, 15] rfl rfl
set_option maxRecDepth 200000 in
theorem gX3_relax_X3_lower : GoodIn wsX3_relax (wsV RX3 125 RX3 yX3_lower wsX3_lower) := goodIn_app (goodIn_r _ [7, 8, 9, 5] rfl rfl) ggX3_relax_X3_lower
set_option maxRecDepth 200000 in
theorem ggX3_lineToward_X1_hasPost : GoodIn wsX3_lineToward wsX1_hasPost := goodIn_r _ [7, 8, 38, 39, 40, 41, 42, 43, 44] rfl rfl
set_option maxRecDepth 200000 in
theorem gX3_lineToward_X1_hasPost : GoodIn wsX3_lineToward (wsV RX3 128 RX1 yX1_hasPost wsX1_hasPost) := goodIn_app (goodIn_r _ [3, 4, 5, 6] rfl rfl) ggX3_lineToward_X1_hasPost
set_option maxRecDepth 200000 in
theorem ggX3_lineToward_X3_leads : GoodIn wsX3_lineToward wsX3_leads := goodIn_r _ [13, 2, 14, 15, 16, 17, 35, 36, 37] rfl rfl
set_option maxRecDepth 200000 in
theorem gX3_lineToward_X3_leads : GoodIn wsX3_lineToward (wsV RX3 90 RX3 yX3_leads wsX3_leads) := goodIn_app (goodIn_r _ [9, 10, 11, 12] rfl rfl) ggX3_lineToward_X3_leads
set_option maxRecDepth 200000 in
theorem ggX3_lineToward_X4_pairOf : GoodIn wsX3_lineToward wsX4_pairOf := goodIn_r _ [17] rfl rfl
set_option maxRecDepth 200000 in
theorem gX3_lineToward_X4_pairOf_n41 : GoodIn wsX3_lineToward (wsX4_pairOf) := ggX3_lineToward_X4_pairOf
set_option maxRecDepth 200000 in
theorem ggX3_lineToward_X1_target : GoodIn wsX3_lineToward wsX1_target := goodIn_r _ [21, 22, 23, 24, 25, 26, 27, 28, 6, 29, 30, 38, 39, 40, 41, 42, 43, 44] rfl rfl
set_option maxRecDepth 200000 in
theorem gX3_lineToward_X1_target : GoodIn wsX3_lineToward (wsV RX3 66 RX1 yX1_target wsX1_target) := goodIn_app (goodIn_r _ [18, 19, 20, 6] rfl rfl) ggX3_lineToward_X1_target
set_option maxRecDepth 200000 in
theorem ggX3_lineToward_X3_costOf : GoodIn wsX3_lineToward wsX3_costOf := goodIn_r _ [34, 1, 35, 36, 37, 38, 39, 40, 41, 42, 43, 44] rfl rfl
set_option maxRecDepth 200000 in
theorem gX3_lineToward_X3_costOf : GoodIn wsX3_lineToward (wsV RX3 122 RX3 yX3_costOf wsX3_costOf) := goodIn_app (goodIn_r _ [31, 32, 33, 12] rfl rfl) ggX3_lineToward_X3_costOf
set_option maxRecDepth 200000 in
theorem ggX3_isOnWay_X3_length : GoodIn wsX3_isOnWay wsX3_length := goodIn_r _ [5, 6, 7, 8, 9, 10, 11, 12, 13, 14, 51, 52, 53] rfl rfl
set_option maxRecDepth 200000 in
theorem gX3_isOnWay_X3_length : GoodIn wsX3_isOnWay (wsV RX3 60 RX3 yX3_length wsX3_length) := goodIn_app (goodIn_r _ [1, 2, 3, 4] rfl rfl) ggX3_isOnWay_X3_length
set_option maxRecDepth 200000 in
theorem ggX3_isOnWay_X3_lineAt : GoodIn wsX3_isOnWay wsX3_lineAt := goodIn_r _ [18, 19, 1, 2, 3, 4, 5, 6, 7, 8, 9, 10, 11, 12, 13, 14, 20, 21, 22, 23, 24, 25, 26, 27, 28, 29, 30, 31, 32, 33, 34, 35, 36, 37, 38, 39, 40, 41, 42, 43, 44, 45, 46, 47, 48, 49, 50, 51, 52, 53, 54, 55, 56, 57, 58, 59, 60] rfl rfl
set_option maxRecDepth 200000 in
theorem gX3_isOnWay_X3_lineAt : GoodIn wsX3_isOnWay (wsV RX3 131 RX3 yX3_lineAt wsX3_lineAt) := goodIn_app (goodIn_r _ [15, 16, 17, 4] rfl rfl) ggX3_isOnWay_X3_lineAt
set_option maxRecDepth 200000 in
theorem ggX3_ringOver_X3_leastPrice : GoodIn wsX3_ringOver wsX3_leastPrice := goodIn_r _ [10, 11, 12, 13, 14, 15, 16, 9, 17, 18, 19, 20, 21, 22, 23, 24, 25] rfl rfl
set_option maxRecDepth 200000 in
theorem gX3_ringOver_X3_leastPrice : GoodIn wsX3_ringOver (wsV RX3 77 RX3 yX3_leastPrice wsX3_leastPrice) := goodIn_app (goodIn_r _ [6, 7, 8, 9] rfl rfl) ggX3_ringOver_X3_leastPrice
set_option maxRecDepth 200000 in
theorem ggX3_priceIn_J9_floorDiv_7cf53 : GoodIn wsX3_priceIn wsJ9_floorDiv_7cf53 := goodIn_r _ [5] rfl rfl
set_option maxRecDepth 200000 in
theorem gX3_priceIn_J9_floorDiv_7cf53 : GoodIn wsX3_priceIn (va_wsS RX3 135 yJ9_floorDiv_7cf53 wsJ9_floorDiv_7cf53) := goodIn_app (goodIn_r _ [2, 3, 4] rfl rfl) ggX3_priceIn_J9_floorDiv_7cf53
set_option maxRecDepth 200000 in
theorem ggX4_init_X1_init : GoodIn wsX4_init wsX1_init := goodIn_r _ [21, 22, 2, 3, 23, 24, 25, 26, 27, 28, 29, 140, 141, 142, 143, 144, 145, 146] rfl rfl
set_option maxRecDepth 200000 in
theorem gX4_init_X1_init_n11 : GoodIn wsX4_init (wsX1_init) := ggX4_init_X1_init
set_option maxRecDepth 200000 in
theorem ggX4_init_X3_init : GoodIn wsX4_init wsX3_init := goodIn_r _ [32, 33, 2, 3, 23, 34, 35, 36, 152, 153, 154] rfl rfl
set_option maxRecDepth 200000 in
theorem gX4_init_X3_init : GoodIn wsX4_init (wsX3_init) := ggX4_init_X3_init
set_option maxRecDepth 200000 in
theorem ggX4_init_X2_init : GoodIn wsX4_init wsX2_init := goodIn_r _ [38, 39, 2, 3, 23, 40, 155, 156] rfl rfl
set_option maxRecDepth 200000 in
theorem gX4_init_X2_init_n27 : GoodIn wsX4_init (wsX2_init) := ggX4_init_X2_init
set_option maxRecDepth 200000 in
theorem ggX4_init_X0_init : GoodIn wsX4_init wsX0_init := goodIn_r _ [42, 43, 2, 3, 23, 44, 157, 158] rfl rfl
set_option maxRecDepth 200000 in
theorem gX4_init_X0_init_n34 : GoodIn wsX4_init (wsX0_init) := ggX4_init_X0_init
set_option maxRecDepth 200000 in
theorem ggX4_init_X4_restart : GoodIn wsX4_init wsX4_restart := goodIn_r _ [49, 7, 15, 50, 51, 52, 53, 6, 54, 55, 56, 57, 58, 59, 14, 60, 61, 62, 63, 64, 48, 65, 11, 66, 67, 68, 10, 69, 34, 70, 36, 35, 71, 72, 73, 74, 75, 76, 77, 78, 79, 80, 81, 82, 83, 84, 85, 86, 24, 25, 87, 88, 89, 90, 91, 92, 93, 94, 95, 96, 97, 98, 99, 100, 101, 102, 103, 104, 40, 105, 106, 107, 108, 109, 110, 111, 112, 113, 114, 115, 116, 117, 118, 119, 120, 121, 122, 123, 124, 125, 126, 23, 127, 128, 129, 130, 131, 132, 133, 134, 135, 136, 137, 138, 139, 147, 148, 149, 150, 151, 140, 141, 142, 143, 144, 145, 146, 155, 156, 152, 153, 154] rfl rfl
set_option maxRecDepth 200000 in
theorem gX4_init_X4_restart : GoodIn wsX4_init (wsV RX4 39 RX4 yX4_restart wsX4_restart) := goodIn_app (goodIn_r _ [45, 46, 47, 48] rfl rfl) ggX4_init_X4_restart
set_option maxRecDepth 200000 in
theorem ggX4_posts_X4_restart : GoodIn wsX4_posts wsX4_restart := goodIn_r _ [6, 1, 7, 8, 9, 10, 11, 12, 13, 14, 15, 16, 17, 18, 19, 20, 21, 22, 23, 24, 5, 25, 26, 27, 28, 29, 30, 31, 32, 33, 34, 35, 36, 37, 38, 39, 40, 41, 42, 43, 44, 45, 46, 47, 48, 49, 50, 51, 52, 53, 54, 55, 56, 57, 58, 59, 60, 61, 62, 63, 64, 65, 66, 67, 68, 69, 70, 71, 72, 73, 74, 75, 76, 77, 78, 79, 80, 81, 82, 83, 84, 85, 86, 87, 88, 89, 90, 91, 92, 93, 94, 95, 96, 97, 98, 99, 100, 101, 102, 103, 104, 105, 106, 107, 108, 109, 110, 111, 112, 113, 114, 115, 116, 117, 118, 119, 120, 121, 122, 123, 124, 125] rfl rfl
set_option maxRecDepth 200000 in
theorem gX4_posts_X4_restart : GoodIn wsX4_posts (wsV RX4 39 RX4 yX4_restart wsX4_restart) := goodIn_app (goodIn_r _ [2, 3, 4, 5] rfl rfl) ggX4_posts_X4_restart
set_option maxRecDepth 200000 in
theorem ggX4_line_X1_hasPosts : GoodIn wsX4_line wsX1_hasPosts := goodIn_r _ [8, 9, 10, 11, 7, 12, 13, 131, 132, 133, 134, 135, 136, 137] rfl rfl
set_option maxRecDepth 200000 in
theorem gX4_line_X1_hasPosts : GoodIn wsX4_line (wsV RX4 47 RX1 yX1_hasPosts wsX1_hasPosts) := goodIn_app (goodIn_r _ [4, 5, 6, 7] rfl rfl) ggX4_line_X1_hasPosts
set_option maxRecDepth 200000 in
theorem ggX4_line_X4_mayCost : GoodIn wsX4_line wsX4_mayCost := goodIn_r _ [17] rfl rfl
set_option maxRecDepth 200000 in
theorem gX4_line_X4_mayCost : GoodIn wsX4_line (va_wsS RX4 51 yX4_mayCost wsX4_mayCost) := goodIn_app (goodIn_r _ [14, 15, 16] rfl rfl) ggX4_line_X4_mayCost
set_option maxRecDepth 200000 in
theorem ggX4_line_X3_wouldSink : GoodIn wsX4_line wsX3_wouldSink := goodIn_r _ [22, 23, 24, 25, 21, 26, 27, 28, 29, 30, 31, 32, 33, 34, 35, 36, 37, 38, 39, 40, 7, 41, 42, 43, 44, 45, 46, 47, 48, 49, 50, 51, 52, 53, 54, 55, 56, 57, 58, 59, 60, 61, 62, 63, 64, 65, 138, 139, 140, 131, 132, 133, 134, 135, 136, 137] rfl rfl
set_option maxRecDepth 200000 in
theorem gX4_line_X3_wouldSink : GoodIn wsX4_line (wsV RX4 55 RX3 yX3_wouldSink wsX3_wouldSink) := goodIn_app (goodIn_r _ [18, 19, 20, 21] rfl rfl) ggX4_line_X3_wouldSink
set_option maxRecDepth 200000 in
theorem ggX4_line_X2_isFull : GoodIn wsX4_line wsX2_isFull := goodIn_r _ [70, 71, 141, 142] rfl rfl
set_option maxRecDepth 200000 in
theorem gX4_line_X2_isFull : GoodIn wsX4_line (wsV RX4 62 RX2 yX2_isFull wsX2_isFull) := goodIn_app (goodIn_r _ [66, 67, 68, 69] rfl rfl) ggX4_line_X2_isFull
set_option maxRecDepth 200000 in
theorem ggX4_line_X1_add : GoodIn wsX4_line wsX1_add := goodIn_r _ [75, 76, 42, 43, 77, 78, 79, 131, 132, 133, 134, 135, 136, 137] rfl rfl
set_option maxRecDepth 200000 in
theorem gX4_line_X1_add : GoodIn wsX4_line (wsV RX4 66 RX1 yX1_add wsX1_add) := goodIn_app (goodIn_r _ [72, 73, 74, 7] rfl rfl) ggX4_line_X1_add
set_option maxRecDepth 200000 in
theorem ggX4_line_X4_keepAct : GoodIn wsX4_line wsX4_keepAct := goodIn_r _ [83, 2, 3, 84, 85, 86, 21, 87, 88, 32, 33, 27, 89, 90, 91, 92, 34, 35, 36, 37, 28, 29, 30, 31, 38, 39, 40, 7, 41, 42, 43, 44, 45, 46, 47, 48, 49, 50, 51, 52, 53, 54, 55, 93, 16, 94, 95, 96, 97, 69, 98, 99, 71, 100, 67, 68, 70, 101, 102, 103, 104, 105, 106, 107, 108, 109, 110, 111, 112, 113, 114, 115, 116, 117, 118, 119, 120, 121, 122, 123, 124, 125, 56, 57, 58, 59, 60, 61, 62, 126, 127, 128, 129, 130, 138, 139, 140, 131, 132, 133, 134, 135, 136, 137, 141, 142] rfl rfl
set_option maxRecDepth 200000 in
theorem gX4_line_X4_keepAct : GoodIn wsX4_line (wsV RX4 70 RX4 yX4_keepAct wsX4_keepAct) := goodIn_app (goodIn_r _ [80, 81, 82, 16] rfl rfl) ggX4_line_X4_keepAct
set_option maxRecDepth 200000 in
theorem ggX4_price_X1_hasLine : GoodIn wsX4_price wsX1_hasLine := goodIn_r _ [7, 8, 123, 124, 125, 126, 127, 128, 129] rfl rfl
set_option maxRecDepth 200000 in
theorem gX4_price_X1_hasLine : GoodIn wsX4_price (wsV RX4 73 RX1 yX1_hasLine wsX1_hasLine) := goodIn_app (goodIn_r _ [3, 4, 5, 6] rfl rfl) ggX4_price_X1_hasLine
set_option maxRecDepth 200000 in
theorem ggX4_price_X4_mayCost : GoodIn wsX4_price wsX4_mayCost := goodIn_r _ [12] rfl rfl
set_option maxRecDepth 200000 in
theorem gX4_price_X4_mayCost : GoodIn wsX4_price (va_wsS RX4 51 yX4_mayCost wsX4_mayCost) := goodIn_app (goodIn_r _ [9, 10, 11] rfl rfl) ggX4_price_X4_mayCost
set_option maxRecDepth 200000 in
theorem ggX4_price_X4_wouldSinkAt : GoodIn wsX4_price wsX4_wouldSinkAt := goodIn_r _ [16, 17, 1, 18, 19, 20, 21, 22, 23, 24, 25, 26, 27, 28, 29, 30, 31, 32, 33, 34, 35, 36, 37, 38, 39, 40, 6, 41, 42, 43, 44, 45, 46, 47, 48, 49, 50, 51, 52, 53, 54, 55, 56, 57, 58, 59, 60, 61, 62, 63, 64, 65, 118, 119, 120, 121, 122, 123, 124, 125, 126, 127, 128, 129, 130, 131, 132] rfl rfl
set_option maxRecDepth 200000 in
theorem gX4_price_X4_wouldSinkAt : GoodIn wsX4_price (wsV RX4 88 RX4 yX4_wouldSinkAt wsX4_wouldSinkAt) := goodIn_app (goodIn_r _ [13, 14, 15, 11] rfl rfl) ggX4_price_X4_wouldSinkAt
set_option maxRecDepth 200000 in
theorem ggX4_price_X2_isFull : GoodIn wsX4_price wsX2_isFull := goodIn_r _ [70, 71, 133, 134] rfl rfl
set_option maxRecDepth 200000 in
theorem gX4_price_X2_isFull : GoodIn wsX4_price (wsV RX4 62 RX2 yX2_isFull wsX2_isFull) := goodIn_app (goodIn_r _ [66, 67, 68, 69] rfl rfl) ggX4_price_X2_isFull
set_option maxRecDepth 200000 in
theorem ggX4_price_X4_keepAct : GoodIn wsX4_price wsX4_keepAct := goodIn_r _ [75, 17, 2, 76, 77, 78, 21, 79, 80, 32, 33, 27, 81, 82, 83, 84, 34, 35, 36, 37, 28, 29, 30, 31, 38, 39, 40, 6, 41, 42, 43, 44, 45, 46, 47, 48, 49, 50, 51, 52, 53, 54, 55, 85, 11, 86, 87, 88, 89, 69, 90, 91, 71, 92, 67, 68, 70, 93, 94, 95, 96, 97, 98, 99, 100, 101, 102, 103, 104, 105, 106, 107, 108, 109, 110, 111, 112, 113, 114, 115, 116, 117, 56, 57, 58, 59, 60, 61, 62, 118, 119, 120, 121, 122, 130, 131, 132, 123, 124, 125, 126, 127, 128, 129, 133, 134] rfl rfl
set_option maxRecDepth 200000 in
theorem gX4_price_X4_keepAct : GoodIn wsX4_price (wsV RX4 70 RX4 yX4_keepAct wsX4_keepAct) := goodIn_app (goodIn_r _ [72, 73, 74, 11] rfl rfl) ggX4_price_X4_keepAct
set_option maxRecDepth 200000 in
theorem ggX4_cut_X1_hasLine : GoodIn wsX4_cut wsX1_hasLine := goodIn_r _ [7, 8, 110, 111, 112, 113, 114, 115, 116] rfl rfl
set_option maxRecDepth 200000 in
theorem gX4_cut_X1_hasLine : GoodIn wsX4_cut (wsV RX4 73 RX1 yX1_hasLine wsX1_hasLine) := goodIn_app (goodIn_r _ [3, 4, 5, 6] rfl rfl) ggX4_cut_X1_hasLine
set_option maxRecDepth 200000 in
theorem ggX4_cut_X2_isFull : GoodIn wsX4_cut wsX2_isFull := goodIn_r _ [13, 14, 117, 118] rfl rfl
set_option maxRecDepth 200000 in
theorem gX4_cut_X2_isFull : GoodIn wsX4_cut (wsV RX4 62 RX2 yX2_isFull wsX2_isFull) := goodIn_app (goodIn_r _ [9, 10, 11, 12] rfl rfl) ggX4_cut_X2_isFull
set_option maxRecDepth 200000 in
theorem ggX4_cut_X4_keepAct : GoodIn wsX4_cut wsX4_keepAct := goodIn_r _ [19, 20, 2, 21, 22, 23, 24, 25, 26, 27, 28, 29, 30, 31, 32, 33, 34, 35, 36, 37, 38, 39, 40, 41, 42, 43, 44, 6, 45, 46, 47, 48, 49, 50, 51, 52, 53, 54, 55, 56, 57, 58, 59, 60, 18, 61, 62, 63, 64, 12, 65, 66, 14, 67, 10, 11, 13, 68, 69, 70, 71, 72, 73, 74, 75, 76, 77, 78, 79, 80, 81, 82, 83, 84, 85, 86, 87, 88, 89, 90, 91, 92, 93, 94, 95, 96, 97, 98, 99, 105, 106, 107, 108, 109, 119, 120, 121, 110, 111, 112, 113, 114, 115, 116, 117, 118] rfl rfl
set_option maxRecDepth 200000 in
theorem gX4_cut_X4_keepAct : GoodIn wsX4_cut (wsV RX4 70 RX4 yX4_keepAct wsX4_keepAct) := goodIn_app (goodIn_r _ [15, 16, 17, 18] rfl rfl) ggX4_cut_X4_keepAct
set_option maxRecDepth 200000 in
theorem ggX4_cut_X1_countThere : GoodIn wsX4_cut wsX1_countThere := goodIn_r _ [103, 8, 104, 110, 111, 112, 113, 114, 115, 116] rfl rfl
set_option maxRecDepth 200000 in
theorem gX4_cut_X1_countThere : GoodIn wsX4_cut (wsV RX4 91 RX1 yX1_countThere wsX1_countThere) := goodIn_app (goodIn_r _ [100, 101, 102, 6] rfl rfl) ggX4_cut_X1_countThere
set_option maxRecDepth 200000 in
theorem ggX4_back_X1_hasLine : GoodIn wsX4_back wsX1_hasLine := goodIn_r _ [7, 8, 125, 126, 127, 128, 129, 130, 131] rfl rfl
set_option maxRecDepth 200000 in
theorem gX4_back_X1_hasLine : GoodIn wsX4_back (wsV RX4 73 RX1 yX1_hasLine wsX1_hasLine) := goodIn_app (goodIn_r _ [3, 4, 5, 6] rfl rfl) ggX4_back_X1_hasLine
set_option maxRecDepth 200000 in
theorem ggX4_back_X4_wouldSinkAt : GoodIn wsX4_back wsX4_wouldSinkAt := goodIn_r _ [13, 14, 1, 15, 16, 17, 18, 19, 20, 21, 22, 23, 24, 25, 26, 27, 28, 29, 30, 31, 32, 33, 34, 35, 36, 37, 6, 38, 39, 40, 41, 42, 43, 44, 45, 46, 47, 48, 49, 50, 51, 52, 53, 54, 55, 56, 57, 58, 59, 60, 61, 62, 120, 121, 122, 123, 124, 125, 126, 127, 128, 129, 130, 131, 132, 133, 134] rfl rfl
set_option maxRecDepth 200000 in
theorem gX4_back_X4_wouldSinkAt : GoodIn wsX4_back (wsV RX4 88 RX4 yX4_wouldSinkAt wsX4_wouldSinkAt) := goodIn_app (goodIn_r _ [9, 10, 11, 12] rfl rfl) ggX4_back_X4_wouldSinkAt
set_option maxRecDepth 200000 in
theorem ggX4_back_X2_isFull : GoodIn wsX4_back wsX2_isFull := goodIn_r _ [67, 68, 135, 136] rfl rfl
set_option maxRecDepth 200000 in
theorem gX4_back_X2_isFull : GoodIn wsX4_back (wsV RX4 62 RX2 yX2_isFull wsX2_isFull) := goodIn_app (goodIn_r _ [63, 64, 65, 66] rfl rfl) ggX4_back_X2_isFull
set_option maxRecDepth 200000 in
theorem ggX4_back_X4_keepAct : GoodIn wsX4_back wsX4_keepAct := goodIn_r _ [72, 14, 2, 73, 74, 75, 18, 76, 77, 29, 30, 24, 78, 79, 80, 81, 31, 32, 33, 34, 25, 26, 27, 28, 35, 36, 37, 6, 38, 39, 40, 41, 42, 43, 44, 45, 46, 47, 48, 49, 50, 51, 52, 82, 12, 83, 84, 85, 86, 66, 87, 88, 68, 89, 64, 65, 67, 90, 91, 92, 93, 94, 95, 96, 97, 98, 99, 100, 101, 102, 103, 104, 105, 106, 107, 108, 109, 110, 111, 112, 113, 114, 53, 54, 55, 56, 57, 58, 59, 120, 121, 122, 123, 124, 132, 133, 134, 125, 126, 127, 128, 129, 130, 131, 135, 136] rfl rfl
set_option maxRecDepth 200000 in
theorem gX4_back_X4_keepAct : GoodIn wsX4_back (wsV RX4 70 RX4 yX4_keepAct wsX4_keepAct) := goodIn_app (goodIn_r _ [69, 70, 71, 12] rfl rfl) ggX4_back_X4_keepAct
set_option maxRecDepth 200000 in
theorem ggX4_back_X1_countThere : GoodIn wsX4_back wsX1_countThere := goodIn_r _ [118, 8, 119, 125, 126, 127, 128, 129, 130, 131] rfl rfl
set_option maxRecDepth 200000 in
theorem gX4_back_X1_countThere : GoodIn wsX4_back (wsV RX4 91 RX1 yX1_countThere wsX1_countThere) := goodIn_app (goodIn_r _ [115, 116, 117, 6] rfl rfl) ggX4_back_X1_countThere
set_option maxRecDepth 200000 in
theorem ggX4_told_X1_hasLine : GoodIn wsX4_told wsX1_hasLine := goodIn_r _ [7, 8, 51, 52, 53, 54, 55, 56, 57] rfl rfl
set_option maxRecDepth 200000 in
theorem gX4_told_X1_hasLine : GoodIn wsX4_told (wsV RX4 73 RX1 yX1_hasLine wsX1_hasLine) := goodIn_app (goodIn_r _ [3, 4, 5, 6] rfl rfl) ggX4_told_X1_hasLine
set_option maxRecDepth 200000 in
theorem ggX4_told_X4_asNumber : GoodIn wsX4_told wsX4_asNumber := goodIn_r _ [12] rfl rfl
set_option maxRecDepth 200000 in
theorem gX4_told_X4_asNumber : GoodIn wsX4_told (va_wsS RX4 101 yX4_asNumber wsX4_asNumber) := goodIn_app (goodIn_r _ [9, 10, 11] rfl rfl) ggX4_told_X4_asNumber
set_option maxRecDepth 200000 in
theorem ggX4_told_X3_lifted : GoodIn wsX4_told wsX3_lifted := goodIn_r _ [17, 18, 19, 20, 21, 22, 23, 24, 25, 16, 26, 27, 28, 29, 30, 31, 32, 33, 11, 34, 35, 36, 37, 38, 39, 40, 41, 42, 43, 44, 45, 58, 59, 60, 51, 52, 53, 54, 55, 56, 57] rfl rfl
set_option maxRecDepth 200000 in
theorem gX4_told_X3_lifted : GoodIn wsX4_told (wsV RX4 105 RX3 yX3_lifted wsX3_lifted) := goodIn_app (goodIn_r _ [13, 14, 15, 16] rfl rfl) ggX4_told_X3_lifted
set_option maxRecDepth 200000 in
theorem ggX4_far_X1_hasPosts : GoodIn wsX4_far wsX1_hasPosts := goodIn_r _ [7, 8, 9, 10, 6, 11, 12, 35, 36, 37, 38, 39, 40, 41] rfl rfl
set_option maxRecDepth 200000 in
theorem gX4_far_X1_hasPosts : GoodIn wsX4_far (wsV RX4 47 RX1 yX1_hasPosts wsX1_hasPosts) := goodIn_app (goodIn_r _ [3, 4, 5, 6] rfl rfl) ggX4_far_X1_hasPosts
set_option maxRecDepth 200000 in
theorem ggX4_far_X3_leastPrice : GoodIn wsX4_far wsX3_leastPrice := goodIn_r _ [17, 18, 19, 20, 21, 22, 23, 16, 24, 25, 26, 27, 28, 29, 42, 43, 44] rfl rfl
set_option maxRecDepth 200000 in
theorem gX4_far_X3_leastPrice : GoodIn wsX4_far (wsV RX4 109 RX3 yX3_leastPrice wsX3_leastPrice) := goodIn_app (goodIn_r _ [13, 14, 15, 16] rfl rfl) ggX4_far_X3_leastPrice
set_option maxRecDepth 200000 in
theorem ggX4_steps_X1_hasPosts : GoodIn wsX4_steps wsX1_hasPosts := goodIn_r _ [7, 8, 9, 10, 6, 11, 12, 32, 33, 34, 35, 36, 37, 38] rfl rfl
set_option maxRecDepth 200000 in
theorem gX4_steps_X1_hasPosts : GoodIn wsX4_steps (wsV RX4 47 RX1 yX1_hasPosts wsX1_hasPosts) := goodIn_app (goodIn_r _ [3, 4, 5, 6] rfl rfl) ggX4_steps_X1_hasPosts
set_option maxRecDepth 200000 in
theorem ggX4_steps_X3_length : GoodIn wsX4_steps wsX3_length := goodIn_r _ [17, 18, 19, 20, 21, 22, 23, 24, 25, 26, 39, 40, 41] rfl rfl
set_option maxRecDepth 200000 in
theorem gX4_steps_X3_length : GoodIn wsX4_steps (wsV RX4 113 RX3 yX3_length wsX3_length) := goodIn_app (goodIn_r _ [13, 14, 15, 16] rfl rfl) ggX4_steps_X3_length
set_option maxRecDepth 200000 in
theorem ggX4_way_X1_hasPosts : GoodIn wsX4_way wsX1_hasPosts := goodIn_r _ [7, 8, 9, 10, 6, 11, 12, 63, 64, 65, 66, 67, 68, 69] rfl rfl
set_option maxRecDepth 200000 in
theorem gX4_way_X1_hasPosts : GoodIn wsX4_way (wsV RX4 47 RX1 yX1_hasPosts wsX1_hasPosts) := goodIn_app (goodIn_r _ [3, 4, 5, 6] rfl rfl) ggX4_way_X1_hasPosts
set_option maxRecDepth 200000 in
theorem ggX4_way_X3_lineAt : GoodIn wsX4_way wsX3_lineAt := goodIn_r _ [17, 18, 19, 20, 21, 16, 22, 23, 24, 25, 26, 27, 28, 29, 30, 31, 32, 33, 34, 35, 36, 9, 10, 6, 11, 12, 37, 38, 39, 40, 41, 42, 43, 44, 45, 46, 47, 48, 49, 50, 51, 52, 53, 54, 55, 56, 57, 70, 71, 72, 63, 64, 65, 66, 67, 68, 69] rfl rfl
set_option maxRecDepth 200000 in
theorem gX4_way_X3_lineAt : GoodIn wsX4_way (wsV RX4 116 RX3 yX3_lineAt wsX3_lineAt) := goodIn_app (goodIn_r _ [13, 14, 15, 16] rfl rfl) ggX4_way_X3_lineAt
set_option maxRecDepth 200000 in
theorem ggX4_without_X1_hasPosts : GoodIn wsX4_without wsX1_hasPosts := goodIn_r _ [7, 8, 9, 10, 6, 11, 12, 64, 65, 66, 67, 68, 69, 70] rfl rfl
set_option maxRecDepth 200000 in
theorem gX4_without_X1_hasPosts : GoodIn wsX4_without (wsV RX4 47 RX1 yX1_hasPosts wsX1_hasPosts) := goodIn_app (goodIn_r _ [3, 4, 5, 6] rfl rfl) ggX4_without_X1_hasPosts
set_option maxRecDepth 200000 in
theorem ggX4_without_X1_hasLine : GoodIn wsX4_without wsX1_hasLine := goodIn_r _ [16, 17, 64, 65, 66, 67, 68, 69, 70] rfl rfl
set_option maxRecDepth 200000 in
theorem gX4_without_X1_hasLine : GoodIn wsX4_without (wsV RX4 73 RX1 yX1_hasLine wsX1_hasLine) := goodIn_app (goodIn_r _ [13, 14, 15, 6] rfl rfl) ggX4_without_X1_hasLine
set_option maxRecDepth 200000 in
theorem ggX4_without_X3_leastAvoiding : GoodIn wsX4_without wsX3_leastAvoiding := goodIn_r _ [22, 23, 24, 25, 26, 21, 27, 28, 29, 30, 31, 32, 33, 34, 35, 36, 6, 37, 38, 39, 40, 41, 42, 43, 44, 45, 46, 47, 48, 49, 50, 51, 52, 53, 54, 55, 56, 57, 58, 71, 72, 73, 64, 65, 66, 67, 68, 69, 70] rfl rfl
set_option maxRecDepth 200000 in
theorem gX4_without_X3_leastAvoiding : GoodIn wsX4_without (wsV RX4 120 RX3 yX3_leastAvoiding wsX3_leastAvoiding) := goodIn_app (goodIn_r _ [18, 19, 20, 21] rfl rfl) ggX4_without_X3_leastAvoiding
set_option maxRecDepth 200000 in
theorem ggX4_vital_X1_hasPosts : GoodIn wsX4_vital wsX1_hasPosts := goodIn_r _ [7, 8, 9, 10, 6, 11, 12, 106, 107, 108, 109, 110, 111, 112] rfl rfl
set_option maxRecDepth 200000 in
theorem gX4_vital_X1_hasPosts : GoodIn wsX4_vital (wsV RX4 47 RX1 yX1_hasPosts wsX1_hasPosts) := goodIn_app (goodIn_r _ [3, 4, 5, 6] rfl rfl) ggX4_vital_X1_hasPosts
set_option maxRecDepth 200000 in
theorem ggX4_vital_X3_isVital : GoodIn wsX4_vital wsX3_isVital := goodIn_r _ [17, 18, 19, 20, 16, 21, 22, 23, 24, 25, 26, 27, 28, 29, 30, 31, 32, 33, 34, 35, 36, 37, 38, 39, 40, 41, 42, 43, 44, 9, 10, 6, 11, 12, 45, 46, 47, 48, 49, 50, 51, 52, 53, 54, 55, 56, 57, 58, 59, 60, 61, 62, 63, 64, 65, 66, 67, 68, 69, 70, 71, 72, 73, 74, 75, 76, 77, 78, 79, 80, 81, 82, 83, 84, 85, 86, 87, 88, 89, 90, 91, 92, 93, 94, 95, 96, 97, 98, 99, 100, 113, 114, 115, 106, 107, 108, 109, 110, 111, 112] rfl rfl
set_option maxRecDepth 200000 in
theorem gX4_vital_X3_isVital : GoodIn wsX4_vital (wsV RX4 124 RX3 yX3_isVital wsX3_isVital) := goodIn_app (goodIn_r _ [13, 14, 15, 16] rfl rfl) ggX4_vital_X3_isVital
set_option maxRecDepth 200000 in
theorem ggX4_about_X1_hasPosts : GoodIn wsX4_about wsX1_hasPosts := goodIn_r _ [7, 8, 9, 10, 6, 11, 12, 60, 61, 62, 63, 64, 65, 66] rfl rfl
set_option maxRecDepth 200000 in
theorem gX4_about_X1_hasPosts : GoodIn wsX4_about (wsV RX4 47 RX1 yX1_hasPosts wsX1_hasPosts) := goodIn_app (goodIn_r _ [3, 4, 5, 6] rfl rfl) ggX4_about_X1_hasPosts
set_option maxRecDepth 200000 in
theorem ggX4_about_X1_hasPost : GoodIn wsX4_about wsX1_hasPost := goodIn_r _ [11, 12, 60, 61, 62, 63, 64, 65, 66] rfl rfl
set_option maxRecDepth 200000 in
theorem gX4_about_X1_hasPost : GoodIn wsX4_about (wsV RX4 128 RX1 yX1_hasPost wsX1_hasPost) := goodIn_app (goodIn_r _ [13, 9, 10, 6] rfl rfl) ggX4_about_X1_hasPost
set_option maxRecDepth 200000 in
theorem ggX4_about_X3_leastAvoiding : GoodIn wsX4_about wsX3_leastAvoiding := goodIn_r _ [18, 19, 20, 21, 22, 17, 23, 24, 25, 26, 27, 28, 29, 30, 31, 32, 6, 33, 34, 35, 36, 37, 38, 39, 40, 41, 42, 43, 44, 45, 46, 47, 48, 49, 50, 51, 52, 53, 54, 67, 68, 69, 60, 61, 62, 63, 64, 65, 66] rfl rfl
set_option maxRecDepth 200000 in
theorem gX4_about_X3_leastAvoiding : GoodIn wsX4_about (wsV RX4 120 RX3 yX3_leastAvoiding wsX3_leastAvoiding) := goodIn_app (goodIn_r _ [14, 15, 16, 17] rfl rfl) ggX4_about_X3_leastAvoiding
set_option maxRecDepth 200000 in
theorem ggX4_ring_X3_leastRing : GoodIn wsX4_ring wsX3_leastRing := goodIn_r _ [6, 7, 8, 9, 10, 5, 11, 12, 13, 14, 15, 16, 17, 18, 19, 20, 21, 22, 23, 24, 25, 26, 27, 28, 29, 30, 31, 37, 38, 39, 40, 41, 42, 43, 44, 45, 46] rfl rfl
set_option maxRecDepth 200000 in
theorem gX4_ring_X3_leastRing : GoodIn wsX4_ring (wsV RX4 131 RX3 yX3_leastRing wsX3_leastRing) := goodIn_app (goodIn_r _ [2, 3, 4, 5] rfl rfl) ggX4_ring_X3_leastRing
set_option maxRecDepth 200000 in
theorem ggX4_height_X1_hasPost : GoodIn wsX4_height wsX1_hasPost := goodIn_r _ [7, 8, 44, 45, 46, 47, 48, 49, 50] rfl rfl
set_option maxRecDepth 200000 in
theorem gX4_height_X1_hasPost : GoodIn wsX4_height (wsV RX4 128 RX1 yX1_hasPost wsX1_hasPost) := goodIn_app (goodIn_r _ [3, 4, 5, 6] rfl rfl) ggX4_height_X1_hasPost
set_option maxRecDepth 200000 in
theorem ggX4_height_X3_heightOf : GoodIn wsX4_height wsX3_heightOf := goodIn_r _ [13, 14, 15, 16, 17, 18, 19, 20, 21, 12, 22, 23, 24, 25, 26, 27, 28, 29, 30, 31, 32, 33, 34, 35, 36, 37, 38, 51, 52, 53, 44, 45, 46, 47, 48, 49, 50] rfl rfl
set_option maxRecDepth 200000 in
theorem gX4_height_X3_heightOf : GoodIn wsX4_height (wsV RX4 134 RX3 yX3_heightOf wsX3_heightOf) := goodIn_app (goodIn_r _ [9, 10, 11, 12] rfl rfl) ggX4_height_X3_heightOf
set_option maxRecDepth 200000 in
theorem ggX4_acts_X2_countActs : GoodIn wsX4_acts wsX2_countActs := goodIn_r _ [6, 7, 13, 14] rfl rfl
set_option maxRecDepth 200000 in
theorem gX4_acts_X2_countActs : GoodIn wsX4_acts (wsV RX4 137 RX2 yX2_countActs wsX2_countActs) := goodIn_app (goodIn_r _ [2, 3, 4, 5] rfl rfl) ggX4_acts_X2_countActs
set_option maxRecDepth 200000 in
theorem ggX4_moved_X2_hasAct : GoodIn wsX4_moved wsX2_hasAct := goodIn_r _ [6, 7, 26, 27] rfl rfl
set_option maxRecDepth 200000 in
theorem gX4_moved_X2_hasAct : GoodIn wsX4_moved (wsV RX4 140 RX2 yX2_hasAct wsX2_hasAct) := goodIn_app (goodIn_r _ [2, 3, 4, 5] rfl rfl) ggX4_moved_X2_hasAct
set_option maxRecDepth 200000 in
theorem ggX4_moved_X2_countMoved : GoodIn wsX4_moved wsX2_countMoved := goodIn_r _ [11, 12, 13, 14, 5, 15, 16, 17, 18, 19, 20, 26, 27] rfl rfl
set_option maxRecDepth 200000 in
theorem gX4_moved_X2_countMoved : GoodIn wsX4_moved (wsV RX4 143 RX2 yX2_countMoved wsX2_countMoved) := goodIn_app (goodIn_r _ [8, 9, 10, 5] rfl rfl) ggX4_moved_X2_countMoved
set_option maxRecDepth 200000 in
theorem ggX4_pair_X2_hasAct : GoodIn wsX4_pair wsX2_hasAct := goodIn_r _ [6, 7, 26, 27] rfl rfl
set_option maxRecDepth 200000 in
theorem gX4_pair_X2_hasAct : GoodIn wsX4_pair (wsV RX4 140 RX2 yX2_hasAct wsX2_hasAct) := goodIn_app (goodIn_r _ [2, 3, 4, 5] rfl rfl) ggX4_pair_X2_hasAct
set_option maxRecDepth 200000 in
theorem ggX4_pair_X2_movedPair : GoodIn wsX4_pair wsX2_movedPair := goodIn_r _ [11, 12, 13, 14, 5, 15, 16, 17, 18, 19, 20, 26, 27] rfl rfl
set_option maxRecDepth 200000 in
theorem gX4_pair_X2_movedPair : GoodIn wsX4_pair (wsV RX4 146 RX2 yX2_movedPair wsX2_movedPair) := goodIn_app (goodIn_r _ [8, 9, 10, 5] rfl rfl) ggX4_pair_X2_movedPair
set_option maxRecDepth 200000 in
theorem ggX4_then_X1_hasPosts : GoodIn wsX4_then wsX1_hasPosts := goodIn_r _ [7, 8, 9, 10, 6, 11, 12, 33, 34, 35, 36, 37, 38, 39] rfl rfl
set_option maxRecDepth 200000 in
theorem gX4_then_X1_hasPosts : GoodIn wsX4_then (wsV RX4 47 RX1 yX1_hasPosts wsX1_hasPosts) := goodIn_app (goodIn_r _ [3, 4, 5, 6] rfl rfl) ggX4_then_X1_hasPosts
set_option maxRecDepth 200000 in
theorem ggX4_then_X2_hasAct : GoodIn wsX4_then wsX2_hasAct := goodIn_r _ [17, 18, 40, 41] rfl rfl
set_option maxRecDepth 200000 in
theorem gX4_then_X2_hasAct : GoodIn wsX4_then (wsV RX4 140 RX2 yX2_hasAct wsX2_hasAct) := goodIn_app (goodIn_r _ [13, 14, 15, 16] rfl rfl) ggX4_then_X2_hasAct
set_option maxRecDepth 200000 in
theorem ggX4_then_X4_pairOf : GoodIn wsX4_then wsX4_pairOf := goodIn_r _ [22] rfl rfl
set_option maxRecDepth 200000 in
theorem gX4_then_X4_pairOf : GoodIn wsX4_then (va_wsS RX4 149 yX4_pairOf wsX4_pairOf) := goodIn_app (goodIn_r _ [19, 20, 21] rfl rfl) ggX4_then_X4_pairOf
set_option maxRecDepth 200000 in
theorem ggX4_then_X2_leastAsOf : GoodIn wsX4_then wsX2_leastAsOf := goodIn_r _ [26, 27, 40, 41] rfl rfl
set_option maxRecDepth 200000 in
theorem gX4_then_X2_leastAsOf : GoodIn wsX4_then (wsV RX4 152 RX2 yX2_leastAsOf wsX2_leastAsOf) := goodIn_app (goodIn_r _ [23, 24, 25, 16] rfl rfl) ggX4_then_X2_leastAsOf
set_option maxRecDepth 200000 in
theorem ggX4_since_X1_hasPosts : GoodIn wsX4_since wsX1_hasPosts := goodIn_r _ [7, 8, 9, 10, 6, 11, 12, 37, 38, 39, 40, 41, 42, 43] rfl rfl
set_option maxRecDepth 200000 in
theorem gX4_since_X1_hasPosts : GoodIn wsX4_since (wsV RX4 47 RX1 yX1_hasPosts wsX1_hasPosts) := goodIn_app (goodIn_r _ [3, 4, 5, 6] rfl rfl) ggX4_since_X1_hasPosts
set_option maxRecDepth 200000 in
theorem ggX4_since_X2_hasAct : GoodIn wsX4_since wsX2_hasAct := goodIn_r _ [17, 18, 44, 45] rfl rfl
set_option maxRecDepth 200000 in
theorem gX4_since_X2_hasAct : GoodIn wsX4_since (wsV RX4 140 RX2 yX2_hasAct wsX2_hasAct) := goodIn_app (goodIn_r _ [13, 14, 15, 16] rfl rfl) ggX4_since_X2_hasAct
set_option maxRecDepth 200000 in
theorem ggX4_since_X4_pairOf : GoodIn wsX4_since wsX4_pairOf := goodIn_r _ [22] rfl rfl
set_option maxRecDepth 200000 in
theorem gX4_since_X4_pairOf : GoodIn wsX4_since (va_wsS RX4 149 yX4_pairOf wsX4_pairOf) := goodIn_app (goodIn_r _ [19, 20, 21] rfl rfl) ggX4_since_X4_pairOf
set_option maxRecDepth 200000 in
theorem ggX4_since_X2_firstWithin : GoodIn wsX4_since wsX2_firstWithin := goodIn_r _ [26, 18, 27, 28, 29, 16, 30, 31, 44, 45] rfl rfl
set_option maxRecDepth 200000 in
theorem gX4_since_X2_firstWithin : GoodIn wsX4_since (wsV RX4 155 RX2 yX2_firstWithin wsX2_firstWithin) := goodIn_app (goodIn_r _ [23, 24, 25, 16] rfl rfl) ggX4_since_X2_firstWithin
set_option maxRecDepth 200000 in
theorem ggX4_near_X1_hasPosts : GoodIn wsX4_near wsX1_hasPosts := goodIn_r _ [8, 9, 10, 11, 7, 12, 13, 49, 50, 51, 52, 53, 54, 55] rfl rfl
set_option maxRecDepth 200000 in
theorem gX4_near_X1_hasPosts : GoodIn wsX4_near (wsV RX4 47 RX1 yX1_hasPosts wsX1_hasPosts) := goodIn_app (goodIn_r _ [4, 5, 6, 7] rfl rfl) ggX4_near_X1_hasPosts
set_option maxRecDepth 200000 in
theorem ggX4_near_X3_leastThrough : GoodIn wsX4_near wsX3_leastThrough := goodIn_r _ [18, 19, 20, 21, 22, 23, 24, 25, 26, 17, 27, 28, 29, 30, 31, 32, 33, 34, 35, 36, 37, 38, 39, 40, 41, 42, 43, 56, 57, 58, 49, 50, 51, 52, 53, 54, 55] rfl rfl
set_option maxRecDepth 200000 in
theorem gX4_near_X3_leastThrough : GoodIn wsX4_near (wsV RX4 161 RX3 yX3_leastThrough wsX3_leastThrough) := goodIn_app (goodIn_r _ [14, 15, 16, 17] rfl rfl) ggX4_near_X3_leastThrough
set_option maxRecDepth 200000 in
theorem ggX4_worst_X3_leads : GoodIn wsX4_worst wsX3_leads := goodIn_r _ [12, 13, 14, 15, 16, 17, 51, 52, 53] rfl rfl
set_option maxRecDepth 200000 in
theorem gX4_worst_X3_leads : GoodIn wsX4_worst (wsV RX4 164 RX3 yX3_leads wsX3_leads) := goodIn_app (goodIn_r _ [8, 9, 10, 11] rfl rfl) ggX4_worst_X3_leads
set_option maxRecDepth 200000 in
theorem ggX4_worst_X3_leastThrough : GoodIn wsX4_worst wsX3_leastThrough := goodIn_r _ [21, 22, 23, 24, 6, 25, 26, 9, 10, 11, 12, 13, 14, 15, 16, 17, 27, 28, 29, 30, 31, 32, 33, 34, 35, 36, 37, 51, 52, 53, 44, 45, 46, 47, 48, 49, 50] rfl rfl
set_option maxRecDepth 200000 in
theorem gX4_worst_X3_leastThrough : GoodIn wsX4_worst (wsV RX4 161 RX3 yX3_leastThrough wsX3_leastThrough) := goodIn_app (goodIn_r _ [18, 19, 20, 11] rfl rfl) ggX4_worst_X3_leastThrough
set_option maxRecDepth 200000 in
theorem ggX4_worst_X3_leastPrice : GoodIn wsX4_worst wsX3_leastPrice := goodIn_r _ [30, 13, 15, 16, 17, 31, 32, 11, 33, 14, 34, 35, 36, 37, 51, 52, 53] rfl rfl
set_option maxRecDepth 200000 in
theorem gX4_worst_X3_leastPrice : GoodIn wsX4_worst (wsV RX4 109 RX3 yX3_leastPrice wsX3_leastPrice) := goodIn_app (goodIn_r _ [38, 28, 29, 11] rfl rfl) ggX4_worst_X3_leastPrice
set_option maxRecDepth 200000 in
theorem ggX4_hits_X0_askFor : GoodIn wsX4_hits wsX0_askFor := goodIn_r _ [8, 9, 10, 11, 12, 13, 14, 15, 16, 17, 18, 19, 20, 21, 22, 23, 24, 25, 26, 27, 28, 29, 30, 31, 32, 33, 34, 35, 36, 37, 38, 39, 40, 41, 42, 43, 44, 45, 46, 47, 48, 49, 50, 51, 52, 53, 54, 55, 56, 57, 58, 59, 60, 61, 89, 90, 91, 92, 93, 82, 83, 84, 85, 86, 87, 88] rfl rfl
set_option maxRecDepth 200000 in
theorem gX4_hits_X0_askFor : GoodIn wsX4_hits (wsV RX4 172 RX0 yX0_askFor wsX0_askFor) := goodIn_app (goodIn_r _ [4, 5, 6, 7] rfl rfl) ggX4_hits_X0_askFor
set_option maxRecDepth 200000 in
theorem ggX4_hits_X0_fewest : GoodIn wsX4_hits wsX0_fewest := goodIn_r _ [65, 66, 67, 68, 69, 70, 71, 72, 73, 74, 75, 7, 76, 9, 10, 89, 90] rfl rfl
set_option maxRecDepth 200000 in
theorem gX4_hits_X0_fewest : GoodIn wsX4_hits (wsV RX4 176 RX0 yX0_fewest wsX0_fewest) := goodIn_app (goodIn_r _ [62, 63, 64, 7] rfl rfl) ggX4_hits_X0_fewest
set_option maxRecDepth 200000 in
theorem ggX4_count_X1_countThere : GoodIn wsX4_count wsX1_countThere := goodIn_r _ [8, 9, 10, 38, 39, 40, 41, 42, 43, 44] rfl rfl
set_option maxRecDepth 200000 in
theorem gX4_count_X1_countThere : GoodIn wsX4_count (wsV RX4 91 RX1 yX1_countThere wsX1_countThere) := goodIn_app (goodIn_r _ [4, 5, 6, 7] rfl rfl) ggX4_count_X1_countThere
set_option maxRecDepth 200000 in
theorem ggX4_count_X3_countLinked : GoodIn wsX4_count wsX3_countLinked := goodIn_r _ [15, 16, 17, 18, 19, 14, 20, 21, 22, 23, 24, 25, 45, 46, 47, 38, 39, 40, 41, 42, 43, 44] rfl rfl
set_option maxRecDepth 200000 in
theorem gX4_count_X3_countLinked : GoodIn wsX4_count (wsV RX4 179 RX3 yX3_countLinked wsX3_countLinked) := goodIn_app (goodIn_r _ [11, 12, 13, 14] rfl rfl) ggX4_count_X3_countLinked
set_option maxRecDepth 200000 in
theorem ggX4_count_J6_bitCount_0f7a4 : GoodIn wsX4_count wsJ6_bitCount_0f7a4 := goodIn_r _ [29, 30, 31, 32] rfl rfl
set_option maxRecDepth 200000 in
theorem gX4_count_J6_bitCount_0f7a4 : GoodIn wsX4_count (va_wsS RX4 182 yJ6_bitCount_0f7a4 wsJ6_bitCount_0f7a4) := goodIn_app (goodIn_r _ [26, 27, 28] rfl rfl) ggX4_count_J6_bitCount_0f7a4
set_option maxRecDepth 200000 in
theorem ggX4_restart_X1_clear : GoodIn wsX4_restart wsX1_clear := goodIn_r _ [8, 9, 10, 110, 111, 112, 113, 114, 115, 116] rfl rfl
set_option maxRecDepth 200000 in
theorem gX4_restart_X1_clear : GoodIn wsX4_restart (wsV RX4 187 RX1 yX1_clear wsX1_clear) := goodIn_app (goodIn_r _ [4, 5, 6, 7] rfl rfl) ggX4_restart_X1_clear
set_option maxRecDepth 200000 in
theorem ggX4_restart_X2_clear : GoodIn wsX4_restart wsX2_clear := goodIn_r _ [15, 16, 117, 118] rfl rfl
set_option maxRecDepth 200000 in
theorem gX4_restart_X2_clear : GoodIn wsX4_restart (wsV RX4 190 RX2 yX2_clear wsX2_clear) := goodIn_app (goodIn_r _ [11, 12, 13, 14] rfl rfl) ggX4_restart_X2_clear
set_option maxRecDepth 200000 in
theorem ggX4_restart_X4_keepAct : GoodIn wsX4_restart wsX4_keepAct := goodIn_r _ [21, 22, 2, 23, 24, 25, 26, 27, 28, 29, 30, 31, 32, 33, 34, 35, 36, 37, 38, 39, 40, 41, 42, 43, 44, 45, 46, 7, 47, 48, 49, 50, 51, 52, 53, 54, 55, 56, 57, 58, 59, 60, 61, 62, 20, 63, 64, 65, 66, 14, 67, 68, 16, 69, 70, 71, 72, 73, 74, 75, 76, 77, 78, 79, 80, 81, 82, 83, 84, 85, 86, 87, 88, 89, 90, 91, 92, 93, 94, 95, 96, 97, 98, 99, 100, 101, 102, 103, 104, 105, 106, 107, 108, 109, 119, 120, 121, 110, 111, 112, 113, 114, 115, 116, 117, 118] rfl rfl
set_option maxRecDepth 200000 in
theorem gX4_restart_X4_keepAct : GoodIn wsX4_restart (wsV RX4 70 RX4 yX4_keepAct wsX4_keepAct) := goodIn_app (goodIn_r _ [17, 18, 19, 20] rfl rfl) ggX4_restart_X4_keepAct
set_option maxRecDepth 200000 in
theorem ggX4_keepAct_X3_measure : GoodIn wsX4_keepAct wsX3_measure := goodIn_r _ [7, 8, 9, 10, 11, 12, 13, 14, 15, 16, 17, 18, 19, 20, 21, 22, 6, 23, 24, 25, 26, 27, 28, 29, 30, 31, 32, 33, 34, 35, 36, 37, 38, 39, 40, 41, 42, 43, 44, 45, 94, 95, 96, 97, 98, 99, 100, 101, 102, 103] rfl rfl
set_option maxRecDepth 200000 in
theorem gX4_keepAct_X3_measure : GoodIn wsX4_keepAct (wsV RX4 192 RX3 yX3_measure wsX3_measure) := goodIn_app (goodIn_r _ [3, 4, 5, 6] rfl rfl) ggX4_keepAct_X3_measure
set_option maxRecDepth 200000 in
theorem ggX4_keepAct_X2_keep : GoodIn wsX4_keepAct wsX2_keep := goodIn_r _ [50, 51, 52, 53, 54, 55, 49, 56, 57, 58, 59, 60, 61, 62, 63, 64, 65, 66, 67, 18, 68, 69, 70, 71, 72, 73, 74, 75, 76, 77, 13, 14, 15, 78, 79, 80, 6, 81, 8, 43, 44, 45, 82, 83, 84, 9, 85, 86, 87, 88, 104, 105, 94, 95, 96] rfl rfl
set_option maxRecDepth 200000 in
theorem gX4_keepAct_X2_keep : GoodIn wsX4_keepAct (wsV RX4 195 RX2 yX2_keep wsX2_keep) := goodIn_app (goodIn_r _ [46, 47, 48, 49] rfl rfl) ggX4_keepAct_X2_keep
set_option maxRecDepth 200000 in
theorem ggX4_wouldSinkAt_X3_wouldSink : GoodIn wsX4_wouldSinkAt wsX3_wouldSink := goodIn_r _ [7, 8, 9, 10, 6, 11, 12, 13, 14, 15, 16, 17, 18, 19, 20, 21, 22, 23, 24, 25, 26, 27, 28, 29, 30, 31, 32, 33, 34, 35, 36, 37, 38, 39, 40, 41, 42, 43, 44, 45, 46, 47, 48, 49, 50, 51, 64, 65, 66, 57, 58, 59, 60, 61, 62, 63] rfl rfl
set_option maxRecDepth 200000 in
theorem gX4_wouldSinkAt_X3_wouldSink : GoodIn wsX4_wouldSinkAt (wsV RX4 55 RX3 yX3_wouldSink wsX3_wouldSink) := goodIn_app (goodIn_r _ [3, 4, 5, 6] rfl rfl) ggX4_wouldSinkAt_X3_wouldSink
set_option maxRecDepth 200000 in
theorem ggX5_init_X5_learn : GoodIn wsX5_init wsX5_learn := goodIn_r _ [20, 12, 21, 22, 11, 6, 7, 8, 10, 4, 31, 32, 33, 34, 35, 36, 37, 38, 39, 40, 41, 42, 43] rfl rfl
set_option maxRecDepth 200000 in
theorem gX5_init_X5_learn : GoodIn wsX5_init (wsV RX5 40 RX5 yX5_learn wsX5_learn) := goodIn_app (goodIn_r _ [16, 17, 18, 19] rfl rfl) ggX5_init_X5_learn
set_option maxRecDepth 200000 in
theorem ggX5_init_X5_keep : GoodIn wsX5_init wsX5_keep := goodIn_r _ [26, 14, 27, 12, 28, 29, 19, 30, 21, 31, 32, 33, 34, 35, 36, 37, 38, 39, 40, 41, 42, 43] rfl rfl
set_option maxRecDepth 200000 in
theorem gX5_init_X5_keep : GoodIn wsX5_init (wsV RX5 44 RX5 yX5_keep wsX5_keep) := goodIn_app (goodIn_r _ [23, 24, 25, 19] rfl rfl) ggX5_init_X5_keep
set_option maxRecDepth 200000 in
theorem ggX5_noPost_X5_in : GoodIn wsX5_noPost wsX5_in := goodIn_r _ [5] rfl rfl
set_option maxRecDepth 200000 in
theorem gX5_noPost_X5_in : GoodIn wsX5_noPost (va_wsS RX5 50 yX5_in wsX5_in) := goodIn_app (goodIn_r _ [2, 3, 4] rfl rfl) ggX5_noPost_X5_in
set_option maxRecDepth 200000 in
theorem ggX5_noLine_X5_in : GoodIn wsX5_noLine wsX5_in := goodIn_r _ [5] rfl rfl
set_option maxRecDepth 200000 in
theorem gX5_noLine_X5_in : GoodIn wsX5_noLine (va_wsS RX5 50 yX5_in wsX5_in) := goodIn_app (goodIn_r _ [2, 3, 4] rfl rfl) ggX5_noLine_X5_in
set_option maxRecDepth 200000 in
theorem ggX5_farOf_X5_coarse : GoodIn wsX5_farOf wsX5_coarse := goodIn_r _ [5, 6] rfl rfl
set_option maxRecDepth 200000 in
theorem gX5_farOf_X5_coarse : GoodIn wsX5_farOf (va_wsS RX5 58 yX5_coarse wsX5_coarse) := goodIn_app (goodIn_r _ [2, 3, 4] rfl rfl) ggX5_farOf_X5_coarse
set_option maxRecDepth 200000 in
theorem ggX5_keep_X5_coarse : GoodIn wsX5_keep wsX5_coarse := goodIn_r _ [7, 8] rfl rfl
set_option maxRecDepth 200000 in
theorem gX5_keep_X5_coarse : GoodIn wsX5_keep (va_wsS RX5 58 yX5_coarse wsX5_coarse) := goodIn_app (goodIn_r _ [4, 5, 6] rfl rfl) ggX5_keep_X5_coarse
set_option maxRecDepth 200000 in
theorem ggX5_did_X5_learn : GoodIn wsX5_did wsX5_learn := goodIn_r _ [6, 7, 8, 9, 10, 11, 12, 13, 14, 15, 24, 25, 26, 27, 28, 29, 30, 31, 32, 33, 34, 35, 36] rfl rfl
set_option maxRecDepth 200000 in
theorem gX5_did_X5_learn : GoodIn wsX5_did (wsV RX5 40 RX5 yX5_learn wsX5_learn) := goodIn_app (goodIn_r _ [2, 3, 4, 5] rfl rfl) ggX5_did_X5_learn
set_option maxRecDepth 200000 in
theorem ggX5_did_X5_keep : GoodIn wsX5_did wsX5_keep := goodIn_r _ [19, 20, 1, 7, 21, 22, 5, 23, 8, 24, 25, 26, 27, 28, 29, 30, 31, 32, 33, 34, 35, 36] rfl rfl
set_option maxRecDepth 200000 in
theorem gX5_did_X5_keep : GoodIn wsX5_did (wsV RX5 44 RX5 yX5_keep wsX5_keep) := goodIn_app (goodIn_r _ [16, 17, 18, 5] rfl rfl) ggX5_did_X5_keep
set_option maxRecDepth 200000 in
theorem ggX5_posts_X5_in : GoodIn wsX5_posts wsX5_in := goodIn_r _ [11] rfl rfl
set_option maxRecDepth 200000 in
theorem gX5_posts_X5_in : GoodIn wsX5_posts (va_wsS RX5 50 yX5_in wsX5_in) := goodIn_app (goodIn_r _ [8, 9, 10] rfl rfl) ggX5_posts_X5_in
set_option maxRecDepth 200000 in
theorem ggX5_posts_X5_learn : GoodIn wsX5_posts wsX5_learn := goodIn_r _ [15, 16, 17, 5, 18, 19, 20, 21, 22, 4, 31, 32, 33, 34, 35, 36, 37, 38, 39, 40, 41, 42, 43] rfl rfl
set_option maxRecDepth 200000 in
theorem gX5_posts_X5_learn : GoodIn wsX5_posts (wsV RX5 40 RX5 yX5_learn wsX5_learn) := goodIn_app (goodIn_r _ [12, 13, 14, 10] rfl rfl) ggX5_posts_X5_learn
set_option maxRecDepth 200000 in
theorem ggX5_posts_X5_keep : GoodIn wsX5_posts wsX5_keep := goodIn_r _ [26, 27, 6, 16, 28, 29, 10, 30, 17, 31, 32, 33, 34, 35, 36, 37, 38, 39, 40, 41, 42, 43] rfl rfl
set_option maxRecDepth 200000 in
theorem gX5_posts_X5_keep : GoodIn wsX5_posts (wsV RX5 44 RX5 yX5_keep wsX5_keep) := goodIn_app (goodIn_r _ [23, 24, 25, 10] rfl rfl) ggX5_posts_X5_keep
set_option maxRecDepth 200000 in
theorem ggX5_line_X5_noPost : GoodIn wsX5_line wsX5_noPost := goodIn_r _ [15, 16, 17, 18, 14, 19, 42, 43, 44, 45, 46, 47, 48, 49, 50, 51, 52, 53, 54] rfl rfl
set_option maxRecDepth 200000 in
theorem gX5_line_X5_noPost : GoodIn wsX5_line (wsV RX5 72 RX5 yX5_noPost wsX5_noPost) := goodIn_app (goodIn_r _ [11, 12, 13, 14] rfl rfl) ggX5_line_X5_noPost
set_option maxRecDepth 200000 in
theorem ggX5_line_X5_in : GoodIn wsX5_line wsX5_in := goodIn_r _ [19] rfl rfl
set_option maxRecDepth 200000 in
theorem gX5_line_X5_in : GoodIn wsX5_line (va_wsS RX5 50 yX5_in wsX5_in) := goodIn_app (goodIn_r _ [17, 18, 14] rfl rfl) ggX5_line_X5_in
set_option maxRecDepth 200000 in
theorem ggX5_line_X5_learn : GoodIn wsX5_line wsX5_learn := goodIn_r _ [23, 24, 25, 4, 10, 6, 7, 8, 9, 16, 42, 43, 44, 45, 46, 47, 48, 49, 50, 51, 52, 53, 54] rfl rfl
set_option maxRecDepth 200000 in
theorem gX5_line_X5_learn : GoodIn wsX5_line (wsV RX5 40 RX5 yX5_learn wsX5_learn) := goodIn_app (goodIn_r _ [20, 21, 22, 14] rfl rfl) ggX5_line_X5_learn
set_option maxRecDepth 200000 in
theorem ggX5_line_X5_farOf : GoodIn wsX5_line wsX5_farOf := goodIn_r _ [29, 24, 30, 31, 14, 32, 25, 42, 43, 44, 45, 46, 47, 48, 49, 50, 51, 52, 53, 54] rfl rfl
set_option maxRecDepth 200000 in
theorem gX5_line_X5_farOf : GoodIn wsX5_line (wsV RX5 80 RX5 yX5_farOf wsX5_farOf) := goodIn_app (goodIn_r _ [26, 27, 28, 14] rfl rfl) ggX5_line_X5_farOf
set_option maxRecDepth 200000 in
theorem ggX5_line_X5_did : GoodIn wsX5_line wsX5_did := goodIn_r _ [36, 5, 20, 21, 22, 14, 23, 24, 25, 4, 10, 6, 7, 8, 9, 16, 37, 38, 39, 40, 41, 30, 31, 32, 42, 43, 44, 45, 46, 47, 48, 49, 50, 51, 52, 53, 54] rfl rfl
set_option maxRecDepth 200000 in
theorem gX5_line_X5_did : GoodIn wsX5_line (wsV RX5 84 RX5 yX5_did wsX5_did) := goodIn_app (goodIn_r _ [33, 34, 35, 14] rfl rfl) ggX5_line_X5_did
set_option maxRecDepth 200000 in
theorem ggX5_price_X5_noLine : GoodIn wsX5_price wsX5_noLine := goodIn_r _ [11, 12, 13, 14, 10, 15, 38, 39, 40, 41, 42, 43, 44, 45, 46, 47, 48, 49, 50] rfl rfl
set_option maxRecDepth 200000 in
theorem gX5_price_X5_noLine : GoodIn wsX5_price (wsV RX5 87 RX5 yX5_noLine wsX5_noLine) := goodIn_app (goodIn_r _ [7, 8, 9, 10] rfl rfl) ggX5_price_X5_noLine
set_option maxRecDepth 200000 in
theorem ggX5_price_X5_in : GoodIn wsX5_price wsX5_in := goodIn_r _ [15] rfl rfl
set_option maxRecDepth 200000 in
theorem gX5_price_X5_in : GoodIn wsX5_price (va_wsS RX5 50 yX5_in wsX5_in) := goodIn_app (goodIn_r _ [13, 14, 10] rfl rfl) ggX5_price_X5_in
set_option maxRecDepth 200000 in
theorem ggX5_price_X5_learn : GoodIn wsX5_price wsX5_learn := goodIn_r _ [19, 20, 21, 12, 22, 23, 24, 5, 2, 25, 38, 39, 40, 41, 42, 43, 44, 45, 46, 47, 48, 49, 50] rfl rfl
set_option maxRecDepth 200000 in
theorem gX5_price_X5_learn : GoodIn wsX5_price (wsV RX5 40 RX5 yX5_learn wsX5_learn) := goodIn_app (goodIn_r _ [16, 17, 18, 10] rfl rfl) ggX5_price_X5_learn
set_option maxRecDepth 200000 in
theorem ggX5_price_X5_did : GoodIn wsX5_price wsX5_did := goodIn_r _ [29, 6, 16, 17, 18, 10, 19, 20, 21, 12, 22, 23, 24, 5, 2, 25, 30, 31, 32, 33, 34, 35, 36, 37, 38, 39, 40, 41, 42, 43, 44, 45, 46, 47, 48, 49, 50] rfl rfl
set_option maxRecDepth 200000 in
theorem gX5_price_X5_did : GoodIn wsX5_price (wsV RX5 84 RX5 yX5_did wsX5_did) := goodIn_app (goodIn_r _ [26, 27, 28, 10] rfl rfl) ggX5_price_X5_did
set_option maxRecDepth 200000 in
theorem ggX5_cut_X5_noLine : GoodIn wsX5_cut wsX5_noLine := goodIn_r _ [8, 9, 10, 11, 7, 12, 40, 41, 42, 43, 44, 45, 46, 47, 48, 49, 50, 51, 52] rfl rfl
set_option maxRecDepth 200000 in
theorem gX5_cut_X5_noLine : GoodIn wsX5_cut (wsV RX5 87 RX5 yX5_noLine wsX5_noLine) := goodIn_app (goodIn_r _ [4, 5, 6, 7] rfl rfl) ggX5_cut_X5_noLine
set_option maxRecDepth 200000 in
theorem ggX5_cut_X5_did : GoodIn wsX5_cut wsX5_did := goodIn_r _ [16, 3, 17, 18, 19, 7, 20, 21, 22, 9, 2, 23, 24, 25, 26, 27, 28, 29, 30, 31, 32, 33, 34, 35, 40, 41, 42, 43, 44, 45, 46, 47, 48, 49, 50, 51, 52] rfl rfl
set_option maxRecDepth 200000 in
theorem gX5_cut_X5_did : GoodIn wsX5_cut (wsV RX5 84 RX5 yX5_did wsX5_did) := goodIn_app (goodIn_r _ [13, 14, 15, 7] rfl rfl) ggX5_cut_X5_did
set_option maxRecDepth 200000 in
theorem ggX5_cut_X5_there : GoodIn wsX5_cut wsX5_there := goodIn_r _ [39, 9, 2, 40, 41, 42, 43, 44, 45, 46, 47, 48, 49, 50, 51, 52] rfl rfl
set_option maxRecDepth 200000 in
theorem gX5_cut_X5_there : GoodIn wsX5_cut (wsV RX5 90 RX5 yX5_there wsX5_there) := goodIn_app (goodIn_r _ [36, 37, 38, 7] rfl rfl) ggX5_cut_X5_there
set_option maxRecDepth 200000 in
theorem ggX5_back_X5_noLine : GoodIn wsX5_back wsX5_noLine := goodIn_r _ [8, 9, 10, 11, 7, 12, 40, 41, 42, 43, 44, 45, 46, 47, 48, 49, 50, 51, 52] rfl rfl
set_option maxRecDepth 200000 in
theorem gX5_back_X5_noLine : GoodIn wsX5_back (wsV RX5 87 RX5 yX5_noLine wsX5_noLine) := goodIn_app (goodIn_r _ [4, 5, 6, 7] rfl rfl) ggX5_back_X5_noLine
set_option maxRecDepth 200000 in
theorem ggX5_back_X5_learn : GoodIn wsX5_back wsX5_learn := goodIn_r _ [16, 17, 18, 9, 2, 19, 20, 21, 22, 23, 40, 41, 42, 43, 44, 45, 46, 47, 48, 49, 50, 51, 52] rfl rfl
set_option maxRecDepth 200000 in
theorem gX5_back_X5_learn : GoodIn wsX5_back (wsV RX5 40 RX5 yX5_learn wsX5_learn) := goodIn_app (goodIn_r _ [13, 14, 15, 7] rfl rfl) ggX5_back_X5_learn
set_option maxRecDepth 200000 in
theorem ggX5_back_X5_did : GoodIn wsX5_back wsX5_did := goodIn_r _ [27, 3, 13, 14, 15, 7, 16, 17, 18, 9, 2, 19, 20, 21, 22, 23, 28, 29, 30, 31, 32, 33, 34, 35, 40, 41, 42, 43, 44, 45, 46, 47, 48, 49, 50, 51, 52] rfl rfl
set_option maxRecDepth 200000 in
theorem gX5_back_X5_did : GoodIn wsX5_back (wsV RX5 84 RX5 yX5_did wsX5_did) := goodIn_app (goodIn_r _ [24, 25, 26, 7] rfl rfl) ggX5_back_X5_did
set_option maxRecDepth 200000 in
theorem ggX5_back_X5_there : GoodIn wsX5_back wsX5_there := goodIn_r _ [39, 9, 2, 40, 41, 42, 43, 44, 45, 46, 47, 48, 49, 50, 51, 52] rfl rfl
set_option maxRecDepth 200000 in
theorem gX5_back_X5_there : GoodIn wsX5_back (wsV RX5 90 RX5 yX5_there wsX5_there) := goodIn_app (goodIn_r _ [36, 37, 38, 7] rfl rfl) ggX5_back_X5_there
set_option maxRecDepth 200000 in
theorem ggX5_heightOf_X5_farOf : GoodIn wsX5_heightOf wsX5_farOf := goodIn_r _ [6, 7, 8, 9, 5, 10, 11, 12, 13, 14, 15, 16, 17, 18, 19, 20, 21, 22, 23, 24] rfl rfl
set_option maxRecDepth 200000 in
theorem gX5_heightOf_X5_farOf : GoodIn wsX5_heightOf (wsV RX5 80 RX5 yX5_farOf wsX5_farOf) := goodIn_app (goodIn_r _ [2, 3, 4, 5] rfl rfl) ggX5_heightOf_X5_farOf
set_option maxRecDepth 200000 in
theorem ggX5_told_X5_noLine : GoodIn wsX5_told wsX5_noLine := goodIn_r _ [11, 12, 13, 14, 10, 15, 34, 35, 36, 37, 38, 39, 40, 41, 42, 43, 44, 45, 46] rfl rfl
set_option maxRecDepth 200000 in
theorem gX5_told_X5_noLine : GoodIn wsX5_told (wsV RX5 87 RX5 yX5_noLine wsX5_noLine) := goodIn_app (goodIn_r _ [7, 8, 9, 10] rfl rfl) ggX5_told_X5_noLine
set_option maxRecDepth 200000 in
theorem ggX5_told_X5_learn : GoodIn wsX5_told wsX5_learn := goodIn_r _ [19, 20, 21, 12, 6, 2, 3, 4, 5, 22, 34, 35, 36, 37, 38, 39, 40, 41, 42, 43, 44, 45, 46] rfl rfl
set_option maxRecDepth 200000 in
theorem gX5_told_X5_learn : GoodIn wsX5_told (wsV RX5 40 RX5 yX5_learn wsX5_learn) := goodIn_app (goodIn_r _ [16, 17, 18, 10] rfl rfl) ggX5_told_X5_learn
set_option maxRecDepth 200000 in
theorem ggX5_told_X5_heightOf : GoodIn wsX5_told wsX5_heightOf := goodIn_r _ [26, 22, 27, 28, 29, 10, 30, 20, 31, 32, 33, 21, 34, 35, 36, 37, 38, 39, 40, 41, 42, 43, 44, 45, 46] rfl rfl
set_option maxRecDepth 200000 in
theorem gX5_told_X5_heightOf : GoodIn wsX5_told (wsV RX5 94 RX5 yX5_heightOf wsX5_heightOf) := goodIn_app (goodIn_r _ [23, 24, 25, 10] rfl rfl) ggX5_told_X5_heightOf
set_option maxRecDepth 200000 in
theorem ggX5_far_X5_noPost : GoodIn wsX5_far wsX5_noPost := goodIn_r _ [6, 7, 8, 9, 5, 10, 30, 31, 32, 33, 34, 35, 36, 37, 38, 39, 40, 41, 42] rfl rfl
set_option maxRecDepth 200000 in
theorem gX5_far_X5_noPost : GoodIn wsX5_far (wsV RX5 72 RX5 yX5_noPost wsX5_noPost) := goodIn_app (goodIn_r _ [2, 3, 4, 5] rfl rfl) ggX5_far_X5_noPost
set_option maxRecDepth 200000 in
theorem ggX5_far_X5_learn : GoodIn wsX5_far wsX5_learn := goodIn_r _ [14, 15, 16, 17, 18, 19, 20, 21, 22, 7, 30, 31, 32, 33, 34, 35, 36, 37, 38, 39, 40, 41, 42] rfl rfl
set_option maxRecDepth 200000 in
theorem gX5_far_X5_learn : GoodIn wsX5_far (wsV RX5 40 RX5 yX5_learn wsX5_learn) := goodIn_app (goodIn_r _ [11, 12, 13, 5] rfl rfl) ggX5_far_X5_learn
set_option maxRecDepth 200000 in
theorem ggX5_far_X5_farOf : GoodIn wsX5_far wsX5_farOf := goodIn_r _ [26, 15, 27, 28, 5, 29, 16, 30, 31, 32, 33, 34, 35, 36, 37, 38, 39, 40, 41, 42] rfl rfl
set_option maxRecDepth 200000 in
theorem gX5_far_X5_farOf : GoodIn wsX5_far (wsV RX5 80 RX5 yX5_farOf wsX5_farOf) := goodIn_app (goodIn_r _ [23, 24, 25, 5] rfl rfl) ggX5_far_X5_farOf
set_option maxRecDepth 200000 in
theorem ggX5_steps_X5_noPost : GoodIn wsX5_steps wsX5_noPost := goodIn_r _ [8, 9, 10, 11, 7, 12, 26, 27, 28, 29, 30, 31, 32, 33, 34, 35, 36, 37, 38] rfl rfl
set_option maxRecDepth 200000 in
theorem gX5_steps_X5_noPost : GoodIn wsX5_steps (wsV RX5 72 RX5 yX5_noPost wsX5_noPost) := goodIn_app (goodIn_r _ [4, 5, 6, 7] rfl rfl) ggX5_steps_X5_noPost
set_option maxRecDepth 200000 in
theorem ggX5_steps_X5_learn : GoodIn wsX5_steps wsX5_learn := goodIn_r _ [16, 2, 3, 17, 18, 19, 20, 21, 22, 9, 26, 27, 28, 29, 30, 31, 32, 33, 34, 35, 36, 37, 38] rfl rfl
set_option maxRecDepth 200000 in
theorem gX5_steps_X5_learn : GoodIn wsX5_steps (wsV RX5 40 RX5 yX5_learn wsX5_learn) := goodIn_app (goodIn_r _ [13, 14, 15, 7] rfl rfl) ggX5_steps_X5_learn
set_option maxRecDepth 200000 in
theorem ggX5_steps_X5_coarse : GoodIn wsX5_steps wsX5_coarse := goodIn_r _ [25, 3] rfl rfl
set_option maxRecDepth 200000 in
theorem gX5_steps_X5_coarse : GoodIn wsX5_steps (va_wsS RX5 58 yX5_coarse wsX5_coarse) := goodIn_app (goodIn_r _ [23, 24, 7] rfl rfl) ggX5_steps_X5_coarse
set_option maxRecDepth 200000 in
theorem ggX5_way_X5_noPost : GoodIn wsX5_way wsX5_noPost := goodIn_r _ [8, 9, 10, 11, 7, 12, 34, 35, 36, 37, 38, 39, 40, 41, 42, 43, 44, 45, 46] rfl rfl
set_option maxRecDepth 200000 in
theorem gX5_way_X5_noPost : GoodIn wsX5_way (wsV RX5 72 RX5 yX5_noPost wsX5_noPost) := goodIn_app (goodIn_r _ [4, 5, 6, 7] rfl rfl) ggX5_way_X5_noPost
set_option maxRecDepth 200000 in
theorem ggX5_way_X5_learn : GoodIn wsX5_way wsX5_learn := goodIn_r _ [16, 2, 3, 17, 18, 19, 20, 21, 22, 9, 34, 35, 36, 37, 38, 39, 40, 41, 42, 43, 44, 45, 46] rfl rfl
set_option maxRecDepth 200000 in
theorem gX5_way_X5_learn : GoodIn wsX5_way (wsV RX5 40 RX5 yX5_learn wsX5_learn) := goodIn_app (goodIn_r _ [13, 14, 15, 7] rfl rfl) ggX5_way_X5_learn
set_option maxRecDepth 200000 in
theorem ggX5_way_X5_coarse : GoodIn wsX5_way wsX5_coarse := goodIn_r _ [25, 3] rfl rfl
set_option maxRecDepth 200000 in
theorem gX5_way_X5_coarse : GoodIn wsX5_way (va_wsS RX5 58 yX5_coarse wsX5_coarse) := goodIn_app (goodIn_r _ [23, 24, 7] rfl rfl) ggX5_way_X5_coarse
set_option maxRecDepth 200000 in
theorem ggX5_way_X5_in : GoodIn wsX5_way wsX5_in := goodIn_r _ [12] rfl rfl
set_option maxRecDepth 200000 in
theorem gX5_way_X5_in : GoodIn wsX5_way (va_wsS RX5 50 yX5_in wsX5_in) := goodIn_app (goodIn_r _ [10, 11, 7] rfl rfl) ggX5_way_X5_in
set_option maxRecDepth 200000 in
theorem ggX5_way_X5_nextOf : GoodIn wsX5_way wsX5_nextOf := goodIn_r _ [29, 17, 19, 20, 22, 18, 2, 3, 21, 34, 35, 36, 37, 38, 39, 40, 41, 42, 43, 44, 45, 46] rfl rfl
set_option maxRecDepth 200000 in
theorem gX5_way_X5_nextOf : GoodIn wsX5_way (wsV RX5 97 RX5 yX5_nextOf wsX5_nextOf) := goodIn_app (goodIn_r _ [26, 27, 28, 7] rfl rfl) ggX5_way_X5_nextOf
set_option maxRecDepth 200000 in
theorem ggX5_way_X5_other : GoodIn wsX5_way wsX5_other := goodIn_r _ [33, 19, 20, 34, 35, 36, 37, 38, 39, 40, 41, 42, 43, 44, 45, 46] rfl rfl
set_option maxRecDepth 200000 in
theorem gX5_way_X5_other : GoodIn wsX5_way (wsV RX5 100 RX5 yX5_other wsX5_other) := goodIn_app (goodIn_r _ [30, 31, 32, 7] rfl rfl) ggX5_way_X5_other
set_option maxRecDepth 200000 in
theorem ggX5_without_X5_noPost : GoodIn wsX5_without wsX5_noPost := goodIn_r _ [6, 7, 8, 9, 5, 10, 34, 35, 36, 37, 38, 39, 40, 41, 42, 43, 44, 45, 46] rfl rfl
set_option maxRecDepth 200000 in
theorem gX5_without_X5_noPost : GoodIn wsX5_without (wsV RX5 72 RX5 yX5_noPost wsX5_noPost) := goodIn_app (goodIn_r _ [2, 3, 4, 5] rfl rfl) ggX5_without_X5_noPost
set_option maxRecDepth 200000 in
theorem ggX5_without_X5_noLine : GoodIn wsX5_without wsX5_noLine := goodIn_r _ [14, 15, 8, 9, 5, 10, 34, 35, 36, 37, 38, 39, 40, 41, 42, 43, 44, 45, 46] rfl rfl
set_option maxRecDepth 200000 in
theorem gX5_without_X5_noLine : GoodIn wsX5_without (wsV RX5 87 RX5 yX5_noLine wsX5_noLine) := goodIn_app (goodIn_r _ [11, 12, 13, 5] rfl rfl) ggX5_without_X5_noLine
set_option maxRecDepth 200000 in
theorem ggX5_without_X5_learn : GoodIn wsX5_without wsX5_learn := goodIn_r _ [19, 20, 21, 15, 22, 23, 24, 25, 26, 7, 34, 35, 36, 37, 38, 39, 40, 41, 42, 43, 44, 45, 46] rfl rfl
set_option maxRecDepth 200000 in
theorem gX5_without_X5_learn : GoodIn wsX5_without (wsV RX5 40 RX5 yX5_learn wsX5_learn) := goodIn_app (goodIn_r _ [16, 17, 18, 5] rfl rfl) ggX5_without_X5_learn
set_option maxRecDepth 200000 in
theorem ggX5_without_X5_farOf : GoodIn wsX5_without wsX5_farOf := goodIn_r _ [30, 20, 31, 32, 5, 33, 21, 34, 35, 36, 37, 38, 39, 40, 41, 42, 43, 44, 45, 46] rfl rfl
set_option maxRecDepth 200000 in
theorem gX5_without_X5_farOf : GoodIn wsX5_without (wsV RX5 80 RX5 yX5_farOf wsX5_farOf) := goodIn_app (goodIn_r _ [27, 28, 29, 5] rfl rfl) ggX5_without_X5_farOf
set_option maxRecDepth 200000 in
theorem ggX5_vital_X5_noPost : GoodIn wsX5_vital wsX5_noPost := goodIn_r _ [7, 8, 9, 10, 6, 11, 30, 31, 32, 33, 34, 35, 36, 37, 38, 39, 40, 41, 42] rfl rfl
set_option maxRecDepth 200000 in
theorem gX5_vital_X5_noPost : GoodIn wsX5_vital (wsV RX5 72 RX5 yX5_noPost wsX5_noPost) := goodIn_app (goodIn_r _ [3, 4, 5, 6] rfl rfl) ggX5_vital_X5_noPost
set_option maxRecDepth 200000 in
theorem ggX5_vital_X5_learn : GoodIn wsX5_vital wsX5_learn := goodIn_r _ [15, 16, 17, 2, 18, 19, 20, 21, 22, 8, 30, 31, 32, 33, 34, 35, 36, 37, 38, 39, 40, 41, 42] rfl rfl
set_option maxRecDepth 200000 in
theorem gX5_vital_X5_learn : GoodIn wsX5_vital (wsV RX5 40 RX5 yX5_learn wsX5_learn) := goodIn_app (goodIn_r _ [12, 13, 14, 6] rfl rfl) ggX5_vital_X5_learn
set_option maxRecDepth 200000 in
theorem ggX5_vital_X5_farOf : GoodIn wsX5_vital wsX5_farOf := goodIn_r _ [26, 16, 27, 28, 6, 29, 17, 30, 31, 32, 33, 34, 35, 36, 37, 38, 39, 40, 41, 42] rfl rfl
set_option maxRecDepth 200000 in
theorem gX5_vital_X5_farOf : GoodIn wsX5_vital (wsV RX5 80 RX5 yX5_farOf wsX5_farOf) := goodIn_app (goodIn_r _ [23, 24, 25, 6] rfl rfl) ggX5_vital_X5_farOf
set_option maxRecDepth 200000 in
theorem ggX5_about_X5_noPost : GoodIn wsX5_about wsX5_noPost := goodIn_r _ [6, 7, 8, 9, 5, 10, 30, 31, 32, 33, 34, 35, 36, 37, 38, 39, 40, 41, 42] rfl rfl
set_option maxRecDepth 200000 in
theorem gX5_about_X5_noPost : GoodIn wsX5_about (wsV RX5 72 RX5 yX5_noPost wsX5_noPost) := goodIn_app (goodIn_r _ [2, 3, 4, 5] rfl rfl) ggX5_about_X5_noPost
set_option maxRecDepth 200000 in
theorem ggX5_about_X5_learn : GoodIn wsX5_about wsX5_learn := goodIn_r _ [14, 15, 16, 17, 18, 19, 20, 21, 22, 7, 30, 31, 32, 33, 34, 35, 36, 37, 38, 39, 40, 41, 42] rfl rfl
set_option maxRecDepth 200000 in
theorem gX5_about_X5_learn : GoodIn wsX5_about (wsV RX5 40 RX5 yX5_learn wsX5_learn) := goodIn_app (goodIn_r _ [11, 12, 13, 5] rfl rfl) ggX5_about_X5_learn
set_option maxRecDepth 200000 in
theorem ggX5_about_X5_farOf : GoodIn wsX5_about wsX5_farOf := goodIn_r _ [26, 15, 27, 28, 5, 29, 16, 30, 31, 32, 33, 34, 35, 36, 37, 38, 39, 40, 41, 42] rfl rfl
set_option maxRecDepth 200000 in
theorem gX5_about_X5_farOf : GoodIn wsX5_about (wsV RX5 80 RX5 yX5_farOf wsX5_farOf) := goodIn_app (goodIn_r _ [23, 24, 25, 5] rfl rfl) ggX5_about_X5_farOf
set_option maxRecDepth 200000 in
theorem ggX5_ring_X5_learn : GoodIn wsX5_ring wsX5_learn := goodIn_r _ [12, 13, 14, 2, 6, 5, 4, 7, 3, 15, 23, 24, 25, 26, 27, 28, 29, 30, 31, 32, 33, 34, 35] rfl rfl
set_option maxRecDepth 200000 in
theorem gX5_ring_X5_learn : GoodIn wsX5_ring (wsV RX5 40 RX5 yX5_learn wsX5_learn) := goodIn_app (goodIn_r _ [8, 9, 10, 11] rfl rfl) ggX5_ring_X5_learn
set_option maxRecDepth 200000 in
theorem ggX5_ring_X5_farOf : GoodIn wsX5_ring wsX5_farOf := goodIn_r _ [19, 13, 20, 21, 11, 22, 14, 23, 24, 25, 26, 27, 28, 29, 30, 31, 32, 33, 34, 35] rfl rfl
set_option maxRecDepth 200000 in
theorem gX5_ring_X5_farOf : GoodIn wsX5_ring (wsV RX5 80 RX5 yX5_farOf wsX5_farOf) := goodIn_app (goodIn_r _ [16, 17, 18, 11] rfl rfl) ggX5_ring_X5_farOf
set_option maxRecDepth 200000 in
theorem ggX5_height_X5_noPost : GoodIn wsX5_height wsX5_noPost := goodIn_r _ [6, 7, 8, 9, 5, 10, 34, 35, 36, 37, 38, 39, 40, 41, 42, 43, 44, 45, 46] rfl rfl
set_option maxRecDepth 200000 in
theorem gX5_height_X5_noPost : GoodIn wsX5_height (wsV RX5 72 RX5 yX5_noPost wsX5_noPost) := goodIn_app (goodIn_r _ [2, 3, 4, 5] rfl rfl) ggX5_height_X5_noPost
set_option maxRecDepth 200000 in
theorem ggX5_height_X5_learn : GoodIn wsX5_height wsX5_learn := goodIn_r _ [14, 15, 16, 17, 18, 19, 20, 21, 22, 7, 34, 35, 36, 37, 38, 39, 40, 41, 42, 43, 44, 45, 46] rfl rfl
set_option maxRecDepth 200000 in
theorem gX5_height_X5_learn : GoodIn wsX5_height (wsV RX5 40 RX5 yX5_learn wsX5_learn) := goodIn_app (goodIn_r _ [11, 12, 13, 5] rfl rfl) ggX5_height_X5_learn
set_option maxRecDepth 200000 in
theorem ggX5_height_X5_heightOf : GoodIn wsX5_height wsX5_heightOf := goodIn_r _ [26, 7, 27, 28, 29, 5, 30, 15, 31, 32, 33, 16, 34, 35, 36, 37, 38, 39, 40, 41, 42, 43, 44, 45, 46] rfl rfl
set_option maxRecDepth 200000 in
theorem gX5_height_X5_heightOf : GoodIn wsX5_height (wsV RX5 94 RX5 yX5_heightOf wsX5_heightOf) := goodIn_app (goodIn_r _ [23, 24, 25, 5] rfl rfl) ggX5_height_X5_heightOf
set_option maxRecDepth 200000 in
theorem ggX5_moved_X5_in : GoodIn wsX5_moved wsX5_in := goodIn_r _ [6] rfl rfl
set_option maxRecDepth 200000 in
theorem gX5_moved_X5_in : GoodIn wsX5_moved (va_wsS RX5 50 yX5_in wsX5_in) := goodIn_app (goodIn_r _ [3, 4, 5] rfl rfl) ggX5_moved_X5_in
set_option maxRecDepth 200000 in
theorem ggX5_moved_X5_isMoved : GoodIn wsX5_moved wsX5_isMoved := goodIn_r _ [10, 11, 12, 13, 14, 15, 16, 17, 18, 19, 20, 21, 22, 23, 24, 25] rfl rfl
set_option maxRecDepth 200000 in
theorem gX5_moved_X5_isMoved : GoodIn wsX5_moved (wsV RX5 103 RX5 yX5_isMoved wsX5_isMoved) := goodIn_app (goodIn_r _ [7, 8, 9, 5] rfl rfl) ggX5_moved_X5_isMoved
set_option maxRecDepth 200000 in
theorem ggX5_pair_X5_in : GoodIn wsX5_pair wsX5_in := goodIn_r _ [6] rfl rfl
set_option maxRecDepth 200000 in
theorem gX5_pair_X5_in : GoodIn wsX5_pair (va_wsS RX5 50 yX5_in wsX5_in) := goodIn_app (goodIn_r _ [3, 4, 5] rfl rfl) ggX5_pair_X5_in
set_option maxRecDepth 200000 in
theorem ggX5_pair_X5_isMoved : GoodIn wsX5_pair wsX5_isMoved := goodIn_r _ [10, 11, 12, 13, 14, 15, 16, 17, 18, 19, 20, 21, 22, 23, 24, 25] rfl rfl
set_option maxRecDepth 200000 in
theorem gX5_pair_X5_isMoved : GoodIn wsX5_pair (wsV RX5 103 RX5 yX5_isMoved wsX5_isMoved) := goodIn_app (goodIn_r _ [7, 8, 9, 5] rfl rfl) ggX5_pair_X5_isMoved
set_option maxRecDepth 200000 in
theorem ggX5_then_X5_noPost : GoodIn wsX5_then wsX5_noPost := goodIn_r _ [8, 9, 10, 11, 7, 12, 13, 14, 15, 16, 17, 18, 19, 20, 21, 22, 23, 24, 25] rfl rfl
set_option maxRecDepth 200000 in
theorem gX5_then_X5_noPost : GoodIn wsX5_then (wsV RX5 72 RX5 yX5_noPost wsX5_noPost) := goodIn_app (goodIn_r _ [4, 5, 6, 7] rfl rfl) ggX5_then_X5_noPost
set_option maxRecDepth 200000 in
theorem ggX5_then_X5_in : GoodIn wsX5_then wsX5_in := goodIn_r _ [12] rfl rfl
set_option maxRecDepth 200000 in
theorem gX5_then_X5_in : GoodIn wsX5_then (va_wsS RX5 50 yX5_in wsX5_in) := goodIn_app (goodIn_r _ [10, 11, 7] rfl rfl) ggX5_then_X5_in
set_option maxRecDepth 200000 in
theorem ggX5_since_X5_noPost : GoodIn wsX5_since wsX5_noPost := goodIn_r _ [10, 11, 12, 13, 9, 14, 15, 16, 17, 18, 19, 20, 21, 22, 23, 24, 25, 26, 27] rfl rfl
set_option maxRecDepth 200000 in
theorem gX5_since_X5_noPost : GoodIn wsX5_since (wsV RX5 72 RX5 yX5_noPost wsX5_noPost) := goodIn_app (goodIn_r _ [6, 7, 8, 9] rfl rfl) ggX5_since_X5_noPost
set_option maxRecDepth 200000 in
theorem ggX5_since_X5_in : GoodIn wsX5_since wsX5_in := goodIn_r _ [14] rfl rfl
set_option maxRecDepth 200000 in
theorem gX5_since_X5_in : GoodIn wsX5_since (va_wsS RX5 50 yX5_in wsX5_in) := goodIn_app (goodIn_r _ [12, 13, 9] rfl rfl) ggX5_since_X5_in
set_option maxRecDepth 200000 in
theorem ggX5_nearOf_X5_farOf : GoodIn wsX5_nearOf wsX5_farOf := goodIn_r _ [7, 8, 9, 10, 6, 11, 12, 13, 14, 15, 16, 17, 18, 19, 20, 21, 22, 23, 24, 25] rfl rfl
set_option maxRecDepth 200000 in
theorem gX5_nearOf_X5_farOf : GoodIn wsX5_nearOf (wsV RX5 80 RX5 yX5_farOf wsX5_farOf) := goodIn_app (goodIn_r _ [3, 4, 5, 6] rfl rfl) ggX5_nearOf_X5_farOf
set_option maxRecDepth 200000 in
theorem ggX5_near_X5_noPost : GoodIn wsX5_near wsX5_noPost := goodIn_r _ [6, 7, 8, 9, 5, 10, 35, 36, 37, 38, 39, 40, 41, 42, 43, 44, 45, 46, 47] rfl rfl
set_option maxRecDepth 200000 in
theorem gX5_near_X5_noPost : GoodIn wsX5_near (wsV RX5 72 RX5 yX5_noPost wsX5_noPost) := goodIn_app (goodIn_r _ [2, 3, 4, 5] rfl rfl) ggX5_near_X5_noPost
set_option maxRecDepth 200000 in
theorem ggX5_near_X5_learn : GoodIn wsX5_near wsX5_learn := goodIn_r _ [14, 15, 16, 17, 18, 19, 20, 21, 22, 7, 35, 36, 37, 38, 39, 40, 41, 42, 43, 44, 45, 46, 47] rfl rfl
set_option maxRecDepth 200000 in
theorem gX5_near_X5_learn : GoodIn wsX5_near (wsV RX5 40 RX5 yX5_learn wsX5_learn) := goodIn_app (goodIn_r _ [11, 12, 13, 5] rfl rfl) ggX5_near_X5_learn
set_option maxRecDepth 200000 in
theorem ggX5_near_X5_nearOf : GoodIn wsX5_near wsX5_nearOf := goodIn_r _ [26, 7, 27, 28, 29, 30, 5, 31, 15, 32, 33, 34, 16, 35, 36, 37, 38, 39, 40, 41, 42, 43, 44, 45, 46, 47] rfl rfl
set_option maxRecDepth 200000 in
theorem gX5_near_X5_nearOf : GoodIn wsX5_near (wsV RX5 110 RX5 yX5_nearOf wsX5_nearOf) := goodIn_app (goodIn_r _ [23, 24, 25, 5] rfl rfl) ggX5_near_X5_nearOf
set_option maxRecDepth 200000 in
theorem ggX5_worst_X5_learn : GoodIn wsX5_worst wsX5_learn := goodIn_r _ [7, 8, 9, 10, 11, 12, 13, 14, 15, 2, 28, 29, 30, 31, 32, 33, 34, 35, 36, 37, 38, 39, 40] rfl rfl
set_option maxRecDepth 200000 in
theorem gX5_worst_X5_learn : GoodIn wsX5_worst (wsV RX5 40 RX5 yX5_learn wsX5_learn) := goodIn_app (goodIn_r _ [3, 4, 5, 6] rfl rfl) ggX5_worst_X5_learn
set_option maxRecDepth 200000 in
theorem ggX5_worst_X5_farOf : GoodIn wsX5_worst wsX5_farOf := goodIn_r _ [19, 8, 20, 21, 6, 22, 9, 28, 29, 30, 31, 32, 33, 34, 35, 36, 37, 38, 39, 40] rfl rfl
set_option maxRecDepth 200000 in
theorem gX5_worst_X5_farOf : GoodIn wsX5_worst (wsV RX5 80 RX5 yX5_farOf wsX5_farOf) := goodIn_app (goodIn_r _ [16, 17, 18, 6] rfl rfl) ggX5_worst_X5_farOf
set_option maxRecDepth 200000 in
theorem ggX5_worst_X5_nearOf : GoodIn wsX5_worst wsX5_nearOf := goodIn_r _ [26, 2, 27, 16, 17, 18, 6, 19, 8, 20, 21, 22, 9, 28, 29, 30, 31, 32, 33, 34, 35, 36, 37, 38, 39, 40] rfl rfl
set_option maxRecDepth 200000 in
theorem gX5_worst_X5_nearOf : GoodIn wsX5_worst (wsV RX5 110 RX5 yX5_nearOf wsX5_nearOf) := goodIn_app (goodIn_r _ [23, 24, 25, 6] rfl rfl) ggX5_worst_X5_nearOf
set_option maxRecDepth 200000 in
theorem ggX5_hits_X5_in : GoodIn wsX5_hits wsX5_in := goodIn_r _ [10] rfl rfl
set_option maxRecDepth 200000 in
theorem gX5_hits_X5_in : GoodIn wsX5_hits (va_wsS RX5 50 yX5_in wsX5_in) := goodIn_app (goodIn_r _ [7, 8, 9] rfl rfl) ggX5_hits_X5_in
set_option maxRecDepth 200000 in
theorem ggX5_hits_X5_learn : GoodIn wsX5_hits wsX5_learn := goodIn_r _ [14, 4, 5, 15, 16, 17, 18, 19, 20, 3, 35, 36, 37, 38, 39, 40, 41, 42, 43, 44, 45, 46, 47] rfl rfl
set_option maxRecDepth 200000 in
theorem gX5_hits_X5_learn : GoodIn wsX5_hits (wsV RX5 40 RX5 yX5_learn wsX5_learn) := goodIn_app (goodIn_r _ [11, 12, 13, 9] rfl rfl) ggX5_hits_X5_learn
set_option maxRecDepth 200000 in
theorem ggX5_hits_X5_coarse : GoodIn wsX5_hits wsX5_coarse := goodIn_r _ [23, 5] rfl rfl
set_option maxRecDepth 200000 in
theorem gX5_hits_X5_coarse : GoodIn wsX5_hits (va_wsS RX5 58 yX5_coarse wsX5_coarse) := goodIn_app (goodIn_r _ [21, 22, 9] rfl rfl) ggX5_hits_X5_coarse
set_option maxRecDepth 200000 in
theorem ggX5_hits_X5_nextOf : GoodIn wsX5_hits wsX5_nextOf := goodIn_r _ [27, 15, 17, 18, 20, 16, 4, 5, 19, 35, 36, 37, 38, 39, 40, 41, 42, 43, 44, 45, 46, 47] rfl rfl
set_option maxRecDepth 200000 in
theorem gX5_hits_X5_nextOf : GoodIn wsX5_hits (wsV RX5 97 RX5 yX5_nextOf wsX5_nextOf) := goodIn_app (goodIn_r _ [24, 25, 26, 9] rfl rfl) ggX5_hits_X5_nextOf
set_option maxRecDepth 200000 in
theorem ggX5_hits_X5_other : GoodIn wsX5_hits wsX5_other := goodIn_r _ [31, 17, 18, 35, 36, 37, 38, 39, 40, 41, 42, 43, 44, 45, 46, 47] rfl rfl
set_option maxRecDepth 200000 in
theorem gX5_hits_X5_other : GoodIn wsX5_hits (wsV RX5 100 RX5 yX5_other wsX5_other) := goodIn_app (goodIn_r _ [28, 29, 30, 9] rfl rfl) ggX5_hits_X5_other
set_option maxRecDepth 200000 in
theorem ggX5_hits_X5_bits : GoodIn wsX5_hits wsX5_bits := goodIn_r _ [34] rfl rfl
set_option maxRecDepth 200000 in
theorem gX5_hits_X5_bits : GoodIn wsX5_hits (va_wsS RX5 115 yX5_bits wsX5_bits) := goodIn_app (goodIn_r _ [32, 33, 9] rfl rfl) ggX5_hits_X5_bits
set_option maxRecDepth 200000 in
theorem ggX5_count_X5_learn : GoodIn wsX5_count wsX5_learn := goodIn_r _ [9, 10, 11, 3, 12, 13, 14, 15, 16, 2, 31, 32, 33, 34, 35, 36, 37, 38, 39, 40, 41, 42, 43] rfl rfl
set_option maxRecDepth 200000 in
theorem gX5_count_X5_learn : GoodIn wsX5_count (wsV RX5 40 RX5 yX5_learn wsX5_learn) := goodIn_app (goodIn_r _ [5, 6, 7, 8] rfl rfl) ggX5_count_X5_learn
set_option maxRecDepth 200000 in
theorem ggX5_count_X5_farOf : GoodIn wsX5_count wsX5_farOf := goodIn_r _ [20, 10, 21, 22, 8, 23, 11, 31, 32, 33, 34, 35, 36, 37, 38, 39, 40, 41, 42, 43] rfl rfl
set_option maxRecDepth 200000 in
theorem gX5_count_X5_farOf : GoodIn wsX5_count (wsV RX5 80 RX5 yX5_farOf wsX5_farOf) := goodIn_app (goodIn_r _ [17, 18, 19, 8] rfl rfl) ggX5_count_X5_farOf
set_option maxRecDepth 200000 in
theorem ggX5_count_X5_there : GoodIn wsX5_count wsX5_there := goodIn_r _ [27, 3, 12, 31, 32, 33, 34, 35, 36, 37, 38, 39, 40, 41, 42, 43] rfl rfl
set_option maxRecDepth 200000 in
theorem gX5_count_X5_there : GoodIn wsX5_count (wsV RX5 90 RX5 yX5_there wsX5_there) := goodIn_app (goodIn_r _ [24, 25, 26, 8] rfl rfl) ggX5_count_X5_there
set_option maxRecDepth 200000 in
theorem ggX5_count_X5_bits : GoodIn wsX5_count wsX5_bits := goodIn_r _ [30] rfl rfl
set_option maxRecDepth 200000 in
theorem gX5_count_X5_bits : GoodIn wsX5_count (va_wsS RX5 115 yX5_bits wsX5_bits) := goodIn_app (goodIn_r _ [28, 29, 8] rfl rfl) ggX5_count_X5_bits
set_option maxRecDepth 200000 in
theorem ggL_law_X4_init : GoodIn wsL_law wsX4_init := goodIn_r _ [8, 9, 10, 11, 12, 13, 14, 15, 16, 17, 18, 19, 20, 21, 22, 23, 24, 25, 26, 27, 28, 29, 30, 31, 32, 33, 34, 35, 36, 37, 38, 39, 40, 41, 42, 43, 44, 45, 46, 47, 48, 49, 50, 51, 52, 53, 54, 55, 2, 56, 57, 58, 59, 60, 61, 62, 63, 64, 65, 66, 67, 68, 69, 70, 71, 72, 73, 74, 75, 76, 77, 78, 79, 80, 81, 82, 83, 84, 85, 86, 87, 88, 89, 90, 91, 92, 93, 94, 95, 96, 97, 98, 99, 100, 101, 102, 103, 104, 105, 106, 107, 108, 109, 110, 111, 112, 113, 114, 115, 116, 117, 118, 119, 120, 121, 122, 123, 124, 125, 126, 127, 128, 129, 130, 131, 132, 133, 134, 135, 136, 137, 138, 139, 140, 141, 142, 143, 144, 145, 146, 607, 608, 609, 610, 611, 612, 613, 589, 590, 591, 592, 593, 614, 615, 616, 617, 618, 619, 620] rfl rfl
set_option maxRecDepth 200000 in
theorem gL_law_X4_init : GoodIn wsL_law (wsX4_init) := ggL_law_X4_init
set_option maxRecDepth 200000 in
theorem ggL_law_X5_init : GoodIn wsL_law wsX5_init := goodIn_r _ [149, 150, 10, 11, 151, 31, 152, 153, 154, 35, 155, 156, 157, 158, 159, 160, 161, 162, 163, 5, 164, 165, 166, 167, 168, 169, 170, 171, 172, 173, 174, 594, 595, 596, 597, 598, 599, 600, 601, 602, 603, 604, 605, 606] rfl rfl
set_option maxRecDepth 200000 in
theorem gL_law_X5_init : GoodIn wsL_law (wsX5_init) := ggL_law_X5_init
set_option maxRecDepth 200000 in
theorem ggL_law_X4_posts : GoodIn wsL_law wsX4_posts := goodIn_r _ [178, 15, 53, 54, 55, 2, 56, 23, 57, 58, 59, 60, 14, 61, 62, 63, 64, 65, 66, 22, 67, 68, 69, 70, 71, 72, 19, 73, 74, 75, 18, 76, 42, 77, 44, 43, 78, 79, 80, 81, 82, 83, 84, 85, 86, 87, 88, 89, 90, 91, 92, 93, 32, 33, 94, 95, 96, 97, 98, 99, 100, 101, 102, 103, 104, 105, 106, 107, 108, 109, 110, 111, 48, 112, 113, 114, 115, 116, 117, 118, 119, 120, 121, 122, 123, 124, 125, 126, 127, 128, 129, 130, 131, 132, 133, 31, 134, 135, 136, 137, 138, 139, 140, 141, 142, 143, 144, 145, 146, 589, 590, 591, 592, 593, 607, 608, 609, 610, 611, 612, 613, 617, 618, 614, 615, 616] rfl rfl
set_option maxRecDepth 200000 in
theorem gL_law_X4_posts : GoodIn wsL_law (wsV RL 13 RX4 yX4_posts wsX4_posts) := goodIn_app (goodIn_r _ [175, 176, 177, 2] rfl rfl) ggL_law_X4_posts
set_option maxRecDepth 200000 in
theorem ggL_law_X5_posts : GoodIn wsL_law wsX5_posts := goodIn_r _ [182, 183, 184, 185, 151, 166, 171, 186, 187, 188, 5, 189, 161, 162, 163, 164, 157, 165, 156, 152, 153, 154, 155, 167, 168, 169, 170, 159, 172, 173, 174, 594, 595, 596, 597, 598, 599, 600, 601, 602, 603, 604, 605, 606] rfl rfl
set_option maxRecDepth 200000 in
theorem gL_law_X5_posts : GoodIn wsL_law (wsV RL 17 RX5 yX5_posts wsX5_posts) := goodIn_app (goodIn_r _ [179, 180, 181, 5] rfl rfl) ggL_law_X5_posts
set_option maxRecDepth 200000 in
theorem ggL_law_X4_line : GoodIn wsL_law wsX4_line := goodIn_r _ [193, 15, 19, 23, 194, 195, 196, 14, 197, 198, 199, 200, 201, 62, 202, 203, 2, 204, 205, 206, 207, 18, 208, 209, 210, 211, 212, 43, 86, 87, 88, 89, 77, 44, 82, 83, 84, 85, 90, 91, 92, 93, 32, 33, 94, 95, 96, 97, 98, 99, 100, 101, 102, 103, 104, 105, 140, 141, 142, 143, 144, 145, 146, 213, 214, 215, 216, 113, 114, 22, 115, 68, 217, 218, 219, 220, 63, 34, 36, 37, 69, 70, 71, 72, 73, 74, 75, 76, 42, 78, 79, 80, 81, 106, 107, 108, 109, 110, 111, 48, 112, 116, 117, 118, 119, 120, 121, 122, 123, 124, 125, 126, 127, 128, 129, 130, 131, 132, 133, 31, 134, 135, 136, 137, 138, 139, 589, 590, 591, 592, 593, 607, 608, 609, 610, 611, 612, 613, 614, 615, 616, 617, 618] rfl rfl
set_option maxRecDepth 200000 in
theorem gL_law_X4_line : GoodIn wsL_law (wsV RL 18 RX4 yX4_line wsX4_line) := goodIn_app (goodIn_r _ [190, 191, 192, 2] rfl rfl) ggL_law_X4_line
set_option maxRecDepth 200000 in
theorem ggL_law_X5_line : GoodIn wsL_law wsX5_line := goodIn_r _ [224, 183, 225, 226, 166, 171, 152, 153, 154, 155, 156, 227, 228, 229, 5, 230, 151, 187, 188, 189, 161, 162, 163, 164, 157, 165, 231, 232, 233, 234, 172, 173, 174, 235, 236, 237, 238, 167, 168, 169, 170, 159, 594, 595, 596, 597, 598, 599, 600, 601, 602, 603, 604, 605, 606] rfl rfl
set_option maxRecDepth 200000 in
theorem gL_law_X5_line : GoodIn wsL_law (wsV RL 22 RX5 yX5_line wsX5_line) := goodIn_app (goodIn_r _ [221, 222, 223, 5] rfl rfl) ggL_law_X5_line
set_option maxRecDepth 200000 in
theorem ggL_law_X4_price : GoodIn wsL_law wsX4_price := goodIn_r _ [242, 15, 23, 243, 244, 245, 14, 246, 63, 202, 203, 2, 204, 247, 248, 249, 250, 19, 205, 206, 207, 18, 208, 209, 210, 211, 212, 43, 86, 87, 88, 89, 77, 44, 82, 83, 84, 85, 90, 91, 92, 93, 32, 33, 94, 95, 96, 97, 98, 99, 100, 101, 102, 103, 104, 105, 140, 141, 142, 143, 144, 145, 146, 213, 214, 215, 216, 113, 114, 22, 115, 68, 69, 70, 71, 72, 73, 74, 75, 76, 42, 78, 79, 80, 81, 106, 107, 108, 109, 110, 111, 48, 112, 116, 117, 118, 119, 120, 121, 122, 123, 124, 125, 126, 127, 128, 129, 130, 131, 132, 133, 31, 134, 135, 136, 137, 138, 139, 589, 590, 591, 592, 593, 607, 608, 609, 610, 611, 612, 613, 614, 615, 616, 617, 618] rfl rfl
set_option maxRecDepth 200000 in
theorem gL_law_X4_price : GoodIn wsL_law (wsV RL 23 RX4 yX4_price wsX4_price) := goodIn_app (goodIn_r _ [239, 240, 241, 2] rfl rfl) ggL_law_X4_price
set_option maxRecDepth 200000 in
theorem ggL_law_X5_price : GoodIn wsL_law wsX5_price := goodIn_r _ [254, 183, 155, 225, 226, 154, 171, 255, 256, 257, 5, 258, 166, 187, 188, 189, 161, 162, 163, 164, 157, 165, 156, 152, 153, 151, 235, 236, 237, 238, 167, 168, 169, 170, 159, 172, 173, 174, 594, 595, 596, 597, 598, 599, 600, 601, 602, 603, 604, 605, 606] rfl rfl
set_option maxRecDepth 200000 in
theorem gL_law_X5_price : GoodIn wsL_law (wsV RL 27 RX5 yX5_price wsX5_price) := goodIn_app (goodIn_r _ [251, 252, 253, 5] rfl rfl) ggL_law_X5_price
set_option maxRecDepth 200000 in
theorem ggL_law_X4_cut : GoodIn wsL_law wsX4_cut := goodIn_r _ [262, 15, 23, 243, 244, 245, 14, 246, 63, 216, 113, 114, 22, 115, 68, 69, 70, 71, 2, 72, 19, 73, 74, 75, 18, 76, 42, 77, 44, 43, 78, 79, 80, 81, 82, 83, 84, 85, 86, 87, 88, 89, 90, 91, 92, 93, 32, 33, 94, 95, 96, 97, 98, 99, 100, 101, 102, 103, 104, 105, 106, 107, 108, 109, 110, 111, 48, 112, 116, 117, 118, 119, 120, 121, 122, 123, 124, 125, 126, 127, 128, 129, 130, 131, 132, 133, 31, 134, 135, 136, 137, 138, 139, 140, 141, 142, 143, 144, 145, 146, 263, 264, 265, 266, 37, 589, 590, 591, 592, 593, 607, 608, 609, 610, 611, 612, 613, 617, 618, 614, 615, 616] rfl rfl
set_option maxRecDepth 200000 in
theorem gL_law_X4_cut : GoodIn wsL_law (wsV RL 28 RX4 yX4_cut wsX4_cut) := goodIn_app (goodIn_r _ [259, 260, 261, 2] rfl rfl) ggL_law_X4_cut
set_option maxRecDepth 200000 in
theorem ggL_law_X5_cut : GoodIn wsL_law wsX5_cut := goodIn_r _ [270, 183, 156, 171, 255, 256, 257, 5, 258, 166, 187, 188, 189, 235, 236, 237, 238, 161, 162, 163, 164, 157, 165, 152, 153, 154, 155, 151, 167, 168, 169, 170, 159, 172, 173, 174, 271, 272, 273, 274, 594, 595, 596, 597, 598, 599, 600, 601, 602, 603, 604, 605, 606] rfl rfl
set_option maxRecDepth 200000 in
theorem gL_law_X5_cut : GoodIn wsL_law (wsV RL 31 RX5 yX5_cut wsX5_cut) := goodIn_app (goodIn_r _ [267, 268, 269, 5] rfl rfl) ggL_law_X5_cut
set_option maxRecDepth 200000 in
theorem ggL_law_X4_back : GoodIn wsL_law wsX4_back := goodIn_r _ [278, 15, 23, 243, 244, 245, 14, 246, 63, 247, 248, 249, 2, 250, 19, 205, 206, 207, 18, 208, 209, 210, 211, 212, 43, 86, 87, 88, 89, 77, 44, 82, 83, 84, 85, 90, 91, 92, 93, 32, 33, 94, 95, 96, 97, 98, 99, 100, 101, 102, 103, 104, 105, 140, 141, 142, 143, 144, 145, 146, 213, 214, 215, 216, 113, 114, 22, 115, 68, 69, 70, 71, 72, 73, 74, 75, 76, 42, 78, 79, 80, 81, 106, 107, 108, 109, 110, 111, 48, 112, 116, 117, 118, 119, 120, 121, 122, 123, 124, 125, 126, 127, 128, 129, 130, 131, 132, 133, 31, 134, 135, 136, 137, 138, 139, 263, 264, 265, 266, 37, 589, 590, 591, 592, 593, 607, 608, 609, 610, 611, 612, 613, 614, 615, 616, 617, 618] rfl rfl
set_option maxRecDepth 200000 in
theorem gL_law_X4_back : GoodIn wsL_law (wsV RL 32 RX4 yX4_back wsX4_back) := goodIn_app (goodIn_r _ [275, 276, 277, 2] rfl rfl) ggL_law_X4_back
set_option maxRecDepth 200000 in
theorem ggL_law_X5_back : GoodIn wsL_law wsX5_back := goodIn_r _ [282, 183, 156, 171, 255, 256, 257, 5, 258, 166, 187, 188, 189, 161, 162, 163, 164, 157, 165, 152, 153, 154, 155, 151, 235, 236, 237, 238, 167, 168, 169, 170, 159, 172, 173, 174, 271, 272, 273, 274, 594, 595, 596, 597, 598, 599, 600, 601, 602, 603, 604, 605, 606] rfl rfl
set_option maxRecDepth 200000 in
theorem gL_law_X5_back : GoodIn wsL_law (wsV RL 35 RX5 yX5_back wsX5_back) := goodIn_app (goodIn_r _ [279, 280, 281, 5] rfl rfl) ggL_law_X5_back
set_option maxRecDepth 200000 in
theorem ggL_law_X4_told : GoodIn wsL_law wsX4_told := goodIn_r _ [286, 15, 19, 243, 244, 245, 14, 246, 63, 287, 288, 2, 289, 290, 291, 292, 18, 293, 44, 294, 122, 123, 124, 295, 296, 297, 298, 299, 300, 301, 302, 42, 77, 106, 107, 303, 137, 138, 139, 140, 141, 142, 143, 144, 145, 146, 589, 590, 591, 592, 593, 607, 608, 609, 610, 611, 612, 613, 614, 615, 616] rfl rfl
set_option maxRecDepth 200000 in
theorem gL_law_X4_told : GoodIn wsL_law (wsV RL 36 RX4 yX4_told wsX4_told) := goodIn_app (goodIn_r _ [283, 284, 285, 2] rfl rfl) ggL_law_X4_told
set_option maxRecDepth 200000 in
theorem ggL_law_X5_told : GoodIn wsL_law wsX5_told := goodIn_r _ [307, 183, 152, 153, 154, 155, 156, 255, 256, 257, 5, 258, 166, 187, 188, 189, 161, 162, 163, 164, 157, 165, 151, 308, 309, 310, 311, 231, 232, 233, 234, 172, 173, 174, 594, 595, 596, 597, 598, 599, 600, 601, 602, 603, 604, 605, 606] rfl rfl
set_option maxRecDepth 200000 in
theorem gL_law_X5_told : GoodIn wsL_law (wsV RL 39 RX5 yX5_told wsX5_told) := goodIn_app (goodIn_r _ [304, 305, 306, 5] rfl rfl) ggL_law_X5_told
set_option maxRecDepth 200000 in
theorem ggL_law_X4_far : GoodIn wsL_law wsX4_far := goodIn_r _ [315, 15, 19, 194, 195, 196, 14, 197, 198, 199, 200, 201, 62, 316, 137, 138, 18, 139, 42, 106, 2, 107, 140, 141, 142, 77, 143, 144, 145, 146, 589, 590, 591, 592, 593, 607, 608, 609, 610, 611, 612, 613, 614, 615, 616] rfl rfl
set_option maxRecDepth 200000 in
theorem gL_law_X4_far : GoodIn wsL_law (wsV RL 40 RX4 yX4_far wsX4_far) := goodIn_app (goodIn_r _ [312, 313, 314, 2] rfl rfl) ggL_law_X4_far
set_option maxRecDepth 200000 in
theorem ggL_law_X5_far : GoodIn wsL_law wsX5_far := goodIn_r _ [320, 183, 227, 228, 229, 5, 230, 151, 187, 188, 189, 161, 162, 163, 164, 157, 165, 166, 156, 152, 153, 154, 155, 231, 232, 233, 234, 172, 173, 174, 594, 595, 596, 597, 598, 599, 600, 601, 602, 603, 604, 605, 606] rfl rfl
set_option maxRecDepth 200000 in
theorem gL_law_X5_far : GoodIn wsL_law (wsV RL 43 RX5 yX5_far wsX5_far) := goodIn_app (goodIn_r _ [317, 318, 319, 5] rfl rfl) ggL_law_X5_far
set_option maxRecDepth 200000 in
theorem ggL_law_X4_steps : GoodIn wsL_law wsX4_steps := goodIn_r _ [324, 15, 19, 194, 195, 196, 14, 197, 198, 199, 200, 201, 62, 325, 326, 327, 18, 328, 42, 77, 106, 2, 107, 329, 330, 145, 331, 589, 590, 591, 592, 593, 607, 608, 609, 610, 611, 612, 613, 614, 615, 616] rfl rfl
set_option maxRecDepth 200000 in
theorem gL_law_X4_steps : GoodIn wsL_law (wsV RL 44 RX4 yX4_steps wsX4_steps) := goodIn_app (goodIn_r _ [321, 322, 323, 2] rfl rfl) ggL_law_X4_steps
set_option maxRecDepth 200000 in
theorem ggL_law_X5_steps : GoodIn wsL_law wsX5_steps := goodIn_r _ [335, 183, 157, 165, 227, 228, 229, 5, 230, 151, 187, 188, 189, 161, 162, 163, 164, 166, 156, 152, 153, 154, 155, 172, 173, 174, 594, 595, 596, 597, 598, 599, 600, 601, 602, 603, 604, 605, 606] rfl rfl
set_option maxRecDepth 200000 in
theorem gL_law_X5_steps : GoodIn wsL_law (wsV RL 47 RX5 yX5_steps wsX5_steps) := goodIn_app (goodIn_r _ [332, 333, 334, 5] rfl rfl) ggL_law_X5_steps
set_option maxRecDepth 200000 in
theorem ggL_law_X4_way : GoodIn wsL_law wsX4_way := goodIn_r _ [339, 15, 19, 194, 195, 196, 14, 197, 198, 199, 200, 201, 62, 340, 341, 342, 18, 343, 44, 344, 326, 327, 328, 42, 77, 106, 2, 107, 329, 330, 145, 331, 345, 346, 347, 348, 349, 299, 300, 301, 302, 350, 351, 352, 353, 37, 32, 33, 36, 354, 244, 245, 246, 63, 98, 99, 100, 101, 589, 590, 591, 592, 593, 607, 608, 609, 610, 611, 612, 613, 614, 615, 616] rfl rfl
set_option maxRecDepth 200000 in
theorem gL_law_X4_way : GoodIn wsL_law (wsV RL 48 RX4 yX4_way wsX4_way) := goodIn_app (goodIn_r _ [336, 337, 338, 2] rfl rfl) ggL_law_X4_way
set_option maxRecDepth 200000 in
theorem ggL_law_X5_way : GoodIn wsL_law wsX5_way := goodIn_r _ [358, 183, 157, 165, 227, 228, 229, 5, 230, 151, 187, 188, 189, 161, 162, 163, 164, 166, 156, 152, 153, 154, 155, 172, 173, 174, 359, 360, 361, 362, 363, 364, 365, 366, 594, 595, 596, 597, 598, 599, 600, 601, 602, 603, 604, 605, 606] rfl rfl
set_option maxRecDepth 200000 in
theorem gL_law_X5_way : GoodIn wsL_law (wsV RL 52 RX5 yX5_way wsX5_way) := goodIn_app (goodIn_r _ [355, 356, 357, 5] rfl rfl) ggL_law_X5_way
set_option maxRecDepth 200000 in
theorem ggL_law_X4_without : GoodIn wsL_law wsX4_without := goodIn_r _ [370, 15, 19, 194, 195, 196, 14, 197, 198, 199, 200, 201, 62, 243, 244, 245, 246, 63, 371, 210, 211, 18, 212, 43, 86, 87, 88, 89, 77, 44, 82, 83, 84, 85, 90, 91, 92, 93, 32, 33, 94, 95, 96, 97, 98, 99, 100, 101, 102, 103, 104, 105, 140, 141, 142, 143, 144, 145, 146, 589, 590, 591, 592, 593, 607, 608, 609, 610, 611, 612, 613, 614, 615, 616] rfl rfl
set_option maxRecDepth 200000 in
theorem gL_law_X4_without : GoodIn wsL_law (wsV RL 53 RX4 yX4_without wsX4_without) := goodIn_app (goodIn_r _ [367, 368, 369, 2] rfl rfl) ggL_law_X4_without
set_option maxRecDepth 200000 in
theorem ggL_law_X5_without : GoodIn wsL_law wsX5_without := goodIn_r _ [375, 183, 227, 228, 229, 5, 230, 151, 187, 188, 189, 255, 256, 257, 258, 166, 161, 162, 163, 164, 157, 165, 156, 152, 153, 154, 155, 231, 232, 233, 234, 172, 173, 174, 594, 595, 596, 597, 598, 599, 600, 601, 602, 603, 604, 605, 606] rfl rfl
set_option maxRecDepth 200000 in
theorem gL_law_X5_without : GoodIn wsL_law (wsV RL 56 RX5 yX5_without wsX5_without) := goodIn_app (goodIn_r _ [372, 373, 374, 5] rfl rfl) ggL_law_X5_without
set_option maxRecDepth 200000 in
theorem ggL_law_X4_vital : GoodIn wsL_law wsX4_vital := goodIn_r _ [379, 15, 19, 194, 195, 196, 14, 197, 198, 199, 200, 201, 62, 380, 381, 382, 18, 383, 384, 385, 386, 387, 344, 326, 327, 328, 42, 77, 106, 2, 107, 329, 330, 145, 331, 388, 341, 342, 343, 44, 345, 346, 347, 348, 349, 299, 300, 301, 302, 350, 351, 352, 353, 37, 32, 33, 36, 354, 244, 245, 246, 63, 98, 99, 100, 101, 209, 210, 211, 212, 43, 86, 87, 88, 89, 82, 83, 84, 85, 90, 91, 92, 93, 94, 95, 96, 97, 102, 103, 104, 105, 140, 141, 142, 143, 144, 146, 303, 137, 138, 139, 589, 590, 591, 592, 593, 607, 608, 609, 610, 611, 612, 613, 614, 615, 616] rfl rfl
set_option maxRecDepth 200000 in
theorem gL_law_X4_vital : GoodIn wsL_law (wsV RL 57 RX4 yX4_vital wsX4_vital) := goodIn_app (goodIn_r _ [376, 377, 378, 2] rfl rfl) ggL_law_X4_vital
set_option maxRecDepth 200000 in
theorem ggL_law_X5_vital : GoodIn wsL_law wsX5_vital := goodIn_r _ [392, 183, 166, 227, 228, 229, 5, 230, 151, 187, 188, 189, 161, 162, 163, 164, 157, 165, 156, 152, 153, 154, 155, 231, 232, 233, 234, 172, 173, 174, 594, 595, 596, 597, 598, 599, 600, 601, 602, 603, 604, 605, 606] rfl rfl
set_option maxRecDepth 200000 in
theorem gL_law_X5_vital : GoodIn wsL_law (wsV RL 60 RX5 yX5_vital wsX5_vital) := goodIn_app (goodIn_r _ [389, 390, 391, 5] rfl rfl) ggL_law_X5_vital
set_option maxRecDepth 200000 in
theorem ggL_law_X4_about : GoodIn wsL_law wsX4_about := goodIn_r _ [396, 15, 19, 194, 195, 196, 14, 197, 198, 199, 200, 201, 62, 397, 371, 210, 211, 18, 212, 43, 86, 87, 88, 89, 77, 44, 82, 83, 84, 85, 90, 91, 92, 93, 32, 33, 94, 95, 96, 97, 98, 99, 100, 101, 102, 103, 104, 105, 140, 141, 142, 143, 144, 145, 146, 589, 590, 591, 592, 593, 607, 608, 609, 610, 611, 612, 613, 614, 615, 616] rfl rfl
set_option maxRecDepth 200000 in
theorem gL_law_X4_about : GoodIn wsL_law (wsV RL 61 RX4 yX4_about wsX4_about) := goodIn_app (goodIn_r _ [393, 394, 395, 2] rfl rfl) ggL_law_X4_about
set_option maxRecDepth 200000 in
theorem ggL_law_X5_about : GoodIn wsL_law wsX5_about := goodIn_r _ [401, 183, 227, 228, 229, 5, 230, 151, 187, 188, 189, 161, 162, 163, 164, 157, 165, 166, 156, 152, 153, 154, 155, 231, 232, 233, 234, 172, 173, 174, 594, 595, 596, 597, 598, 599, 600, 601, 602, 603, 604, 605, 606] rfl rfl
set_option maxRecDepth 200000 in
theorem gL_law_X5_about : GoodIn wsL_law (wsV RL 64 RX5 yX5_about wsX5_about) := goodIn_app (goodIn_r _ [398, 399, 400, 5] rfl rfl) ggL_law_X5_about
set_option maxRecDepth 200000 in
theorem ggL_law_X4_ring : GoodIn wsL_law wsX4_ring := goodIn_r _ [405, 19, 406, 407, 408, 18, 409, 44, 410, 411, 412, 413, 294, 122, 123, 124, 303, 137, 138, 139, 42, 106, 2, 107, 140, 141, 142, 77, 143, 144, 145, 146, 589, 590, 591, 592, 593, 614, 615, 616, 607, 608, 609, 610, 611, 612, 613] rfl rfl
set_option maxRecDepth 200000 in
theorem gL_law_X4_ring : GoodIn wsL_law (wsV RL 65 RX4 yX4_ring wsX4_ring) := goodIn_app (goodIn_r _ [402, 403, 404, 2] rfl rfl) ggL_law_X4_ring
set_option maxRecDepth 200000 in
theorem ggL_law_X5_ring : GoodIn wsL_law wsX5_ring := goodIn_r _ [417, 183, 166, 155, 153, 152, 156, 154, 161, 162, 163, 5, 164, 157, 165, 151, 231, 232, 233, 234, 172, 173, 174, 594, 595, 596, 597, 598, 599, 600, 601, 602, 603, 604, 605, 606] rfl rfl
set_option maxRecDepth 200000 in
theorem gL_law_X5_ring : GoodIn wsL_law (wsV RL 69 RX5 yX5_ring wsX5_ring) := goodIn_app (goodIn_r _ [414, 415, 416, 5] rfl rfl) ggL_law_X5_ring
set_option maxRecDepth 200000 in
theorem ggL_law_X4_height : GoodIn wsL_law wsX4_height := goodIn_r _ [421, 15, 19, 397, 199, 200, 14, 201, 62, 422, 296, 297, 18, 298, 44, 294, 122, 123, 124, 299, 300, 301, 302, 42, 77, 106, 2, 107, 303, 137, 138, 139, 140, 141, 142, 143, 144, 145, 146, 589, 590, 591, 592, 593, 607, 608, 609, 610, 611, 612, 613, 614, 615, 616] rfl rfl
set_option maxRecDepth 200000 in
theorem gL_law_X4_height : GoodIn wsL_law (wsV RL 70 RX4 yX4_height wsX4_height) := goodIn_app (goodIn_r _ [418, 419, 420, 2] rfl rfl) ggL_law_X4_height
set_option maxRecDepth 200000 in
theorem ggL_law_X5_height : GoodIn wsL_law wsX5_height := goodIn_r _ [426, 183, 227, 228, 229, 5, 230, 151, 187, 188, 189, 161, 162, 163, 164, 157, 165, 166, 156, 152, 153, 154, 155, 308, 309, 310, 311, 231, 232, 233, 234, 172, 173, 174, 594, 595, 596, 597, 598, 599, 600, 601, 602, 603, 604, 605, 606] rfl rfl
set_option maxRecDepth 200000 in
theorem gL_law_X5_height : GoodIn wsL_law (wsV RL 73 RX5 yX5_height wsX5_height) := goodIn_app (goodIn_r _ [423, 424, 425, 5] rfl rfl) ggL_law_X5_height
set_option maxRecDepth 200000 in
theorem ggL_law_X4_acts : GoodIn wsL_law wsX4_acts := goodIn_r _ [430, 23, 431, 432, 433, 22, 434, 68, 589, 590, 591, 592, 593, 617, 618] rfl rfl
set_option maxRecDepth 200000 in
theorem gL_law_X4_acts : GoodIn wsL_law (wsV RL 74 RX4 yX4_acts wsX4_acts) := goodIn_app (goodIn_r _ [427, 428, 429, 2] rfl rfl) ggL_law_X4_acts
set_option maxRecDepth 200000 in
theorem ggL_law_X5_acts : GoodIn wsL_law wsX5_acts := goodIn_r _ [438, 183, 171, 594, 595, 596, 597, 598, 599, 600, 601, 602, 603, 604, 605, 606] rfl rfl
set_option maxRecDepth 200000 in
theorem gL_law_X5_acts : GoodIn wsL_law (wsV RL 77 RX5 yX5_acts wsX5_acts) := goodIn_app (goodIn_r _ [435, 436, 437, 5] rfl rfl) ggL_law_X5_acts
set_option maxRecDepth 200000 in
theorem ggL_law_X4_moved : GoodIn wsL_law wsX4_moved := goodIn_r _ [442, 23, 443, 444, 445, 22, 446, 68, 447, 448, 449, 450, 451, 452, 453, 454, 455, 456, 457, 458, 48, 589, 590, 591, 592, 593, 617, 618] rfl rfl
set_option maxRecDepth 200000 in
theorem gL_law_X4_moved : GoodIn wsL_law (wsV RL 78 RX4 yX4_moved wsX4_moved) := goodIn_app (goodIn_r _ [439, 440, 441, 2] rfl rfl) ggL_law_X4_moved
set_option maxRecDepth 200000 in
theorem ggL_law_X5_moved : GoodIn wsL_law wsX5_moved := goodIn_r _ [462, 183, 171, 187, 188, 5, 189, 463, 464, 465, 466, 151, 159, 594, 595, 596, 597, 598, 599, 600, 601, 602, 603, 604, 605, 606] rfl rfl
set_option maxRecDepth 200000 in
theorem gL_law_X5_moved : GoodIn wsL_law (wsV RL 81 RX5 yX5_moved wsX5_moved) := goodIn_app (goodIn_r _ [459, 460, 461, 5] rfl rfl) ggL_law_X5_moved
set_option maxRecDepth 200000 in
theorem ggL_law_X4_pair : GoodIn wsL_law wsX4_pair := goodIn_r _ [470, 23, 443, 444, 445, 22, 446, 68, 471, 472, 473, 474, 451, 452, 453, 454, 455, 456, 457, 458, 48, 589, 590, 591, 592, 593, 617, 618] rfl rfl
set_option maxRecDepth 200000 in
theorem gL_law_X4_pair : GoodIn wsL_law (wsV RL 82 RX4 yX4_pair wsX4_pair) := goodIn_app (goodIn_r _ [467, 468, 469, 2] rfl rfl) ggL_law_X4_pair
set_option maxRecDepth 200000 in
theorem ggL_law_X5_pair : GoodIn wsL_law wsX5_pair := goodIn_r _ [478, 183, 171, 187, 188, 5, 189, 463, 464, 465, 466, 151, 159, 594, 595, 596, 597, 598, 599, 600, 601, 602, 603, 604, 605, 606] rfl rfl
set_option maxRecDepth 200000 in
theorem gL_law_X5_pair : GoodIn wsL_law (wsV RL 85 RX5 yX5_pair wsX5_pair) := goodIn_app (goodIn_r _ [475, 476, 477, 5] rfl rfl) ggL_law_X5_pair
set_option maxRecDepth 200000 in
theorem ggL_law_X4_then : GoodIn wsL_law wsX4_then := goodIn_r _ [482, 15, 23, 194, 195, 196, 14, 197, 198, 199, 200, 201, 62, 443, 444, 445, 22, 446, 68, 483, 106, 2, 107, 484, 456, 457, 458, 48, 589, 590, 591, 592, 593, 607, 608, 609, 610, 611, 612, 613, 617, 618] rfl rfl
set_option maxRecDepth 200000 in
theorem gL_law_X4_then : GoodIn wsL_law (wsV RL 86 RX4 yX4_then wsX4_then) := goodIn_app (goodIn_r _ [479, 480, 481, 2] rfl rfl) ggL_law_X4_then
set_option maxRecDepth 200000 in
theorem ggL_law_X5_then : GoodIn wsL_law wsX5_then := goodIn_r _ [488, 183, 171, 159, 227, 228, 229, 5, 230, 151, 187, 188, 189, 594, 595, 596, 597, 598, 599, 600, 601, 602, 603, 604, 605, 606] rfl rfl
set_option maxRecDepth 200000 in
theorem gL_law_X5_then : GoodIn wsL_law (wsV RL 89 RX5 yX5_then wsX5_then) := goodIn_app (goodIn_r _ [485, 486, 487, 5] rfl rfl) ggL_law_X5_then
set_option maxRecDepth 200000 in
theorem ggL_law_X4_since : GoodIn wsL_law wsX4_since := goodIn_r _ [492, 15, 23, 194, 195, 196, 14, 197, 198, 199, 200, 201, 62, 443, 444, 445, 22, 446, 68, 483, 106, 2, 107, 493, 494, 495, 496, 455, 456, 457, 458, 48, 589, 590, 591, 592, 593, 607, 608, 609, 610, 611, 612, 613, 617, 618] rfl rfl
set_option maxRecDepth 200000 in
theorem gL_law_X4_since : GoodIn wsL_law (wsV RL 90 RX4 yX4_since wsX4_since) := goodIn_app (goodIn_r _ [489, 490, 491, 2] rfl rfl) ggL_law_X4_since
set_option maxRecDepth 200000 in
theorem ggL_law_X5_since : GoodIn wsL_law wsX5_since := goodIn_r _ [500, 183, 171, 501, 502, 159, 227, 228, 229, 5, 230, 151, 187, 188, 189, 594, 595, 596, 597, 598, 599, 600, 601, 602, 603, 604, 605, 606] rfl rfl
set_option maxRecDepth 200000 in
theorem gL_law_X5_since : GoodIn wsL_law (wsV RL 94 RX5 yX5_since wsX5_since) := goodIn_app (goodIn_r _ [497, 498, 499, 5] rfl rfl) ggL_law_X5_since
set_option maxRecDepth 200000 in
theorem ggL_law_X4_marks : GoodIn wsL_law wsX4_marks := goodIn_r _ [506, 15, 57, 589, 590, 591, 592, 593, 607, 608, 609, 610, 611, 612, 613] rfl rfl
set_option maxRecDepth 200000 in
theorem gL_law_X4_marks : GoodIn wsL_law (wsV RL 95 RX4 yX4_marks wsX4_marks) := goodIn_app (goodIn_r _ [503, 504, 505, 2] rfl rfl) ggL_law_X4_marks
set_option maxRecDepth 200000 in
theorem ggL_law_X5_marks : GoodIn wsL_law wsX5_marks := goodIn_r _ [510, 183, 151, 186, 594, 595, 596, 597, 598, 599, 600, 601, 602, 603, 604, 605, 606] rfl rfl
set_option maxRecDepth 200000 in
theorem gL_law_X5_marks : GoodIn wsL_law (wsV RL 98 RX5 yX5_marks wsX5_marks) := goodIn_app (goodIn_r _ [507, 508, 509, 5] rfl rfl) ggL_law_X5_marks
set_option maxRecDepth 200000 in
theorem ggL_law_X4_near : GoodIn wsL_law wsX4_near := goodIn_r _ [514, 15, 19, 57, 194, 195, 196, 14, 197, 198, 199, 200, 201, 62, 515, 516, 517, 18, 518, 44, 294, 122, 123, 124, 299, 300, 301, 302, 42, 77, 106, 2, 107, 303, 137, 138, 139, 140, 141, 142, 143, 144, 145, 146, 589, 590, 591, 592, 593, 607, 608, 609, 610, 611, 612, 613, 614, 615, 616] rfl rfl
set_option maxRecDepth 200000 in
theorem gL_law_X4_near : GoodIn wsL_law (wsV RL 99 RX4 yX4_near wsX4_near) := goodIn_app (goodIn_r _ [511, 512, 513, 2] rfl rfl) ggL_law_X4_near
set_option maxRecDepth 200000 in
theorem ggL_law_X5_near : GoodIn wsL_law wsX5_near := goodIn_r _ [522, 183, 227, 228, 229, 5, 230, 151, 187, 188, 189, 161, 162, 163, 164, 157, 165, 166, 156, 152, 153, 154, 155, 523, 524, 525, 526, 186, 231, 232, 233, 234, 172, 173, 174, 594, 595, 596, 597, 598, 599, 600, 601, 602, 603, 604, 605, 606] rfl rfl
set_option maxRecDepth 200000 in
theorem gL_law_X5_near : GoodIn wsL_law (wsV RL 102 RX5 yX5_near wsX5_near) := goodIn_app (goodIn_r _ [519, 520, 521, 5] rfl rfl) ggL_law_X5_near
set_option maxRecDepth 200000 in
theorem ggL_law_X4_worst : GoodIn wsL_law wsX4_worst := goodIn_r _ [530, 15, 19, 57, 531, 532, 123, 533, 534, 300, 301, 18, 302, 42, 77, 106, 2, 107, 515, 516, 517, 518, 44, 294, 122, 124, 299, 303, 137, 138, 139, 140, 141, 142, 143, 144, 145, 146, 316, 589, 590, 591, 592, 593, 607, 608, 609, 610, 611, 612, 613, 614, 615, 616] rfl rfl
set_option maxRecDepth 200000 in
theorem gL_law_X4_worst : GoodIn wsL_law (wsV RL 103 RX4 yX4_worst wsX4_worst) := goodIn_app (goodIn_r _ [527, 528, 529, 2] rfl rfl) ggL_law_X4_worst
set_option maxRecDepth 200000 in
theorem ggL_law_X5_worst : GoodIn wsL_law wsX5_worst := goodIn_r _ [538, 183, 151, 161, 162, 163, 5, 164, 157, 165, 166, 156, 152, 153, 154, 155, 231, 232, 233, 234, 172, 173, 174, 523, 524, 525, 526, 186, 594, 595, 596, 597, 598, 599, 600, 601, 602, 603, 604, 605, 606] rfl rfl
set_option maxRecDepth 200000 in
theorem gL_law_X5_worst : GoodIn wsL_law (wsV RL 106 RX5 yX5_worst wsX5_worst) := goodIn_app (goodIn_r _ [535, 536, 537, 5] rfl rfl) ggL_law_X5_worst
set_option maxRecDepth 200000 in
theorem ggL_law_X4_hits : GoodIn wsL_law wsX4_hits := goodIn_r _ [542, 27, 19, 15, 543, 544, 545, 26, 546, 547, 52, 548, 326, 327, 18, 328, 42, 77, 106, 2, 107, 329, 330, 145, 331, 549, 550, 551, 552, 44, 344, 345, 346, 347, 348, 349, 199, 200, 14, 201, 62, 299, 300, 301, 302, 350, 351, 352, 353, 37, 32, 33, 36, 354, 244, 245, 246, 63, 98, 99, 100, 101, 553, 554, 555, 556, 557, 558, 559, 560, 561, 562, 563, 564, 565, 566, 567, 589, 590, 591, 592, 593, 607, 608, 609, 610, 611, 612, 613, 619, 620, 614, 615, 616] rfl rfl
set_option maxRecDepth 200000 in
theorem gL_law_X4_hits : GoodIn wsL_law (wsV RL 107 RX4 yX4_hits wsX4_hits) := goodIn_app (goodIn_r _ [539, 540, 541, 2] rfl rfl) ggL_law_X4_hits
set_option maxRecDepth 200000 in
theorem ggL_law_X5_hits : GoodIn wsL_law wsX5_hits := goodIn_r _ [571, 183, 572, 151, 157, 165, 160, 187, 188, 5, 189, 161, 162, 163, 164, 166, 156, 152, 153, 154, 155, 172, 173, 174, 359, 360, 361, 362, 363, 364, 365, 366, 573, 574, 575, 594, 595, 596, 597, 598, 599, 600, 601, 602, 603, 604, 605, 606] rfl rfl
set_option maxRecDepth 200000 in
theorem gL_law_X5_hits : GoodIn wsL_law (wsV RL 110 RX5 yX5_hits wsX5_hits) := goodIn_app (goodIn_r _ [568, 569, 570, 5] rfl rfl) ggL_law_X5_hits
set_option maxRecDepth 200000 in
theorem ggL_law_X4_count : GoodIn wsL_law wsX4_count := goodIn_r _ [579, 15, 19, 57, 263, 264, 265, 14, 266, 63, 37, 580, 581, 582, 18, 583, 44, 299, 300, 301, 302, 42, 77, 106, 2, 107, 584, 558, 559, 560, 561, 562, 563, 589, 590, 591, 592, 593, 607, 608, 609, 610, 611, 612, 613, 614, 615, 616] rfl rfl
set_option maxRecDepth 200000 in
theorem gL_law_X4_count : GoodIn wsL_law (wsV RL 111 RX4 yX4_count wsX4_count) := goodIn_app (goodIn_r _ [576, 577, 578, 2] rfl rfl) ggL_law_X4_count
set_option maxRecDepth 200000 in
theorem ggL_law_X5_count : GoodIn wsL_law wsX5_count := goodIn_r _ [588, 183, 151, 166, 186, 161, 162, 163, 5, 164, 157, 165, 156, 152, 153, 154, 155, 231, 232, 233, 234, 172, 173, 174, 271, 272, 273, 274, 573, 574, 575, 594, 595, 596, 597, 598, 599, 600, 601, 602, 603, 604, 605, 606] rfl rfl
set_option maxRecDepth 200000 in
theorem gL_law_X5_count : GoodIn wsL_law (wsV RL 114 RX5 yX5_count wsX5_count) := goodIn_app (goodIn_r _ [585, 586, 587, 5] rfl rfl) ggL_law_X5_count
end
