section
-- ===== PART A: goes FIRST, ahead of the names: the tables' words, and 'selects' of the private methods out of them =====
/-- a private method of a class that the tables say can be made, by its rows of tables_1 -/
def lw_okq (q : MethodName × Nat) : Prop := (q.1.cls ≠ "java/lang/invoke/MethodHandle" ∧ q.1.cls ≠ "java/lang/invoke/VarHandle") ∧ Cond.instantiable q.1.cls q.2 ∈ tables_1 ∧ Cond.privateMethod q.1 ∈ tables_1 ∧ Cond.instanceMethod q.1 ∈ tables_1
theorem lw_p0 : lw_okq (⟨"SpanSolids", "useUpSizes", "()I"⟩, 7) := ⟨⟨by decide +kernel, by decide +kernel⟩, List.mem_of_getElem? (i := 16) (by decide +kernel), List.mem_of_getElem? (i := 121) (by decide +kernel), List.mem_of_getElem? (i := 122) (by decide +kernel)⟩
theorem lw_p1 : lw_okq (⟨"SpanSolids", "radiusOf", "(I)I"⟩, 7) := ⟨⟨by decide +kernel, by decide +kernel⟩, List.mem_of_getElem? (i := 16) (by decide +kernel), List.mem_of_getElem? (i := 128) (by decide +kernel), List.mem_of_getElem? (i := 129) (by decide +kernel)⟩
theorem lw_p2 : lw_okq (⟨"SpanSolids", "isFull", "()Z"⟩, 7) := ⟨⟨by decide +kernel, by decide +kernel⟩, List.mem_of_getElem? (i := 16) (by decide +kernel), List.mem_of_getElem? (i := 132) (by decide +kernel), List.mem_of_getElem? (i := 133) (by decide +kernel)⟩
theorem lw_p3 : lw_okq (⟨"SpanSolids", "newShape", "(I)LSpanSolids$Solid;"⟩, 7) := ⟨⟨by decide +kernel, by decide +kernel⟩, List.mem_of_getElem? (i := 16) (by decide +kernel), List.mem_of_getElem? (i := 136) (by decide +kernel), List.mem_of_getElem? (i := 137) (by decide +kernel)⟩
theorem lw_p4 : lw_okq (⟨"SpanSolids", "keep", "(LSpanSolids$Solid;)I"⟩, 7) := ⟨⟨by decide +kernel, by decide +kernel⟩, List.mem_of_getElem? (i := 16) (by decide +kernel), List.mem_of_getElem? (i := 241) (by decide +kernel), List.mem_of_getElem? (i := 242) (by decide +kernel)⟩
theorem lw_p5 : lw_okq (⟨"SpanSolids", "find", "(I)LSpanSolids$Solid;"⟩, 7) := ⟨⟨by decide +kernel, by decide +kernel⟩, List.mem_of_getElem? (i := 16) (by decide +kernel), List.mem_of_getElem? (i := 249) (by decide +kernel), List.mem_of_getElem? (i := 250) (by decide +kernel)⟩
theorem lw_p6 : lw_okq (⟨"SpanSolids", "lookOver", "(LSpanSolids$Solid;IILSpanSolids$Runs;)V"⟩, 7) := ⟨⟨by decide +kernel, by decide +kernel⟩, List.mem_of_getElem? (i := 16) (by decide +kernel), List.mem_of_getElem? (i := 322) (by decide +kernel), List.mem_of_getElem? (i := 323) (by decide +kernel)⟩
theorem lw_p7 : lw_okq (⟨"SpanSolids$Walk", "lookAt", "(I)V"⟩, 7) := ⟨⟨by decide +kernel, by decide +kernel⟩, List.mem_of_getElem? (i := 26) (by decide +kernel), List.mem_of_getElem? (i := 342) (by decide +kernel), List.mem_of_getElem? (i := 343) (by decide +kernel)⟩
theorem lw_p8 : lw_okq (⟨"SpanSolids$FoundSets", "mix", "(III)I"⟩, 5) := ⟨⟨by decide +kernel, by decide +kernel⟩, List.mem_of_getElem? (i := 33) (by decide +kernel), List.mem_of_getElem? (i := 350) (by decide +kernel), List.mem_of_getElem? (i := 351) (by decide +kernel)⟩
theorem lw_p9 : lw_okq (⟨"SpanSolids$FoundSets", "nextEdge", "(III)I"⟩, 5) := ⟨⟨by decide +kernel, by decide +kernel⟩, List.mem_of_getElem? (i := 33) (by decide +kernel), List.mem_of_getElem? (i := 354) (by decide +kernel), List.mem_of_getElem? (i := 355) (by decide +kernel)⟩
theorem lw_p10 : lw_okq (⟨"SpanSolids$Cone", "leastDepth", "(J)I"⟩, 6) := ⟨⟨by decide +kernel, by decide +kernel⟩, List.mem_of_getElem? (i := 218) (by decide +kernel), List.mem_of_getElem? (i := 396) (by decide +kernel), List.mem_of_getElem? (i := 397) (by decide +kernel)⟩
theorem lw_p11 : lw_okq (⟨"SpanSolidsModel", "made", "(II)I"⟩, 12) := ⟨⟨by decide +kernel, by decide +kernel⟩, List.mem_of_getElem? (i := 476) (by decide +kernel), List.mem_of_getElem? (i := 528) (by decide +kernel), List.mem_of_getElem? (i := 529) (by decide +kernel)⟩
theorem lw_p12 : lw_okq (⟨"SpanSolidsModel", "isSolid", "(I)Z"⟩, 12) := ⟨⟨by decide +kernel, by decide +kernel⟩, List.mem_of_getElem? (i := 476) (by decide +kernel), List.mem_of_getElem? (i := 536) (by decide +kernel), List.mem_of_getElem? (i := 537) (by decide +kernel)⟩
theorem lw_p13 : lw_okq (⟨"SpanSolidsModel", "isIn", "(IJJJ)Z"⟩, 12) := ⟨⟨by decide +kernel, by decide +kernel⟩, List.mem_of_getElem? (i := 476) (by decide +kernel), List.mem_of_getElem? (i := 557) (by decide +kernel), List.mem_of_getElem? (i := 558) (by decide +kernel)⟩
theorem lw_p14 : lw_okq (⟨"SpanSolidsModel", "number", "(II)I"⟩, 12) := ⟨⟨by decide +kernel, by decide +kernel⟩, List.mem_of_getElem? (i := 476) (by decide +kernel), List.mem_of_getElem? (i := 561) (by decide +kernel), List.mem_of_getElem? (i := 562) (by decide +kernel)⟩
theorem lw_p15 : lw_okq (⟨"SpanSolidsModel", "isInKind", "(IJJJ)Z"⟩, 12) := ⟨⟨by decide +kernel, by decide +kernel⟩, List.mem_of_getElem? (i := 476) (by decide +kernel), List.mem_of_getElem? (i := 565) (by decide +kernel), List.mem_of_getElem? (i := 566) (by decide +kernel)⟩
def lw_privs_1 : List (MethodName × Nat) := [(⟨"SpanSolids", "useUpSizes", "()I"⟩, 7), (⟨"SpanSolids", "radiusOf", "(I)I"⟩, 7), (⟨"SpanSolids", "isFull", "()Z"⟩, 7), (⟨"SpanSolids", "newShape", "(I)LSpanSolids$Solid;"⟩, 7), (⟨"SpanSolids", "keep", "(LSpanSolids$Solid;)I"⟩, 7), (⟨"SpanSolids", "find", "(I)LSpanSolids$Solid;"⟩, 7), (⟨"SpanSolids", "lookOver", "(LSpanSolids$Solid;IILSpanSolids$Runs;)V"⟩, 7), (⟨"SpanSolids$Walk", "lookAt", "(I)V"⟩, 7), (⟨"SpanSolids$FoundSets", "mix", "(III)I"⟩, 5), (⟨"SpanSolids$FoundSets", "nextEdge", "(III)I"⟩, 5), (⟨"SpanSolids$Cone", "leastDepth", "(J)I"⟩, 6), (⟨"SpanSolidsModel", "made", "(II)I"⟩, 12), (⟨"SpanSolidsModel", "isSolid", "(I)Z"⟩, 12), (⟨"SpanSolidsModel", "isIn", "(IJJJ)Z"⟩, 12), (⟨"SpanSolidsModel", "number", "(II)I"⟩, 12), (⟨"SpanSolidsModel", "isInKind", "(IJJJ)Z"⟩, 12)]
theorem lw_r1 : ∀ q ∈ lw_privs_1, lw_okq q := List.forall_mem_cons.mpr ⟨lw_p0, List.forall_mem_cons.mpr ⟨lw_p1, List.forall_mem_cons.mpr ⟨lw_p2, List.forall_mem_cons.mpr ⟨lw_p3, List.forall_mem_cons.mpr ⟨lw_p4, List.forall_mem_cons.mpr ⟨lw_p5, List.forall_mem_cons.mpr ⟨lw_p6, List.forall_mem_cons.mpr ⟨lw_p7, List.forall_mem_cons.mpr ⟨lw_p8, List.forall_mem_cons.mpr ⟨lw_p9, List.forall_mem_cons.mpr ⟨lw_p10, List.forall_mem_cons.mpr ⟨lw_p11, List.forall_mem_cons.mpr ⟨lw_p12, List.forall_mem_cons.mpr ⟨lw_p13, List.forall_mem_cons.mpr ⟨lw_p14, List.forall_mem_cons.mpr ⟨lw_p15, fun _ h => absurd h List.not_mem_nil⟩⟩⟩⟩⟩⟩⟩⟩⟩⟩⟩⟩⟩⟩⟩⟩
theorem lw_p16 : lw_okq (⟨"SpanSolidsModel", "topOf", "(III)I"⟩, 12) := ⟨⟨by decide +kernel, by decide +kernel⟩, List.mem_of_getElem? (i := 476) (by decide +kernel), List.mem_of_getElem? (i := 576) (by decide +kernel), List.mem_of_getElem? (i := 577) (by decide +kernel)⟩
theorem lw_p17 : lw_okq (⟨"SpanSolidsModel", "rise", "(IJJII)V"⟩, 12) := ⟨⟨by decide +kernel, by decide +kernel⟩, List.mem_of_getElem? (i := 476) (by decide +kernel), List.mem_of_getElem? (i := 580) (by decide +kernel), List.mem_of_getElem? (i := 581) (by decide +kernel)⟩
theorem lw_p18 : lw_okq (⟨"SpanSolidsModel", "ends", "(IJJJ)V"⟩, 12) := ⟨⟨by decide +kernel, by decide +kernel⟩, List.mem_of_getElem? (i := 476) (by decide +kernel), List.mem_of_getElem? (i := 593) (by decide +kernel), List.mem_of_getElem? (i := 594) (by decide +kernel)⟩
theorem lw_p19 : lw_okq (⟨"SpanSolidsModel", "last", "(IJJJ)J"⟩, 12) := ⟨⟨by decide +kernel, by decide +kernel⟩, List.mem_of_getElem? (i := 476) (by decide +kernel), List.mem_of_getElem? (i := 597) (by decide +kernel), List.mem_of_getElem? (i := 598) (by decide +kernel)⟩
theorem lw_p20 : lw_okq (⟨"SpanSolidsModel", "height", "(J)V"⟩, 12) := ⟨⟨by decide +kernel, by decide +kernel⟩, List.mem_of_getElem? (i := 476) (by decide +kernel), List.mem_of_getElem? (i := 603) (by decide +kernel), List.mem_of_getElem? (i := 604) (by decide +kernel)⟩
theorem lw_p21 : lw_okq (⟨"SpanSolidsModel", "sort", "()V"⟩, 12) := ⟨⟨by decide +kernel, by decide +kernel⟩, List.mem_of_getElem? (i := 476) (by decide +kernel), List.mem_of_getElem? (i := 607) (by decide +kernel), List.mem_of_getElem? (i := 608) (by decide +kernel)⟩
def lw_privs_2 : List (MethodName × Nat) := [(⟨"SpanSolidsModel", "topOf", "(III)I"⟩, 12), (⟨"SpanSolidsModel", "rise", "(IJJII)V"⟩, 12), (⟨"SpanSolidsModel", "ends", "(IJJJ)V"⟩, 12), (⟨"SpanSolidsModel", "last", "(IJJJ)J"⟩, 12), (⟨"SpanSolidsModel", "height", "(J)V"⟩, 12), (⟨"SpanSolidsModel", "sort", "()V"⟩, 12)]
theorem lw_r2 : ∀ q ∈ lw_privs_2, lw_okq q := List.forall_mem_cons.mpr ⟨lw_p16, List.forall_mem_cons.mpr ⟨lw_p17, List.forall_mem_cons.mpr ⟨lw_p18, List.forall_mem_cons.mpr ⟨lw_p19, List.forall_mem_cons.mpr ⟨lw_p20, List.forall_mem_cons.mpr ⟨lw_p21, fun _ h => absurd h List.not_mem_nil⟩⟩⟩⟩⟩⟩
def lw_privs : List (MethodName × Nat) := lw_privs_1 ++ (lw_privs_2)
def lw_tbl : List Cond := k2_sels lw_privs ++ tables_1
theorem lw_privs_ok : ∀ q ∈ lw_privs, lw_okq q := by
  show ∀ q ∈ lw_privs_1 ++ (lw_privs_2), lw_okq q
  exact List.forall_mem_append.mpr ⟨lw_r1, lw_r2⟩
-- ===== end of PART A =====
theorem goodIn_r {big : List Cond} (ws : List Cond) (ps : List Nat) (hp : ws = ps.filterMap (fun i => big[i]?)) (h : ws.all goodWord = true) : GoodIn big ws := by
  intro w hw
  have h1 := List.all_eq_true.mp h w hw
  rw [hp] at hw
  obtain ⟨i, -, hi⟩ := List.mem_filterMap.mp hw
  have hm : w ∈ big := by first | exact List.mem_of_getElem? hi | exact List.getElem?_mem hi
  exact ⟨hm, good_of_word h1⟩
theorem goodIn_app {big a b : List Cond} (ha : GoodIn big a) (hb : GoodIn big b) : GoodIn big (a ++ b) := fun w h => (List.mem_append.mp h).elim (ha w) (hb w)
theorem goodIn_ca {big a b : List Cond} {c : Cond} (ha : GoodIn big (c :: a)) (hb : GoodIn big b) : GoodIn big (c :: (a ++ b)) := fun w h => (List.mem_cons.mp h).elim (fun e => ha w (List.mem_cons.mpr (Or.inl e))) (fun h => (List.mem_append.mp h).elim (fun h => ha w (List.mem_cons.mpr (Or.inr h))) (hb w))
theorem goodIn_sub {big ws : List Cond} (hm : ∀ w ∈ ws, w ∈ big) (h : ws.all goodWord = true) : GoodIn big ws := fun w hw => ⟨hm w hw, good_of_word (List.all_eq_true.mp h w hw)⟩
def RX0 : String := "SpanSolids$Ball"
def TX0 : u_T := fun k => match k with
  | 0 => ("SpanSolids$Solid", "weight", "I", true)
  | 1 => ("SpanSolids$Ball", "x", "I", true)
  | 2 => ("SpanSolids$Ball", "y", "I", true)
  | 3 => ("SpanSolids$Ball", "z", "I", true)
  | _ => ("SpanSolids$Ball", "\x72", "I", true)
def tyX0 : Nat → FieldType := fun k => match k with
  | 0 => .int
  | 1 => .int
  | 2 => .int
  | 3 => .int
  | _ => .int
abbrev wsX00 : List Cond := u_ws RX0 TX0 5
theorem nmX0 : ∀ a, a < 5 → ∀ b, b < 5 → a ≠ b → (TX0 a).2.1 ≠ (TX0 b).2.1 := by decide +kernel
theorem tyX0_ok : ∀ k, k < 5 → parseFieldDescriptor (TX0 k).2.2.1 = some (tyX0 k) := by decide +kernel
abbrev cX0_init : ByteArray := prog_2_method_1_code
def yX0_init : MethodName := ⟨RX0, "<init>", "(IIII)V"⟩
abbrev cX0_lookFrom : ByteArray := prog_2_method_2_code
def yX0_lookFrom : MethodName := ⟨RX0, "lookFrom", "(IIILSpanSolids$Walk;)V"⟩
def RX1 : String := "SpanSolids$Box"
def TX1 : u_T := fun k => match k with
  | 0 => ("SpanSolids$Solid", "weight", "I", true)
  | 1 => ("SpanSolids$Box", "x", "I", true)
  | 2 => ("SpanSolids$Box", "y", "I", true)
  | 3 => ("SpanSolids$Box", "z", "I", true)
  | 4 => ("SpanSolids$Box", "endX", "I", true)
  | 5 => ("SpanSolids$Box", "endY", "I", true)
  | _ => ("SpanSolids$Box", "endZ", "I", true)
def tyX1 : Nat → FieldType := fun k => match k with
  | 0 => .int
  | 1 => .int
  | 2 => .int
  | 3 => .int
  | 4 => .int
  | 5 => .int
  | _ => .int
abbrev wsX10 : List Cond := u_ws RX1 TX1 7
theorem nmX1 : ∀ a, a < 7 → ∀ b, b < 7 → a ≠ b → (TX1 a).2.1 ≠ (TX1 b).2.1 := by decide +kernel
theorem tyX1_ok : ∀ k, k < 7 → parseFieldDescriptor (TX1 k).2.2.1 = some (tyX1 k) := by decide +kernel
abbrev cX1_init : ByteArray := prog_3_method_1_code
def yX1_init : MethodName := ⟨RX1, "<init>", "(IIIIII)V"⟩
abbrev cX1_lookFrom : ByteArray := prog_3_method_2_code
def yX1_lookFrom : MethodName := ⟨RX1, "lookFrom", "(IIILSpanSolids$Walk;)V"⟩
def RX2 : String := "SpanSolids$Cone"
def TX2 : u_T := fun k => match k with
  | 0 => ("SpanSolids$Solid", "weight", "I", true)
  | 1 => ("SpanSolids$Cone", "x", "I", true)
  | 2 => ("SpanSolids$Cone", "y", "I", true)
  | 3 => ("SpanSolids$Cone", "\x72", "I", true)
  | 4 => ("SpanSolids$Cone", "z", "I", true)
  | _ => ("SpanSolids$Cone", "endZ", "I", true)
def tyX2 : Nat → FieldType := fun k => match k with
  | 0 => .int
  | 1 => .int
  | 2 => .int
  | 3 => .int
  | 4 => .int
  | _ => .int
abbrev wsX20 : List Cond := u_ws RX2 TX2 6
theorem nmX2 : ∀ a, a < 6 → ∀ b, b < 6 → a ≠ b → (TX2 a).2.1 ≠ (TX2 b).2.1 := by decide +kernel
theorem tyX2_ok : ∀ k, k < 6 → parseFieldDescriptor (TX2 k).2.2.1 = some (tyX2 k) := by decide +kernel
abbrev cX2_init : ByteArray := prog_4_method_1_code
def yX2_init : MethodName := ⟨RX2, "<init>", "(IIIII)V"⟩
abbrev cX2_lookFrom : ByteArray := prog_4_method_2_code
def yX2_lookFrom : MethodName := ⟨RX2, "lookFrom", "(IIILSpanSolids$Walk;)V"⟩
abbrev cX2_leastDepth : ByteArray := prog_4_method_3_code
def yX2_leastDepth : MethodName := ⟨RX2, "leastDepth", "(J)I"⟩
def RX3 : String := "SpanSolids$FoundSets"
def TX3 : u_T := fun k => match k with
  | 0 => ("SpanSolids$FoundSets", "edges", "[I", true)
  | 1 => ("SpanSolids$FoundSets", "starts", "[I", true)
  | 2 => ("SpanSolids$FoundSets", "mixed", "[I", true)
  | 3 => ("SpanSolids$FoundSets", "edgeCount", "I", false)
  | _ => ("SpanSolids$FoundSets", "setCount", "I", false)
def tyX3 : Nat → FieldType := fun k => match k with
  | 0 => .array .int
  | 1 => .array .int
  | 2 => .array .int
  | 3 => .int
  | _ => .int
abbrev wsX30 : List Cond := u_ws RX3 TX3 5
theorem nmX3 : ∀ a, a < 5 → ∀ b, b < 5 → a ≠ b → (TX3 a).2.1 ≠ (TX3 b).2.1 := by decide +kernel
theorem tyX3_ok : ∀ k, k < 5 → parseFieldDescriptor (TX3 k).2.2.1 = some (tyX3 k) := by decide +kernel
abbrev cX3_init : ByteArray := prog_5_method_1_code
def yX3_init : MethodName := ⟨RX3, "<init>", "()V"⟩
abbrev cX3_clear : ByteArray := prog_5_method_2_code
def yX3_clear : MethodName := ⟨RX3, "clear", "()V"⟩
abbrev cX3_add : ByteArray := prog_5_method_3_code
def yX3_add : MethodName := ⟨RX3, "add", "(II)V"⟩
abbrev cX3_joinNewest : ByteArray := prog_5_method_4_code
def yX3_joinNewest : MethodName := ⟨RX3, "joinNewest", "(I)V"⟩
abbrev cX3_mix : ByteArray := prog_5_method_5_code
def yX3_mix : MethodName := ⟨RX3, "mix", "(III)I"⟩
abbrev cX3_nextEdge : ByteArray := prog_5_method_6_code
def yX3_nextEdge : MethodName := ⟨RX3, "nextEdge", "(III)I"⟩
abbrev cX3_isJoined : ByteArray := prog_5_method_7_code
def yX3_isJoined : MethodName := ⟨RX3, "isJoined", "(ZZI)Z"⟩
abbrev cX3_copyTo : ByteArray := prog_5_method_8_code
def yX3_copyTo : MethodName := ⟨RX3, "copyTo", "(LSpanSolids$Runs;)V"⟩
def RX4 : String := "SpanSolids$Joined"
def TX4 : u_T := fun k => match k with
  | 0 => ("SpanSolids$Solid", "weight", "I", true)
  | 1 => ("SpanSolids$Joined", "first", "LSpanSolids$Solid;", true)
  | 2 => ("SpanSolids$Joined", "second", "LSpanSolids$Solid;", true)
  | _ => ("SpanSolids$Joined", "how", "I", true)
def tyX4 : Nat → FieldType := fun k => match k with
  | 0 => .int
  | 1 => .object "SpanSolids$Solid"
  | 2 => .object "SpanSolids$Solid"
  | _ => .int
abbrev wsX40 : List Cond := u_ws RX4 TX4 4
theorem nmX4 : ∀ a, a < 4 → ∀ b, b < 4 → a ≠ b → (TX4 a).2.1 ≠ (TX4 b).2.1 := by decide +kernel
theorem tyX4_ok : ∀ k, k < 4 → parseFieldDescriptor (TX4 k).2.2.1 = some (tyX4 k) := by decide +kernel
abbrev cX4_init : ByteArray := prog_6_method_1_code
def yX4_init : MethodName := ⟨RX4, "<init>", "(LSpanSolids$Solid;LSpanSolids$Solid;I)V"⟩
abbrev cX4_lookFrom : ByteArray := prog_6_method_2_code
def yX4_lookFrom : MethodName := ⟨RX4, "lookFrom", "(IIILSpanSolids$Walk;)V"⟩
def RX5 : String := "SpanSolids$Moved"
def TX5 : u_T := fun k => match k with
  | 0 => ("SpanSolids$Solid", "weight", "I", true)
  | 1 => ("SpanSolids$Moved", "part", "LSpanSolids$Solid;", true)
  | 2 => ("SpanSolids$Moved", "byX", "I", true)
  | 3 => ("SpanSolids$Moved", "byY", "I", true)
  | _ => ("SpanSolids$Moved", "byZ", "I", true)
def tyX5 : Nat → FieldType := fun k => match k with
  | 0 => .int
  | 1 => .object "SpanSolids$Solid"
  | 2 => .int
  | 3 => .int
  | _ => .int
abbrev wsX50 : List Cond := u_ws RX5 TX5 5
theorem nmX5 : ∀ a, a < 5 → ∀ b, b < 5 → a ≠ b → (TX5 a).2.1 ≠ (TX5 b).2.1 := by decide +kernel
theorem tyX5_ok : ∀ k, k < 5 → parseFieldDescriptor (TX5 k).2.2.1 = some (tyX5 k) := by decide +kernel
abbrev cX5_init : ByteArray := prog_7_method_1_code
def yX5_init : MethodName := ⟨RX5, "<init>", "(LSpanSolids$Solid;III)V"⟩
abbrev cX5_lookFrom : ByteArray := prog_7_method_2_code
def yX5_lookFrom : MethodName := ⟨RX5, "lookFrom", "(IIILSpanSolids$Walk;)V"⟩
def RX6 : String := "SpanSolids$Post"
def TX6 : u_T := fun k => match k with
  | 0 => ("SpanSolids$Solid", "weight", "I", true)
  | 1 => ("SpanSolids$Post", "x", "I", true)
  | 2 => ("SpanSolids$Post", "y", "I", true)
  | 3 => ("SpanSolids$Post", "\x72", "I", true)
  | 4 => ("SpanSolids$Post", "z", "I", true)
  | _ => ("SpanSolids$Post", "endZ", "I", true)
def tyX6 : Nat → FieldType := fun k => match k with
  | 0 => .int
  | 1 => .int
  | 2 => .int
  | 3 => .int
  | 4 => .int
  | _ => .int
abbrev wsX60 : List Cond := u_ws RX6 TX6 6
theorem nmX6 : ∀ a, a < 6 → ∀ b, b < 6 → a ≠ b → (TX6 a).2.1 ≠ (TX6 b).2.1 := by decide +kernel
theorem tyX6_ok : ∀ k, k < 6 → parseFieldDescriptor (TX6 k).2.2.1 = some (tyX6 k) := by decide +kernel
abbrev cX6_init : ByteArray := prog_8_method_1_code
def yX6_init : MethodName := ⟨RX6, "<init>", "(IIIII)V"⟩
abbrev cX6_lookFrom : ByteArray := prog_8_method_2_code
def yX6_lookFrom : MethodName := ⟨RX6, "lookFrom", "(IIILSpanSolids$Walk;)V"⟩
def RX7 : String := "SpanSolids$Runs"
def TX7 : u_T := fun k => match k with
  | 0 => ("SpanSolids$Runs", "edges", "[I", true)
  | _ => ("SpanSolids$Runs", "edgeCount", "I", false)
def tyX7 : Nat → FieldType := fun k => match k with
  | 0 => .array .int
  | _ => .int
abbrev wsX70 : List Cond := u_ws RX7 TX7 2
theorem nmX7 : ∀ a, a < 2 → ∀ b, b < 2 → a ≠ b → (TX7 a).2.1 ≠ (TX7 b).2.1 := by decide +kernel
theorem tyX7_ok : ∀ k, k < 2 → parseFieldDescriptor (TX7 k).2.2.1 = some (tyX7 k) := by decide +kernel
abbrev cX7_init : ByteArray := prog_9_method_1_code
def yX7_init : MethodName := ⟨RX7, "<init>", "()V"⟩
abbrev cX7_clear : ByteArray := prog_9_method_2_code
def yX7_clear : MethodName := ⟨RX7, "clear", "()V"⟩
abbrev cX7_copyFrom : ByteArray := prog_9_method_3_code
def yX7_copyFrom : MethodName := ⟨RX7, "copyFrom", "([II)V"⟩
abbrev cX7_runCount : ByteArray := prog_9_method_4_code
def yX7_runCount : MethodName := ⟨RX7, "runCount", "()I"⟩
abbrev cX7_firstOf : ByteArray := prog_9_method_5_code
def yX7_firstOf : MethodName := ⟨RX7, "firstOf", "(I)I"⟩
abbrev cX7_lastOf : ByteArray := prog_9_method_6_code
def yX7_lastOf : MethodName := ⟨RX7, "lastOf", "(I)I"⟩
abbrev cX7_countFrom : ByteArray := prog_9_method_7_code
def yX7_countFrom : MethodName := ⟨RX7, "countFrom", "(II)J"⟩
abbrev cX7_afterGreatest : ByteArray := prog_9_method_8_code
def yX7_afterGreatest : MethodName := ⟨RX7, "afterGreatest", "()I"⟩
def RX8 : String := "SpanSolids$Solid"
def TX8 : u_T := fun k => match k with
  | _ => ("", "", "", false)
def tyX8 : Nat → FieldType := fun k => match k with
  | _ => .int
abbrev wsX80 : List Cond := u_ws RX8 TX8 0
theorem nmX8 : ∀ a, a < 0 → ∀ b, b < 0 → a ≠ b → (TX8 a).2.1 ≠ (TX8 b).2.1 := by decide +kernel
theorem tyX8_ok : ∀ k, k < 0 → parseFieldDescriptor (TX8 k).2.2.1 = some (tyX8 k) := by decide +kernel
abbrev cX8_init : ByteArray := prog_10_method_1_code
def yX8_init : MethodName := ⟨RX8, "<init>", "(I)V"⟩
def RX9 : String := "SpanSolids$Turned"
def TX9 : u_T := fun k => match k with
  | 0 => ("SpanSolids$Solid", "weight", "I", true)
  | _ => ("SpanSolids$Turned", "part", "LSpanSolids$Solid;", true)
def tyX9 : Nat → FieldType := fun k => match k with
  | 0 => .int
  | _ => .object "SpanSolids$Solid"
abbrev wsX90 : List Cond := u_ws RX9 TX9 2
theorem nmX9 : ∀ a, a < 2 → ∀ b, b < 2 → a ≠ b → (TX9 a).2.1 ≠ (TX9 b).2.1 := by decide +kernel
theorem tyX9_ok : ∀ k, k < 2 → parseFieldDescriptor (TX9 k).2.2.1 = some (tyX9 k) := by decide +kernel
abbrev cX9_init : ByteArray := prog_11_method_1_code
def yX9_init : MethodName := ⟨RX9, "<init>", "(LSpanSolids$Solid;)V"⟩
abbrev cX9_lookFrom : ByteArray := prog_11_method_2_code
def yX9_lookFrom : MethodName := ⟨RX9, "lookFrom", "(IIILSpanSolids$Walk;)V"⟩
def RX10 : String := "SpanSolids$Walk"
def TX10 : u_T := fun k => match k with
  | 0 => ("SpanSolids$Walk", "waiting", "[LSpanSolids$Solid;", true)
  | 1 => ("SpanSolids$Walk", "xs", "[I", true)
  | 2 => ("SpanSolids$Walk", "ys", "[I", true)
  | 3 => ("SpanSolids$Walk", "lifts", "[I", true)
  | 4 => ("SpanSolids$Walk", "hows", "[I", true)
  | 5 => ("SpanSolids$Walk", "waitingCount", "I", false)
  | _ => ("SpanSolids$Walk", "found", "LSpanSolids$FoundSets;", true)
def tyX10 : Nat → FieldType := fun k => match k with
  | 0 => .array (.object "SpanSolids$Solid")
  | 1 => .array .int
  | 2 => .array .int
  | 3 => .array .int
  | 4 => .array .int
  | 5 => .int
  | _ => .object "SpanSolids$FoundSets"
abbrev wsX100 : List Cond := u_ws RX10 TX10 7
theorem nmX10 : ∀ a, a < 7 → ∀ b, b < 7 → a ≠ b → (TX10 a).2.1 ≠ (TX10 b).2.1 := by decide +kernel
theorem tyX10_ok : ∀ k, k < 7 → parseFieldDescriptor (TX10 k).2.2.1 = some (tyX10 k) := by decide +kernel
abbrev cX10_init : ByteArray := prog_12_method_1_code
def yX10_init : MethodName := ⟨RX10, "<init>", "()V"⟩
abbrev cX10_over : ByteArray := prog_12_method_2_code
def yX10_over : MethodName := ⟨RX10, "over", "(LSpanSolids$Solid;IILSpanSolids$Runs;)V"⟩
abbrev cX10_lookAt : ByteArray := prog_12_method_3_code
def yX10_lookAt : MethodName := ⟨RX10, "lookAt", "(I)V"⟩
abbrev cX10_await : ByteArray := prog_12_method_4_code
def yX10_await : MethodName := ⟨RX10, "await", "(LSpanSolids$Solid;III)V"⟩
abbrev cX10_awaitJoin : ByteArray := prog_12_method_5_code
def yX10_awaitJoin : MethodName := ⟨RX10, "awaitJoin", "(I)V"⟩
abbrev cX10_give : ByteArray := prog_12_method_6_code
def yX10_give : MethodName := ⟨RX10, "give", "(II)V"⟩
abbrev cX10_giveNone : ByteArray := prog_12_method_7_code
def yX10_giveNone : MethodName := ⟨RX10, "giveNone", "()V"⟩
def RX11 : String := "SpanSolids"
def TX11 : u_T := fun k => match k with
  | 0 => ("SpanSolids", "sizes", "[I", true)
  | 1 => ("SpanSolids", "sizeCount", "I", false)
  | 2 => ("SpanSolids", "solids", "[LSpanSolids$Solid;", true)
  | 3 => ("SpanSolids", "solidCount", "I", false)
  | 4 => ("SpanSolids", "walk", "LSpanSolids$Walk;", true)
  | 5 => ("SpanSolids", "seen", "LSpanSolids$Runs;", true)
  | _ => ("SpanSolids", "told", "LSpanSolids$Runs;", true)
def tyX11 : Nat → FieldType := fun k => match k with
  | 0 => .array .int
  | 1 => .int
  | 2 => .array (.object "SpanSolids$Solid")
  | 3 => .int
  | 4 => .object "SpanSolids$Walk"
  | 5 => .object "SpanSolids$Runs"
  | _ => .object "SpanSolids$Runs"
abbrev wsX110 : List Cond := u_ws RX11 TX11 7
theorem nmX11 : ∀ a, a < 7 → ∀ b, b < 7 → a ≠ b → (TX11 a).2.1 ≠ (TX11 b).2.1 := by decide +kernel
theorem tyX11_ok : ∀ k, k < 7 → parseFieldDescriptor (TX11 k).2.2.1 = some (tyX11 k) := by decide +kernel
abbrev cX11_init : ByteArray := prog_1_method_1_code
def yX11_init : MethodName := ⟨RX11, "<init>", "()V"⟩
abbrev cX11_size : ByteArray := prog_1_method_2_code
def yX11_size : MethodName := ⟨RX11, "size", "(I)I"⟩
abbrev cX11_solid : ByteArray := prog_1_method_3_code
def yX11_solid : MethodName := ⟨RX11, "solid", "(I)I"⟩
abbrev cX11_join : ByteArray := prog_1_method_4_code
def yX11_join : MethodName := ⟨RX11, "join", "(III)I"⟩
abbrev cX11_moved : ByteArray := prog_1_method_5_code
def yX11_moved : MethodName := ⟨RX11, "moved", "(I)I"⟩
abbrev cX11_turned : ByteArray := prog_1_method_6_code
def yX11_turned : MethodName := ⟨RX11, "turned", "(I)I"⟩
abbrev cX11_weight : ByteArray := prog_1_method_7_code
def yX11_weight : MethodName := ⟨RX11, "weight", "(I)I"⟩
abbrev cX11_inside : ByteArray := prog_1_method_8_code
def yX11_inside : MethodName := ⟨RX11, "inside", "(IIII)Z"⟩
abbrev cX11_top : ByteArray := prog_1_method_9_code
def yX11_top : MethodName := ⟨RX11, "top", "(III)I"⟩
abbrev cX11_spans : ByteArray := prog_1_method_10_code
def yX11_spans : MethodName := ⟨RX11, "spans", "(III)I"⟩
abbrev cX11_span : ByteArray := prog_1_method_11_code
def yX11_span : MethodName := ⟨RX11, "span", "(II)I"⟩
abbrev cX11_within : ByteArray := prog_1_method_12_code
def yX11_within : MethodName := ⟨RX11, "within", "(II)J"⟩
abbrev cX11_find : ByteArray := prog_1_method_13_code
def yX11_find : MethodName := ⟨RX11, "find", "(I)LSpanSolids$Solid;"⟩
abbrev cX11_isFull : ByteArray := prog_1_method_14_code
def yX11_isFull : MethodName := ⟨RX11, "isFull", "()Z"⟩
abbrev cX11_keep : ByteArray := prog_1_method_15_code
def yX11_keep : MethodName := ⟨RX11, "keep", "(LSpanSolids$Solid;)I"⟩
abbrev cX11_useUpSizes : ByteArray := prog_1_method_16_code
def yX11_useUpSizes : MethodName := ⟨RX11, "useUpSizes", "()I"⟩
abbrev cX11_sizesNeeded : ByteArray := prog_1_method_17_code
def yX11_sizesNeeded : MethodName := ⟨RX11, "sizesNeeded", "(I)I"⟩
abbrev cX11_radiusOf : ByteArray := prog_1_method_18_code
def yX11_radiusOf : MethodName := ⟨RX11, "radiusOf", "(I)I"⟩
abbrev cX11_newShape : ByteArray := prog_1_method_19_code
def yX11_newShape : MethodName := ⟨RX11, "newShape", "(I)LSpanSolids$Solid;"⟩
abbrev cX11_lookOver : ByteArray := prog_1_method_20_code
def yX11_lookOver : MethodName := ⟨RX11, "lookOver", "(LSpanSolids$Solid;IILSpanSolids$Runs;)V"⟩
abbrev cX11_isBeyond : ByteArray := prog_1_method_21_code
def yX11_isBeyond : MethodName := ⟨RX11, "isBeyond", "(I)Z"⟩
abbrev cX11_square : ByteArray := prog_1_method_22_code
def yX11_square : MethodName := ⟨RX11, "square", "(J)J"⟩
abbrev cX11_rootBelow : ByteArray := prog_1_method_23_code
def yX11_rootBelow : MethodName := ⟨RX11, "rootBelow", "(JI)I"⟩
def RX12 : String := "SpanSolidsModel"
def TX12 : u_T := fun k => match k with
  | 0 => ("SpanSolidsModel", "kinds", "[I", true)
  | 1 => ("SpanSolidsModel", "numbers", "[I", true)
  | 2 => ("SpanSolidsModel", "weights", "[I", true)
  | 3 => ("SpanSolidsModel", "solids", "I", false)
  | 4 => ("SpanSolidsModel", "sizes", "[I", true)
  | 5 => ("SpanSolidsModel", "sizeCount", "I", false)
  | 6 => ("SpanSolidsModel", "bits", "[J", true)
  | 7 => ("SpanSolidsModel", "heights", "[J", true)
  | 8 => ("SpanSolidsModel", "heightCount", "I", false)
  | 9 => ("SpanSolidsModel", "firsts", "[J", true)
  | 10 => ("SpanSolidsModel", "lasts", "[J", true)
  | _ => ("SpanSolidsModel", "spanCount", "I", false)
def tyX12 : Nat → FieldType := fun k => match k with
  | 0 => .array .int
  | 1 => .array .int
  | 2 => .array .int
  | 3 => .int
  | 4 => .array .int
  | 5 => .int
  | 6 => .array .long
  | 7 => .array .long
  | 8 => .int
  | 9 => .array .long
  | 10 => .array .long
  | _ => .int
abbrev wsX120 : List Cond := u_ws RX12 TX12 12
theorem nmX12 : ∀ a, a < 12 → ∀ b, b < 12 → a ≠ b → (TX12 a).2.1 ≠ (TX12 b).2.1 := by decide +kernel
theorem tyX12_ok : ∀ k, k < 12 → parseFieldDescriptor (TX12 k).2.2.1 = some (tyX12 k) := by decide +kernel
abbrev cX12_init : ByteArray := prog_14_method_1_code
def yX12_init : MethodName := ⟨RX12, "<init>", "()V"⟩
abbrev cX12_size : ByteArray := prog_14_method_3_code
def yX12_size : MethodName := ⟨RX12, "size", "(I)I"⟩
abbrev cX12_isSolid : ByteArray := prog_14_method_4_code
def yX12_isSolid : MethodName := ⟨RX12, "isSolid", "(I)Z"⟩
abbrev cX12_made : ByteArray := prog_14_method_5_code
def yX12_made : MethodName := ⟨RX12, "made", "(II)I"⟩
abbrev cX12_number : ByteArray := prog_14_method_6_code
def yX12_number : MethodName := ⟨RX12, "number", "(II)I"⟩
abbrev cX12_solid : ByteArray := prog_14_method_7_code
def yX12_solid : MethodName := ⟨RX12, "solid", "(I)I"⟩
abbrev cX12_join : ByteArray := prog_14_method_8_code
def yX12_join : MethodName := ⟨RX12, "join", "(III)I"⟩
abbrev cX12_moved : ByteArray := prog_14_method_9_code
def yX12_moved : MethodName := ⟨RX12, "moved", "(I)I"⟩
abbrev cX12_turned : ByteArray := prog_14_method_10_code
def yX12_turned : MethodName := ⟨RX12, "turned", "(I)I"⟩
abbrev cX12_square : ByteArray := prog_14_method_11_code
def yX12_square : MethodName := ⟨RX12, "square", "(J)J"⟩
abbrev cX12_isInKind : ByteArray := prog_14_method_12_code
def yX12_isInKind : MethodName := ⟨RX12, "isInKind", "(IJJJ)Z"⟩
abbrev cX12_isIn : ByteArray := prog_14_method_13_code
def yX12_isIn : MethodName := ⟨RX12, "isIn", "(IJJJ)Z"⟩
abbrev cX12_isNear : ByteArray := prog_14_method_14_code
def yX12_isNear : MethodName := ⟨RX12, "isNear", "(I)Z"⟩
abbrev cX12_inside : ByteArray := prog_14_method_15_code
def yX12_inside : MethodName := ⟨RX12, "inside", "(IIII)Z"⟩
abbrev cX12_rise : ByteArray := prog_14_method_16_code
def yX12_rise : MethodName := ⟨RX12, "rise", "(IJJII)V"⟩
abbrev cX12_topOf : ByteArray := prog_14_method_17_code
def yX12_topOf : MethodName := ⟨RX12, "topOf", "(III)I"⟩
abbrev cX12_top : ByteArray := prog_14_method_18_code
def yX12_top : MethodName := ⟨RX12, "top", "(III)I"⟩
abbrev cX12_weight : ByteArray := prog_14_method_19_code
def yX12_weight : MethodName := ⟨RX12, "weight", "(I)I"⟩
abbrev cX12_height : ByteArray := prog_14_method_21_code
def yX12_height : MethodName := ⟨RX12, "height", "(J)V"⟩
abbrev cX12_last : ByteArray := prog_14_method_22_code
def yX12_last : MethodName := ⟨RX12, "last", "(IJJJ)J"⟩
abbrev cX12_ends : ByteArray := prog_14_method_23_code
def yX12_ends : MethodName := ⟨RX12, "ends", "(IJJJ)V"⟩
abbrev cX12_sort : ByteArray := prog_14_method_24_code
def yX12_sort : MethodName := ⟨RX12, "sort", "()V"⟩
abbrev cX12_spans : ByteArray := prog_14_method_25_code
def yX12_spans : MethodName := ⟨RX12, "spans", "(III)I"⟩
abbrev cX12_span : ByteArray := prog_14_method_26_code
def yX12_span : MethodName := ⟨RX12, "span", "(II)I"⟩
abbrev cX12_within : ByteArray := prog_14_method_27_code
def yX12_within : MethodName := ⟨RX12, "within", "(II)J"⟩
def RJ9 : String := "java/lang/Math"
def TJ9 : u_T := fun k => match k with
  | _ => ("", "", "", false)
def tyJ9 : Nat → FieldType := fun k => match k with
  | _ => .int
abbrev wsJ90 : List Cond := u_ws RJ9 TJ9 0
theorem nmJ9 : ∀ a, a < 0 → ∀ b, b < 0 → a ≠ b → (TJ9 a).2.1 ≠ (TJ9 b).2.1 := by decide +kernel
theorem tyJ9_ok : ∀ k, k < 0 → parseFieldDescriptor (TJ9 k).2.2.1 = some (tyJ9 k) := by decide +kernel
abbrev cJ9_max_7cf53 : ByteArray := prog_15_method_65_code
def yJ9_max_7cf53 : MethodName := ⟨RJ9, "max", "(II)I"⟩
abbrev cJ9_max_f86c9 : ByteArray := prog_15_method_66_code
def yJ9_max_f86c9 : MethodName := ⟨RJ9, "max", "(JJ)J"⟩
abbrev cJ9_min_7cf53 : ByteArray := prog_15_method_69_code
def yJ9_min_7cf53 : MethodName := ⟨RJ9, "min", "(II)I"⟩
abbrev cJ9_min_f86c9 : ByteArray := prog_15_method_70_code
def yJ9_min_f86c9 : MethodName := ⟨RJ9, "min", "(JJ)J"⟩
def RL : String := "SpanSolidsLaw"
abbrev cL_law : ByteArray := code
def yL_law : MethodName := ⟨RL, "law", "([I)Z"⟩
abbrev vwCl : List vw_C := [(RX0, TX0, 5), (RX1, TX1, 7), (RX2, TX2, 6), (RX3, TX3, 5), (RX4, TX4, 4), (RX5, TX5, 5), (RX6, TX6, 6), (RX7, TX7, 2), (RX9, TX9, 2), (RX10, TX10, 7), (RX11, TX11, 7), (RX12, TX12, 12)]
def ch_tb : List Cond := lw_tbl.filter goodWord
theorem ch_tbG : ∀ w ∈ ch_tb, (w.onTables && w.keeps) = true ∨ ∃ ty, w = .arrayClass ty := fun w h => good_of_word (List.mem_filter.mp h).2
theorem ch_tbL : ∀ w ∈ ch_tb, w ∈ lw_tbl := fun w h => (List.mem_filter.mp h).1
theorem wi_1 {w : Cond} (h : w ∈ tables_1_1) (g : goodWord w = true) : w ∈ ch_tb := List.mem_filter.mpr ⟨List.mem_append_right _ (List.mem_append_left _ h), g⟩
theorem wi_2 {w : Cond} (h : w ∈ tables_1_2) (g : goodWord w = true) : w ∈ ch_tb := List.mem_filter.mpr ⟨List.mem_append_right _ (List.mem_append_right _ (List.mem_append_left _ h)), g⟩
theorem wi_3 {w : Cond} (h : w ∈ tables_1_3) (g : goodWord w = true) : w ∈ ch_tb := List.mem_filter.mpr ⟨List.mem_append_right _ (List.mem_append_right _ (List.mem_append_right _ h)), g⟩
theorem wi_p {w : Cond} (h : w ∈ k2_sels lw_privs) (g : goodWord w = true) : w ∈ ch_tb := List.mem_filter.mpr ⟨List.mem_append_left _ h, g⟩
theorem mw_1_0 : Cond.initialized RL ∈ ch_tb := wi_1 (List.mem_of_getElem? (i := 0) rfl) rfl
theorem mw_1_1 : Cond.initialized RX11 ∈ ch_tb := wi_1 (List.mem_of_getElem? (i := 1) rfl) rfl
theorem mw_1_2 : Cond.initialized RX10 ∈ ch_tb := wi_1 (List.mem_of_getElem? (i := 2) rfl) rfl
theorem mw_1_3 : Cond.initialized RX3 ∈ ch_tb := wi_1 (List.mem_of_getElem? (i := 3) rfl) rfl
theorem mw_1_4 : Cond.initialized RX7 ∈ ch_tb := wi_1 (List.mem_of_getElem? (i := 4) rfl) rfl
theorem mw_1_5 : Cond.initialized RX12 ∈ ch_tb := wi_1 (List.mem_of_getElem? (i := 5) rfl) rfl
theorem mw_1_6 : Cond.initialized RX8 ∈ ch_tb := wi_1 (List.mem_of_getElem? (i := 6) rfl) rfl
theorem mw_1_7 : Cond.initialized RX1 ∈ ch_tb := wi_1 (List.mem_of_getElem? (i := 7) rfl) rfl
theorem mw_1_8 : Cond.initialized RX6 ∈ ch_tb := wi_1 (List.mem_of_getElem? (i := 8) rfl) rfl
theorem mw_1_9 : Cond.initialized RX0 ∈ ch_tb := wi_1 (List.mem_of_getElem? (i := 9) rfl) rfl
theorem mw_1_10 : Cond.initialized RX2 ∈ ch_tb := wi_1 (List.mem_of_getElem? (i := 10) rfl) rfl
theorem mw_1_11 : Cond.initialized RX4 ∈ ch_tb := wi_1 (List.mem_of_getElem? (i := 11) rfl) rfl
theorem mw_1_12 : Cond.initialized RX5 ∈ ch_tb := wi_1 (List.mem_of_getElem? (i := 12) rfl) rfl
theorem mw_1_13 : Cond.initialized RX9 ∈ ch_tb := wi_1 (List.mem_of_getElem? (i := 13) rfl) rfl
theorem mw_1_14 : Cond.initialized RJ9 ∈ ch_tb := wi_1 (List.mem_of_getElem? (i := 14) rfl) rfl
theorem mw_1_15 : Cond.classLink RL 7 RX11 ∈ ch_tb := wi_1 (List.mem_of_getElem? (i := 15) rfl) rfl
theorem mw_1_16 : Cond.instantiable RX11 7 ∈ ch_tb := wi_1 (List.mem_of_getElem? (i := 16) rfl) rfl
theorem mw_1_17 : Cond.methodLink RL 9 yX11_init ∈ ch_tb := wi_1 (List.mem_of_getElem? (i := 17) rfl) rfl
theorem mw_1_18 : Cond.instanceMethod yX11_init ∈ ch_tb := wi_1 (List.mem_of_getElem? (i := 18) rfl) rfl
theorem mw_1_19 : Cond.code yX11_init cX11_init 1 none ∈ ch_tb := wi_1 (List.mem_of_getElem? (i := 19) rfl) rfl
theorem mw_1_20 : Cond.methodLink RX11 3 objectInit ∈ ch_tb := wi_1 (List.mem_of_getElem? (i := 20) rfl) rfl
theorem mw_1_21 : Cond.instanceMethod objectInit ∈ ch_tb := wi_1 (List.mem_of_getElem? (i := 21) rfl) rfl
theorem mw_1_22 : Cond.code objectInit object_method_1_code 1 none ∈ ch_tb := wi_1 (List.mem_of_getElem? (i := 22) rfl) rfl
theorem mw_1_23 : Cond.classLink RX11 17 RX8 ∈ ch_tb := wi_1 (List.mem_of_getElem? (i := 23) rfl) rfl
theorem mw_1_25 : Cond.classLink RX11 26 RX10 ∈ ch_tb := wi_1 (List.mem_of_getElem? (i := 25) rfl) rfl
theorem mw_1_26 : Cond.instantiable RX10 7 ∈ ch_tb := wi_1 (List.mem_of_getElem? (i := 26) rfl) rfl
theorem mw_1_27 : Cond.methodLink RX11 28 yX10_init ∈ ch_tb := wi_1 (List.mem_of_getElem? (i := 27) rfl) rfl
theorem mw_1_28 : Cond.instanceMethod yX10_init ∈ ch_tb := wi_1 (List.mem_of_getElem? (i := 28) rfl) rfl
theorem mw_1_29 : Cond.code yX10_init cX10_init 1 none ∈ ch_tb := wi_1 (List.mem_of_getElem? (i := 29) rfl) rfl
theorem mw_1_30 : Cond.methodLink RX10 3 objectInit ∈ ch_tb := wi_1 (List.mem_of_getElem? (i := 30) rfl) rfl
theorem mw_1_31 : Cond.classLink RX10 11 RX8 ∈ ch_tb := wi_1 (List.mem_of_getElem? (i := 31) rfl) rfl
theorem mw_1_32 : Cond.classLink RX10 34 RX3 ∈ ch_tb := wi_1 (List.mem_of_getElem? (i := 32) rfl) rfl
theorem mw_1_33 : Cond.instantiable RX3 5 ∈ ch_tb := wi_1 (List.mem_of_getElem? (i := 33) rfl) rfl
theorem mw_1_34 : Cond.methodLink RX10 36 yX3_init ∈ ch_tb := wi_1 (List.mem_of_getElem? (i := 34) rfl) rfl
theorem mw_1_35 : Cond.instanceMethod yX3_init ∈ ch_tb := wi_1 (List.mem_of_getElem? (i := 35) rfl) rfl
theorem mw_1_36 : Cond.code yX3_init cX3_init 1 none ∈ ch_tb := wi_1 (List.mem_of_getElem? (i := 36) rfl) rfl
theorem mw_1_37 : Cond.methodLink RX3 3 objectInit ∈ ch_tb := wi_1 (List.mem_of_getElem? (i := 37) rfl) rfl
theorem mw_1_38 : Cond.fieldLink RX3 9 "SpanSolids$FoundSets" "edges" "[I" ∈ ch_tb := wi_1 (List.mem_of_getElem? (i := 38) rfl) rfl
theorem mw_1_39 : Cond.fieldLink RX3 15 "SpanSolids$FoundSets" "starts" "[I" ∈ ch_tb := wi_1 (List.mem_of_getElem? (i := 39) rfl) rfl
theorem mw_1_40 : Cond.fieldLink RX3 18 "SpanSolids$FoundSets" "mixed" "[I" ∈ ch_tb := wi_1 (List.mem_of_getElem? (i := 40) rfl) rfl
theorem mw_1_41 : Cond.fieldLink RX3 21 "SpanSolids$FoundSets" "edgeCount" "I" ∈ ch_tb := wi_1 (List.mem_of_getElem? (i := 41) rfl) rfl
theorem mw_1_42 : Cond.fieldLink RX3 25 "SpanSolids$FoundSets" "setCount" "I" ∈ ch_tb := wi_1 (List.mem_of_getElem? (i := 42) rfl) rfl
theorem mw_1_43 : Cond.laysFinal RX3 "SpanSolids$FoundSets" "edges" "[I" ∈ ch_tb := wi_1 (List.mem_of_getElem? (i := 43) rfl) rfl
theorem mw_1_45 : Cond.laysFinal RX3 "SpanSolids$FoundSets" "starts" "[I" ∈ ch_tb := wi_1 (List.mem_of_getElem? (i := 45) rfl) rfl
theorem mw_1_47 : Cond.laysFinal RX3 "SpanSolids$FoundSets" "mixed" "[I" ∈ ch_tb := wi_1 (List.mem_of_getElem? (i := 47) rfl) rfl
theorem mw_1_49 : Cond.lays RX3 "SpanSolids$FoundSets" "edgeCount" "I" ∈ ch_tb := wi_1 (List.mem_of_getElem? (i := 49) rfl) rfl
theorem mw_1_51 : Cond.lays RX3 "SpanSolids$FoundSets" "setCount" "I" ∈ ch_tb := wi_1 (List.mem_of_getElem? (i := 51) rfl) rfl
theorem mw_1_53 : Cond.superclass RX3 "java/lang/Object" ∈ ch_tb := wi_1 (List.mem_of_getElem? (i := 53) rfl) rfl
theorem mw_1_54 : Cond.arrayClass FieldType.int ∈ ch_tb := wi_1 (List.mem_of_getElem? (i := 54) rfl) rfl
theorem mw_1_55 : Cond.fieldLink RX10 13 "SpanSolids$Walk" "waiting" "[LSpanSolids$Solid;" ∈ ch_tb := wi_1 (List.mem_of_getElem? (i := 55) rfl) rfl
theorem mw_1_56 : Cond.fieldLink RX10 17 "SpanSolids$Walk" "xs" "[I" ∈ ch_tb := wi_1 (List.mem_of_getElem? (i := 56) rfl) rfl
theorem mw_1_57 : Cond.fieldLink RX10 21 "SpanSolids$Walk" "ys" "[I" ∈ ch_tb := wi_1 (List.mem_of_getElem? (i := 57) rfl) rfl
theorem mw_1_58 : Cond.fieldLink RX10 24 "SpanSolids$Walk" "lifts" "[I" ∈ ch_tb := wi_1 (List.mem_of_getElem? (i := 58) rfl) rfl
theorem mw_1_59 : Cond.fieldLink RX10 27 "SpanSolids$Walk" "hows" "[I" ∈ ch_tb := wi_1 (List.mem_of_getElem? (i := 59) rfl) rfl
theorem mw_1_60 : Cond.fieldLink RX10 30 "SpanSolids$Walk" "waitingCount" "I" ∈ ch_tb := wi_1 (List.mem_of_getElem? (i := 60) rfl) rfl
theorem mw_1_61 : Cond.fieldLink RX10 37 "SpanSolids$Walk" "found" "LSpanSolids$FoundSets;" ∈ ch_tb := wi_1 (List.mem_of_getElem? (i := 61) rfl) rfl
theorem mw_1_62 : Cond.laysFinal RX10 "SpanSolids$Walk" "waiting" "[LSpanSolids$Solid;" ∈ ch_tb := wi_1 (List.mem_of_getElem? (i := 62) rfl) rfl
theorem mw_1_64 : Cond.laysFinal RX10 "SpanSolids$Walk" "xs" "[I" ∈ ch_tb := wi_1 (List.mem_of_getElem? (i := 64) rfl) rfl
theorem mw_1_66 : Cond.laysFinal RX10 "SpanSolids$Walk" "ys" "[I" ∈ ch_tb := wi_1 (List.mem_of_getElem? (i := 66) rfl) rfl
theorem mw_1_68 : Cond.laysFinal RX10 "SpanSolids$Walk" "lifts" "[I" ∈ ch_tb := wi_1 (List.mem_of_getElem? (i := 68) rfl) rfl
theorem mw_1_70 : Cond.laysFinal RX10 "SpanSolids$Walk" "hows" "[I" ∈ ch_tb := wi_1 (List.mem_of_getElem? (i := 70) rfl) rfl
theorem mw_1_72 : Cond.lays RX10 "SpanSolids$Walk" "waitingCount" "I" ∈ ch_tb := wi_1 (List.mem_of_getElem? (i := 72) rfl) rfl
theorem mw_1_74 : Cond.laysFinal RX10 "SpanSolids$Walk" "found" "LSpanSolids$FoundSets;" ∈ ch_tb := wi_1 (List.mem_of_getElem? (i := 74) rfl) rfl
theorem mw_1_76 : Cond.superclass RX10 "java/lang/Object" ∈ ch_tb := wi_1 (List.mem_of_getElem? (i := 76) rfl) rfl
theorem mw_1_77 : Cond.classLink RX11 33 RX7 ∈ ch_tb := wi_1 (List.mem_of_getElem? (i := 77) rfl) rfl
theorem mw_1_78 : Cond.instantiable RX7 2 ∈ ch_tb := wi_1 (List.mem_of_getElem? (i := 78) rfl) rfl
theorem mw_1_79 : Cond.methodLink RX11 35 yX7_init ∈ ch_tb := wi_1 (List.mem_of_getElem? (i := 79) rfl) rfl
theorem mw_1_80 : Cond.instanceMethod yX7_init ∈ ch_tb := wi_1 (List.mem_of_getElem? (i := 80) rfl) rfl
theorem mw_1_81 : Cond.code yX7_init cX7_init 1 none ∈ ch_tb := wi_1 (List.mem_of_getElem? (i := 81) rfl) rfl
theorem mw_1_82 : Cond.methodLink RX7 3 objectInit ∈ ch_tb := wi_1 (List.mem_of_getElem? (i := 82) rfl) rfl
theorem mw_1_83 : Cond.fieldLink RX7 9 "SpanSolids$Runs" "edges" "[I" ∈ ch_tb := wi_1 (List.mem_of_getElem? (i := 83) rfl) rfl
theorem mw_1_84 : Cond.fieldLink RX7 15 "SpanSolids$Runs" "edgeCount" "I" ∈ ch_tb := wi_1 (List.mem_of_getElem? (i := 84) rfl) rfl
theorem mw_1_85 : Cond.laysFinal RX7 "SpanSolids$Runs" "edges" "[I" ∈ ch_tb := wi_1 (List.mem_of_getElem? (i := 85) rfl) rfl
theorem mw_1_87 : Cond.lays RX7 "SpanSolids$Runs" "edgeCount" "I" ∈ ch_tb := wi_1 (List.mem_of_getElem? (i := 87) rfl) rfl
theorem mw_1_89 : Cond.superclass RX7 "java/lang/Object" ∈ ch_tb := wi_1 (List.mem_of_getElem? (i := 89) rfl) rfl
theorem mw_1_90 : Cond.fieldLink RX11 9 "SpanSolids" "sizes" "[I" ∈ ch_tb := wi_1 (List.mem_of_getElem? (i := 90) rfl) rfl
theorem mw_1_91 : Cond.fieldLink RX11 13 "SpanSolids" "sizeCount" "I" ∈ ch_tb := wi_1 (List.mem_of_getElem? (i := 91) rfl) rfl
theorem mw_1_92 : Cond.fieldLink RX11 19 "SpanSolids" "solids" "[LSpanSolids$Solid;" ∈ ch_tb := wi_1 (List.mem_of_getElem? (i := 92) rfl) rfl
theorem mw_1_93 : Cond.fieldLink RX11 23 "SpanSolids" "solidCount" "I" ∈ ch_tb := wi_1 (List.mem_of_getElem? (i := 93) rfl) rfl
theorem mw_1_94 : Cond.fieldLink RX11 29 "SpanSolids" "walk" "LSpanSolids$Walk;" ∈ ch_tb := wi_1 (List.mem_of_getElem? (i := 94) rfl) rfl
theorem mw_1_95 : Cond.fieldLink RX11 36 "SpanSolids" "seen" "LSpanSolids$Runs;" ∈ ch_tb := wi_1 (List.mem_of_getElem? (i := 95) rfl) rfl
theorem mw_1_96 : Cond.fieldLink RX11 40 "SpanSolids" "told" "LSpanSolids$Runs;" ∈ ch_tb := wi_1 (List.mem_of_getElem? (i := 96) rfl) rfl
theorem mw_1_97 : Cond.laysFinal RX11 "SpanSolids" "sizes" "[I" ∈ ch_tb := wi_1 (List.mem_of_getElem? (i := 97) rfl) rfl
theorem mw_1_99 : Cond.lays RX11 "SpanSolids" "sizeCount" "I" ∈ ch_tb := wi_1 (List.mem_of_getElem? (i := 99) rfl) rfl
theorem mw_1_101 : Cond.laysFinal RX11 "SpanSolids" "solids" "[LSpanSolids$Solid;" ∈ ch_tb := wi_1 (List.mem_of_getElem? (i := 101) rfl) rfl
theorem mw_1_103 : Cond.lays RX11 "SpanSolids" "solidCount" "I" ∈ ch_tb := wi_1 (List.mem_of_getElem? (i := 103) rfl) rfl
theorem mw_1_105 : Cond.laysFinal RX11 "SpanSolids" "walk" "LSpanSolids$Walk;" ∈ ch_tb := wi_1 (List.mem_of_getElem? (i := 105) rfl) rfl
theorem mw_1_107 : Cond.laysFinal RX11 "SpanSolids" "seen" "LSpanSolids$Runs;" ∈ ch_tb := wi_1 (List.mem_of_getElem? (i := 107) rfl) rfl
theorem mw_1_109 : Cond.laysFinal RX11 "SpanSolids" "told" "LSpanSolids$Runs;" ∈ ch_tb := wi_1 (List.mem_of_getElem? (i := 109) rfl) rfl
theorem mw_1_111 : Cond.superclass RX11 "java/lang/Object" ∈ ch_tb := wi_1 (List.mem_of_getElem? (i := 111) rfl) rfl
theorem mw_1_112 : Cond.methodLink RL 13 yX11_size ∈ ch_tb := wi_1 (List.mem_of_getElem? (i := 112) rfl) rfl
theorem mw_1_113 : Cond.instanceMethod yX11_size ∈ ch_tb := wi_1 (List.mem_of_getElem? (i := 113) rfl) rfl
theorem mw_1_114 : Cond.selects RX11 yX11_size yX11_size ∈ ch_tb := wi_1 (List.mem_of_getElem? (i := 114) rfl) rfl
theorem mw_1_115 : Cond.code yX11_size cX11_size 2 (Option.some FieldType.int) ∈ ch_tb := wi_1 (List.mem_of_getElem? (i := 115) rfl) rfl
theorem mw_1_116 : Cond.methodLink RL 18 yX11_solid ∈ ch_tb := wi_1 (List.mem_of_getElem? (i := 116) rfl) rfl
theorem mw_1_117 : Cond.instanceMethod yX11_solid ∈ ch_tb := wi_1 (List.mem_of_getElem? (i := 117) rfl) rfl
theorem mw_1_118 : Cond.selects RX11 yX11_solid yX11_solid ∈ ch_tb := wi_1 (List.mem_of_getElem? (i := 118) rfl) rfl
theorem mw_1_119 : Cond.code yX11_solid cX11_solid 3 (Option.some FieldType.int) ∈ ch_tb := wi_1 (List.mem_of_getElem? (i := 119) rfl) rfl
theorem mw_1_120 : Cond.methodLink RX11 43 yX11_useUpSizes ∈ ch_tb := wi_1 (List.mem_of_getElem? (i := 120) rfl) rfl
theorem mw_1_122 : Cond.instanceMethod yX11_useUpSizes ∈ ch_tb := wi_1 (List.mem_of_getElem? (i := 122) rfl) rfl
theorem mw_1_123 : Cond.code yX11_useUpSizes cX11_useUpSizes 2 (Option.some FieldType.int) ∈ ch_tb := wi_1 (List.mem_of_getElem? (i := 123) rfl) rfl
theorem mw_1_124 : Cond.methodLink RX11 47 yX11_sizesNeeded ∈ ch_tb := wi_1 (List.mem_of_getElem? (i := 124) rfl) rfl
theorem mw_1_125 : Cond.static yX11_sizesNeeded ∈ ch_tb := wi_1 (List.mem_of_getElem? (i := 125) rfl) rfl
theorem mw_1_126 : Cond.code yX11_sizesNeeded cX11_sizesNeeded 1 (Option.some FieldType.int) ∈ ch_tb := wi_1 (List.mem_of_getElem? (i := 126) rfl) rfl
theorem mw_1_127 : Cond.methodLink RX11 51 yX11_radiusOf ∈ ch_tb := wi_1 (List.mem_of_getElem? (i := 127) rfl) rfl
theorem mw_1_129 : Cond.instanceMethod yX11_radiusOf ∈ ch_tb := wi_1 (List.mem_of_getElem? (i := 129) rfl) rfl
theorem mw_1_130 : Cond.code yX11_radiusOf cX11_radiusOf 2 (Option.some FieldType.int) ∈ ch_tb := wi_1 (List.mem_of_getElem? (i := 130) rfl) rfl
theorem mw_1_131 : Cond.methodLink RX11 54 yX11_isFull ∈ ch_tb := wi_1 (List.mem_of_getElem? (i := 131) rfl) rfl
theorem mw_1_133 : Cond.instanceMethod yX11_isFull ∈ ch_tb := wi_1 (List.mem_of_getElem? (i := 133) rfl) rfl
theorem mw_1_134 : Cond.code yX11_isFull cX11_isFull 1 (Option.some FieldType.boolean) ∈ ch_tb := wi_1 (List.mem_of_getElem? (i := 134) rfl) rfl
theorem mw_1_135 : Cond.methodLink RX11 58 yX11_newShape ∈ ch_tb := wi_1 (List.mem_of_getElem? (i := 135) rfl) rfl
theorem mw_1_137 : Cond.instanceMethod yX11_newShape ∈ ch_tb := wi_1 (List.mem_of_getElem? (i := 137) rfl) rfl
theorem mw_1_138 : Cond.code yX11_newShape cX11_newShape 2 (Option.some (FieldType.object "SpanSolids$Solid")) ∈ ch_tb := wi_1 (List.mem_of_getElem? (i := 138) rfl) rfl
theorem mw_1_139 : Cond.classLink RX11 111 RX1 ∈ ch_tb := wi_1 (List.mem_of_getElem? (i := 139) rfl) rfl
theorem mw_1_140 : Cond.instantiable RX1 7 ∈ ch_tb := wi_1 (List.mem_of_getElem? (i := 140) rfl) rfl
theorem mw_1_141 : Cond.methodLink RX11 113 yX1_init ∈ ch_tb := wi_1 (List.mem_of_getElem? (i := 141) rfl) rfl
theorem mw_1_142 : Cond.instanceMethod yX1_init ∈ ch_tb := wi_1 (List.mem_of_getElem? (i := 142) rfl) rfl
theorem mw_1_143 : Cond.code yX1_init cX1_init 7 none ∈ ch_tb := wi_1 (List.mem_of_getElem? (i := 143) rfl) rfl
theorem mw_1_144 : Cond.methodLink RX1 1 yX8_init ∈ ch_tb := wi_1 (List.mem_of_getElem? (i := 144) rfl) rfl
theorem mw_1_145 : Cond.instanceMethod yX8_init ∈ ch_tb := wi_1 (List.mem_of_getElem? (i := 145) rfl) rfl
theorem mw_1_146 : Cond.code yX8_init cX8_init 2 none ∈ ch_tb := wi_1 (List.mem_of_getElem? (i := 146) rfl) rfl
theorem mw_1_147 : Cond.methodLink RX8 1 objectInit ∈ ch_tb := wi_1 (List.mem_of_getElem? (i := 147) rfl) rfl
theorem mw_1_148 : Cond.fieldLink RX1 7 "SpanSolids$Box" "x" "I" ∈ ch_tb := wi_1 (List.mem_of_getElem? (i := 148) rfl) rfl
theorem mw_1_149 : Cond.fieldLink RX1 13 "SpanSolids$Box" "y" "I" ∈ ch_tb := wi_1 (List.mem_of_getElem? (i := 149) rfl) rfl
theorem mw_1_150 : Cond.fieldLink RX1 16 "SpanSolids$Box" "z" "I" ∈ ch_tb := wi_1 (List.mem_of_getElem? (i := 150) rfl) rfl
theorem mw_1_151 : Cond.fieldLink RX1 19 "SpanSolids$Box" "endX" "I" ∈ ch_tb := wi_1 (List.mem_of_getElem? (i := 151) rfl) rfl
theorem mw_1_152 : Cond.fieldLink RX1 22 "SpanSolids$Box" "endY" "I" ∈ ch_tb := wi_1 (List.mem_of_getElem? (i := 152) rfl) rfl
theorem mw_1_153 : Cond.fieldLink RX1 25 "SpanSolids$Box" "endZ" "I" ∈ ch_tb := wi_1 (List.mem_of_getElem? (i := 153) rfl) rfl
theorem mw_1_154 : Cond.fieldLink RX4 1 "SpanSolids$Solid" "weight" "I" ∈ ch_tb := wi_1 (List.mem_of_getElem? (i := 154) rfl) rfl
theorem mw_1_155 : Cond.fieldLink RX5 1 "SpanSolids$Solid" "weight" "I" ∈ ch_tb := wi_1 (List.mem_of_getElem? (i := 155) rfl) rfl
theorem mw_1_156 : Cond.fieldLink RX9 1 "SpanSolids$Solid" "weight" "I" ∈ ch_tb := wi_1 (List.mem_of_getElem? (i := 156) rfl) rfl
theorem mw_1_157 : Cond.fieldLink RX8 7 "SpanSolids$Solid" "weight" "I" ∈ ch_tb := wi_1 (List.mem_of_getElem? (i := 157) rfl) rfl
theorem mw_1_158 : Cond.fieldLink RX11 69 "SpanSolids$Solid" "weight" "I" ∈ ch_tb := wi_1 (List.mem_of_getElem? (i := 158) rfl) rfl
theorem mw_1_159 : Cond.laysFinal RX1 "SpanSolids$Box" "x" "I" ∈ ch_tb := wi_1 (List.mem_of_getElem? (i := 159) rfl) rfl
theorem mw_1_161 : Cond.laysFinal RX1 "SpanSolids$Box" "y" "I" ∈ ch_tb := wi_1 (List.mem_of_getElem? (i := 161) rfl) rfl
theorem mw_1_163 : Cond.laysFinal RX1 "SpanSolids$Box" "z" "I" ∈ ch_tb := wi_1 (List.mem_of_getElem? (i := 163) rfl) rfl
theorem mw_1_165 : Cond.laysFinal RX1 "SpanSolids$Box" "endX" "I" ∈ ch_tb := wi_1 (List.mem_of_getElem? (i := 165) rfl) rfl
theorem mw_1_167 : Cond.laysFinal RX1 "SpanSolids$Box" "endY" "I" ∈ ch_tb := wi_1 (List.mem_of_getElem? (i := 167) rfl) rfl
theorem mw_1_169 : Cond.laysFinal RX1 "SpanSolids$Box" "endZ" "I" ∈ ch_tb := wi_1 (List.mem_of_getElem? (i := 169) rfl) rfl
theorem mw_1_171 : Cond.laysFinal RX1 "SpanSolids$Solid" "weight" "I" ∈ ch_tb := wi_1 (List.mem_of_getElem? (i := 171) rfl) rfl
theorem mw_1_173 : Cond.superclass RX1 "SpanSolids$Solid" ∈ ch_tb := wi_1 (List.mem_of_getElem? (i := 173) rfl) rfl
theorem mw_1_174 : Cond.classLink RX11 116 RX6 ∈ ch_tb := wi_1 (List.mem_of_getElem? (i := 174) rfl) rfl
theorem mw_1_175 : Cond.instantiable RX6 6 ∈ ch_tb := wi_1 (List.mem_of_getElem? (i := 175) rfl) rfl
theorem mw_1_176 : Cond.methodLink RX11 118 yX6_init ∈ ch_tb := wi_1 (List.mem_of_getElem? (i := 176) rfl) rfl
theorem mw_1_177 : Cond.instanceMethod yX6_init ∈ ch_tb := wi_1 (List.mem_of_getElem? (i := 177) rfl) rfl
theorem mw_1_178 : Cond.code yX6_init cX6_init 6 none ∈ ch_tb := wi_1 (List.mem_of_getElem? (i := 178) rfl) rfl
theorem mw_1_179 : Cond.methodLink RX6 1 yX8_init ∈ ch_tb := wi_1 (List.mem_of_getElem? (i := 179) rfl) rfl
theorem mw_1_180 : Cond.fieldLink RX6 7 "SpanSolids$Post" "x" "I" ∈ ch_tb := wi_1 (List.mem_of_getElem? (i := 180) rfl) rfl
theorem mw_1_181 : Cond.fieldLink RX6 13 "SpanSolids$Post" "y" "I" ∈ ch_tb := wi_1 (List.mem_of_getElem? (i := 181) rfl) rfl
theorem mw_1_182 : Cond.fieldLink RX6 16 "SpanSolids$Post" "\x72" "I" ∈ ch_tb := wi_1 (List.mem_of_getElem? (i := 182) rfl) rfl
theorem mw_1_183 : Cond.fieldLink RX6 19 "SpanSolids$Post" "z" "I" ∈ ch_tb := wi_1 (List.mem_of_getElem? (i := 183) rfl) rfl
theorem mw_1_184 : Cond.fieldLink RX6 22 "SpanSolids$Post" "endZ" "I" ∈ ch_tb := wi_1 (List.mem_of_getElem? (i := 184) rfl) rfl
theorem mw_1_185 : Cond.laysFinal RX6 "SpanSolids$Post" "x" "I" ∈ ch_tb := wi_1 (List.mem_of_getElem? (i := 185) rfl) rfl
theorem mw_1_187 : Cond.laysFinal RX6 "SpanSolids$Post" "y" "I" ∈ ch_tb := wi_1 (List.mem_of_getElem? (i := 187) rfl) rfl
theorem mw_1_189 : Cond.laysFinal RX6 "SpanSolids$Post" "\x72" "I" ∈ ch_tb := wi_1 (List.mem_of_getElem? (i := 189) rfl) rfl
theorem mw_1_191 : Cond.laysFinal RX6 "SpanSolids$Post" "z" "I" ∈ ch_tb := wi_1 (List.mem_of_getElem? (i := 191) rfl) rfl
theorem mw_1_193 : Cond.laysFinal RX6 "SpanSolids$Post" "endZ" "I" ∈ ch_tb := wi_1 (List.mem_of_getElem? (i := 193) rfl) rfl
theorem mw_1_195 : Cond.laysFinal RX6 "SpanSolids$Solid" "weight" "I" ∈ ch_tb := wi_1 (List.mem_of_getElem? (i := 195) rfl) rfl
theorem mw_1_196 : Cond.superclass RX6 "SpanSolids$Solid" ∈ ch_tb := wi_1 (List.mem_of_getElem? (i := 196) rfl) rfl
theorem mw_1_197 : Cond.classLink RX11 121 RX0 ∈ ch_tb := wi_1 (List.mem_of_getElem? (i := 197) rfl) rfl
theorem mw_1_198 : Cond.instantiable RX0 5 ∈ ch_tb := wi_1 (List.mem_of_getElem? (i := 198) rfl) rfl
theorem mw_1_199 : Cond.methodLink RX11 123 yX0_init ∈ ch_tb := wi_1 (List.mem_of_getElem? (i := 199) rfl) rfl
theorem mw_1_200 : Cond.instanceMethod yX0_init ∈ ch_tb := wi_1 (List.mem_of_getElem? (i := 200) rfl) rfl
theorem mw_1_201 : Cond.code yX0_init cX0_init 5 none ∈ ch_tb := wi_1 (List.mem_of_getElem? (i := 201) rfl) rfl
theorem mw_1_202 : Cond.methodLink RX0 1 yX8_init ∈ ch_tb := wi_1 (List.mem_of_getElem? (i := 202) rfl) rfl
theorem mw_1_203 : Cond.fieldLink RX0 7 "SpanSolids$Ball" "x" "I" ∈ ch_tb := wi_1 (List.mem_of_getElem? (i := 203) rfl) rfl
theorem mw_1_204 : Cond.fieldLink RX0 13 "SpanSolids$Ball" "y" "I" ∈ ch_tb := wi_1 (List.mem_of_getElem? (i := 204) rfl) rfl
theorem mw_1_205 : Cond.fieldLink RX0 16 "SpanSolids$Ball" "z" "I" ∈ ch_tb := wi_1 (List.mem_of_getElem? (i := 205) rfl) rfl
theorem mw_1_206 : Cond.fieldLink RX0 19 "SpanSolids$Ball" "\x72" "I" ∈ ch_tb := wi_1 (List.mem_of_getElem? (i := 206) rfl) rfl
theorem mw_1_207 : Cond.laysFinal RX0 "SpanSolids$Ball" "x" "I" ∈ ch_tb := wi_1 (List.mem_of_getElem? (i := 207) rfl) rfl
theorem mw_1_209 : Cond.laysFinal RX0 "SpanSolids$Ball" "y" "I" ∈ ch_tb := wi_1 (List.mem_of_getElem? (i := 209) rfl) rfl
theorem mw_1_211 : Cond.laysFinal RX0 "SpanSolids$Ball" "z" "I" ∈ ch_tb := wi_1 (List.mem_of_getElem? (i := 211) rfl) rfl
theorem mw_1_213 : Cond.laysFinal RX0 "SpanSolids$Ball" "\x72" "I" ∈ ch_tb := wi_1 (List.mem_of_getElem? (i := 213) rfl) rfl
theorem mw_1_215 : Cond.laysFinal RX0 "SpanSolids$Solid" "weight" "I" ∈ ch_tb := wi_1 (List.mem_of_getElem? (i := 215) rfl) rfl
theorem mw_1_216 : Cond.superclass RX0 "SpanSolids$Solid" ∈ ch_tb := wi_1 (List.mem_of_getElem? (i := 216) rfl) rfl
theorem mw_1_217 : Cond.classLink RX11 126 RX2 ∈ ch_tb := wi_1 (List.mem_of_getElem? (i := 217) rfl) rfl
theorem mw_1_218 : Cond.instantiable RX2 6 ∈ ch_tb := wi_1 (List.mem_of_getElem? (i := 218) rfl) rfl
theorem mw_1_219 : Cond.methodLink RX11 128 yX2_init ∈ ch_tb := wi_1 (List.mem_of_getElem? (i := 219) rfl) rfl
theorem mw_1_220 : Cond.instanceMethod yX2_init ∈ ch_tb := wi_1 (List.mem_of_getElem? (i := 220) rfl) rfl
theorem mw_1_221 : Cond.code yX2_init cX2_init 6 none ∈ ch_tb := wi_1 (List.mem_of_getElem? (i := 221) rfl) rfl
theorem mw_1_222 : Cond.methodLink RX2 1 yX8_init ∈ ch_tb := wi_1 (List.mem_of_getElem? (i := 222) rfl) rfl
theorem mw_1_223 : Cond.fieldLink RX2 7 "SpanSolids$Cone" "x" "I" ∈ ch_tb := wi_1 (List.mem_of_getElem? (i := 223) rfl) rfl
theorem mw_1_224 : Cond.fieldLink RX2 13 "SpanSolids$Cone" "y" "I" ∈ ch_tb := wi_1 (List.mem_of_getElem? (i := 224) rfl) rfl
theorem mw_1_225 : Cond.fieldLink RX2 16 "SpanSolids$Cone" "\x72" "I" ∈ ch_tb := wi_1 (List.mem_of_getElem? (i := 225) rfl) rfl
theorem mw_1_226 : Cond.fieldLink RX2 19 "SpanSolids$Cone" "z" "I" ∈ ch_tb := wi_1 (List.mem_of_getElem? (i := 226) rfl) rfl
theorem mw_1_227 : Cond.fieldLink RX2 22 "SpanSolids$Cone" "endZ" "I" ∈ ch_tb := wi_1 (List.mem_of_getElem? (i := 227) rfl) rfl
theorem mw_1_228 : Cond.laysFinal RX2 "SpanSolids$Cone" "x" "I" ∈ ch_tb := wi_1 (List.mem_of_getElem? (i := 228) rfl) rfl
theorem mw_1_230 : Cond.laysFinal RX2 "SpanSolids$Cone" "y" "I" ∈ ch_tb := wi_1 (List.mem_of_getElem? (i := 230) rfl) rfl
theorem mw_1_232 : Cond.laysFinal RX2 "SpanSolids$Cone" "\x72" "I" ∈ ch_tb := wi_1 (List.mem_of_getElem? (i := 232) rfl) rfl
theorem mw_1_234 : Cond.laysFinal RX2 "SpanSolids$Cone" "z" "I" ∈ ch_tb := wi_1 (List.mem_of_getElem? (i := 234) rfl) rfl
theorem mw_1_236 : Cond.laysFinal RX2 "SpanSolids$Cone" "endZ" "I" ∈ ch_tb := wi_1 (List.mem_of_getElem? (i := 236) rfl) rfl
theorem mw_1_238 : Cond.laysFinal RX2 "SpanSolids$Solid" "weight" "I" ∈ ch_tb := wi_1 (List.mem_of_getElem? (i := 238) rfl) rfl
theorem mw_1_239 : Cond.superclass RX2 "SpanSolids$Solid" ∈ ch_tb := wi_1 (List.mem_of_getElem? (i := 239) rfl) rfl
theorem mw_2_0 : Cond.methodLink RX11 62 yX11_keep ∈ ch_tb := wi_2 (List.mem_of_getElem? (i := 0) rfl) rfl
theorem mw_2_2 : Cond.instanceMethod yX11_keep ∈ ch_tb := wi_2 (List.mem_of_getElem? (i := 2) rfl) rfl
theorem mw_2_3 : Cond.code yX11_keep cX11_keep 2 (Option.some FieldType.int) ∈ ch_tb := wi_2 (List.mem_of_getElem? (i := 3) rfl) rfl
theorem mw_2_4 : Cond.methodLink RL 22 yX11_join ∈ ch_tb := wi_2 (List.mem_of_getElem? (i := 4) rfl) rfl
theorem mw_2_5 : Cond.instanceMethod yX11_join ∈ ch_tb := wi_2 (List.mem_of_getElem? (i := 5) rfl) rfl
theorem mw_2_6 : Cond.selects RX11 yX11_join yX11_join ∈ ch_tb := wi_2 (List.mem_of_getElem? (i := 6) rfl) rfl
theorem mw_2_7 : Cond.code yX11_join cX11_join 6 (Option.some FieldType.int) ∈ ch_tb := wi_2 (List.mem_of_getElem? (i := 7) rfl) rfl
theorem mw_2_8 : Cond.methodLink RX11 66 yX11_find ∈ ch_tb := wi_2 (List.mem_of_getElem? (i := 8) rfl) rfl
theorem mw_2_10 : Cond.instanceMethod yX11_find ∈ ch_tb := wi_2 (List.mem_of_getElem? (i := 10) rfl) rfl
theorem mw_2_11 : Cond.code yX11_find cX11_find 2 (Option.some (FieldType.object "SpanSolids$Solid")) ∈ ch_tb := wi_2 (List.mem_of_getElem? (i := 11) rfl) rfl
theorem mw_2_12 : Cond.classLink RX11 72 RX4 ∈ ch_tb := wi_2 (List.mem_of_getElem? (i := 12) rfl) rfl
theorem mw_2_13 : Cond.instantiable RX4 4 ∈ ch_tb := wi_2 (List.mem_of_getElem? (i := 13) rfl) rfl
theorem mw_2_14 : Cond.methodLink RX11 74 yX4_init ∈ ch_tb := wi_2 (List.mem_of_getElem? (i := 14) rfl) rfl
theorem mw_2_15 : Cond.instanceMethod yX4_init ∈ ch_tb := wi_2 (List.mem_of_getElem? (i := 15) rfl) rfl
theorem mw_2_16 : Cond.code yX4_init cX4_init 4 none ∈ ch_tb := wi_2 (List.mem_of_getElem? (i := 16) rfl) rfl
theorem mw_2_17 : Cond.methodLink RX4 7 yX8_init ∈ ch_tb := wi_2 (List.mem_of_getElem? (i := 17) rfl) rfl
theorem mw_2_18 : Cond.fieldLink RX4 11 "SpanSolids$Joined" "first" "LSpanSolids$Solid;" ∈ ch_tb := wi_2 (List.mem_of_getElem? (i := 18) rfl) rfl
theorem mw_2_19 : Cond.fieldLink RX4 17 "SpanSolids$Joined" "second" "LSpanSolids$Solid;" ∈ ch_tb := wi_2 (List.mem_of_getElem? (i := 19) rfl) rfl
theorem mw_2_20 : Cond.fieldLink RX4 20 "SpanSolids$Joined" "how" "I" ∈ ch_tb := wi_2 (List.mem_of_getElem? (i := 20) rfl) rfl
theorem mw_2_21 : Cond.laysFinal RX4 "SpanSolids$Joined" "first" "LSpanSolids$Solid;" ∈ ch_tb := wi_2 (List.mem_of_getElem? (i := 21) rfl) rfl
theorem mw_2_23 : Cond.laysFinal RX4 "SpanSolids$Joined" "second" "LSpanSolids$Solid;" ∈ ch_tb := wi_2 (List.mem_of_getElem? (i := 23) rfl) rfl
theorem mw_2_25 : Cond.laysFinal RX4 "SpanSolids$Joined" "how" "I" ∈ ch_tb := wi_2 (List.mem_of_getElem? (i := 25) rfl) rfl
theorem mw_2_27 : Cond.laysFinal RX4 "SpanSolids$Solid" "weight" "I" ∈ ch_tb := wi_2 (List.mem_of_getElem? (i := 27) rfl) rfl
theorem mw_2_28 : Cond.superclass RX4 "SpanSolids$Solid" ∈ ch_tb := wi_2 (List.mem_of_getElem? (i := 28) rfl) rfl
theorem mw_2_29 : Cond.methodLink RL 27 yX11_moved ∈ ch_tb := wi_2 (List.mem_of_getElem? (i := 29) rfl) rfl
theorem mw_2_30 : Cond.instanceMethod yX11_moved ∈ ch_tb := wi_2 (List.mem_of_getElem? (i := 30) rfl) rfl
theorem mw_2_31 : Cond.selects RX11 yX11_moved yX11_moved ∈ ch_tb := wi_2 (List.mem_of_getElem? (i := 31) rfl) rfl
theorem mw_2_32 : Cond.code yX11_moved cX11_moved 4 (Option.some FieldType.int) ∈ ch_tb := wi_2 (List.mem_of_getElem? (i := 32) rfl) rfl
theorem mw_2_33 : Cond.classLink RX11 77 RX5 ∈ ch_tb := wi_2 (List.mem_of_getElem? (i := 33) rfl) rfl
theorem mw_2_34 : Cond.instantiable RX5 5 ∈ ch_tb := wi_2 (List.mem_of_getElem? (i := 34) rfl) rfl
theorem mw_2_35 : Cond.methodLink RX11 79 yX5_init ∈ ch_tb := wi_2 (List.mem_of_getElem? (i := 35) rfl) rfl
theorem mw_2_36 : Cond.instanceMethod yX5_init ∈ ch_tb := wi_2 (List.mem_of_getElem? (i := 36) rfl) rfl
theorem mw_2_37 : Cond.code yX5_init cX5_init 5 none ∈ ch_tb := wi_2 (List.mem_of_getElem? (i := 37) rfl) rfl
theorem mw_2_38 : Cond.methodLink RX5 7 yX8_init ∈ ch_tb := wi_2 (List.mem_of_getElem? (i := 38) rfl) rfl
theorem mw_2_39 : Cond.fieldLink RX5 11 "SpanSolids$Moved" "part" "LSpanSolids$Solid;" ∈ ch_tb := wi_2 (List.mem_of_getElem? (i := 39) rfl) rfl
theorem mw_2_40 : Cond.fieldLink RX5 17 "SpanSolids$Moved" "byX" "I" ∈ ch_tb := wi_2 (List.mem_of_getElem? (i := 40) rfl) rfl
theorem mw_2_41 : Cond.fieldLink RX5 20 "SpanSolids$Moved" "byY" "I" ∈ ch_tb := wi_2 (List.mem_of_getElem? (i := 41) rfl) rfl
theorem mw_2_42 : Cond.fieldLink RX5 23 "SpanSolids$Moved" "byZ" "I" ∈ ch_tb := wi_2 (List.mem_of_getElem? (i := 42) rfl) rfl
theorem mw_2_43 : Cond.laysFinal RX5 "SpanSolids$Moved" "part" "LSpanSolids$Solid;" ∈ ch_tb := wi_2 (List.mem_of_getElem? (i := 43) rfl) rfl
theorem mw_2_45 : Cond.laysFinal RX5 "SpanSolids$Moved" "byX" "I" ∈ ch_tb := wi_2 (List.mem_of_getElem? (i := 45) rfl) rfl
theorem mw_2_47 : Cond.laysFinal RX5 "SpanSolids$Moved" "byY" "I" ∈ ch_tb := wi_2 (List.mem_of_getElem? (i := 47) rfl) rfl
theorem mw_2_49 : Cond.laysFinal RX5 "SpanSolids$Moved" "byZ" "I" ∈ ch_tb := wi_2 (List.mem_of_getElem? (i := 49) rfl) rfl
theorem mw_2_51 : Cond.laysFinal RX5 "SpanSolids$Solid" "weight" "I" ∈ ch_tb := wi_2 (List.mem_of_getElem? (i := 51) rfl) rfl
theorem mw_2_52 : Cond.superclass RX5 "SpanSolids$Solid" ∈ ch_tb := wi_2 (List.mem_of_getElem? (i := 52) rfl) rfl
theorem mw_2_53 : Cond.methodLink RL 31 yX11_turned ∈ ch_tb := wi_2 (List.mem_of_getElem? (i := 53) rfl) rfl
theorem mw_2_54 : Cond.instanceMethod yX11_turned ∈ ch_tb := wi_2 (List.mem_of_getElem? (i := 54) rfl) rfl
theorem mw_2_55 : Cond.selects RX11 yX11_turned yX11_turned ∈ ch_tb := wi_2 (List.mem_of_getElem? (i := 55) rfl) rfl
theorem mw_2_56 : Cond.code yX11_turned cX11_turned 3 (Option.some FieldType.int) ∈ ch_tb := wi_2 (List.mem_of_getElem? (i := 56) rfl) rfl
theorem mw_2_57 : Cond.classLink RX11 82 RX9 ∈ ch_tb := wi_2 (List.mem_of_getElem? (i := 57) rfl) rfl
theorem mw_2_58 : Cond.instantiable RX9 2 ∈ ch_tb := wi_2 (List.mem_of_getElem? (i := 58) rfl) rfl
theorem mw_2_59 : Cond.methodLink RX11 84 yX9_init ∈ ch_tb := wi_2 (List.mem_of_getElem? (i := 59) rfl) rfl
theorem mw_2_60 : Cond.instanceMethod yX9_init ∈ ch_tb := wi_2 (List.mem_of_getElem? (i := 60) rfl) rfl
theorem mw_2_61 : Cond.code yX9_init cX9_init 2 none ∈ ch_tb := wi_2 (List.mem_of_getElem? (i := 61) rfl) rfl
theorem mw_2_62 : Cond.methodLink RX9 7 yX8_init ∈ ch_tb := wi_2 (List.mem_of_getElem? (i := 62) rfl) rfl
theorem mw_2_63 : Cond.fieldLink RX9 11 "SpanSolids$Turned" "part" "LSpanSolids$Solid;" ∈ ch_tb := wi_2 (List.mem_of_getElem? (i := 63) rfl) rfl
theorem mw_2_64 : Cond.laysFinal RX9 "SpanSolids$Turned" "part" "LSpanSolids$Solid;" ∈ ch_tb := wi_2 (List.mem_of_getElem? (i := 64) rfl) rfl
theorem mw_2_66 : Cond.laysFinal RX9 "SpanSolids$Solid" "weight" "I" ∈ ch_tb := wi_2 (List.mem_of_getElem? (i := 66) rfl) rfl
theorem mw_2_67 : Cond.superclass RX9 "SpanSolids$Solid" ∈ ch_tb := wi_2 (List.mem_of_getElem? (i := 67) rfl) rfl
theorem mw_2_68 : Cond.methodLink RL 35 yX11_weight ∈ ch_tb := wi_2 (List.mem_of_getElem? (i := 68) rfl) rfl
theorem mw_2_69 : Cond.instanceMethod yX11_weight ∈ ch_tb := wi_2 (List.mem_of_getElem? (i := 69) rfl) rfl
theorem mw_2_70 : Cond.selects RX11 yX11_weight yX11_weight ∈ ch_tb := wi_2 (List.mem_of_getElem? (i := 70) rfl) rfl
theorem mw_2_71 : Cond.code yX11_weight cX11_weight 3 (Option.some FieldType.int) ∈ ch_tb := wi_2 (List.mem_of_getElem? (i := 71) rfl) rfl
theorem mw_2_72 : Cond.methodLink RL 39 yX11_inside ∈ ch_tb := wi_2 (List.mem_of_getElem? (i := 72) rfl) rfl
theorem mw_2_73 : Cond.instanceMethod yX11_inside ∈ ch_tb := wi_2 (List.mem_of_getElem? (i := 73) rfl) rfl
theorem mw_2_74 : Cond.selects RX11 yX11_inside yX11_inside ∈ ch_tb := wi_2 (List.mem_of_getElem? (i := 74) rfl) rfl
theorem mw_2_75 : Cond.code yX11_inside cX11_inside 6 (Option.some FieldType.boolean) ∈ ch_tb := wi_2 (List.mem_of_getElem? (i := 75) rfl) rfl
theorem mw_2_76 : Cond.methodLink RX11 87 yX11_isBeyond ∈ ch_tb := wi_2 (List.mem_of_getElem? (i := 76) rfl) rfl
theorem mw_2_77 : Cond.static yX11_isBeyond ∈ ch_tb := wi_2 (List.mem_of_getElem? (i := 77) rfl) rfl
theorem mw_2_78 : Cond.code yX11_isBeyond cX11_isBeyond 1 (Option.some FieldType.boolean) ∈ ch_tb := wi_2 (List.mem_of_getElem? (i := 78) rfl) rfl
theorem mw_2_79 : Cond.constant RX11 135 (-100000) ∈ ch_tb := wi_2 (List.mem_of_getElem? (i := 79) rfl) rfl
theorem mw_2_80 : Cond.constant RX11 136 (100000) ∈ ch_tb := wi_2 (List.mem_of_getElem? (i := 80) rfl) rfl
theorem mw_2_81 : Cond.methodLink RX11 91 yX11_lookOver ∈ ch_tb := wi_2 (List.mem_of_getElem? (i := 81) rfl) rfl
theorem mw_2_83 : Cond.instanceMethod yX11_lookOver ∈ ch_tb := wi_2 (List.mem_of_getElem? (i := 83) rfl) rfl
theorem mw_2_84 : Cond.code yX11_lookOver cX11_lookOver 5 none ∈ ch_tb := wi_2 (List.mem_of_getElem? (i := 84) rfl) rfl
theorem mw_2_85 : Cond.methodLink RX11 129 yX7_clear ∈ ch_tb := wi_2 (List.mem_of_getElem? (i := 85) rfl) rfl
theorem mw_2_86 : Cond.instanceMethod yX7_clear ∈ ch_tb := wi_2 (List.mem_of_getElem? (i := 86) rfl) rfl
theorem mw_2_87 : Cond.selects RX7 yX7_clear yX7_clear ∈ ch_tb := wi_2 (List.mem_of_getElem? (i := 87) rfl) rfl
theorem mw_2_88 : Cond.code yX7_clear cX7_clear 1 none ∈ ch_tb := wi_2 (List.mem_of_getElem? (i := 88) rfl) rfl
theorem mw_2_89 : Cond.methodLink RX11 132 yX10_over ∈ ch_tb := wi_2 (List.mem_of_getElem? (i := 89) rfl) rfl
theorem mw_2_90 : Cond.instanceMethod yX10_over ∈ ch_tb := wi_2 (List.mem_of_getElem? (i := 90) rfl) rfl
theorem mw_2_91 : Cond.selects RX10 yX10_over yX10_over ∈ ch_tb := wi_2 (List.mem_of_getElem? (i := 91) rfl) rfl
theorem mw_2_92 : Cond.code yX10_over cX10_over 6 none ∈ ch_tb := wi_2 (List.mem_of_getElem? (i := 92) rfl) rfl
theorem mw_2_93 : Cond.methodLink RX10 41 yX3_clear ∈ ch_tb := wi_2 (List.mem_of_getElem? (i := 93) rfl) rfl
theorem mw_2_94 : Cond.instanceMethod yX3_clear ∈ ch_tb := wi_2 (List.mem_of_getElem? (i := 94) rfl) rfl
theorem mw_2_95 : Cond.selects RX3 yX3_clear yX3_clear ∈ ch_tb := wi_2 (List.mem_of_getElem? (i := 95) rfl) rfl
theorem mw_2_96 : Cond.code yX3_clear cX3_clear 1 none ∈ ch_tb := wi_2 (List.mem_of_getElem? (i := 96) rfl) rfl
theorem mw_2_97 : Cond.methodLink RX10 44 yX10_await ∈ ch_tb := wi_2 (List.mem_of_getElem? (i := 97) rfl) rfl
theorem mw_2_98 : Cond.instanceMethod yX10_await ∈ ch_tb := wi_2 (List.mem_of_getElem? (i := 98) rfl) rfl
theorem mw_2_99 : Cond.selects RX10 yX10_await yX10_await ∈ ch_tb := wi_2 (List.mem_of_getElem? (i := 99) rfl) rfl
theorem mw_2_100 : Cond.code yX10_await cX10_await 5 none ∈ ch_tb := wi_2 (List.mem_of_getElem? (i := 100) rfl) rfl
theorem mw_2_101 : Cond.methodLink RX10 48 yX10_lookAt ∈ ch_tb := wi_2 (List.mem_of_getElem? (i := 101) rfl) rfl
theorem mw_2_103 : Cond.instanceMethod yX10_lookAt ∈ ch_tb := wi_2 (List.mem_of_getElem? (i := 103) rfl) rfl
theorem mw_2_104 : Cond.code yX10_lookAt cX10_lookAt 3 none ∈ ch_tb := wi_2 (List.mem_of_getElem? (i := 104) rfl) rfl
theorem mw_2_105 : Cond.methodLink RX10 56 yX3_joinNewest ∈ ch_tb := wi_2 (List.mem_of_getElem? (i := 105) rfl) rfl
theorem mw_2_106 : Cond.instanceMethod yX3_joinNewest ∈ ch_tb := wi_2 (List.mem_of_getElem? (i := 106) rfl) rfl
theorem mw_2_107 : Cond.selects RX3 yX3_joinNewest yX3_joinNewest ∈ ch_tb := wi_2 (List.mem_of_getElem? (i := 107) rfl) rfl
theorem mw_2_108 : Cond.code yX3_joinNewest cX3_joinNewest 5 none ∈ ch_tb := wi_2 (List.mem_of_getElem? (i := 108) rfl) rfl
theorem mw_2_109 : Cond.methodLink RX3 28 yX3_mix ∈ ch_tb := wi_2 (List.mem_of_getElem? (i := 109) rfl) rfl
theorem mw_2_111 : Cond.instanceMethod yX3_mix ∈ ch_tb := wi_2 (List.mem_of_getElem? (i := 111) rfl) rfl
theorem mw_2_112 : Cond.code yX3_mix cX3_mix 12 (Option.some FieldType.int) ∈ ch_tb := wi_2 (List.mem_of_getElem? (i := 112) rfl) rfl
theorem mw_2_113 : Cond.methodLink RX3 32 yX3_nextEdge ∈ ch_tb := wi_2 (List.mem_of_getElem? (i := 113) rfl) rfl
theorem mw_2_115 : Cond.instanceMethod yX3_nextEdge ∈ ch_tb := wi_2 (List.mem_of_getElem? (i := 115) rfl) rfl
theorem mw_2_116 : Cond.code yX3_nextEdge cX3_nextEdge 4 (Option.some FieldType.int) ∈ ch_tb := wi_2 (List.mem_of_getElem? (i := 116) rfl) rfl
theorem mw_2_117 : Cond.methodLink RX3 35 yX3_isJoined ∈ ch_tb := wi_2 (List.mem_of_getElem? (i := 117) rfl) rfl
theorem mw_2_118 : Cond.static yX3_isJoined ∈ ch_tb := wi_2 (List.mem_of_getElem? (i := 118) rfl) rfl
theorem mw_2_119 : Cond.code yX3_isJoined cX3_isJoined 3 (Option.some FieldType.boolean) ∈ ch_tb := wi_2 (List.mem_of_getElem? (i := 119) rfl) rfl
theorem mw_2_120 : Cond.methodLink RX10 59 ⟨"SpanSolids$Solid", "lookFrom", "(IIILSpanSolids$Walk;)V"⟩ ∈ ch_tb := wi_2 (List.mem_of_getElem? (i := 120) rfl) rfl
theorem mw_2_122 : Cond.sameMethod RX8 "SpanSolids$Solid" "lookFrom" "(IIILSpanSolids$Walk;)V" ∈ ch_tb := wi_2 (List.mem_of_getElem? (i := 122) rfl) rfl
theorem mw_2_123 : Cond.selects RX0 ⟨"SpanSolids$Solid", "lookFrom", "(IIILSpanSolids$Walk;)V"⟩ yX0_lookFrom ∈ ch_tb := wi_2 (List.mem_of_getElem? (i := 123) rfl) rfl
theorem mw_2_124 : Cond.instanceMethod yX0_lookFrom ∈ ch_tb := wi_2 (List.mem_of_getElem? (i := 124) rfl) rfl
theorem mw_2_125 : Cond.code yX0_lookFrom cX0_lookFrom 8 none ∈ ch_tb := wi_2 (List.mem_of_getElem? (i := 125) rfl) rfl
theorem mw_2_127 : Cond.static yX11_square ∈ ch_tb := wi_2 (List.mem_of_getElem? (i := 127) rfl) rfl
theorem mw_2_128 : Cond.code yX11_square cX11_square 2 (Option.some FieldType.long) ∈ ch_tb := wi_2 (List.mem_of_getElem? (i := 128) rfl) rfl
theorem mw_2_129 : Cond.methodLink RX0 28 yX10_giveNone ∈ ch_tb := wi_2 (List.mem_of_getElem? (i := 129) rfl) rfl
theorem mw_2_130 : Cond.instanceMethod yX10_giveNone ∈ ch_tb := wi_2 (List.mem_of_getElem? (i := 130) rfl) rfl
theorem mw_2_131 : Cond.selects RX10 yX10_giveNone yX10_giveNone ∈ ch_tb := wi_2 (List.mem_of_getElem? (i := 131) rfl) rfl
theorem mw_2_132 : Cond.code yX10_giveNone cX10_giveNone 1 none ∈ ch_tb := wi_2 (List.mem_of_getElem? (i := 132) rfl) rfl
theorem mw_2_133 : Cond.methodLink RX10 63 yX3_add ∈ ch_tb := wi_2 (List.mem_of_getElem? (i := 133) rfl) rfl
theorem mw_2_134 : Cond.instanceMethod yX3_add ∈ ch_tb := wi_2 (List.mem_of_getElem? (i := 134) rfl) rfl
theorem mw_2_135 : Cond.selects RX3 yX3_add yX3_add ∈ ch_tb := wi_2 (List.mem_of_getElem? (i := 135) rfl) rfl
theorem mw_2_136 : Cond.code yX3_add cX3_add 3 none ∈ ch_tb := wi_2 (List.mem_of_getElem? (i := 136) rfl) rfl
theorem mw_2_138 : Cond.static yX11_rootBelow ∈ ch_tb := wi_2 (List.mem_of_getElem? (i := 138) rfl) rfl
theorem mw_2_139 : Cond.code yX11_rootBelow cX11_rootBelow 7 (Option.some FieldType.int) ∈ ch_tb := wi_2 (List.mem_of_getElem? (i := 139) rfl) rfl
theorem mw_2_140 : Cond.methodLink RX11 137 yX11_square ∈ ch_tb := wi_2 (List.mem_of_getElem? (i := 140) rfl) rfl
theorem mw_2_141 : Cond.methodLink RX0 38 yX10_give ∈ ch_tb := wi_2 (List.mem_of_getElem? (i := 141) rfl) rfl
theorem mw_2_142 : Cond.instanceMethod yX10_give ∈ ch_tb := wi_2 (List.mem_of_getElem? (i := 142) rfl) rfl
theorem mw_2_143 : Cond.selects RX10 yX10_give yX10_give ∈ ch_tb := wi_2 (List.mem_of_getElem? (i := 143) rfl) rfl
theorem mw_2_144 : Cond.code yX10_give cX10_give 3 none ∈ ch_tb := wi_2 (List.mem_of_getElem? (i := 144) rfl) rfl
theorem mw_2_145 : Cond.selects RX1 ⟨"SpanSolids$Solid", "lookFrom", "(IIILSpanSolids$Walk;)V"⟩ yX1_lookFrom ∈ ch_tb := wi_2 (List.mem_of_getElem? (i := 145) rfl) rfl
theorem mw_2_146 : Cond.instanceMethod yX1_lookFrom ∈ ch_tb := wi_2 (List.mem_of_getElem? (i := 146) rfl) rfl
theorem mw_2_147 : Cond.code yX1_lookFrom cX1_lookFrom 5 none ∈ ch_tb := wi_2 (List.mem_of_getElem? (i := 147) rfl) rfl
theorem mw_2_148 : Cond.methodLink RX1 28 yX10_give ∈ ch_tb := wi_2 (List.mem_of_getElem? (i := 148) rfl) rfl
theorem mw_2_149 : Cond.methodLink RX1 34 yX10_giveNone ∈ ch_tb := wi_2 (List.mem_of_getElem? (i := 149) rfl) rfl
theorem mw_2_150 : Cond.selects RX2 ⟨"SpanSolids$Solid", "lookFrom", "(IIILSpanSolids$Walk;)V"⟩ yX2_lookFrom ∈ ch_tb := wi_2 (List.mem_of_getElem? (i := 150) rfl) rfl
theorem mw_2_151 : Cond.instanceMethod yX2_lookFrom ∈ ch_tb := wi_2 (List.mem_of_getElem? (i := 151) rfl) rfl
theorem mw_2_152 : Cond.code yX2_lookFrom cX2_lookFrom 7 none ∈ ch_tb := wi_2 (List.mem_of_getElem? (i := 152) rfl) rfl
theorem mw_2_154 : Cond.methodLink RX2 31 yX10_giveNone ∈ ch_tb := wi_2 (List.mem_of_getElem? (i := 154) rfl) rfl
theorem mw_2_155 : Cond.methodLink RX2 37 yX2_leastDepth ∈ ch_tb := wi_2 (List.mem_of_getElem? (i := 155) rfl) rfl
theorem mw_2_157 : Cond.instanceMethod yX2_leastDepth ∈ ch_tb := wi_2 (List.mem_of_getElem? (i := 157) rfl) rfl
theorem mw_2_158 : Cond.code yX2_leastDepth cX2_leastDepth 9 (Option.some FieldType.int) ∈ ch_tb := wi_2 (List.mem_of_getElem? (i := 158) rfl) rfl
theorem mw_2_159 : Cond.methodLink RX2 41 yX10_give ∈ ch_tb := wi_2 (List.mem_of_getElem? (i := 159) rfl) rfl
theorem mw_2_160 : Cond.selects RX4 ⟨"SpanSolids$Solid", "lookFrom", "(IIILSpanSolids$Walk;)V"⟩ yX4_lookFrom ∈ ch_tb := wi_2 (List.mem_of_getElem? (i := 160) rfl) rfl
theorem mw_2_161 : Cond.instanceMethod yX4_lookFrom ∈ ch_tb := wi_2 (List.mem_of_getElem? (i := 161) rfl) rfl
theorem mw_2_162 : Cond.code yX4_lookFrom cX4_lookFrom 5 none ∈ ch_tb := wi_2 (List.mem_of_getElem? (i := 162) rfl) rfl
theorem mw_2_163 : Cond.methodLink RX4 23 yX10_awaitJoin ∈ ch_tb := wi_2 (List.mem_of_getElem? (i := 163) rfl) rfl
theorem mw_2_164 : Cond.instanceMethod yX10_awaitJoin ∈ ch_tb := wi_2 (List.mem_of_getElem? (i := 164) rfl) rfl
theorem mw_2_165 : Cond.selects RX10 yX10_awaitJoin yX10_awaitJoin ∈ ch_tb := wi_2 (List.mem_of_getElem? (i := 165) rfl) rfl
theorem mw_2_166 : Cond.code yX10_awaitJoin cX10_awaitJoin 2 none ∈ ch_tb := wi_2 (List.mem_of_getElem? (i := 166) rfl) rfl
theorem mw_2_167 : Cond.methodLink RX4 28 yX10_await ∈ ch_tb := wi_2 (List.mem_of_getElem? (i := 167) rfl) rfl
theorem mw_2_168 : Cond.selects RX5 ⟨"SpanSolids$Solid", "lookFrom", "(IIILSpanSolids$Walk;)V"⟩ yX5_lookFrom ∈ ch_tb := wi_2 (List.mem_of_getElem? (i := 168) rfl) rfl
theorem mw_2_169 : Cond.instanceMethod yX5_lookFrom ∈ ch_tb := wi_2 (List.mem_of_getElem? (i := 169) rfl) rfl
theorem mw_2_170 : Cond.code yX5_lookFrom cX5_lookFrom 5 none ∈ ch_tb := wi_2 (List.mem_of_getElem? (i := 170) rfl) rfl
theorem mw_2_171 : Cond.methodLink RX5 26 yX10_await ∈ ch_tb := wi_2 (List.mem_of_getElem? (i := 171) rfl) rfl
theorem mw_2_172 : Cond.selects RX6 ⟨"SpanSolids$Solid", "lookFrom", "(IIILSpanSolids$Walk;)V"⟩ yX6_lookFrom ∈ ch_tb := wi_2 (List.mem_of_getElem? (i := 172) rfl) rfl
theorem mw_2_173 : Cond.instanceMethod yX6_lookFrom ∈ ch_tb := wi_2 (List.mem_of_getElem? (i := 173) rfl) rfl
theorem mw_2_174 : Cond.code yX6_lookFrom cX6_lookFrom 5 none ∈ ch_tb := wi_2 (List.mem_of_getElem? (i := 174) rfl) rfl
theorem mw_2_176 : Cond.methodLink RX6 31 yX10_give ∈ ch_tb := wi_2 (List.mem_of_getElem? (i := 176) rfl) rfl
theorem mw_2_177 : Cond.methodLink RX6 37 yX10_giveNone ∈ ch_tb := wi_2 (List.mem_of_getElem? (i := 177) rfl) rfl
theorem mw_2_178 : Cond.selects RX9 ⟨"SpanSolids$Solid", "lookFrom", "(IIILSpanSolids$Walk;)V"⟩ yX9_lookFrom ∈ ch_tb := wi_2 (List.mem_of_getElem? (i := 178) rfl) rfl
theorem mw_2_179 : Cond.instanceMethod yX9_lookFrom ∈ ch_tb := wi_2 (List.mem_of_getElem? (i := 179) rfl) rfl
theorem mw_2_180 : Cond.code yX9_lookFrom cX9_lookFrom 5 none ∈ ch_tb := wi_2 (List.mem_of_getElem? (i := 180) rfl) rfl
theorem mw_2_181 : Cond.methodLink RX9 17 yX10_await ∈ ch_tb := wi_2 (List.mem_of_getElem? (i := 181) rfl) rfl
theorem mw_2_182 : Cond.methodLink RX10 52 yX3_copyTo ∈ ch_tb := wi_2 (List.mem_of_getElem? (i := 182) rfl) rfl
theorem mw_2_183 : Cond.instanceMethod yX3_copyTo ∈ ch_tb := wi_2 (List.mem_of_getElem? (i := 183) rfl) rfl
theorem mw_2_184 : Cond.selects RX3 yX3_copyTo yX3_copyTo ∈ ch_tb := wi_2 (List.mem_of_getElem? (i := 184) rfl) rfl
theorem mw_2_185 : Cond.code yX3_copyTo cX3_copyTo 2 none ∈ ch_tb := wi_2 (List.mem_of_getElem? (i := 185) rfl) rfl
theorem mw_2_186 : Cond.methodLink RX3 39 yX7_copyFrom ∈ ch_tb := wi_2 (List.mem_of_getElem? (i := 186) rfl) rfl
theorem mw_2_187 : Cond.instanceMethod yX7_copyFrom ∈ ch_tb := wi_2 (List.mem_of_getElem? (i := 187) rfl) rfl
theorem mw_2_188 : Cond.selects RX7 yX7_copyFrom yX7_copyFrom ∈ ch_tb := wi_2 (List.mem_of_getElem? (i := 188) rfl) rfl
theorem mw_2_189 : Cond.code yX7_copyFrom cX7_copyFrom 4 none ∈ ch_tb := wi_2 (List.mem_of_getElem? (i := 189) rfl) rfl
theorem mw_2_190 : Cond.methodLink RX7 19 yJ9_min_7cf53 ∈ ch_tb := wi_2 (List.mem_of_getElem? (i := 190) rfl) rfl
theorem mw_2_191 : Cond.static yJ9_min_7cf53 ∈ ch_tb := wi_2 (List.mem_of_getElem? (i := 191) rfl) rfl
theorem mw_2_192 : Cond.code yJ9_min_7cf53 cJ9_min_7cf53 2 (Option.some FieldType.int) ∈ ch_tb := wi_2 (List.mem_of_getElem? (i := 192) rfl) rfl
theorem mw_2_193 : Cond.methodLink RX11 95 yX7_countFrom ∈ ch_tb := wi_2 (List.mem_of_getElem? (i := 193) rfl) rfl
theorem mw_2_194 : Cond.instanceMethod yX7_countFrom ∈ ch_tb := wi_2 (List.mem_of_getElem? (i := 194) rfl) rfl
theorem mw_2_195 : Cond.selects RX7 yX7_countFrom yX7_countFrom ∈ ch_tb := wi_2 (List.mem_of_getElem? (i := 195) rfl) rfl
theorem mw_2_196 : Cond.code yX7_countFrom cX7_countFrom 10 (Option.some FieldType.long) ∈ ch_tb := wi_2 (List.mem_of_getElem? (i := 196) rfl) rfl
theorem mw_2_197 : Cond.methodLink RX7 25 yX7_runCount ∈ ch_tb := wi_2 (List.mem_of_getElem? (i := 197) rfl) rfl
theorem mw_2_198 : Cond.instanceMethod yX7_runCount ∈ ch_tb := wi_2 (List.mem_of_getElem? (i := 198) rfl) rfl
theorem mw_2_199 : Cond.selects RX7 yX7_runCount yX7_runCount ∈ ch_tb := wi_2 (List.mem_of_getElem? (i := 199) rfl) rfl
theorem mw_2_200 : Cond.code yX7_runCount cX7_runCount 1 (Option.some FieldType.int) ∈ ch_tb := wi_2 (List.mem_of_getElem? (i := 200) rfl) rfl
theorem mw_2_201 : Cond.methodLink RX7 29 yX7_firstOf ∈ ch_tb := wi_2 (List.mem_of_getElem? (i := 201) rfl) rfl
theorem mw_2_202 : Cond.instanceMethod yX7_firstOf ∈ ch_tb := wi_2 (List.mem_of_getElem? (i := 202) rfl) rfl
theorem mw_2_203 : Cond.selects RX7 yX7_firstOf yX7_firstOf ∈ ch_tb := wi_2 (List.mem_of_getElem? (i := 203) rfl) rfl
theorem mw_2_204 : Cond.code yX7_firstOf cX7_firstOf 2 (Option.some FieldType.int) ∈ ch_tb := wi_2 (List.mem_of_getElem? (i := 204) rfl) rfl
theorem mw_2_205 : Cond.methodLink RX7 33 yJ9_max_7cf53 ∈ ch_tb := wi_2 (List.mem_of_getElem? (i := 205) rfl) rfl
theorem mw_2_206 : Cond.static yJ9_max_7cf53 ∈ ch_tb := wi_2 (List.mem_of_getElem? (i := 206) rfl) rfl
theorem mw_2_207 : Cond.code yJ9_max_7cf53 cJ9_max_7cf53 2 (Option.some FieldType.int) ∈ ch_tb := wi_2 (List.mem_of_getElem? (i := 207) rfl) rfl
theorem mw_2_208 : Cond.methodLink RX7 36 yX7_lastOf ∈ ch_tb := wi_2 (List.mem_of_getElem? (i := 208) rfl) rfl
theorem mw_2_209 : Cond.instanceMethod yX7_lastOf ∈ ch_tb := wi_2 (List.mem_of_getElem? (i := 209) rfl) rfl
theorem mw_2_210 : Cond.selects RX7 yX7_lastOf yX7_lastOf ∈ ch_tb := wi_2 (List.mem_of_getElem? (i := 210) rfl) rfl
theorem mw_2_211 : Cond.code yX7_lastOf cX7_lastOf 2 (Option.some FieldType.int) ∈ ch_tb := wi_2 (List.mem_of_getElem? (i := 211) rfl) rfl
theorem mw_2_212 : Cond.methodLink RL 44 yX11_top ∈ ch_tb := wi_2 (List.mem_of_getElem? (i := 212) rfl) rfl
theorem mw_2_213 : Cond.instanceMethod yX11_top ∈ ch_tb := wi_2 (List.mem_of_getElem? (i := 213) rfl) rfl
theorem mw_2_214 : Cond.selects RX11 yX11_top yX11_top ∈ ch_tb := wi_2 (List.mem_of_getElem? (i := 214) rfl) rfl
theorem mw_2_215 : Cond.code yX11_top cX11_top 5 (Option.some FieldType.int) ∈ ch_tb := wi_2 (List.mem_of_getElem? (i := 215) rfl) rfl
theorem mw_2_216 : Cond.methodLink RX11 99 yX7_afterGreatest ∈ ch_tb := wi_2 (List.mem_of_getElem? (i := 216) rfl) rfl
theorem mw_2_217 : Cond.instanceMethod yX7_afterGreatest ∈ ch_tb := wi_2 (List.mem_of_getElem? (i := 217) rfl) rfl
theorem mw_2_218 : Cond.selects RX7 yX7_afterGreatest yX7_afterGreatest ∈ ch_tb := wi_2 (List.mem_of_getElem? (i := 218) rfl) rfl
theorem mw_2_219 : Cond.code yX7_afterGreatest cX7_afterGreatest 4 (Option.some FieldType.int) ∈ ch_tb := wi_2 (List.mem_of_getElem? (i := 219) rfl) rfl
theorem mw_2_220 : Cond.methodLink RL 48 yX11_spans ∈ ch_tb := wi_2 (List.mem_of_getElem? (i := 220) rfl) rfl
theorem mw_2_221 : Cond.instanceMethod yX11_spans ∈ ch_tb := wi_2 (List.mem_of_getElem? (i := 221) rfl) rfl
theorem mw_2_222 : Cond.selects RX11 yX11_spans yX11_spans ∈ ch_tb := wi_2 (List.mem_of_getElem? (i := 222) rfl) rfl
theorem mw_2_223 : Cond.code yX11_spans cX11_spans 5 (Option.some FieldType.int) ∈ ch_tb := wi_2 (List.mem_of_getElem? (i := 223) rfl) rfl
theorem mw_2_224 : Cond.methodLink RX11 102 yX7_runCount ∈ ch_tb := wi_2 (List.mem_of_getElem? (i := 224) rfl) rfl
theorem mw_2_225 : Cond.methodLink RL 52 yX11_span ∈ ch_tb := wi_2 (List.mem_of_getElem? (i := 225) rfl) rfl
theorem mw_2_226 : Cond.instanceMethod yX11_span ∈ ch_tb := wi_2 (List.mem_of_getElem? (i := 226) rfl) rfl
theorem mw_2_227 : Cond.selects RX11 yX11_span yX11_span ∈ ch_tb := wi_2 (List.mem_of_getElem? (i := 227) rfl) rfl
theorem mw_2_228 : Cond.code yX11_span cX11_span 3 (Option.some FieldType.int) ∈ ch_tb := wi_2 (List.mem_of_getElem? (i := 228) rfl) rfl
theorem mw_2_229 : Cond.methodLink RX11 105 yX7_firstOf ∈ ch_tb := wi_2 (List.mem_of_getElem? (i := 229) rfl) rfl
theorem mw_2_230 : Cond.methodLink RX11 108 yX7_lastOf ∈ ch_tb := wi_2 (List.mem_of_getElem? (i := 230) rfl) rfl
theorem mw_2_231 : Cond.methodLink RL 57 yX11_within ∈ ch_tb := wi_2 (List.mem_of_getElem? (i := 231) rfl) rfl
theorem mw_2_232 : Cond.instanceMethod yX11_within ∈ ch_tb := wi_2 (List.mem_of_getElem? (i := 232) rfl) rfl
theorem mw_2_233 : Cond.selects RX11 yX11_within yX11_within ∈ ch_tb := wi_2 (List.mem_of_getElem? (i := 233) rfl) rfl
theorem mw_2_234 : Cond.code yX11_within cX11_within 3 (Option.some FieldType.long) ∈ ch_tb := wi_2 (List.mem_of_getElem? (i := 234) rfl) rfl
theorem mw_2_235 : Cond.classLink RL 10 RX12 ∈ ch_tb := wi_2 (List.mem_of_getElem? (i := 235) rfl) rfl
theorem mw_2_236 : Cond.instantiable RX12 12 ∈ ch_tb := wi_2 (List.mem_of_getElem? (i := 236) rfl) rfl
theorem mw_2_237 : Cond.methodLink RL 12 yX12_init ∈ ch_tb := wi_2 (List.mem_of_getElem? (i := 237) rfl) rfl
theorem mw_2_238 : Cond.instanceMethod yX12_init ∈ ch_tb := wi_2 (List.mem_of_getElem? (i := 238) rfl) rfl
theorem mw_2_239 : Cond.code yX12_init cX12_init 1 none ∈ ch_tb := wi_2 (List.mem_of_getElem? (i := 239) rfl) rfl
theorem mw_3_0 : Cond.methodLink RX12 1 objectInit ∈ ch_tb := wi_3 (List.mem_of_getElem? (i := 0) rfl) rfl
theorem mw_3_1 : Cond.fieldLink RX12 9 "SpanSolidsModel" "kinds" "[I" ∈ ch_tb := wi_3 (List.mem_of_getElem? (i := 1) rfl) rfl
theorem mw_3_2 : Cond.fieldLink RX12 13 "SpanSolidsModel" "numbers" "[I" ∈ ch_tb := wi_3 (List.mem_of_getElem? (i := 2) rfl) rfl
theorem mw_3_3 : Cond.fieldLink RX12 16 "SpanSolidsModel" "weights" "[I" ∈ ch_tb := wi_3 (List.mem_of_getElem? (i := 3) rfl) rfl
theorem mw_3_4 : Cond.fieldLink RX12 39 "SpanSolidsModel" "solids" "I" ∈ ch_tb := wi_3 (List.mem_of_getElem? (i := 4) rfl) rfl
theorem mw_3_5 : Cond.fieldLink RX12 19 "SpanSolidsModel" "sizes" "[I" ∈ ch_tb := wi_3 (List.mem_of_getElem? (i := 5) rfl) rfl
theorem mw_3_6 : Cond.fieldLink RX12 35 "SpanSolidsModel" "sizeCount" "I" ∈ ch_tb := wi_3 (List.mem_of_getElem? (i := 6) rfl) rfl
theorem mw_3_7 : Cond.fieldLink RX12 22 "SpanSolidsModel" "bits" "[J" ∈ ch_tb := wi_3 (List.mem_of_getElem? (i := 7) rfl) rfl
theorem mw_3_8 : Cond.fieldLink RX12 26 "SpanSolidsModel" "heights" "[J" ∈ ch_tb := wi_3 (List.mem_of_getElem? (i := 8) rfl) rfl
theorem mw_3_9 : Cond.fieldLink RX12 83 "SpanSolidsModel" "heightCount" "I" ∈ ch_tb := wi_3 (List.mem_of_getElem? (i := 9) rfl) rfl
theorem mw_3_10 : Cond.fieldLink RX12 29 "SpanSolidsModel" "firsts" "[J" ∈ ch_tb := wi_3 (List.mem_of_getElem? (i := 10) rfl) rfl
theorem mw_3_11 : Cond.fieldLink RX12 32 "SpanSolidsModel" "lasts" "[J" ∈ ch_tb := wi_3 (List.mem_of_getElem? (i := 11) rfl) rfl
theorem mw_3_12 : Cond.fieldLink RX12 100 "SpanSolidsModel" "spanCount" "I" ∈ ch_tb := wi_3 (List.mem_of_getElem? (i := 12) rfl) rfl
theorem mw_3_13 : Cond.laysFinal RX12 "SpanSolidsModel" "kinds" "[I" ∈ ch_tb := wi_3 (List.mem_of_getElem? (i := 13) rfl) rfl
theorem mw_3_15 : Cond.laysFinal RX12 "SpanSolidsModel" "numbers" "[I" ∈ ch_tb := wi_3 (List.mem_of_getElem? (i := 15) rfl) rfl
theorem mw_3_17 : Cond.laysFinal RX12 "SpanSolidsModel" "weights" "[I" ∈ ch_tb := wi_3 (List.mem_of_getElem? (i := 17) rfl) rfl
theorem mw_3_19 : Cond.lays RX12 "SpanSolidsModel" "solids" "I" ∈ ch_tb := wi_3 (List.mem_of_getElem? (i := 19) rfl) rfl
theorem mw_3_21 : Cond.laysFinal RX12 "SpanSolidsModel" "sizes" "[I" ∈ ch_tb := wi_3 (List.mem_of_getElem? (i := 21) rfl) rfl
theorem mw_3_23 : Cond.lays RX12 "SpanSolidsModel" "sizeCount" "I" ∈ ch_tb := wi_3 (List.mem_of_getElem? (i := 23) rfl) rfl
theorem mw_3_25 : Cond.laysFinal RX12 "SpanSolidsModel" "bits" "[J" ∈ ch_tb := wi_3 (List.mem_of_getElem? (i := 25) rfl) rfl
theorem mw_3_27 : Cond.laysFinal RX12 "SpanSolidsModel" "heights" "[J" ∈ ch_tb := wi_3 (List.mem_of_getElem? (i := 27) rfl) rfl
theorem mw_3_29 : Cond.lays RX12 "SpanSolidsModel" "heightCount" "I" ∈ ch_tb := wi_3 (List.mem_of_getElem? (i := 29) rfl) rfl
theorem mw_3_31 : Cond.laysFinal RX12 "SpanSolidsModel" "firsts" "[J" ∈ ch_tb := wi_3 (List.mem_of_getElem? (i := 31) rfl) rfl
theorem mw_3_33 : Cond.laysFinal RX12 "SpanSolidsModel" "lasts" "[J" ∈ ch_tb := wi_3 (List.mem_of_getElem? (i := 33) rfl) rfl
theorem mw_3_35 : Cond.lays RX12 "SpanSolidsModel" "spanCount" "I" ∈ ch_tb := wi_3 (List.mem_of_getElem? (i := 35) rfl) rfl
theorem mw_3_37 : Cond.superclass RX12 "java/lang/Object" ∈ ch_tb := wi_3 (List.mem_of_getElem? (i := 37) rfl) rfl
theorem mw_3_38 : Cond.arrayClass FieldType.long ∈ ch_tb := wi_3 (List.mem_of_getElem? (i := 38) rfl) rfl
theorem mw_3_39 : Cond.methodLink RL 17 yX12_size ∈ ch_tb := wi_3 (List.mem_of_getElem? (i := 39) rfl) rfl
theorem mw_3_40 : Cond.instanceMethod yX12_size ∈ ch_tb := wi_3 (List.mem_of_getElem? (i := 40) rfl) rfl
theorem mw_3_41 : Cond.selects RX12 yX12_size yX12_size ∈ ch_tb := wi_3 (List.mem_of_getElem? (i := 41) rfl) rfl
theorem mw_3_42 : Cond.code yX12_size cX12_size 2 (Option.some FieldType.int) ∈ ch_tb := wi_3 (List.mem_of_getElem? (i := 42) rfl) rfl
theorem mw_3_43 : Cond.methodLink RL 21 yX12_solid ∈ ch_tb := wi_3 (List.mem_of_getElem? (i := 43) rfl) rfl
theorem mw_3_44 : Cond.instanceMethod yX12_solid ∈ ch_tb := wi_3 (List.mem_of_getElem? (i := 44) rfl) rfl
theorem mw_3_45 : Cond.selects RX12 yX12_solid yX12_solid ∈ ch_tb := wi_3 (List.mem_of_getElem? (i := 45) rfl) rfl
theorem mw_3_46 : Cond.code yX12_solid cX12_solid 4 (Option.some FieldType.int) ∈ ch_tb := wi_3 (List.mem_of_getElem? (i := 46) rfl) rfl
theorem mw_3_47 : Cond.methodLink RX12 42 yX12_made ∈ ch_tb := wi_3 (List.mem_of_getElem? (i := 47) rfl) rfl
theorem mw_3_49 : Cond.instanceMethod yX12_made ∈ ch_tb := wi_3 (List.mem_of_getElem? (i := 49) rfl) rfl
theorem mw_3_50 : Cond.code yX12_made cX12_made 4 (Option.some FieldType.int) ∈ ch_tb := wi_3 (List.mem_of_getElem? (i := 50) rfl) rfl
theorem mw_3_51 : Cond.methodLink RL 26 yX12_join ∈ ch_tb := wi_3 (List.mem_of_getElem? (i := 51) rfl) rfl
theorem mw_3_52 : Cond.instanceMethod yX12_join ∈ ch_tb := wi_3 (List.mem_of_getElem? (i := 52) rfl) rfl
theorem mw_3_53 : Cond.selects RX12 yX12_join yX12_join ∈ ch_tb := wi_3 (List.mem_of_getElem? (i := 53) rfl) rfl
theorem mw_3_54 : Cond.code yX12_join cX12_join 5 (Option.some FieldType.int) ∈ ch_tb := wi_3 (List.mem_of_getElem? (i := 54) rfl) rfl
theorem mw_3_55 : Cond.methodLink RX12 46 yX12_isSolid ∈ ch_tb := wi_3 (List.mem_of_getElem? (i := 55) rfl) rfl
theorem mw_3_57 : Cond.instanceMethod yX12_isSolid ∈ ch_tb := wi_3 (List.mem_of_getElem? (i := 57) rfl) rfl
theorem mw_3_58 : Cond.code yX12_isSolid cX12_isSolid 2 (Option.some FieldType.boolean) ∈ ch_tb := wi_3 (List.mem_of_getElem? (i := 58) rfl) rfl
theorem mw_3_59 : Cond.methodLink RL 30 yX12_moved ∈ ch_tb := wi_3 (List.mem_of_getElem? (i := 59) rfl) rfl
theorem mw_3_60 : Cond.instanceMethod yX12_moved ∈ ch_tb := wi_3 (List.mem_of_getElem? (i := 60) rfl) rfl
theorem mw_3_61 : Cond.selects RX12 yX12_moved yX12_moved ∈ ch_tb := wi_3 (List.mem_of_getElem? (i := 61) rfl) rfl
theorem mw_3_62 : Cond.code yX12_moved cX12_moved 4 (Option.some FieldType.int) ∈ ch_tb := wi_3 (List.mem_of_getElem? (i := 62) rfl) rfl
theorem mw_3_63 : Cond.methodLink RL 34 yX12_turned ∈ ch_tb := wi_3 (List.mem_of_getElem? (i := 63) rfl) rfl
theorem mw_3_64 : Cond.instanceMethod yX12_turned ∈ ch_tb := wi_3 (List.mem_of_getElem? (i := 64) rfl) rfl
theorem mw_3_65 : Cond.selects RX12 yX12_turned yX12_turned ∈ ch_tb := wi_3 (List.mem_of_getElem? (i := 65) rfl) rfl
theorem mw_3_66 : Cond.code yX12_turned cX12_turned 3 (Option.some FieldType.int) ∈ ch_tb := wi_3 (List.mem_of_getElem? (i := 66) rfl) rfl
theorem mw_3_67 : Cond.methodLink RL 43 yX12_inside ∈ ch_tb := wi_3 (List.mem_of_getElem? (i := 67) rfl) rfl
theorem mw_3_68 : Cond.instanceMethod yX12_inside ∈ ch_tb := wi_3 (List.mem_of_getElem? (i := 68) rfl) rfl
theorem mw_3_69 : Cond.selects RX12 yX12_inside yX12_inside ∈ ch_tb := wi_3 (List.mem_of_getElem? (i := 69) rfl) rfl
theorem mw_3_70 : Cond.code yX12_inside cX12_inside 5 (Option.some FieldType.boolean) ∈ ch_tb := wi_3 (List.mem_of_getElem? (i := 70) rfl) rfl
theorem mw_3_71 : Cond.methodLink RX12 66 yX12_isNear ∈ ch_tb := wi_3 (List.mem_of_getElem? (i := 71) rfl) rfl
theorem mw_3_72 : Cond.static yX12_isNear ∈ ch_tb := wi_3 (List.mem_of_getElem? (i := 72) rfl) rfl
theorem mw_3_73 : Cond.code yX12_isNear cX12_isNear 1 (Option.some FieldType.boolean) ∈ ch_tb := wi_3 (List.mem_of_getElem? (i := 73) rfl) rfl
theorem mw_3_74 : Cond.constant RX12 64 (-100000) ∈ ch_tb := wi_3 (List.mem_of_getElem? (i := 74) rfl) rfl
theorem mw_3_75 : Cond.constant RX12 65 (100000) ∈ ch_tb := wi_3 (List.mem_of_getElem? (i := 75) rfl) rfl
theorem mw_3_76 : Cond.methodLink RX12 57 yX12_isIn ∈ ch_tb := wi_3 (List.mem_of_getElem? (i := 76) rfl) rfl
theorem mw_3_78 : Cond.instanceMethod yX12_isIn ∈ ch_tb := wi_3 (List.mem_of_getElem? (i := 78) rfl) rfl
theorem mw_3_79 : Cond.code yX12_isIn cX12_isIn 10 (Option.some FieldType.boolean) ∈ ch_tb := wi_3 (List.mem_of_getElem? (i := 79) rfl) rfl
theorem mw_3_80 : Cond.methodLink RX12 50 yX12_number ∈ ch_tb := wi_3 (List.mem_of_getElem? (i := 80) rfl) rfl
theorem mw_3_82 : Cond.instanceMethod yX12_number ∈ ch_tb := wi_3 (List.mem_of_getElem? (i := 82) rfl) rfl
theorem mw_3_83 : Cond.code yX12_number cX12_number 3 (Option.some FieldType.int) ∈ ch_tb := wi_3 (List.mem_of_getElem? (i := 83) rfl) rfl
theorem mw_3_84 : Cond.methodLink RX12 61 yX12_isInKind ∈ ch_tb := wi_3 (List.mem_of_getElem? (i := 84) rfl) rfl
theorem mw_3_86 : Cond.instanceMethod yX12_isInKind ∈ ch_tb := wi_3 (List.mem_of_getElem? (i := 86) rfl) rfl
theorem mw_3_87 : Cond.code yX12_isInKind cX12_isInKind 12 (Option.some FieldType.boolean) ∈ ch_tb := wi_3 (List.mem_of_getElem? (i := 87) rfl) rfl
theorem mw_3_88 : Cond.methodLink RX12 53 yX12_square ∈ ch_tb := wi_3 (List.mem_of_getElem? (i := 88) rfl) rfl
theorem mw_3_89 : Cond.static yX12_square ∈ ch_tb := wi_3 (List.mem_of_getElem? (i := 89) rfl) rfl
theorem mw_3_90 : Cond.code yX12_square cX12_square 2 (Option.some FieldType.long) ∈ ch_tb := wi_3 (List.mem_of_getElem? (i := 90) rfl) rfl
theorem mw_3_91 : Cond.methodLink RL 47 yX12_top ∈ ch_tb := wi_3 (List.mem_of_getElem? (i := 91) rfl) rfl
theorem mw_3_92 : Cond.instanceMethod yX12_top ∈ ch_tb := wi_3 (List.mem_of_getElem? (i := 92) rfl) rfl
theorem mw_3_93 : Cond.selects RX12 yX12_top yX12_top ∈ ch_tb := wi_3 (List.mem_of_getElem? (i := 93) rfl) rfl
theorem mw_3_94 : Cond.code yX12_top cX12_top 4 (Option.some FieldType.int) ∈ ch_tb := wi_3 (List.mem_of_getElem? (i := 94) rfl) rfl
theorem mw_3_95 : Cond.methodLink RX12 75 yX12_topOf ∈ ch_tb := wi_3 (List.mem_of_getElem? (i := 95) rfl) rfl
theorem mw_3_97 : Cond.instanceMethod yX12_topOf ∈ ch_tb := wi_3 (List.mem_of_getElem? (i := 97) rfl) rfl
theorem mw_3_98 : Cond.code yX12_topOf cX12_topOf 5 (Option.some FieldType.int) ∈ ch_tb := wi_3 (List.mem_of_getElem? (i := 98) rfl) rfl
theorem mw_3_99 : Cond.methodLink RX12 69 yX12_rise ∈ ch_tb := wi_3 (List.mem_of_getElem? (i := 99) rfl) rfl
theorem mw_3_101 : Cond.instanceMethod yX12_rise ∈ ch_tb := wi_3 (List.mem_of_getElem? (i := 101) rfl) rfl
theorem mw_3_102 : Cond.code yX12_rise cX12_rise 14 none ∈ ch_tb := wi_3 (List.mem_of_getElem? (i := 102) rfl) rfl
theorem mw_3_103 : Cond.constantLong RX12 73 (-1) ∈ ch_tb := wi_3 (List.mem_of_getElem? (i := 103) rfl) rfl
theorem mw_3_104 : Cond.methodLink RL 38 yX12_weight ∈ ch_tb := wi_3 (List.mem_of_getElem? (i := 104) rfl) rfl
theorem mw_3_105 : Cond.instanceMethod yX12_weight ∈ ch_tb := wi_3 (List.mem_of_getElem? (i := 105) rfl) rfl
theorem mw_3_106 : Cond.selects RX12 yX12_weight yX12_weight ∈ ch_tb := wi_3 (List.mem_of_getElem? (i := 106) rfl) rfl
theorem mw_3_107 : Cond.code yX12_weight cX12_weight 2 (Option.some FieldType.int) ∈ ch_tb := wi_3 (List.mem_of_getElem? (i := 107) rfl) rfl
theorem mw_3_108 : Cond.methodLink RL 51 yX12_spans ∈ ch_tb := wi_3 (List.mem_of_getElem? (i := 108) rfl) rfl
theorem mw_3_109 : Cond.instanceMethod yX12_spans ∈ ch_tb := wi_3 (List.mem_of_getElem? (i := 109) rfl) rfl
theorem mw_3_110 : Cond.selects RX12 yX12_spans yX12_spans ∈ ch_tb := wi_3 (List.mem_of_getElem? (i := 110) rfl) rfl
theorem mw_3_111 : Cond.code yX12_spans cX12_spans 7 (Option.some FieldType.int) ∈ ch_tb := wi_3 (List.mem_of_getElem? (i := 111) rfl) rfl
theorem mw_3_112 : Cond.methodLink RX12 88 yX12_ends ∈ ch_tb := wi_3 (List.mem_of_getElem? (i := 112) rfl) rfl
theorem mw_3_114 : Cond.instanceMethod yX12_ends ∈ ch_tb := wi_3 (List.mem_of_getElem? (i := 114) rfl) rfl
theorem mw_3_115 : Cond.code yX12_ends cX12_ends 12 none ∈ ch_tb := wi_3 (List.mem_of_getElem? (i := 115) rfl) rfl
theorem mw_3_116 : Cond.methodLink RX12 92 yX12_last ∈ ch_tb := wi_3 (List.mem_of_getElem? (i := 116) rfl) rfl
theorem mw_3_118 : Cond.instanceMethod yX12_last ∈ ch_tb := wi_3 (List.mem_of_getElem? (i := 118) rfl) rfl
theorem mw_3_119 : Cond.code yX12_last cX12_last 14 (Option.some FieldType.long) ∈ ch_tb := wi_3 (List.mem_of_getElem? (i := 119) rfl) rfl
theorem mw_3_120 : Cond.constantLong RX12 86 (20001) ∈ ch_tb := wi_3 (List.mem_of_getElem? (i := 120) rfl) rfl
theorem mw_3_121 : Cond.constantLong RX12 81 (2) ∈ ch_tb := wi_3 (List.mem_of_getElem? (i := 121) rfl) rfl
theorem mw_3_122 : Cond.methodLink RX12 96 yX12_height ∈ ch_tb := wi_3 (List.mem_of_getElem? (i := 122) rfl) rfl
theorem mw_3_124 : Cond.instanceMethod yX12_height ∈ ch_tb := wi_3 (List.mem_of_getElem? (i := 124) rfl) rfl
theorem mw_3_125 : Cond.code yX12_height cX12_height 3 none ∈ ch_tb := wi_3 (List.mem_of_getElem? (i := 125) rfl) rfl
theorem mw_3_126 : Cond.methodLink RX12 103 yX12_sort ∈ ch_tb := wi_3 (List.mem_of_getElem? (i := 126) rfl) rfl
theorem mw_3_128 : Cond.instanceMethod yX12_sort ∈ ch_tb := wi_3 (List.mem_of_getElem? (i := 128) rfl) rfl
theorem mw_3_129 : Cond.code yX12_sort cX12_sort 5 none ∈ ch_tb := wi_3 (List.mem_of_getElem? (i := 129) rfl) rfl
theorem mw_3_130 : Cond.methodLink RL 56 yX12_span ∈ ch_tb := wi_3 (List.mem_of_getElem? (i := 130) rfl) rfl
theorem mw_3_131 : Cond.instanceMethod yX12_span ∈ ch_tb := wi_3 (List.mem_of_getElem? (i := 131) rfl) rfl
theorem mw_3_132 : Cond.selects RX12 yX12_span yX12_span ∈ ch_tb := wi_3 (List.mem_of_getElem? (i := 132) rfl) rfl
theorem mw_3_133 : Cond.code yX12_span cX12_span 3 (Option.some FieldType.int) ∈ ch_tb := wi_3 (List.mem_of_getElem? (i := 133) rfl) rfl
theorem mw_3_134 : Cond.methodLink RL 61 yX12_within ∈ ch_tb := wi_3 (List.mem_of_getElem? (i := 134) rfl) rfl
theorem mw_3_135 : Cond.instanceMethod yX12_within ∈ ch_tb := wi_3 (List.mem_of_getElem? (i := 135) rfl) rfl
theorem mw_3_136 : Cond.selects RX12 yX12_within yX12_within ∈ ch_tb := wi_3 (List.mem_of_getElem? (i := 136) rfl) rfl
theorem mw_3_137 : Cond.code yX12_within cX12_within 10 (Option.some FieldType.long) ∈ ch_tb := wi_3 (List.mem_of_getElem? (i := 137) rfl) rfl
theorem mw_3_138 : Cond.methodLink RX12 106 yJ9_max_f86c9 ∈ ch_tb := wi_3 (List.mem_of_getElem? (i := 138) rfl) rfl
theorem mw_3_139 : Cond.static yJ9_max_f86c9 ∈ ch_tb := wi_3 (List.mem_of_getElem? (i := 139) rfl) rfl
theorem mw_3_140 : Cond.code yJ9_max_f86c9 cJ9_max_f86c9 4 (Option.some FieldType.long) ∈ ch_tb := wi_3 (List.mem_of_getElem? (i := 140) rfl) rfl
theorem mw_3_141 : Cond.methodLink RX12 112 yJ9_min_f86c9 ∈ ch_tb := wi_3 (List.mem_of_getElem? (i := 141) rfl) rfl
theorem mw_3_142 : Cond.static yJ9_min_f86c9 ∈ ch_tb := wi_3 (List.mem_of_getElem? (i := 142) rfl) rfl
theorem mw_3_143 : Cond.code yJ9_min_f86c9 cJ9_min_f86c9 4 (Option.some FieldType.long) ∈ ch_tb := wi_3 (List.mem_of_getElem? (i := 143) rfl) rfl
theorem mw_p_0 : Cond.selects RX11 yX11_useUpSizes yX11_useUpSizes ∈ ch_tb := wi_p (List.mem_of_getElem? (i := 0) rfl) rfl
theorem mw_p_1 : Cond.selects RX11 yX11_radiusOf yX11_radiusOf ∈ ch_tb := wi_p (List.mem_of_getElem? (i := 1) rfl) rfl
theorem mw_p_2 : Cond.selects RX11 yX11_isFull yX11_isFull ∈ ch_tb := wi_p (List.mem_of_getElem? (i := 2) rfl) rfl
theorem mw_p_3 : Cond.selects RX11 yX11_newShape yX11_newShape ∈ ch_tb := wi_p (List.mem_of_getElem? (i := 3) rfl) rfl
theorem mw_p_4 : Cond.selects RX11 yX11_keep yX11_keep ∈ ch_tb := wi_p (List.mem_of_getElem? (i := 4) rfl) rfl
theorem mw_p_5 : Cond.selects RX11 yX11_find yX11_find ∈ ch_tb := wi_p (List.mem_of_getElem? (i := 5) rfl) rfl
theorem mw_p_6 : Cond.selects RX11 yX11_lookOver yX11_lookOver ∈ ch_tb := wi_p (List.mem_of_getElem? (i := 6) rfl) rfl
theorem mw_p_7 : Cond.selects RX10 yX10_lookAt yX10_lookAt ∈ ch_tb := wi_p (List.mem_of_getElem? (i := 7) rfl) rfl
theorem mw_p_8 : Cond.selects RX3 yX3_mix yX3_mix ∈ ch_tb := wi_p (List.mem_of_getElem? (i := 8) rfl) rfl
theorem mw_p_9 : Cond.selects RX3 yX3_nextEdge yX3_nextEdge ∈ ch_tb := wi_p (List.mem_of_getElem? (i := 9) rfl) rfl
theorem mw_p_10 : Cond.selects RX2 yX2_leastDepth yX2_leastDepth ∈ ch_tb := wi_p (List.mem_of_getElem? (i := 10) rfl) rfl
theorem mw_p_11 : Cond.selects RX12 yX12_made yX12_made ∈ ch_tb := wi_p (List.mem_of_getElem? (i := 11) rfl) rfl
theorem mw_p_12 : Cond.selects RX12 yX12_isSolid yX12_isSolid ∈ ch_tb := wi_p (List.mem_of_getElem? (i := 12) rfl) rfl
theorem mw_p_13 : Cond.selects RX12 yX12_isIn yX12_isIn ∈ ch_tb := wi_p (List.mem_of_getElem? (i := 13) rfl) rfl
theorem mw_p_14 : Cond.selects RX12 yX12_number yX12_number ∈ ch_tb := wi_p (List.mem_of_getElem? (i := 14) rfl) rfl
theorem mw_p_15 : Cond.selects RX12 yX12_isInKind yX12_isInKind ∈ ch_tb := wi_p (List.mem_of_getElem? (i := 15) rfl) rfl
theorem mw_p_16 : Cond.selects RX12 yX12_topOf yX12_topOf ∈ ch_tb := wi_p (List.mem_of_getElem? (i := 16) rfl) rfl
theorem mw_p_17 : Cond.selects RX12 yX12_rise yX12_rise ∈ ch_tb := wi_p (List.mem_of_getElem? (i := 17) rfl) rfl
theorem mw_p_18 : Cond.selects RX12 yX12_ends yX12_ends ∈ ch_tb := wi_p (List.mem_of_getElem? (i := 18) rfl) rfl
theorem mw_p_19 : Cond.selects RX12 yX12_last yX12_last ∈ ch_tb := wi_p (List.mem_of_getElem? (i := 19) rfl) rfl
theorem mw_p_20 : Cond.selects RX12 yX12_height yX12_height ∈ ch_tb := wi_p (List.mem_of_getElem? (i := 20) rfl) rfl
theorem mw_p_21 : Cond.selects RX12 yX12_sort yX12_sort ∈ ch_tb := wi_p (List.mem_of_getElem? (i := 21) rfl) rfl
/-- words of the tables that are kept in their own way -/
def ch_N (U : State) : Prop := va_AO "SpanSolids$Solid" U ∧ va_Nw (Cond.declares ⟨"SpanSolids$Solid", "lookFrom", "(IIILSpanSolids$Walk;)V"⟩) U ∧ va_Nw (Cond.methodLinkNest RX0 22 yX11_square "SpanSolids") U ∧ va_Nw (Cond.methodLinkNest RX0 34 yX11_rootBelow "SpanSolids") U ∧ va_Nw (Cond.methodLinkNest RX2 25 yX11_square "SpanSolids") U ∧ va_Nw (Cond.methodLinkNest RX6 25 yX11_square "SpanSolids") U ∧ va_Nw (Cond.castable RX0 "SpanSolids$Solid") U ∧ va_Nw (Cond.castable RX1 "SpanSolids$Solid") U ∧ va_Nw (Cond.castable RX2 "SpanSolids$Solid") U ∧ va_Nw (Cond.castable RX4 "SpanSolids$Solid") U ∧ va_Nw (Cond.castable RX5 "SpanSolids$Solid") U ∧ va_Nw (Cond.castable RX6 "SpanSolids$Solid") U ∧ va_Nw (Cond.castable RX9 "SpanSolids$Solid") U
theorem nw_0 : ∀ U, ch_N U → va_AO "SpanSolids$Solid" U := fun U h => h.1
theorem nw_1 : ∀ U, ch_N U → va_Nw (Cond.declares ⟨"SpanSolids$Solid", "lookFrom", "(IIILSpanSolids$Walk;)V"⟩) U := fun U h => h.2.1
theorem nw_2 : ∀ U, ch_N U → va_Nw (Cond.methodLinkNest RX0 22 yX11_square "SpanSolids") U := fun U h => h.2.2.1
theorem nw_3 : ∀ U, ch_N U → va_Nw (Cond.methodLinkNest RX0 34 yX11_rootBelow "SpanSolids") U := fun U h => h.2.2.2.1
theorem nw_4 : ∀ U, ch_N U → va_Nw (Cond.methodLinkNest RX2 25 yX11_square "SpanSolids") U := fun U h => h.2.2.2.2.1
theorem nw_5 : ∀ U, ch_N U → va_Nw (Cond.methodLinkNest RX6 25 yX11_square "SpanSolids") U := fun U h => h.2.2.2.2.2.1
theorem nw_6 : ∀ U, ch_N U → va_Nw (Cond.castable RX0 "SpanSolids$Solid") U := fun U h => h.2.2.2.2.2.2.1
theorem nw_7 : ∀ U, ch_N U → va_Nw (Cond.castable RX1 "SpanSolids$Solid") U := fun U h => h.2.2.2.2.2.2.2.1
theorem nw_8 : ∀ U, ch_N U → va_Nw (Cond.castable RX2 "SpanSolids$Solid") U := fun U h => h.2.2.2.2.2.2.2.2.1
theorem nw_9 : ∀ U, ch_N U → va_Nw (Cond.castable RX4 "SpanSolids$Solid") U := fun U h => h.2.2.2.2.2.2.2.2.2.1
theorem nw_10 : ∀ U, ch_N U → va_Nw (Cond.castable RX5 "SpanSolids$Solid") U := fun U h => h.2.2.2.2.2.2.2.2.2.2.1
theorem nw_11 : ∀ U, ch_N U → va_Nw (Cond.castable RX6 "SpanSolids$Solid") U := fun U h => h.2.2.2.2.2.2.2.2.2.2.2.1
theorem nw_12 : ∀ U, ch_N U → va_Nw (Cond.castable RX9 "SpanSolids$Solid") U := fun U h => h.2.2.2.2.2.2.2.2.2.2.2.2
theorem ch_N.warm {s U : State} (hW : s.WarmedH U.vm) (h : ch_N s) : ch_N U := ⟨va_AO.moved (hW).alike h.1, va_Nw.warmD hW h.2.1, va_Nw.warmM hW h.2.2.1, va_Nw.warmM hW h.2.2.2.1, va_Nw.warmM hW h.2.2.2.2.1, va_Nw.warmM hW h.2.2.2.2.2.1, va_Nw.warmC hW h.2.2.2.2.2.2.1, va_Nw.warmC hW h.2.2.2.2.2.2.2.1, va_Nw.warmC hW h.2.2.2.2.2.2.2.2.1, va_Nw.warmC hW h.2.2.2.2.2.2.2.2.2.1, va_Nw.warmC hW h.2.2.2.2.2.2.2.2.2.2.1, va_Nw.warmC hW h.2.2.2.2.2.2.2.2.2.2.2.1, va_Nw.warmC hW h.2.2.2.2.2.2.2.2.2.2.2.2⟩
theorem ch_N.same {s U : State} (e : s.vm = U.vm) (h : ch_N s) : ch_N U := ⟨va_AO.moved (by rw [e]; exact Vm.Alike.refl _) h.1, va_Nw.same rfl e h.2.1, va_Nw.same rfl e h.2.2.1, va_Nw.same rfl e h.2.2.2.1, va_Nw.same rfl e h.2.2.2.2.1, va_Nw.same rfl e h.2.2.2.2.2.1, va_Nw.same rfl e h.2.2.2.2.2.2.1, va_Nw.same rfl e h.2.2.2.2.2.2.2.1, va_Nw.same rfl e h.2.2.2.2.2.2.2.2.1, va_Nw.same rfl e h.2.2.2.2.2.2.2.2.2.1, va_Nw.same rfl e h.2.2.2.2.2.2.2.2.2.2.1, va_Nw.same rfl e h.2.2.2.2.2.2.2.2.2.2.2.1, va_Nw.same rfl e h.2.2.2.2.2.2.2.2.2.2.2.2⟩
theorem ch_N.of {A : Array Value} {U : State} (hts : ∀ w ∈ lw_tbl, w.before A U = true) : ch_N U := ⟨va_AO.of (hts _ (List.mem_append_right _ (List.mem_append_left _ (List.mem_of_getElem? (i := 24) rfl : Cond.arrayOver (FieldType.object "SpanSolids$Solid") ∈ tables_1_1)))), va_Nw.of rfl (hts _ (List.mem_append_right _ (List.mem_append_right _ (List.mem_append_left _ (List.mem_of_getElem? (i := 121) rfl : Cond.declares ⟨"SpanSolids$Solid", "lookFrom", "(IIILSpanSolids$Walk;)V"⟩ ∈ tables_1_2))))), va_Nw.of rfl (hts _ (List.mem_append_right _ (List.mem_append_right _ (List.mem_append_left _ (List.mem_of_getElem? (i := 126) rfl : Cond.methodLinkNest RX0 22 yX11_square "SpanSolids" ∈ tables_1_2))))), va_Nw.of rfl (hts _ (List.mem_append_right _ (List.mem_append_right _ (List.mem_append_left _ (List.mem_of_getElem? (i := 137) rfl : Cond.methodLinkNest RX0 34 yX11_rootBelow "SpanSolids" ∈ tables_1_2))))), va_Nw.of rfl (hts _ (List.mem_append_right _ (List.mem_append_right _ (List.mem_append_left _ (List.mem_of_getElem? (i := 153) rfl : Cond.methodLinkNest RX2 25 yX11_square "SpanSolids" ∈ tables_1_2))))), va_Nw.of rfl (hts _ (List.mem_append_right _ (List.mem_append_right _ (List.mem_append_left _ (List.mem_of_getElem? (i := 175) rfl : Cond.methodLinkNest RX6 25 yX11_square "SpanSolids" ∈ tables_1_2))))), va_Nw.of rfl (hts _ (List.mem_append_right _ (List.mem_append_right _ (List.mem_append_right _ (List.mem_of_getElem? (i := 144) rfl : Cond.castable RX0 "SpanSolids$Solid" ∈ tables_1_3))))), va_Nw.of rfl (hts _ (List.mem_append_right _ (List.mem_append_right _ (List.mem_append_right _ (List.mem_of_getElem? (i := 145) rfl : Cond.castable RX1 "SpanSolids$Solid" ∈ tables_1_3))))), va_Nw.of rfl (hts _ (List.mem_append_right _ (List.mem_append_right _ (List.mem_append_right _ (List.mem_of_getElem? (i := 146) rfl : Cond.castable RX2 "SpanSolids$Solid" ∈ tables_1_3))))), va_Nw.of rfl (hts _ (List.mem_append_right _ (List.mem_append_right _ (List.mem_append_right _ (List.mem_of_getElem? (i := 147) rfl : Cond.castable RX4 "SpanSolids$Solid" ∈ tables_1_3))))), va_Nw.of rfl (hts _ (List.mem_append_right _ (List.mem_append_right _ (List.mem_append_right _ (List.mem_of_getElem? (i := 148) rfl : Cond.castable RX5 "SpanSolids$Solid" ∈ tables_1_3))))), va_Nw.of rfl (hts _ (List.mem_append_right _ (List.mem_append_right _ (List.mem_append_right _ (List.mem_of_getElem? (i := 149) rfl : Cond.castable RX6 "SpanSolids$Solid" ∈ tables_1_3))))), va_Nw.of rfl (hts _ (List.mem_append_right _ (List.mem_append_right _ (List.mem_append_right _ (List.mem_of_getElem? (i := 150) rfl : Cond.castable RX9 "SpanSolids$Solid" ∈ tables_1_3)))))⟩
theorem inX0 : ∀ w ∈ u_ws RX0 TX0 5, w ∈ ch_tb := List.forall_mem_cons.mpr ⟨mw_1_215, List.forall_mem_cons.mpr ⟨mw_1_207, List.forall_mem_cons.mpr ⟨mw_1_209, List.forall_mem_cons.mpr ⟨mw_1_211, List.forall_mem_cons.mpr ⟨mw_1_213, fun _ h => absurd h List.not_mem_nil⟩⟩⟩⟩⟩
theorem inX1 : ∀ w ∈ u_ws RX1 TX1 7, w ∈ ch_tb := List.forall_mem_cons.mpr ⟨mw_1_171, List.forall_mem_cons.mpr ⟨mw_1_159, List.forall_mem_cons.mpr ⟨mw_1_161, List.forall_mem_cons.mpr ⟨mw_1_163, List.forall_mem_cons.mpr ⟨mw_1_165, List.forall_mem_cons.mpr ⟨mw_1_167, List.forall_mem_cons.mpr ⟨mw_1_169, fun _ h => absurd h List.not_mem_nil⟩⟩⟩⟩⟩⟩⟩
theorem inX2 : ∀ w ∈ u_ws RX2 TX2 6, w ∈ ch_tb := List.forall_mem_cons.mpr ⟨mw_1_238, List.forall_mem_cons.mpr ⟨mw_1_228, List.forall_mem_cons.mpr ⟨mw_1_230, List.forall_mem_cons.mpr ⟨mw_1_232, List.forall_mem_cons.mpr ⟨mw_1_234, List.forall_mem_cons.mpr ⟨mw_1_236, fun _ h => absurd h List.not_mem_nil⟩⟩⟩⟩⟩⟩
theorem inX3 : ∀ w ∈ u_ws RX3 TX3 5, w ∈ ch_tb := List.forall_mem_cons.mpr ⟨mw_1_43, List.forall_mem_cons.mpr ⟨mw_1_45, List.forall_mem_cons.mpr ⟨mw_1_47, List.forall_mem_cons.mpr ⟨mw_1_49, List.forall_mem_cons.mpr ⟨mw_1_51, fun _ h => absurd h List.not_mem_nil⟩⟩⟩⟩⟩
theorem inX4 : ∀ w ∈ u_ws RX4 TX4 4, w ∈ ch_tb := List.forall_mem_cons.mpr ⟨mw_2_27, List.forall_mem_cons.mpr ⟨mw_2_21, List.forall_mem_cons.mpr ⟨mw_2_23, List.forall_mem_cons.mpr ⟨mw_2_25, fun _ h => absurd h List.not_mem_nil⟩⟩⟩⟩
theorem inX5 : ∀ w ∈ u_ws RX5 TX5 5, w ∈ ch_tb := List.forall_mem_cons.mpr ⟨mw_2_51, List.forall_mem_cons.mpr ⟨mw_2_43, List.forall_mem_cons.mpr ⟨mw_2_45, List.forall_mem_cons.mpr ⟨mw_2_47, List.forall_mem_cons.mpr ⟨mw_2_49, fun _ h => absurd h List.not_mem_nil⟩⟩⟩⟩⟩
theorem inX6 : ∀ w ∈ u_ws RX6 TX6 6, w ∈ ch_tb := List.forall_mem_cons.mpr ⟨mw_1_195, List.forall_mem_cons.mpr ⟨mw_1_185, List.forall_mem_cons.mpr ⟨mw_1_187, List.forall_mem_cons.mpr ⟨mw_1_189, List.forall_mem_cons.mpr ⟨mw_1_191, List.forall_mem_cons.mpr ⟨mw_1_193, fun _ h => absurd h List.not_mem_nil⟩⟩⟩⟩⟩⟩
theorem inX7 : ∀ w ∈ u_ws RX7 TX7 2, w ∈ ch_tb := List.forall_mem_cons.mpr ⟨mw_1_85, List.forall_mem_cons.mpr ⟨mw_1_87, fun _ h => absurd h List.not_mem_nil⟩⟩
theorem inX9 : ∀ w ∈ u_ws RX9 TX9 2, w ∈ ch_tb := List.forall_mem_cons.mpr ⟨mw_2_66, List.forall_mem_cons.mpr ⟨mw_2_64, fun _ h => absurd h List.not_mem_nil⟩⟩
theorem inX10 : ∀ w ∈ u_ws RX10 TX10 7, w ∈ ch_tb := List.forall_mem_cons.mpr ⟨mw_1_62, List.forall_mem_cons.mpr ⟨mw_1_64, List.forall_mem_cons.mpr ⟨mw_1_66, List.forall_mem_cons.mpr ⟨mw_1_68, List.forall_mem_cons.mpr ⟨mw_1_70, List.forall_mem_cons.mpr ⟨mw_1_72, List.forall_mem_cons.mpr ⟨mw_1_74, fun _ h => absurd h List.not_mem_nil⟩⟩⟩⟩⟩⟩⟩
theorem inX11 : ∀ w ∈ u_ws RX11 TX11 7, w ∈ ch_tb := List.forall_mem_cons.mpr ⟨mw_1_97, List.forall_mem_cons.mpr ⟨mw_1_99, List.forall_mem_cons.mpr ⟨mw_1_101, List.forall_mem_cons.mpr ⟨mw_1_103, List.forall_mem_cons.mpr ⟨mw_1_105, List.forall_mem_cons.mpr ⟨mw_1_107, List.forall_mem_cons.mpr ⟨mw_1_109, fun _ h => absurd h List.not_mem_nil⟩⟩⟩⟩⟩⟩⟩
theorem inX12 : ∀ w ∈ u_ws RX12 TX12 12, w ∈ ch_tb := List.forall_mem_cons.mpr ⟨mw_3_13, List.forall_mem_cons.mpr ⟨mw_3_15, List.forall_mem_cons.mpr ⟨mw_3_17, List.forall_mem_cons.mpr ⟨mw_3_19, List.forall_mem_cons.mpr ⟨mw_3_21, List.forall_mem_cons.mpr ⟨mw_3_23, List.forall_mem_cons.mpr ⟨mw_3_25, List.forall_mem_cons.mpr ⟨mw_3_27, List.forall_mem_cons.mpr ⟨mw_3_29, List.forall_mem_cons.mpr ⟨mw_3_31, List.forall_mem_cons.mpr ⟨mw_3_33, List.forall_mem_cons.mpr ⟨mw_3_35, fun _ h => absurd h List.not_mem_nil⟩⟩⟩⟩⟩⟩⟩⟩⟩⟩⟩⟩
/-- a method: name, code, locals, return type -/
abbrev ch_D : Type := MethodName × ByteArray × Nat × Option FieldType

/-- what a call's words are: the callee's code is in the tables, its class is ready, how many arguments it has -/
def ch_ok (M2 : ch_D) (na : Nat) : Prop := Cond.code M2.1 M2.2.1 M2.2.2.1 M2.2.2.2 ∈ ch_tb ∧ Cond.initialized M2.1.cls ∈ ch_tb ∧ (M2.1.cls ≠ "java/lang/invoke/MethodHandle" ∧ M2.1.cls ≠ "java/lang/invoke/VarHandle") ∧ (parseMethodDescriptor M2.1.desc).map (fun d => d.parameters.length) = some na
abbrev M_X11_init : ch_D := (yX11_init, cX11_init, 1, none)
theorem ok_X11_init : ch_ok M_X11_init 0 := ⟨mw_1_19, mw_1_1, by decide +kernel, by decide +kernel⟩
abbrev M_X10_init : ch_D := (yX10_init, cX10_init, 1, none)
theorem ok_X10_init : ch_ok M_X10_init 0 := ⟨mw_1_29, mw_1_2, by decide +kernel, by decide +kernel⟩
abbrev M_X3_init : ch_D := (yX3_init, cX3_init, 1, none)
theorem ok_X3_init : ch_ok M_X3_init 0 := ⟨mw_1_36, mw_1_3, by decide +kernel, by decide +kernel⟩
abbrev M_X7_init : ch_D := (yX7_init, cX7_init, 1, none)
theorem ok_X7_init : ch_ok M_X7_init 0 := ⟨mw_1_81, mw_1_4, by decide +kernel, by decide +kernel⟩
abbrev M_X11_size : ch_D := (yX11_size, cX11_size, 2, (Option.some FieldType.int))
theorem ok_X11_size : ch_ok M_X11_size 1 := ⟨mw_1_115, mw_1_1, by decide +kernel, by decide +kernel⟩
abbrev M_X11_solid : ch_D := (yX11_solid, cX11_solid, 3, (Option.some FieldType.int))
theorem ok_X11_solid : ch_ok M_X11_solid 1 := ⟨mw_1_119, mw_1_1, by decide +kernel, by decide +kernel⟩
abbrev M_X11_useUpSizes : ch_D := (yX11_useUpSizes, cX11_useUpSizes, 2, (Option.some FieldType.int))
theorem ok_X11_useUpSizes : ch_ok M_X11_useUpSizes 0 := ⟨mw_1_123, mw_1_1, by decide +kernel, by decide +kernel⟩
abbrev M_X11_sizesNeeded : ch_D := (yX11_sizesNeeded, cX11_sizesNeeded, 1, (Option.some FieldType.int))
theorem ok_X11_sizesNeeded : ch_ok M_X11_sizesNeeded 1 := ⟨mw_1_126, mw_1_1, by decide +kernel, by decide +kernel⟩
abbrev M_X11_radiusOf : ch_D := (yX11_radiusOf, cX11_radiusOf, 2, (Option.some FieldType.int))
theorem ok_X11_radiusOf : ch_ok M_X11_radiusOf 1 := ⟨mw_1_130, mw_1_1, by decide +kernel, by decide +kernel⟩
abbrev M_X11_isFull : ch_D := (yX11_isFull, cX11_isFull, 1, (Option.some FieldType.boolean))
theorem ok_X11_isFull : ch_ok M_X11_isFull 0 := ⟨mw_1_134, mw_1_1, by decide +kernel, by decide +kernel⟩
abbrev M_X11_newShape : ch_D := (yX11_newShape, cX11_newShape, 2, (Option.some (FieldType.object "SpanSolids$Solid")))
theorem ok_X11_newShape : ch_ok M_X11_newShape 1 := ⟨mw_1_138, mw_1_1, by decide +kernel, by decide +kernel⟩
abbrev M_X1_init : ch_D := (yX1_init, cX1_init, 7, none)
theorem ok_X1_init : ch_ok M_X1_init 6 := ⟨mw_1_143, mw_1_7, by decide +kernel, by decide +kernel⟩
abbrev M_X8_init : ch_D := (yX8_init, cX8_init, 2, none)
theorem ok_X8_init : ch_ok M_X8_init 1 := ⟨mw_1_146, mw_1_6, by decide +kernel, by decide +kernel⟩
abbrev M_X6_init : ch_D := (yX6_init, cX6_init, 6, none)
theorem ok_X6_init : ch_ok M_X6_init 5 := ⟨mw_1_178, mw_1_8, by decide +kernel, by decide +kernel⟩
abbrev M_X0_init : ch_D := (yX0_init, cX0_init, 5, none)
theorem ok_X0_init : ch_ok M_X0_init 4 := ⟨mw_1_201, mw_1_9, by decide +kernel, by decide +kernel⟩
abbrev M_X2_init : ch_D := (yX2_init, cX2_init, 6, none)
theorem ok_X2_init : ch_ok M_X2_init 5 := ⟨mw_1_221, mw_1_10, by decide +kernel, by decide +kernel⟩
abbrev M_X11_keep : ch_D := (yX11_keep, cX11_keep, 2, (Option.some FieldType.int))
theorem ok_X11_keep : ch_ok M_X11_keep 1 := ⟨mw_2_3, mw_1_1, by decide +kernel, by decide +kernel⟩
abbrev M_X11_join : ch_D := (yX11_join, cX11_join, 6, (Option.some FieldType.int))
theorem ok_X11_join : ch_ok M_X11_join 3 := ⟨mw_2_7, mw_1_1, by decide +kernel, by decide +kernel⟩
abbrev M_X11_find : ch_D := (yX11_find, cX11_find, 2, (Option.some (FieldType.object "SpanSolids$Solid")))
theorem ok_X11_find : ch_ok M_X11_find 1 := ⟨mw_2_11, mw_1_1, by decide +kernel, by decide +kernel⟩
abbrev M_X4_init : ch_D := (yX4_init, cX4_init, 4, none)
theorem ok_X4_init : ch_ok M_X4_init 3 := ⟨mw_2_16, mw_1_11, by decide +kernel, by decide +kernel⟩
abbrev M_X11_moved : ch_D := (yX11_moved, cX11_moved, 4, (Option.some FieldType.int))
theorem ok_X11_moved : ch_ok M_X11_moved 1 := ⟨mw_2_32, mw_1_1, by decide +kernel, by decide +kernel⟩
abbrev M_X5_init : ch_D := (yX5_init, cX5_init, 5, none)
theorem ok_X5_init : ch_ok M_X5_init 4 := ⟨mw_2_37, mw_1_12, by decide +kernel, by decide +kernel⟩
abbrev M_X11_turned : ch_D := (yX11_turned, cX11_turned, 3, (Option.some FieldType.int))
theorem ok_X11_turned : ch_ok M_X11_turned 1 := ⟨mw_2_56, mw_1_1, by decide +kernel, by decide +kernel⟩
abbrev M_X9_init : ch_D := (yX9_init, cX9_init, 2, none)
theorem ok_X9_init : ch_ok M_X9_init 1 := ⟨mw_2_61, mw_1_13, by decide +kernel, by decide +kernel⟩
abbrev M_X11_weight : ch_D := (yX11_weight, cX11_weight, 3, (Option.some FieldType.int))
theorem ok_X11_weight : ch_ok M_X11_weight 1 := ⟨mw_2_71, mw_1_1, by decide +kernel, by decide +kernel⟩
abbrev M_X11_inside : ch_D := (yX11_inside, cX11_inside, 6, (Option.some FieldType.boolean))
theorem ok_X11_inside : ch_ok M_X11_inside 4 := ⟨mw_2_75, mw_1_1, by decide +kernel, by decide +kernel⟩
abbrev M_X11_isBeyond : ch_D := (yX11_isBeyond, cX11_isBeyond, 1, (Option.some FieldType.boolean))
theorem ok_X11_isBeyond : ch_ok M_X11_isBeyond 1 := ⟨mw_2_78, mw_1_1, by decide +kernel, by decide +kernel⟩
abbrev M_X11_lookOver : ch_D := (yX11_lookOver, cX11_lookOver, 5, none)
theorem ok_X11_lookOver : ch_ok M_X11_lookOver 4 := ⟨mw_2_84, mw_1_1, by decide +kernel, by decide +kernel⟩
abbrev M_X7_clear : ch_D := (yX7_clear, cX7_clear, 1, none)
theorem ok_X7_clear : ch_ok M_X7_clear 0 := ⟨mw_2_88, mw_1_4, by decide +kernel, by decide +kernel⟩
abbrev M_X10_over : ch_D := (yX10_over, cX10_over, 6, none)
theorem ok_X10_over : ch_ok M_X10_over 4 := ⟨mw_2_92, mw_1_2, by decide +kernel, by decide +kernel⟩
abbrev M_X3_clear : ch_D := (yX3_clear, cX3_clear, 1, none)
theorem ok_X3_clear : ch_ok M_X3_clear 0 := ⟨mw_2_96, mw_1_3, by decide +kernel, by decide +kernel⟩
abbrev M_X10_await : ch_D := (yX10_await, cX10_await, 5, none)
theorem ok_X10_await : ch_ok M_X10_await 4 := ⟨mw_2_100, mw_1_2, by decide +kernel, by decide +kernel⟩
abbrev M_X10_lookAt : ch_D := (yX10_lookAt, cX10_lookAt, 3, none)
theorem ok_X10_lookAt : ch_ok M_X10_lookAt 1 := ⟨mw_2_104, mw_1_2, by decide +kernel, by decide +kernel⟩
abbrev M_X3_joinNewest : ch_D := (yX3_joinNewest, cX3_joinNewest, 5, none)
theorem ok_X3_joinNewest : ch_ok M_X3_joinNewest 1 := ⟨mw_2_108, mw_1_3, by decide +kernel, by decide +kernel⟩
abbrev M_X3_mix : ch_D := (yX3_mix, cX3_mix, 12, (Option.some FieldType.int))
theorem ok_X3_mix : ch_ok M_X3_mix 3 := ⟨mw_2_112, mw_1_3, by decide +kernel, by decide +kernel⟩
abbrev M_X3_nextEdge : ch_D := (yX3_nextEdge, cX3_nextEdge, 4, (Option.some FieldType.int))
theorem ok_X3_nextEdge : ch_ok M_X3_nextEdge 3 := ⟨mw_2_116, mw_1_3, by decide +kernel, by decide +kernel⟩
abbrev M_X3_isJoined : ch_D := (yX3_isJoined, cX3_isJoined, 3, (Option.some FieldType.boolean))
theorem ok_X3_isJoined : ch_ok M_X3_isJoined 3 := ⟨mw_2_119, mw_1_3, by decide +kernel, by decide +kernel⟩
abbrev M_X0_lookFrom : ch_D := (yX0_lookFrom, cX0_lookFrom, 8, none)
theorem ok_X0_lookFrom : ch_ok M_X0_lookFrom 4 := ⟨mw_2_125, mw_1_9, by decide +kernel, by decide +kernel⟩
abbrev M_X11_square : ch_D := (yX11_square, cX11_square, 2, (Option.some FieldType.long))
theorem ok_X11_square : ch_ok M_X11_square 1 := ⟨mw_2_128, mw_1_1, by decide +kernel, by decide +kernel⟩
abbrev M_X10_giveNone : ch_D := (yX10_giveNone, cX10_giveNone, 1, none)
theorem ok_X10_giveNone : ch_ok M_X10_giveNone 0 := ⟨mw_2_132, mw_1_2, by decide +kernel, by decide +kernel⟩
abbrev M_X3_add : ch_D := (yX3_add, cX3_add, 3, none)
theorem ok_X3_add : ch_ok M_X3_add 2 := ⟨mw_2_136, mw_1_3, by decide +kernel, by decide +kernel⟩
abbrev M_X11_rootBelow : ch_D := (yX11_rootBelow, cX11_rootBelow, 7, (Option.some FieldType.int))
theorem ok_X11_rootBelow : ch_ok M_X11_rootBelow 2 := ⟨mw_2_139, mw_1_1, by decide +kernel, by decide +kernel⟩
abbrev M_X10_give : ch_D := (yX10_give, cX10_give, 3, none)
theorem ok_X10_give : ch_ok M_X10_give 2 := ⟨mw_2_144, mw_1_2, by decide +kernel, by decide +kernel⟩
abbrev M_X1_lookFrom : ch_D := (yX1_lookFrom, cX1_lookFrom, 5, none)
theorem ok_X1_lookFrom : ch_ok M_X1_lookFrom 4 := ⟨mw_2_147, mw_1_7, by decide +kernel, by decide +kernel⟩
abbrev M_X2_lookFrom : ch_D := (yX2_lookFrom, cX2_lookFrom, 7, none)
theorem ok_X2_lookFrom : ch_ok M_X2_lookFrom 4 := ⟨mw_2_152, mw_1_10, by decide +kernel, by decide +kernel⟩
abbrev M_X2_leastDepth : ch_D := (yX2_leastDepth, cX2_leastDepth, 9, (Option.some FieldType.int))
theorem ok_X2_leastDepth : ch_ok M_X2_leastDepth 1 := ⟨mw_2_158, mw_1_10, by decide +kernel, by decide +kernel⟩
abbrev M_X4_lookFrom : ch_D := (yX4_lookFrom, cX4_lookFrom, 5, none)
theorem ok_X4_lookFrom : ch_ok M_X4_lookFrom 4 := ⟨mw_2_162, mw_1_11, by decide +kernel, by decide +kernel⟩
abbrev M_X10_awaitJoin : ch_D := (yX10_awaitJoin, cX10_awaitJoin, 2, none)
theorem ok_X10_awaitJoin : ch_ok M_X10_awaitJoin 1 := ⟨mw_2_166, mw_1_2, by decide +kernel, by decide +kernel⟩
abbrev M_X5_lookFrom : ch_D := (yX5_lookFrom, cX5_lookFrom, 5, none)
theorem ok_X5_lookFrom : ch_ok M_X5_lookFrom 4 := ⟨mw_2_170, mw_1_12, by decide +kernel, by decide +kernel⟩
abbrev M_X6_lookFrom : ch_D := (yX6_lookFrom, cX6_lookFrom, 5, none)
theorem ok_X6_lookFrom : ch_ok M_X6_lookFrom 4 := ⟨mw_2_174, mw_1_8, by decide +kernel, by decide +kernel⟩
abbrev M_X9_lookFrom : ch_D := (yX9_lookFrom, cX9_lookFrom, 5, none)
theorem ok_X9_lookFrom : ch_ok M_X9_lookFrom 4 := ⟨mw_2_180, mw_1_13, by decide +kernel, by decide +kernel⟩
abbrev M_X3_copyTo : ch_D := (yX3_copyTo, cX3_copyTo, 2, none)
theorem ok_X3_copyTo : ch_ok M_X3_copyTo 1 := ⟨mw_2_185, mw_1_3, by decide +kernel, by decide +kernel⟩
abbrev M_X7_copyFrom : ch_D := (yX7_copyFrom, cX7_copyFrom, 4, none)
theorem ok_X7_copyFrom : ch_ok M_X7_copyFrom 2 := ⟨mw_2_189, mw_1_4, by decide +kernel, by decide +kernel⟩
abbrev M_J9_min_7cf53 : ch_D := (yJ9_min_7cf53, cJ9_min_7cf53, 2, (Option.some FieldType.int))
theorem ok_J9_min_7cf53 : ch_ok M_J9_min_7cf53 2 := ⟨mw_2_192, mw_1_14, by decide +kernel, by decide +kernel⟩
abbrev M_X7_countFrom : ch_D := (yX7_countFrom, cX7_countFrom, 10, (Option.some FieldType.long))
theorem ok_X7_countFrom : ch_ok M_X7_countFrom 2 := ⟨mw_2_196, mw_1_4, by decide +kernel, by decide +kernel⟩
abbrev M_X7_runCount : ch_D := (yX7_runCount, cX7_runCount, 1, (Option.some FieldType.int))
theorem ok_X7_runCount : ch_ok M_X7_runCount 0 := ⟨mw_2_200, mw_1_4, by decide +kernel, by decide +kernel⟩
abbrev M_X7_firstOf : ch_D := (yX7_firstOf, cX7_firstOf, 2, (Option.some FieldType.int))
theorem ok_X7_firstOf : ch_ok M_X7_firstOf 1 := ⟨mw_2_204, mw_1_4, by decide +kernel, by decide +kernel⟩
abbrev M_J9_max_7cf53 : ch_D := (yJ9_max_7cf53, cJ9_max_7cf53, 2, (Option.some FieldType.int))
theorem ok_J9_max_7cf53 : ch_ok M_J9_max_7cf53 2 := ⟨mw_2_207, mw_1_14, by decide +kernel, by decide +kernel⟩
abbrev M_X7_lastOf : ch_D := (yX7_lastOf, cX7_lastOf, 2, (Option.some FieldType.int))
theorem ok_X7_lastOf : ch_ok M_X7_lastOf 1 := ⟨mw_2_211, mw_1_4, by decide +kernel, by decide +kernel⟩
abbrev M_X11_top : ch_D := (yX11_top, cX11_top, 5, (Option.some FieldType.int))
theorem ok_X11_top : ch_ok M_X11_top 3 := ⟨mw_2_215, mw_1_1, by decide +kernel, by decide +kernel⟩
abbrev M_X7_afterGreatest : ch_D := (yX7_afterGreatest, cX7_afterGreatest, 4, (Option.some FieldType.int))
theorem ok_X7_afterGreatest : ch_ok M_X7_afterGreatest 0 := ⟨mw_2_219, mw_1_4, by decide +kernel, by decide +kernel⟩
abbrev M_X11_spans : ch_D := (yX11_spans, cX11_spans, 5, (Option.some FieldType.int))
theorem ok_X11_spans : ch_ok M_X11_spans 3 := ⟨mw_2_223, mw_1_1, by decide +kernel, by decide +kernel⟩
abbrev M_X11_span : ch_D := (yX11_span, cX11_span, 3, (Option.some FieldType.int))
theorem ok_X11_span : ch_ok M_X11_span 2 := ⟨mw_2_228, mw_1_1, by decide +kernel, by decide +kernel⟩
abbrev M_X11_within : ch_D := (yX11_within, cX11_within, 3, (Option.some FieldType.long))
theorem ok_X11_within : ch_ok M_X11_within 2 := ⟨mw_2_234, mw_1_1, by decide +kernel, by decide +kernel⟩
abbrev M_X12_init : ch_D := (yX12_init, cX12_init, 1, none)
theorem ok_X12_init : ch_ok M_X12_init 0 := ⟨mw_2_239, mw_1_5, by decide +kernel, by decide +kernel⟩
abbrev M_X12_size : ch_D := (yX12_size, cX12_size, 2, (Option.some FieldType.int))
theorem ok_X12_size : ch_ok M_X12_size 1 := ⟨mw_3_42, mw_1_5, by decide +kernel, by decide +kernel⟩
abbrev M_X12_solid : ch_D := (yX12_solid, cX12_solid, 4, (Option.some FieldType.int))
theorem ok_X12_solid : ch_ok M_X12_solid 1 := ⟨mw_3_46, mw_1_5, by decide +kernel, by decide +kernel⟩
abbrev M_X12_made : ch_D := (yX12_made, cX12_made, 4, (Option.some FieldType.int))
theorem ok_X12_made : ch_ok M_X12_made 2 := ⟨mw_3_50, mw_1_5, by decide +kernel, by decide +kernel⟩
abbrev M_X12_join : ch_D := (yX12_join, cX12_join, 5, (Option.some FieldType.int))
theorem ok_X12_join : ch_ok M_X12_join 3 := ⟨mw_3_54, mw_1_5, by decide +kernel, by decide +kernel⟩
abbrev M_X12_isSolid : ch_D := (yX12_isSolid, cX12_isSolid, 2, (Option.some FieldType.boolean))
theorem ok_X12_isSolid : ch_ok M_X12_isSolid 1 := ⟨mw_3_58, mw_1_5, by decide +kernel, by decide +kernel⟩
abbrev M_X12_moved : ch_D := (yX12_moved, cX12_moved, 4, (Option.some FieldType.int))
theorem ok_X12_moved : ch_ok M_X12_moved 1 := ⟨mw_3_62, mw_1_5, by decide +kernel, by decide +kernel⟩
abbrev M_X12_turned : ch_D := (yX12_turned, cX12_turned, 3, (Option.some FieldType.int))
theorem ok_X12_turned : ch_ok M_X12_turned 1 := ⟨mw_3_66, mw_1_5, by decide +kernel, by decide +kernel⟩
abbrev M_X12_inside : ch_D := (yX12_inside, cX12_inside, 5, (Option.some FieldType.boolean))
theorem ok_X12_inside : ch_ok M_X12_inside 4 := ⟨mw_3_70, mw_1_5, by decide +kernel, by decide +kernel⟩
abbrev M_X12_isNear : ch_D := (yX12_isNear, cX12_isNear, 1, (Option.some FieldType.boolean))
theorem ok_X12_isNear : ch_ok M_X12_isNear 1 := ⟨mw_3_73, mw_1_5, by decide +kernel, by decide +kernel⟩
abbrev M_X12_isIn : ch_D := (yX12_isIn, cX12_isIn, 10, (Option.some FieldType.boolean))
theorem ok_X12_isIn : ch_ok M_X12_isIn 4 := ⟨mw_3_79, mw_1_5, by decide +kernel, by decide +kernel⟩
abbrev M_X12_number : ch_D := (yX12_number, cX12_number, 3, (Option.some FieldType.int))
theorem ok_X12_number : ch_ok M_X12_number 2 := ⟨mw_3_83, mw_1_5, by decide +kernel, by decide +kernel⟩
abbrev M_X12_isInKind : ch_D := (yX12_isInKind, cX12_isInKind, 12, (Option.some FieldType.boolean))
theorem ok_X12_isInKind : ch_ok M_X12_isInKind 4 := ⟨mw_3_87, mw_1_5, by decide +kernel, by decide +kernel⟩
abbrev M_X12_square : ch_D := (yX12_square, cX12_square, 2, (Option.some FieldType.long))
theorem ok_X12_square : ch_ok M_X12_square 1 := ⟨mw_3_90, mw_1_5, by decide +kernel, by decide +kernel⟩
abbrev M_X12_top : ch_D := (yX12_top, cX12_top, 4, (Option.some FieldType.int))
theorem ok_X12_top : ch_ok M_X12_top 3 := ⟨mw_3_94, mw_1_5, by decide +kernel, by decide +kernel⟩
abbrev M_X12_topOf : ch_D := (yX12_topOf, cX12_topOf, 5, (Option.some FieldType.int))
theorem ok_X12_topOf : ch_ok M_X12_topOf 3 := ⟨mw_3_98, mw_1_5, by decide +kernel, by decide +kernel⟩
abbrev M_X12_rise : ch_D := (yX12_rise, cX12_rise, 14, none)
theorem ok_X12_rise : ch_ok M_X12_rise 5 := ⟨mw_3_102, mw_1_5, by decide +kernel, by decide +kernel⟩
abbrev M_X12_weight : ch_D := (yX12_weight, cX12_weight, 2, (Option.some FieldType.int))
theorem ok_X12_weight : ch_ok M_X12_weight 1 := ⟨mw_3_107, mw_1_5, by decide +kernel, by decide +kernel⟩
abbrev M_X12_spans : ch_D := (yX12_spans, cX12_spans, 7, (Option.some FieldType.int))
theorem ok_X12_spans : ch_ok M_X12_spans 3 := ⟨mw_3_111, mw_1_5, by decide +kernel, by decide +kernel⟩
abbrev M_X12_ends : ch_D := (yX12_ends, cX12_ends, 12, none)
theorem ok_X12_ends : ch_ok M_X12_ends 4 := ⟨mw_3_115, mw_1_5, by decide +kernel, by decide +kernel⟩
abbrev M_X12_last : ch_D := (yX12_last, cX12_last, 14, (Option.some FieldType.long))
theorem ok_X12_last : ch_ok M_X12_last 4 := ⟨mw_3_119, mw_1_5, by decide +kernel, by decide +kernel⟩
abbrev M_X12_height : ch_D := (yX12_height, cX12_height, 3, none)
theorem ok_X12_height : ch_ok M_X12_height 1 := ⟨mw_3_125, mw_1_5, by decide +kernel, by decide +kernel⟩
abbrev M_X12_sort : ch_D := (yX12_sort, cX12_sort, 5, none)
theorem ok_X12_sort : ch_ok M_X12_sort 0 := ⟨mw_3_129, mw_1_5, by decide +kernel, by decide +kernel⟩
abbrev M_X12_span : ch_D := (yX12_span, cX12_span, 3, (Option.some FieldType.int))
theorem ok_X12_span : ch_ok M_X12_span 2 := ⟨mw_3_133, mw_1_5, by decide +kernel, by decide +kernel⟩
abbrev M_X12_within : ch_D := (yX12_within, cX12_within, 10, (Option.some FieldType.long))
theorem ok_X12_within : ch_ok M_X12_within 2 := ⟨mw_3_137, mw_1_5, by decide +kernel, by decide +kernel⟩
abbrev M_J9_max_f86c9 : ch_D := (yJ9_max_f86c9, cJ9_max_f86c9, 4, (Option.some FieldType.long))
theorem ok_J9_max_f86c9 : ch_ok M_J9_max_f86c9 2 := ⟨mw_3_140, mw_1_14, by decide +kernel, by decide +kernel⟩
abbrev M_J9_min_f86c9 : ch_D := (yJ9_min_f86c9, cJ9_min_f86c9, 4, (Option.some FieldType.long))
theorem ok_J9_min_f86c9 : ch_ok M_J9_min_f86c9 2 := ⟨mw_3_143, mw_1_14, by decide +kernel, by decide +kernel⟩
end
section
/-! the heap as a function: what is known of our own cells -/
abbrev ch_H : Type := Nat → Option va_E
def ch_set (h : ch_H) (a : Nat) (e : va_E) : ch_H := fun b => if b = a then some e else h b
theorem ch_set_self {h : ch_H} {a : Nat} {e : va_E} : ch_set h a e a = some e := if_pos rfl
theorem ch_set_ne {h : ch_H} {a b : Nat} {e : va_E} (q : b ≠ a) : ch_set h a e b = h b := if_neg q
theorem ch_set_set {h : ch_H} {a : Nat} {e e' : va_E} : ch_set (ch_set h a e) a e' = ch_set h a e' := by
  funext b
  by_cases q : b = a
  · subst q; rw [ch_set_self, ch_set_self]
  · rw [ch_set_ne q, ch_set_ne q, ch_set_ne q]
theorem ch_set_same {h : ch_H} {a : Nat} {e : va_E} (q : h a = some e) : ch_set h a e = h := by
  funext b
  by_cases q2 : b = a
  · subst q2; rw [ch_set_self, q]
  · rw [ch_set_ne q2]
theorem ch_set_comm {h : ch_H} {a b : Nat} {e e' : va_E} (q : a ≠ b) : ch_set (ch_set h a e) b e' = ch_set (ch_set h b e') a e := by
  funext d
  by_cases q1 : d = a
  · subst q1; rw [ch_set_ne q, ch_set_self, ch_set_self]
  · by_cases q2 : d = b
    · subst q2; rw [ch_set_self, ch_set_ne q1, ch_set_self]
    · rw [ch_set_ne q2, ch_set_ne q1, ch_set_ne q1, ch_set_ne q2]
/-- class numbers and slots, array vwCl, where our cells begin -/
abbrev ch_E : Type := va_G × List (ClassId × FieldType) × Nat
def ch_M (E : ch_E) (h : ch_H) (hi : Nat) (H : Heap) : Prop := H.size = hi ∧ E.2.2 ≤ hi ∧ ∀ a e, h a = some e → E.2.2 ≤ a ∧ va_at E.1 vwCl (a, e) H
theorem ch_M.put {E : ch_E} {h : ch_H} {hi a : Nat} {e0 e : va_E} {H H1 : Heap} (hM : ch_M E h hi H) (h0 : h a = some e0) (he : va_at E.1 vwCl (a, e) H1) (z : H1.size = H.size) (oq : ∀ q : Nat, q ≠ a → H1[q]? = H[q]?) : ch_M E (ch_set h a e) hi H1 := by
  refine ⟨z.trans hM.1, hM.2.1, fun b eb hb => ?_⟩
  by_cases hba : b = a
  · subst hba
    rw [ch_set_self] at hb
    cases hb
    exact ⟨(hM.2.2 _ _ h0).1, he⟩
  · rw [ch_set_ne hba] at hb
    exact ⟨(hM.2.2 _ _ hb).1, (hM.2.2 _ _ hb).2.kept (oq b hba)⟩
theorem ch_M.new {E : ch_E} {h : ch_H} {hi : Nat} {e : va_E} {H H1 : Heap} (hM : ch_M E h hi H) (he : va_at E.1 vwCl (hi, e) H1) (z : H1.size = hi + 1) (oq : ∀ q : Nat, q < hi → H1[q]? = H[q]?) : ch_M E (ch_set h hi e) (hi + 1) H1 := by
  refine ⟨z, Nat.le_succ_of_le hM.2.1, fun b eb hb => ?_⟩
  by_cases hba : b = hi
  · subst hba
    rw [ch_set_self] at hb
    cases hb
    exact ⟨hM.2.1, he⟩
  · rw [ch_set_ne hba] at hb
    have h2 := (hM.2.2 _ _ hb).2
    exact ⟨(hM.2.2 _ _ hb).1, h2.kept (oq b (by have h3 := h2.lt; rw [hM.1] at h3; exact h3))⟩
theorem ch_M.lt {E : ch_E} {h : ch_H} {hi a : Nat} {e : va_E} {H : Heap} (hM : ch_M E h hi H) (h0 : h a = some e) : a < hi := by
  have h3 := (hM.2.2 _ _ h0).2.lt
  rw [hM.1] at h3
  exact h3
def ch_X (E : ch_E) (M : ch_D) (Xt : State → Array Value → Prop) (p : Program) (s : State) (m : MethodId) (args : Array Value) (meth : Method) (c : Code) : Prop :=
  p.tables.exec = Jvm.exec ∧ c.code = M.2.1 ∧ c.maxLocals = M.2.2.1 ∧ s.vm.findClass M.1.cls = some m.cls ∧ (∀ w ∈ ch_tb, w.before args s = true) ∧ meth.sig.returnType = M.2.2.2 ∧ meth.locks = false ∧ meth.name = M.1.name ∧ va_K E.1 vwCl E.2.1 s ∧ E.2.2 ≤ s.heap.size ∧ ch_N s ∧ Xt s args
/-- from here the machine comes to Z -/
def ch_G (l : Launch) (E : ch_E) (M : ch_D) (Xt : State → Array Value → Prop) (R : Room) (Z : List Frame → Array Value → State → State → Prop) (k n : Nat) (h : ch_H) (hi pc : Nat) (lv : List (Nat × Value)) (st : List Value) : Prop :=
  ∀ (p : Program) (e : Env) (s : State) (m : MethodId) (args : Array Value) (below : List Frame) (meth : Method) (c : Code) (H : Heap) (locs : List Loc) (ls : Array Slot), ch_X E M Xt p s m args meth c → ch_M E h hi H → va_S (fun q : Nat => E.2.2 ≤ q) s.heap H locs → lv_has ls M.2.2.1 lv → W p l e R s m args below meth c H locs k n (Z below args s) (F0 m pc ls st)
def ch_Qc (E : ch_E) (Q : Option Value → ch_H → Nat → Prop) : Array Value → State → Outcome → State → Prop := fun _ st oc t => (∃ (r : Option Value) (h' : ch_H) (hi' : Nat), oc = .returned r ∧ Q r h' hi' ∧ ch_M E h' hi' t.heap) ∧ va_F (fun q : Nat => E.2.2 ≤ q) st t
/-- a method's end -/
def ch_Z (E : ch_E) (mc ms : Nat) (Q : Option Value → ch_H → Nat → Prop) : List Frame → Array Value → State → State → Prop := fun below args s => MQ below (ch_Qc E Q) args s mc ms (fun q : Nat => E.2.2 ≤ q)
def ch_ws (M : ch_D) : List Cond := Cond.code M.1 M.2.1 M.2.2.1 M.2.2.2 :: ch_tb
/-- a method's contract -/
def ch_C (l : Launch) (E : ch_E) (M : ch_D) (rm : Room) (As : List Value) (h : ch_H) (hi : Nat) (Q : Option Value → ch_H → Nat → Prop) : Prop :=
  Met l M.1 (ch_ws M) rm (va_Pc As (fun U => ch_M E h hi U.heap ∧ va_K E.1 vwCl E.2.1 U ∧ ch_N U)) (ch_Qc E Q) rm.cells rm.slots (fun q : Nat => E.2.2 ≤ q)
def ch_T : State → Array Value → Prop := fun _ _ => True

section CORE
variable {l : Launch} {E : ch_E} {M : ch_D} {Xt : State → Array Value → Prop} {R : Room} {Z : List Frame → Array Value → State → State → Prop} {k n : Nat} {h : ch_H} {hi pc : Nat} {lv : List (Nat × Value)} {st : List Value}
theorem ch_Glv {lv' : List (Nat × Value)} (ks : List Nat) (e : lv_pick lv ks = lv') (kk : ch_G l E M Xt R Z k n h hi pc lv' st) : ch_G l E M Xt R Z k n h hi pc lv st := by
  intro p e1 s m args below meth c H locs ls X hM hS hl
  exact kk p e1 s m args below meth c H locs ls X hM hS (lv_sub hl ks e)
theorem ch_Gst {st2 : List Value} (e : st = st2) (kk : ch_G l E M Xt R Z k n h hi pc lv st2) : ch_G l E M Xt R Z k n h hi pc lv st := e ▸ kk
theorem ch_Ghp {h2 : ch_H} (e : h = h2) (kk : ch_G l E M Xt R Z k n h2 hi pc lv st) : ch_G l E M Xt R Z k n h hi pc lv st := e ▸ kk
theorem ch_Gwd {k2 n2 : Nat} (h1 : k ≤ k2) (h2 : n ≤ n2) (kk : ch_G l E M Xt R Z k2 n2 h hi pc lv st) : ch_G l E M Xt R Z k n h hi pc lv st := by
  intro p e s m args below meth c H locs ls X hM hS hl
  exact W.widen h1 h2 (kk p e s m args below meth c H locs ls X hM hS hl)
theorem gx_iadd {x y : Int32} (hd : decode M.2.1 pc = .ok (.iadd, 1)) (kk : ∀ v : Int32, v = x + y → ch_G l E M Xt R Z k n h hi (pc + 1) lv (.int v :: st)) : ch_G l E M Xt R Z k n h hi pc lv (.int y :: .int x :: st) := by
  intro p e s m args below meth c H locs ls X hM hS hl
  exact lv_iadd X.1 X.2.1 hd (kk _ rfl p e s m args below meth c H locs ls X hM hS hl)
theorem gx_isub {x y : Int32} (hd : decode M.2.1 pc = .ok (.isub, 1)) (kk : ∀ v : Int32, v = x - y → ch_G l E M Xt R Z k n h hi (pc + 1) lv (.int v :: st)) : ch_G l E M Xt R Z k n h hi pc lv (.int y :: .int x :: st) := by
  intro p e s m args below meth c H locs ls X hM hS hl
  exact lv_isub X.1 X.2.1 hd (kk _ rfl p e s m args below meth c H locs ls X hM hS hl)
theorem gx_imul {x y : Int32} (hd : decode M.2.1 pc = .ok (.imul, 1)) (kk : ∀ v : Int32, v = x * y → ch_G l E M Xt R Z k n h hi (pc + 1) lv (.int v :: st)) : ch_G l E M Xt R Z k n h hi pc lv (.int y :: .int x :: st) := by
  intro p e s m args below meth c H locs ls X hM hS hl
  exact lv_imul X.1 X.2.1 hd (kk _ rfl p e s m args below meth c H locs ls X hM hS hl)
theorem gx_iand {x y : Int32} (hd : decode M.2.1 pc = .ok (.iand, 1)) (kk : ∀ v : Int32, v = x &&& y → ch_G l E M Xt R Z k n h hi (pc + 1) lv (.int v :: st)) : ch_G l E M Xt R Z k n h hi pc lv (.int y :: .int x :: st) := by
  intro p e s m args below meth c H locs ls X hM hS hl
  exact lv_iand X.1 X.2.1 hd (kk _ rfl p e s m args below meth c H locs ls X hM hS hl)
theorem gx_ior {x y : Int32} (hd : decode M.2.1 pc = .ok (.ior, 1)) (kk : ∀ v : Int32, v = x ||| y → ch_G l E M Xt R Z k n h hi (pc + 1) lv (.int v :: st)) : ch_G l E M Xt R Z k n h hi pc lv (.int y :: .int x :: st) := by
  intro p e s m args below meth c H locs ls X hM hS hl
  exact lv_ior X.1 X.2.1 hd (kk _ rfl p e s m args below meth c H locs ls X hM hS hl)
theorem gx_ixor {x y : Int32} (hd : decode M.2.1 pc = .ok (.ixor, 1)) (kk : ∀ v : Int32, v = x ^^^ y → ch_G l E M Xt R Z k n h hi (pc + 1) lv (.int v :: st)) : ch_G l E M Xt R Z k n h hi pc lv (.int y :: .int x :: st) := by
  intro p e s m args below meth c H locs ls X hM hS hl
  exact lv_ixor X.1 X.2.1 hd (kk _ rfl p e s m args below meth c H locs ls X hM hS hl)
theorem gx_land {x y : Int64} (hd : decode M.2.1 pc = .ok (.land, 1)) (kk : ∀ v : Int64, v = x &&& y → ch_G l E M Xt R Z k n h hi (pc + 1) lv (.long v :: st)) : ch_G l E M Xt R Z k n h hi pc lv (.long y :: .long x :: st) := by
  intro p e s m args below meth c H locs ls X hM hS hl
  exact lv_land X.1 X.2.1 hd (kk _ rfl p e s m args below meth c H locs ls X hM hS hl)
theorem gx_lor {x y : Int64} (hd : decode M.2.1 pc = .ok (.lor, 1)) (kk : ∀ v : Int64, v = x ||| y → ch_G l E M Xt R Z k n h hi (pc + 1) lv (.long v :: st)) : ch_G l E M Xt R Z k n h hi pc lv (.long y :: .long x :: st) := by
  intro p e s m args below meth c H locs ls X hM hS hl
  exact lv_lor X.1 X.2.1 hd (kk _ rfl p e s m args below meth c H locs ls X hM hS hl)
theorem gx_lxor {x y : Int64} (hd : decode M.2.1 pc = .ok (.lxor, 1)) (kk : ∀ v : Int64, v = x ^^^ y → ch_G l E M Xt R Z k n h hi (pc + 1) lv (.long v :: st)) : ch_G l E M Xt R Z k n h hi pc lv (.long y :: .long x :: st) := by
  intro p e s m args below meth c H locs ls X hM hS hl
  exact lv_lxor X.1 X.2.1 hd (kk _ rfl p e s m args below meth c H locs ls X hM hS hl)
theorem gx_ladd {x y : Int64} (hd : decode M.2.1 pc = .ok (.ladd, 1)) (kk : ∀ v : Int64, v = x + y → ch_G l E M Xt R Z k n h hi (pc + 1) lv (.long v :: st)) : ch_G l E M Xt R Z k n h hi pc lv (.long y :: .long x :: st) := by
  intro p e s m args below meth c H locs ls X hM hS hl
  exact lv_ladd X.1 X.2.1 hd (kk _ rfl p e s m args below meth c H locs ls X hM hS hl)
theorem gx_lsub {x y : Int64} (hd : decode M.2.1 pc = .ok (.lsub, 1)) (kk : ∀ v : Int64, v = x - y → ch_G l E M Xt R Z k n h hi (pc + 1) lv (.long v :: st)) : ch_G l E M Xt R Z k n h hi pc lv (.long y :: .long x :: st) := by
  intro p e s m args below meth c H locs ls X hM hS hl
  exact lv_lsub X.1 X.2.1 hd (kk _ rfl p e s m args below meth c H locs ls X hM hS hl)
theorem gx_lmul {x y : Int64} (hd : decode M.2.1 pc = .ok (.lmul, 1)) (kk : ∀ v : Int64, v = x * y → ch_G l E M Xt R Z k n h hi (pc + 1) lv (.long v :: st)) : ch_G l E M Xt R Z k n h hi pc lv (.long y :: .long x :: st) := by
  intro p e s m args below meth c H locs ls X hM hS hl
  exact lv_lmul X.1 X.2.1 hd (kk _ rfl p e s m args below meth c H locs ls X hM hS hl)
theorem gx_idiv {x y : Int32} (hd : decode M.2.1 pc = .ok (.idiv, 1)) (hne : ¬ y = 0) (kk : ∀ v : Int32, v = x / y → ch_G l E M Xt R Z k n h hi (pc + 1) lv (.int v :: st)) : ch_G l E M Xt R Z k n h hi pc lv (.int y :: .int x :: st) := by
  intro p e s m args below meth c H locs ls X hM hS hl
  exact lv_idiv X.1 X.2.1 hd hne (kk _ rfl p e s m args below meth c H locs ls X hM hS hl)
theorem gx_irem {x y : Int32} (hd : decode M.2.1 pc = .ok (.irem, 1)) (hne : ¬ y = 0) (kk : ∀ v : Int32, v = x - x / y * y → ch_G l E M Xt R Z k n h hi (pc + 1) lv (.int v :: st)) : ch_G l E M Xt R Z k n h hi pc lv (.int y :: .int x :: st) := by
  intro p e s m args below meth c H locs ls X hM hS hl
  exact lv_irem X.1 X.2.1 hd hne (kk _ rfl p e s m args below meth c H locs ls X hM hS hl)
theorem gx_ldiv {x y : Int64} (hd : decode M.2.1 pc = .ok (.ldiv, 1)) (hne : ¬ y = 0) (kk : ∀ v : Int64, v = x / y → ch_G l E M Xt R Z k n h hi (pc + 1) lv (.long v :: st)) : ch_G l E M Xt R Z k n h hi pc lv (.long y :: .long x :: st) := by
  intro p e s m args below meth c H locs ls X hM hS hl
  exact lv_ldiv X.1 X.2.1 hd hne (kk _ rfl p e s m args below meth c H locs ls X hM hS hl)
theorem gx_lrem {x y : Int64} (hd : decode M.2.1 pc = .ok (.lrem, 1)) (hne : ¬ y = 0) (kk : ∀ v : Int64, v = x - x / y * y → ch_G l E M Xt R Z k n h hi (pc + 1) lv (.long v :: st)) : ch_G l E M Xt R Z k n h hi pc lv (.long y :: .long x :: st) := by
  intro p e s m args below meth c H locs ls X hM hS hl
  exact lv_lrem X.1 X.2.1 hd hne (kk _ rfl p e s m args below meth c H locs ls X hM hS hl)
theorem gx_ineg {x : Int32} (hd : decode M.2.1 pc = .ok (.ineg, 1)) (kk : ∀ v : Int32, v = -x → ch_G l E M Xt R Z k n h hi (pc + 1) lv (.int v :: st)) : ch_G l E M Xt R Z k n h hi pc lv (.int x :: st) := by
  intro p e s m args below meth c H locs ls X hM hS hl
  exact lv_ineg X.1 X.2.1 hd (kk _ rfl p e s m args below meth c H locs ls X hM hS hl)
theorem gx_lneg {x : Int64} (hd : decode M.2.1 pc = .ok (.lneg, 1)) (kk : ∀ v : Int64, v = -x → ch_G l E M Xt R Z k n h hi (pc + 1) lv (.long v :: st)) : ch_G l E M Xt R Z k n h hi pc lv (.long x :: st) := by
  intro p e s m args below meth c H locs ls X hM hS hl
  exact lv_lneg X.1 X.2.1 hd (kk _ rfl p e s m args below meth c H locs ls X hM hS hl)
theorem gx_i2l {x : Int32} (hd : decode M.2.1 pc = .ok (.i2l, 1)) (kk : ∀ v : Int64, v = x.toInt64 → ch_G l E M Xt R Z k n h hi (pc + 1) lv (.long v :: st)) : ch_G l E M Xt R Z k n h hi pc lv (.int x :: st) := by
  intro p e s m args below meth c H locs ls X hM hS hl
  exact lv_i2l X.1 X.2.1 hd rfl (kk _ rfl p e s m args below meth c H locs ls X hM hS hl)
theorem gx_l2i {x : Int64} (hd : decode M.2.1 pc = .ok (.l2i, 1)) (kk : ∀ v : Int32, v = x.toInt32 → ch_G l E M Xt R Z k n h hi (pc + 1) lv (.int v :: st)) : ch_G l E M Xt R Z k n h hi pc lv (.long x :: st) := by
  intro p e s m args below meth c H locs ls X hM hS hl
  exact lv_l2i X.1 X.2.1 hd rfl (kk _ rfl p e s m args below meth c H locs ls X hM hS hl)
theorem gx_lcmp {x y : Int64} (hd : decode M.2.1 pc = .ok (.lcmp, 1)) (kk : ch_G l E M Xt R Z k n h hi (pc + 1) lv (.int (lg_cmp x y) :: st)) : ch_G l E M Xt R Z k n h hi pc lv (.long y :: .long x :: st) := by
  intro p e s m args below meth c H locs ls X hM hS hl
  exact W.lcmp X.1 X.2.1 hd (kk p e s m args below meth c H locs ls X hM hS hl)
theorem gx_iconst {z : Int} (v : Int32) (hd : decode M.2.1 pc = .ok (.iconst z, 1)) (hv : Int32.ofInt z = v) (kk : ch_G l E M Xt R Z k n h hi (pc + 1) lv (.int v :: st)) : ch_G l E M Xt R Z k n h hi pc lv st := by
  intro p e s m args below meth c H locs ls X hM hS hl
  exact lv_iconst X.1 X.2.1 hd hv (kk p e s m args below meth c H locs ls X hM hS hl)
theorem gx_bipush {z : Int} (v : Int32) (hd : decode M.2.1 pc = .ok (.bipush z, 2)) (hv : (Int8.ofInt z).toInt32 = v) (kk : ch_G l E M Xt R Z k n h hi (pc + 2) lv (.int v :: st)) : ch_G l E M Xt R Z k n h hi pc lv st := by
  intro p e s m args below meth c H locs ls X hM hS hl
  exact lv_bipush X.1 X.2.1 hd hv (kk p e s m args below meth c H locs ls X hM hS hl)
theorem gx_sipush {z : Int} (v : Int32) (hd : decode M.2.1 pc = .ok (.sipush z, 3)) (hv : (Int16.ofInt z).toInt32 = v) (kk : ch_G l E M Xt R Z k n h hi (pc + 3) lv (.int v :: st)) : ch_G l E M Xt R Z k n h hi pc lv st := by
  intro p e s m args below meth c H locs ls X hM hS hl
  exact lv_sipush X.1 X.2.1 hd hv (kk p e s m args below meth c H locs ls X hM hS hl)
theorem gx_lconst {z : Fin 2} (v : Int64) (hd : decode M.2.1 pc = .ok (.lconst z, 1)) (hv : Int64.ofNat (z : Nat) = v) (kk : ch_G l E M Xt R Z k n h hi (pc + 1) lv (.long v :: st)) : ch_G l E M Xt R Z k n h hi pc lv st := by
  intro p e s m args below meth c H locs ls X hM hS hl
  exact lv_lconst X.1 X.2.1 hd hv (kk p e s m args below meth c H locs ls X hM hS hl)
theorem gx_ldc {idx : Nat} (v : Int32) (hc : Cond.constant M.1.cls idx v ∈ ch_tb) (hd : decode M.2.1 pc = .ok (.ldc idx, 2)) (kk : ch_G l E M Xt R Z k n h hi (pc + 2) lv (.int v :: st)) : ch_G l E M Xt R Z k n h hi pc lv st := by
  intro p e s m args below meth c H locs ls X hM hS hl
  exact lv_ldc X.1 X.2.1 X.2.2.2.1 (X.2.2.2.2.1 _ hc) hd (kk p e s m args below meth c H locs ls X hM hS hl)
theorem gx_ldc2 {idx : Nat} (v : Int64) (hc : Cond.constantLong M.1.cls idx v ∈ ch_tb) (hd : decode M.2.1 pc = .ok (.ldc2_w idx, 3)) (kk : ch_G l E M Xt R Z k n h hi (pc + 3) lv (.long v :: st)) : ch_G l E M Xt R Z k n h hi pc lv st := by
  intro p e s m args below meth c H locs ls X hM hS hl
  exact lv_ldc2 X.1 X.2.1 X.2.2.2.1 (X.2.2.2.2.1 _ hc) hd (kk p e s m args below meth c H locs ls X hM hS hl)
theorem gx_null (hd : decode M.2.1 pc = .ok (.aconst_null, 1)) (kk : ch_G l E M Xt R Z k n h hi (pc + 1) lv (.null :: st)) : ch_G l E M Xt R Z k n h hi pc lv st := by
  intro p e s m args below meth c H locs ls X hM hS hl
  exact lv_null X.1 X.2.1 hd (kk p e s m args below meth c H locs ls X hM hS hl)
theorem gx_iload_n {q : Fin 4} {i : Nat} {x : Int32} (j : Nat) (hd : decode M.2.1 pc = .ok (.iload_n q, 1)) (hq : (q : Nat) = i) (hj : lv[j]? = some (i, .int x)) (kk : ch_G l E M Xt R Z k n h hi (pc + 1) lv (.int x :: st)) : ch_G l E M Xt R Z k n h hi pc lv st := by
  intro p e s m args below meth c H locs ls X hM hS hl
  exact lv_iload_n X.1 X.2.1 hd hq (lv_at hl j hj) (kk p e s m args below meth c H locs ls X hM hS hl)
theorem gx_iload {i : Nat} {x : Int32} (j : Nat) (hd : decode M.2.1 pc = .ok (.iload i, 2)) (hj : lv[j]? = some (i, .int x)) (kk : ch_G l E M Xt R Z k n h hi (pc + 2) lv (.int x :: st)) : ch_G l E M Xt R Z k n h hi pc lv st := by
  intro p e s m args below meth c H locs ls X hM hS hl
  exact lv_iload X.1 X.2.1 hd (lv_at hl j hj) (kk p e s m args below meth c H locs ls X hM hS hl)
theorem gx_lload_n {q : Fin 4} {i : Nat} {x : Int64} (j : Nat) (hd : decode M.2.1 pc = .ok (.lload_n q, 1)) (hq : (q : Nat) = i) (hj : lv[j]? = some (i, .long x)) (kk : ch_G l E M Xt R Z k n h hi (pc + 1) lv (.long x :: st)) : ch_G l E M Xt R Z k n h hi pc lv st := by
  intro p e s m args below meth c H locs ls X hM hS hl
  exact lv_lload_n X.1 X.2.1 hd hq (lv_at hl j hj) (kk p e s m args below meth c H locs ls X hM hS hl)
theorem gx_lload {i : Nat} {x : Int64} (j : Nat) (hd : decode M.2.1 pc = .ok (.lload i, 2)) (hj : lv[j]? = some (i, .long x)) (kk : ch_G l E M Xt R Z k n h hi (pc + 2) lv (.long x :: st)) : ch_G l E M Xt R Z k n h hi pc lv st := by
  intro p e s m args below meth c H locs ls X hM hS hl
  exact lv_lload X.1 X.2.1 hd (lv_at hl j hj) (kk p e s m args below meth c H locs ls X hM hS hl)
theorem gx_aload_n {q : Fin 4} {i : Nat} {x : Nat} (j : Nat) (hd : decode M.2.1 pc = .ok (.aload_n q, 1)) (hq : (q : Nat) = i) (hj : lv[j]? = some (i, .ref x)) (kk : ch_G l E M Xt R Z k n h hi (pc + 1) lv (.ref x :: st)) : ch_G l E M Xt R Z k n h hi pc lv st := by
  intro p e s m args below meth c H locs ls X hM hS hl
  exact lv_aload_n X.1 X.2.1 hd hq (lv_at hl j hj) (kk p e s m args below meth c H locs ls X hM hS hl)
theorem gx_aload {i : Nat} {x : Nat} (j : Nat) (hd : decode M.2.1 pc = .ok (.aload i, 2)) (hj : lv[j]? = some (i, .ref x)) (kk : ch_G l E M Xt R Z k n h hi (pc + 2) lv (.ref x :: st)) : ch_G l E M Xt R Z k n h hi pc lv st := by
  intro p e s m args below meth c H locs ls X hM hS hl
  exact lv_aload X.1 X.2.1 hd (lv_at hl j hj) (kk p e s m args below meth c H locs ls X hM hS hl)
theorem gx_aload_nN {q : Fin 4} {i : Nat} (j : Nat) (hd : decode M.2.1 pc = .ok (.aload_n q, 1)) (hq : (q : Nat) = i) (hj : lv[j]? = some (i, .null)) (kk : ch_G l E M Xt R Z k n h hi (pc + 1) lv (.null :: st)) : ch_G l E M Xt R Z k n h hi pc lv st := by
  intro p e s m args below meth c H locs ls X hM hS hl
  exact lv_aload_nN X.1 X.2.1 hd hq (lv_at hl j hj) (kk p e s m args below meth c H locs ls X hM hS hl)
theorem gx_aloadN {i : Nat} (j : Nat) (hd : decode M.2.1 pc = .ok (.aload i, 2)) (hj : lv[j]? = some (i, .null)) (kk : ch_G l E M Xt R Z k n h hi (pc + 2) lv (.null :: st)) : ch_G l E M Xt R Z k n h hi pc lv st := by
  intro p e s m args below meth c H locs ls X hM hS hl
  exact lv_aloadN X.1 X.2.1 hd (lv_at hl j hj) (kk p e s m args below meth c H locs ls X hM hS hl)
theorem gx_istore_n {q0 : Fin 4} {i : Nat} {x : Int32} (lv' : List (Nat × Value)) (hd : decode M.2.1 pc = .ok (.istore_n q0, 1)) (hq : (q0 : Nat) = i) (hn : i < M.2.2.1) (hv : (i, Value.int x) :: lv.filter (fun q => !(q.1 == i) && !(q.1 + 1 == i && q.2.category == 2)) = lv') (kk : ch_G l E M Xt R Z k n h hi (pc + 1) lv' st) : ch_G l E M Xt R Z k n h hi pc lv (.int x :: st) := by
  intro p e s m args below meth c H locs ls X hM hS hl
  exact lv_istore_n X.1 X.2.1 hd hq hl hn hv (fun ls2 hl2 => kk p e s m args below meth c H locs ls2 X hM hS hl2)
theorem gx_istore {i : Nat} {x : Int32} (lv' : List (Nat × Value)) (hd : decode M.2.1 pc = .ok (.istore i, 2)) (hn : i < M.2.2.1) (hv : (i, Value.int x) :: lv.filter (fun q => !(q.1 == i) && !(q.1 + 1 == i && q.2.category == 2)) = lv') (kk : ch_G l E M Xt R Z k n h hi (pc + 2) lv' st) : ch_G l E M Xt R Z k n h hi pc lv (.int x :: st) := by
  intro p e s m args below meth c H locs ls X hM hS hl
  exact lv_istore X.1 X.2.1 hd hl hn hv (fun ls2 hl2 => kk p e s m args below meth c H locs ls2 X hM hS hl2)
theorem gx_lstore_n {q0 : Fin 4} {i : Nat} {x : Int64} (lv' : List (Nat × Value)) (hd : decode M.2.1 pc = .ok (.lstore_n q0, 1)) (hq : (q0 : Nat) = i) (hn : i + 1 < M.2.2.1) (hv : (i, Value.long x) :: lv.filter (fun q => !(q.1 == i) && (!(q.1 == i + 1) && !(q.1 + 1 == i && q.2.category == 2))) = lv') (kk : ch_G l E M Xt R Z k n h hi (pc + 1) lv' st) : ch_G l E M Xt R Z k n h hi pc lv (.long x :: st) := by
  intro p e s m args below meth c H locs ls X hM hS hl
  exact lv_lstore_n X.1 X.2.1 hd hq hl hn hv (fun ls2 hl2 => kk p e s m args below meth c H locs ls2 X hM hS hl2)
theorem gx_lstore {i : Nat} {x : Int64} (lv' : List (Nat × Value)) (hd : decode M.2.1 pc = .ok (.lstore i, 2)) (hn : i + 1 < M.2.2.1) (hv : (i, Value.long x) :: lv.filter (fun q => !(q.1 == i) && (!(q.1 == i + 1) && !(q.1 + 1 == i && q.2.category == 2))) = lv') (kk : ch_G l E M Xt R Z k n h hi (pc + 2) lv' st) : ch_G l E M Xt R Z k n h hi pc lv (.long x :: st) := by
  intro p e s m args below meth c H locs ls X hM hS hl
  exact lv_lstore X.1 X.2.1 hd hl hn hv (fun ls2 hl2 => kk p e s m args below meth c H locs ls2 X hM hS hl2)
theorem gx_astore_n {q0 : Fin 4} {i : Nat} {x : Nat} (lv' : List (Nat × Value)) (hd : decode M.2.1 pc = .ok (.astore_n q0, 1)) (hq : (q0 : Nat) = i) (hn : i < M.2.2.1) (hv : (i, Value.ref x) :: lv.filter (fun q => !(q.1 == i) && !(q.1 + 1 == i && q.2.category == 2)) = lv') (kk : ch_G l E M Xt R Z k n h hi (pc + 1) lv' st) : ch_G l E M Xt R Z k n h hi pc lv (.ref x :: st) := by
  intro p e s m args below meth c H locs ls X hM hS hl
  exact lv_astore_n X.1 X.2.1 hd hq hl hn hv (fun ls2 hl2 => kk p e s m args below meth c H locs ls2 X hM hS hl2)
theorem gx_astore {i : Nat} {x : Nat} (lv' : List (Nat × Value)) (hd : decode M.2.1 pc = .ok (.astore i, 2)) (hn : i < M.2.2.1) (hv : (i, Value.ref x) :: lv.filter (fun q => !(q.1 == i) && !(q.1 + 1 == i && q.2.category == 2)) = lv') (kk : ch_G l E M Xt R Z k n h hi (pc + 2) lv' st) : ch_G l E M Xt R Z k n h hi pc lv (.ref x :: st) := by
  intro p e s m args below meth c H locs ls X hM hS hl
  exact lv_astore X.1 X.2.1 hd hl hn hv (fun ls2 hl2 => kk p e s m args below meth c H locs ls2 X hM hS hl2)
theorem gx_astore_nN {q0 : Fin 4} {i : Nat} (lv' : List (Nat × Value)) (hd : decode M.2.1 pc = .ok (.astore_n q0, 1)) (hq : (q0 : Nat) = i) (hn : i < M.2.2.1) (hv : (i, Value.null) :: lv.filter (fun q => !(q.1 == i) && !(q.1 + 1 == i && q.2.category == 2)) = lv') (kk : ch_G l E M Xt R Z k n h hi (pc + 1) lv' st) : ch_G l E M Xt R Z k n h hi pc lv (.null :: st) := by
  intro p e s m args below meth c H locs ls X hM hS hl
  exact lv_astore_nN X.1 X.2.1 hd hq hl hn hv (fun ls2 hl2 => kk p e s m args below meth c H locs ls2 X hM hS hl2)
theorem gx_astoreN {i : Nat} (lv' : List (Nat × Value)) (hd : decode M.2.1 pc = .ok (.astore i, 2)) (hn : i < M.2.2.1) (hv : (i, Value.null) :: lv.filter (fun q => !(q.1 == i) && !(q.1 + 1 == i && q.2.category == 2)) = lv') (kk : ch_G l E M Xt R Z k n h hi (pc + 2) lv' st) : ch_G l E M Xt R Z k n h hi pc lv (.null :: st) := by
  intro p e s m args below meth c H locs ls X hM hS hl
  exact lv_astoreN X.1 X.2.1 hd hl hn hv (fun ls2 hl2 => kk p e s m args below meth c H locs ls2 X hM hS hl2)
theorem gx_iinc {i : Nat} {z : Int} {x : Int32} (j : Nat) (lv' : Int32 → List (Nat × Value)) (hd : decode M.2.1 pc = .ok (.iinc i z, 3)) (hj : lv[j]? = some (i, .int x)) (hn : i < M.2.2.1) (hv : ∀ v, (i, Value.int v) :: lv.filter (fun q => !(q.1 == i) && !(q.1 + 1 == i && q.2.category == 2)) = lv' v) (kk : ∀ v : Int32, v = x + Int32.ofInt z → ch_G l E M Xt R Z k n h hi (pc + 3) (lv' v) st) : ch_G l E M Xt R Z k n h hi pc lv st := by
  intro p e s m args below meth c H locs ls X hM hS hl
  exact lv_iinc (v := x + Int32.ofInt z) X.1 X.2.1 hd hl hj rfl hn (hv _) (fun ls2 hl2 => kk _ rfl p e s m args below meth c H locs ls2 X hM hS hl2)
theorem gx_dup {v : Value} (hd : decode M.2.1 pc = .ok (.dup, 1)) (hv : v.category = 1) (kk : ch_G l E M Xt R Z k n h hi (pc + 1) lv (v :: v :: st)) : ch_G l E M Xt R Z k n h hi pc lv (v :: st) := by
  intro p e s m args below meth c H locs ls X hM hS hl
  exact lv_dup X.1 X.2.1 hd hv (kk p e s m args below meth c H locs ls X hM hS hl)
theorem gx_pop {v : Value} (hd : decode M.2.1 pc = .ok (.pop, 1)) (hv : v.category = 1) (kk : ch_G l E M Xt R Z k n h hi (pc + 1) lv st) : ch_G l E M Xt R Z k n h hi pc lv (v :: st) := by
  intro p e s m args below meth c H locs ls X hM hS hl
  exact lv_pop X.1 X.2.1 hd hv (kk p e s m args below meth c H locs ls X hM hS hl)
theorem gx_dup_x1 {v u : Value} (hd : decode M.2.1 pc = .ok (.dup_x1, 1)) (hv : v.category = 1) (hu : u.category = 1) (kk : ch_G l E M Xt R Z k n h hi (pc + 1) lv (v :: u :: v :: st)) : ch_G l E M Xt R Z k n h hi pc lv (v :: u :: st) := by
  intro p e s m args below meth c H locs ls X hM hS hl
  exact lv_dup_x1 X.1 X.2.1 hd hv hu (kk p e s m args below meth c H locs ls X hM hS hl)
theorem gx_dup_x2 {v u t : Value} (hd : decode M.2.1 pc = .ok (.dup_x2, 1)) (hv : v.category = 1) (hu : u.category = 1) (ht : t.category = 1) (kk : ch_G l E M Xt R Z k n h hi (pc + 1) lv (v :: u :: t :: v :: st)) : ch_G l E M Xt R Z k n h hi pc lv (v :: u :: t :: st) := by
  intro p e s m args below meth c H locs ls X hM hS hl
  exact lv_dup_x2 X.1 X.2.1 hd hv hu ht (kk p e s m args below meth c H locs ls X hM hS hl)
theorem gx_dup2_11 {v u : Value} (hd : decode M.2.1 pc = .ok (.dup2, 1)) (hv : v.category = 1) (hu : u.category = 1) (kk : ch_G l E M Xt R Z k n h hi (pc + 1) lv (v :: u :: v :: u :: st)) : ch_G l E M Xt R Z k n h hi pc lv (v :: u :: st) := by
  intro p e s m args below meth c H locs ls X hM hS hl
  exact lv_dup2_11 X.1 X.2.1 hd hv hu (kk p e s m args below meth c H locs ls X hM hS hl)
theorem gx_dup2_2 {v : Value} (hd : decode M.2.1 pc = .ok (.dup2, 1)) (hv : v.category = 2) (kk : ch_G l E M Xt R Z k n h hi (pc + 1) lv (v :: v :: st)) : ch_G l E M Xt R Z k n h hi pc lv (v :: st) := by
  intro p e s m args below meth c H locs ls X hM hS hl
  exact lv_dup2_2 X.1 X.2.1 hd hv (kk p e s m args below meth c H locs ls X hM hS hl)
theorem gx_if_eq {x : Int32} {off : Int} (tgt : Nat) (hd : decode M.2.1 pc = .ok (.ifCond .eq off, 3)) (ht : (pc : Int) + off = (tgt : Int)) (kt : x = 0 → ch_G l E M Xt R Z k n h hi tgt lv st) (kf : ¬ x = 0 → ch_G l E M Xt R Z k n h hi (pc + 3) lv st) : ch_G l E M Xt R Z k n h hi pc lv (.int x :: st) := by
  intro p e s m args below meth c H locs ls X hM hS hl
  exact lv_if_eq X.1 X.2.1 hd ht (fun q => kt q p e s m args below meth c H locs ls X hM hS hl) (fun q => kf q p e s m args below meth c H locs ls X hM hS hl)
theorem gx_icmp_eq {x y : Int32} {off : Int} (tgt : Nat) (hd : decode M.2.1 pc = .ok (.if_icmp .eq off, 3)) (ht : (pc : Int) + off = (tgt : Int)) (kt : x = y → ch_G l E M Xt R Z k n h hi tgt lv st) (kf : ¬ x = y → ch_G l E M Xt R Z k n h hi (pc + 3) lv st) : ch_G l E M Xt R Z k n h hi pc lv (.int y :: .int x :: st) := by
  intro p e s m args below meth c H locs ls X hM hS hl
  exact lv_icmp_eq X.1 X.2.1 hd ht (fun q => kt q p e s m args below meth c H locs ls X hM hS hl) (fun q => kf q p e s m args below meth c H locs ls X hM hS hl)
theorem gx_if_ne {x : Int32} {off : Int} (tgt : Nat) (hd : decode M.2.1 pc = .ok (.ifCond .ne off, 3)) (ht : (pc : Int) + off = (tgt : Int)) (kt : ¬ x = 0 → ch_G l E M Xt R Z k n h hi tgt lv st) (kf : x = 0 → ch_G l E M Xt R Z k n h hi (pc + 3) lv st) : ch_G l E M Xt R Z k n h hi pc lv (.int x :: st) := by
  intro p e s m args below meth c H locs ls X hM hS hl
  exact lv_if_ne X.1 X.2.1 hd ht (fun q => kt q p e s m args below meth c H locs ls X hM hS hl) (fun q => kf q p e s m args below meth c H locs ls X hM hS hl)
theorem gx_icmp_ne {x y : Int32} {off : Int} (tgt : Nat) (hd : decode M.2.1 pc = .ok (.if_icmp .ne off, 3)) (ht : (pc : Int) + off = (tgt : Int)) (kt : ¬ x = y → ch_G l E M Xt R Z k n h hi tgt lv st) (kf : x = y → ch_G l E M Xt R Z k n h hi (pc + 3) lv st) : ch_G l E M Xt R Z k n h hi pc lv (.int y :: .int x :: st) := by
  intro p e s m args below meth c H locs ls X hM hS hl
  exact lv_icmp_ne X.1 X.2.1 hd ht (fun q => kt q p e s m args below meth c H locs ls X hM hS hl) (fun q => kf q p e s m args below meth c H locs ls X hM hS hl)
theorem gx_if_lt {x : Int32} {off : Int} (tgt : Nat) (hd : decode M.2.1 pc = .ok (.ifCond .lt off, 3)) (ht : (pc : Int) + off = (tgt : Int)) (kt : x < 0 → ch_G l E M Xt R Z k n h hi tgt lv st) (kf : ¬ x < 0 → ch_G l E M Xt R Z k n h hi (pc + 3) lv st) : ch_G l E M Xt R Z k n h hi pc lv (.int x :: st) := by
  intro p e s m args below meth c H locs ls X hM hS hl
  exact lv_if_lt X.1 X.2.1 hd ht (fun q => kt q p e s m args below meth c H locs ls X hM hS hl) (fun q => kf q p e s m args below meth c H locs ls X hM hS hl)
theorem gx_icmp_lt {x y : Int32} {off : Int} (tgt : Nat) (hd : decode M.2.1 pc = .ok (.if_icmp .lt off, 3)) (ht : (pc : Int) + off = (tgt : Int)) (kt : x < y → ch_G l E M Xt R Z k n h hi tgt lv st) (kf : ¬ x < y → ch_G l E M Xt R Z k n h hi (pc + 3) lv st) : ch_G l E M Xt R Z k n h hi pc lv (.int y :: .int x :: st) := by
  intro p e s m args below meth c H locs ls X hM hS hl
  exact lv_icmp_lt X.1 X.2.1 hd ht (fun q => kt q p e s m args below meth c H locs ls X hM hS hl) (fun q => kf q p e s m args below meth c H locs ls X hM hS hl)
theorem gx_if_ge {x : Int32} {off : Int} (tgt : Nat) (hd : decode M.2.1 pc = .ok (.ifCond .ge off, 3)) (ht : (pc : Int) + off = (tgt : Int)) (kt : 0 ≤ x → ch_G l E M Xt R Z k n h hi tgt lv st) (kf : ¬ 0 ≤ x → ch_G l E M Xt R Z k n h hi (pc + 3) lv st) : ch_G l E M Xt R Z k n h hi pc lv (.int x :: st) := by
  intro p e s m args below meth c H locs ls X hM hS hl
  exact lv_if_ge X.1 X.2.1 hd ht (fun q => kt q p e s m args below meth c H locs ls X hM hS hl) (fun q => kf q p e s m args below meth c H locs ls X hM hS hl)
theorem gx_icmp_ge {x y : Int32} {off : Int} (tgt : Nat) (hd : decode M.2.1 pc = .ok (.if_icmp .ge off, 3)) (ht : (pc : Int) + off = (tgt : Int)) (kt : y ≤ x → ch_G l E M Xt R Z k n h hi tgt lv st) (kf : ¬ y ≤ x → ch_G l E M Xt R Z k n h hi (pc + 3) lv st) : ch_G l E M Xt R Z k n h hi pc lv (.int y :: .int x :: st) := by
  intro p e s m args below meth c H locs ls X hM hS hl
  exact lv_icmp_ge X.1 X.2.1 hd ht (fun q => kt q p e s m args below meth c H locs ls X hM hS hl) (fun q => kf q p e s m args below meth c H locs ls X hM hS hl)
theorem gx_if_gt {x : Int32} {off : Int} (tgt : Nat) (hd : decode M.2.1 pc = .ok (.ifCond .gt off, 3)) (ht : (pc : Int) + off = (tgt : Int)) (kt : 0 < x → ch_G l E M Xt R Z k n h hi tgt lv st) (kf : ¬ 0 < x → ch_G l E M Xt R Z k n h hi (pc + 3) lv st) : ch_G l E M Xt R Z k n h hi pc lv (.int x :: st) := by
  intro p e s m args below meth c H locs ls X hM hS hl
  exact lv_if_gt X.1 X.2.1 hd ht (fun q => kt q p e s m args below meth c H locs ls X hM hS hl) (fun q => kf q p e s m args below meth c H locs ls X hM hS hl)
theorem gx_icmp_gt {x y : Int32} {off : Int} (tgt : Nat) (hd : decode M.2.1 pc = .ok (.if_icmp .gt off, 3)) (ht : (pc : Int) + off = (tgt : Int)) (kt : y < x → ch_G l E M Xt R Z k n h hi tgt lv st) (kf : ¬ y < x → ch_G l E M Xt R Z k n h hi (pc + 3) lv st) : ch_G l E M Xt R Z k n h hi pc lv (.int y :: .int x :: st) := by
  intro p e s m args below meth c H locs ls X hM hS hl
  exact lv_icmp_gt X.1 X.2.1 hd ht (fun q => kt q p e s m args below meth c H locs ls X hM hS hl) (fun q => kf q p e s m args below meth c H locs ls X hM hS hl)
theorem gx_if_le {x : Int32} {off : Int} (tgt : Nat) (hd : decode M.2.1 pc = .ok (.ifCond .le off, 3)) (ht : (pc : Int) + off = (tgt : Int)) (kt : x ≤ 0 → ch_G l E M Xt R Z k n h hi tgt lv st) (kf : ¬ x ≤ 0 → ch_G l E M Xt R Z k n h hi (pc + 3) lv st) : ch_G l E M Xt R Z k n h hi pc lv (.int x :: st) := by
  intro p e s m args below meth c H locs ls X hM hS hl
  exact lv_if_le X.1 X.2.1 hd ht (fun q => kt q p e s m args below meth c H locs ls X hM hS hl) (fun q => kf q p e s m args below meth c H locs ls X hM hS hl)
theorem gx_icmp_le {x y : Int32} {off : Int} (tgt : Nat) (hd : decode M.2.1 pc = .ok (.if_icmp .le off, 3)) (ht : (pc : Int) + off = (tgt : Int)) (kt : x ≤ y → ch_G l E M Xt R Z k n h hi tgt lv st) (kf : ¬ x ≤ y → ch_G l E M Xt R Z k n h hi (pc + 3) lv st) : ch_G l E M Xt R Z k n h hi pc lv (.int y :: .int x :: st) := by
  intro p e s m args below meth c H locs ls X hM hS hl
  exact lv_icmp_le X.1 X.2.1 hd ht (fun q => kt q p e s m args below meth c H locs ls X hM hS hl) (fun q => kf q p e s m args below meth c H locs ls X hM hS hl)
theorem gx_goto {off : Int} (tgt : Nat) (hd : decode M.2.1 pc = .ok (.goto off, 3)) (ht : (pc : Int) + off = (tgt : Int)) (kk : ch_G l E M Xt R Z k n h hi tgt lv st) : ch_G l E M Xt R Z k n h hi pc lv st := by
  intro p e s m args below meth c H locs ls X hM hS hl
  exact lv_goto X.1 X.2.1 hd ht (kk p e s m args below meth c H locs ls X hM hS hl)
theorem gx_ifnull {r : Option Nat} {off : Int} (tgt : Nat) (hd : decode M.2.1 pc = .ok (.ifnull off, 3)) (ht : (pc : Int) + off = (tgt : Int)) (kt : r = none → ch_G l E M Xt R Z k n h hi tgt lv st) (kf : ∀ a, r = some a → ch_G l E M Xt R Z k n h hi (pc + 3) lv st) : ch_G l E M Xt R Z k n h hi pc lv (va_rf r :: st) := by
  intro p e s m args below meth c H locs ls X hM hS hl
  cases r with
  | none => exact lv_ifnullN X.1 X.2.1 hd ht (kt rfl p e s m args below meth c H locs ls X hM hS hl)
  | some a => exact lv_ifnull X.1 X.2.1 hd (kf a rfl p e s m args below meth c H locs ls X hM hS hl)
theorem gx_ifnonnull {r : Option Nat} {off : Int} (tgt : Nat) (hd : decode M.2.1 pc = .ok (.ifnonnull off, 3)) (ht : (pc : Int) + off = (tgt : Int)) (kt : ∀ a, r = some a → ch_G l E M Xt R Z k n h hi tgt lv st) (kf : r = none → ch_G l E M Xt R Z k n h hi (pc + 3) lv st) : ch_G l E M Xt R Z k n h hi pc lv (va_rf r :: st) := by
  intro p e s m args below meth c H locs ls X hM hS hl
  cases r with
  | none => exact lv_ifnonnullN X.1 X.2.1 hd (kf rfl p e s m args below meth c H locs ls X hM hS hl)
  | some a => exact lv_ifnonnull X.1 X.2.1 hd ht (kt a rfl p e s m args below meth c H locs ls X hM hS hl)
theorem gx_lookup {dflt : Int} {ps : Array (Int × Int)} {len : Nat} {x : Int32} {off : Int} (tgt : Nat) (hd : decode M.2.1 pc = .ok (.lookupswitch dflt ps, len)) (hp : (ps.toList.zip (ps.toList.drop 1)).all (fun (a, next) => a.1 < next.1) = true) (ho : Op.lookupswitch.offset ps.toList dflt x.toInt = off) (ht : (pc : Int) + off = (tgt : Int)) (kk : ch_G l E M Xt R Z k n h hi tgt lv st) : ch_G l E M Xt R Z k n h hi pc lv (.int x :: st) := by
  intro p e s m args below meth c H locs ls X hM hS hl
  exact lv_lookup X.1 X.2.1 hd hp ho ht (kk p e s m args below meth c H locs ls X hM hS hl)
theorem gx_tableOut {dflt lo hh : Int} {offs : Array Int} {len : Nat} {x : Int32} (tgt : Nat) (hd : decode M.2.1 pc = .ok (.tableswitch dflt lo hh offs, len)) (hx : x.toInt < lo ∨ hh < x.toInt) (ht : (pc : Int) + dflt = (tgt : Int)) (kk : ch_G l E M Xt R Z k n h hi tgt lv st) : ch_G l E M Xt R Z k n h hi pc lv (.int x :: st) := by
  intro p e s m args below meth c H locs ls X hM hS hl
  exact lv_tableOut X.1 X.2.1 hd hx ht (kk p e s m args below meth c H locs ls X hM hS hl)
theorem gx_tableIn {dflt lo hh : Int} {offs : Array Int} {len : Nat} {x : Int32} {off : Int} (tgt : Nat) (hd : decode M.2.1 pc = .ok (.tableswitch dflt lo hh offs, len)) (h1 : ¬ x.toInt < lo) (h2 : ¬ hh < x.toInt) (ho : offs[(x.toInt - lo).toNat]? = some off) (ht : (pc : Int) + off = (tgt : Int)) (kk : ch_G l E M Xt R Z k n h hi tgt lv st) : ch_G l E M Xt R Z k n h hi pc lv (.int x :: st) := by
  intro p e s m args below meth c H locs ls X hM hS hl
  exact lv_tableIn X.1 X.2.1 hd h1 h2 ho ht (kk p e s m args below meth c H locs ls X hM hS hl)
/-- one of our cells, as a world of one -/
theorem ch_one {E : ch_E} {h : ch_H} {hi a : Nat} {e : va_E} {H : Heap} (hM : ch_M E h hi H) (ha : h a = some e) : va_P E.1 vwCl [(a, e)] H := by
  intro i q hq
  cases i with
  | zero => cases hq; exact (hM.2.2 _ _ ha).2
  | succ i => simp at hq

theorem gx_get {a ci idx f N : Nat} {C : String} {T : u_T} {fs : List Value} {v : Value} (hc : vwCl[ci]? = some (C, T, N)) (hin : ∀ w ∈ u_ws C T N, w ∈ ch_tb) (hf : f < N) (hlink : Cond.fieldLink M.1.cls idx (T f).1 (T f).2.1 (T f).2.2.1 ∈ ch_tb) (hd : decode M.2.1 pc = .ok (.getfield idx, 3)) (ha : h a = some (.inr (ci, fs))) (hv : fs[f]? = some v) (kk : ch_G l E M Xt R Z k n h hi (pc + 3) lv (v :: st)) : ch_G l E M Xt R Z k n h hi pc lv (.ref a :: st) := by
  intro p e s m args below meth c H locs ls X hM hS hl
  exact va_get X.1 X.2.1 X.2.2.2.2.1 hin X.2.2.2.1 X.2.2.2.2.2.2.2.2.1 (ch_one hM ha) 0 rfl hc f hf (X.2.2.2.2.1 _ hlink) (fun _ h9 => h9) hv hd (kk p e s m args below meth c H locs ls X hM hS hl)
theorem gx_put {a ci idx f N : Nat} {C : String} {T : u_T} {fs : List Value} {v : Value} {ty : FieldType} (ty0 : Nat → FieldType) (hc : vwCl[ci]? = some (C, T, N)) (hin : ∀ w ∈ u_ws C T N, w ∈ ch_tb) (hty : ∀ k, k < N → parseFieldDescriptor (T k).2.2.1 = some (ty0 k)) (hnm : ∀ a, a < N → ∀ b, b < N → a ≠ b → (T a).2.1 ≠ (T b).2.1) (hf : f < N) (hlink : Cond.fieldLink M.1.cls idx (T f).1 (T f).2.1 (T f).2.2.1 ∈ ch_tb) (hfin : (T f).2.2.2 = false ∨ ((T f).2.2.2 = true ∧ M.1.name = "<init>" ∧ (T f).1 = M.1.cls)) (hde : parseFieldDescriptor (T f).2.2.1 = some ty) (hn : narrow ty v = v) (hfit : fits ty v = true) (hd : decode M.2.1 pc = .ok (.putfield idx, 3)) (ha : h a = some (.inr (ci, fs))) (hlt : f < fs.length) (kk : ch_G l E M Xt R Z k n (ch_set h a (.inr (ci, fs.set f v))) hi (pc + 3) lv st) : ch_G l E M Xt R Z k n h hi pc lv (v :: .ref a :: st) := by
  intro p e s m args below meth c H locs ls X hM hS hl
  obtain ⟨hx, hb, -, hown, hts, -, -, hname, hK, -, hN, -⟩ := id X
  have hap := va_apart (own := M.1.cls) hts hin ty0 hty hnm hK hc
  obtain ⟨hA, r, h1, cell, q1, q2, q3, q4⟩ := hM.2.2 a _ ha
  have hr' : r = (C, T, N) := Option.some.inj (h1.symm.trans hc)
  subst hr'
  obtain ⟨hSl, hfc, kC, hkC, hkind⟩ := hK.1 ci _ hc
  obtain ⟨cf, kf, fi, fd, hi', hsl⟩ := hSl f hf
  have hst := (u_facts hfc hkC (u_lays hts hin hf) hi').1
  have done : ∀ H' : Heap, H'[a]? = some (cell.setSlot fd.slot v) → H'.size = H.size → (∀ q, q ≠ a → H'[q]? = H[q]?) → W p l e R s m args below meth c H' (locs ++ [⟨a, fd.slot⟩]) k n (Z below args s) (F0 m (pc + 3) ls st) := by
    intro H' e1 e2 e3
    rw [hsl] at e1 ⊢
    exact kk p e s m args below meth c H' _ ls X (hM.put ha ⟨_, hc, t_OB.to (V := updV (vp_V fs) f v) ⟨_, e1, q2, q3, t_set q4 hap hf v⟩ (fun j _ => vp_updV_set hlt v j)⟩ e2 e3) (hS.put e2 e3 hA) hl
  have hlay := hts _ (hin _ (u_in_lay hf))
  unfold u_lay at hlay
  rcases hfin with hfin | ⟨hfin, hin2, hdecl⟩
  · rw [if_neg (by rw [hfin]; decide)] at hlay
    have h6 := u_store hfc hkC hkind hlay hi' hde hn hfit
    exact W.putK hx hb (f := fd) ⟨hown, hts _ hlink, ⟨_, _, _, hi'⟩, hst⟩ (by rw [q2]; exact h6) q1 q3 (by rw [hsl]; exact k2_hasslot (q4 f hf)) rfl rfl hd done
  · rw [if_pos hfin] at hlay
    have hcf : m.cls = cf := by
      obtain ⟨_, _, c', _, _, _, -, -, hf', -, -, -, hown2, -⟩ := Cond.laysFinal_spec hlay
      have e1 : c' = cf := by have := hi'.symm.trans hf'; simp at this; exact this.1.symm
      rw [hdecl] at hown2
      rw [← e1]; exact Option.some.inj (hown.symm.trans hown2)
    have h6 := u_fits hfc hkC hkind (Or.inr hlay) hi' hde hn hfit
    exact W.putFinK hx hb hown (hts _ hlink) hi' hst hcf (hname.trans hin2) (by rw [q2]; exact h6) q1 q3 (by rw [hsl]; exact k2_hasslot (q4 f hf)) rfl rfl hd done
theorem gx_iald {a N : Nat} {cA : ClassId} {g : Nat → Int32} {i : Int32} (t : Nat) (ht : E.2.1[t]? = some (cA, .int)) (hd : decode M.2.1 pc = .ok (.iaload, 1)) (ha : h a = some (.inl (cA, N, .inl g))) (hin : vp_in i N) (kk : ∀ v : Int32, v = g i.toNatClampNeg → ch_G l E M Xt R Z k n h hi (pc + 1) lv (.int v :: st)) : ch_G l E M Xt R Z k n h hi pc lv (.int i :: .ref a :: st) := by
  intro p e s m args below meth c H locs ls X hM hS hl
  exact va_iald X.1 X.2.1 X.2.2.2.2.2.2.2.2.1 (ch_one hM ha) 0 t rfl ht hin hd (kk _ rfl p e s m args below meth c H locs ls X hM hS hl)
theorem gx_aald {a N : Nat} {cA : ClassId} {C : String} {g : Nat → Option Nat} {i : Int32} (t : Nat) (ht : E.2.1[t]? = some (cA, .object C)) (hd : decode M.2.1 pc = .ok (.aaload, 1)) (ha : h a = some (.inl (cA, N, .inr (.inr (.inr (.inr g)))))) (hin : vp_in i N) (kk : ∀ r : Option Nat, r = g i.toNatClampNeg → ch_G l E M Xt R Z k n h hi (pc + 1) lv (va_rf r :: st)) : ch_G l E M Xt R Z k n h hi pc lv (.int i :: .ref a :: st) := by
  intro p e s m args below meth c H locs ls X hM hS hl
  exact va_aldq X.1 X.2.1 X.2.2.2.2.2.2.2.2.1 (ch_one hM ha) 0 t rfl ht hin hd (kk _ rfl p e s m args below meth c H locs ls X hM hS hl)
theorem gx_alen {a : Nat} {cA : ClassId} {x : vp_A} {ty : FieldType} (t : Nat) (v : Int32) (ht : E.2.1[t]? = some (cA, ty)) (hd : decode M.2.1 pc = .ok (.arraylength, 1)) (ha : h a = some (.inl (cA, x))) (hv : Int32.ofNat x.1 = v) (kk : ch_G l E M Xt R Z k n h hi (pc + 1) lv (.int v :: st)) : ch_G l E M Xt R Z k n h hi pc lv (.ref a :: st) := by
  intro p e s m args below meth c H locs ls X hM hS hl
  exact va_alen X.1 X.2.1 X.2.2.2.2.2.2.2.2.1 (ch_one hM ha) 0 t rfl ht hv hd (kk p e s m args below meth c H locs ls X hM hS hl)
theorem gx_iast {a N : Nat} {cA : ClassId} {g : Nat → Int32} {i x : Int32} (t : Nat) (ht : E.2.1[t]? = some (cA, .int)) (hd : decode M.2.1 pc = .ok (.iastore, 1)) (ha : h a = some (.inl (cA, N, .inl g))) (hin : vp_in i N) (kk : ch_G l E M Xt R Z k n (ch_set h a (.inl (cA, N, .inl (upd g i.toNatClampNeg x)))) hi (pc + 1) lv st) : ch_G l E M Xt R Z k n h hi pc lv (.int x :: .int i :: .ref a :: st) := by
  intro p e s m args below meth c H locs ls X hM hS hl
  obtain ⟨hx, hb, -, hown, hts, -, -, hname, hK, -, hN, -⟩ := id X
  obtain ⟨hA, hcell⟩ := hM.2.2 a _ ha
  refine W.iast hx hb hcell ((hK.2 t _ ht).1 N (fun j => .int (g j))) (fun q => by cases q) (by show ¬ (i < 0 ∨ (arrV _ _ _).slots.size ≤ _); rw [arrV_size]; exact hin) rfl rfl hd fun H1 e1 z oq => ?_
  refine kk p e s m args below meth c H1 _ ls X (hM.put ha ?_ z oq) (hS.put z oq hA) hl
  show H1[a]? = some (vp_cell _ _)
  rw [e1]
  rw [vp_cell_i, vp_cell_i, arrV_store]
  congr 2
  funext q
  by_cases hq : q = i.toNatClampNeg
  · subst hq
    simp [updV, upd]
  · simp [updV, upd, hq]
theorem gx_aast {a N v ci : Nat} {cA : ClassId} {r : vw_C} {C : String} {vs : List Value} {g : Nat → Option Nat} {i : Int32} (t : Nat) (ht : E.2.1[t]? = some (cA, .object C)) (hc : vwCl[ci]? = some r) (hca : ∀ U, ch_N U → va_Nw (Cond.castable r.1 C) U) (hd : decode M.2.1 pc = .ok (.aastore, 1)) (ha : h a = some (.inl (cA, N, .inr (.inr (.inr (.inr g)))))) (hv : h v = some (.inr (ci, vs))) (hin : vp_in i N) (kk : ch_G l E M Xt R Z k n (ch_set h a (.inl (cA, N, .inr (.inr (.inr (.inr (va_up g i.toNatClampNeg (some v)))))))) hi (pc + 1) lv st) : ch_G l E M Xt R Z k n h hi pc lv (.ref v :: .int i :: .ref a :: st) := by
  intro p e s m args below meth c H locs ls X hM hS hl
  obtain ⟨hx, hb, -, hown, hts, -, -, hname, hK, -, hN, -⟩ := id X
  obtain ⟨hA, hcell⟩ := hM.2.2 a _ ha
  have hlt : i.toNatClampNeg < N := Nat.not_le.mp fun q => hin (Or.inr q)
  have h0 : ¬ i < 0 := fun q => hin (Or.inl q)
  obtain ⟨-, r', hr', cellV, g1, g2, g3, -⟩ := hM.2.2 v _ hv
  have hcls := (hK.1 ci r hc).2
  obtain ⟨kA, comp, k1, k2, k3, -⟩ := (hK.2 t _ ht).2
  obtain ⟨kE, hkE, -⟩ := Vm.findClass_spec k3
  obtain ⟨c0, t1, f1, f2, f3⟩ := Cond.castable_spec (va_Nw.use (A := args) rfl (hca s hN))
  cases hcls.1.symm.trans f1
  cases k3.symm.trans f2
  obtain ⟨kC, hkC, -⟩ := hcls.2
  refine W.aast hx hb hcell (fun q h => by cases h) (fun h => by cases h) k1 k2 rfl hkE ⟨h0, by show _ < (arrV _ _ _).slots.size; rw [arrV_size]; exact hlt⟩ g1 (fun q h => by rw [g3] at h; cases h) (by rw [g2]; exact hkC) (by rw [g2]; exact f3) rfl rfl hd fun H1 e1 z oq => ?_
  refine kk p e s m args below meth c H1 _ ls X (hM.put ha ?_ z oq) (hS.put z oq hA) hl
  show H1[a]? = some (vp_cell _ _)
  rw [e1]
  rw [vp_cell_q, vp_cell_q, arrV_store]
  congr 2
  funext q
  by_cases hq : q = i.toNatClampNeg
  · subst hq
    simp [updV, va_up, va_rf]
  · simp [updV, va_up, hq]
theorem gx_aastN {a N : Nat} {cA : ClassId} {C : String} {g : Nat → Option Nat} {i : Int32} (t : Nat) (ht : E.2.1[t]? = some (cA, .object C)) (hd : decode M.2.1 pc = .ok (.aastore, 1)) (ha : h a = some (.inl (cA, N, .inr (.inr (.inr (.inr g)))))) (hin : vp_in i N) (kk : ch_G l E M Xt R Z k n (ch_set h a (.inl (cA, N, .inr (.inr (.inr (.inr (va_up g i.toNatClampNeg none))))))) hi (pc + 1) lv st) : ch_G l E M Xt R Z k n h hi pc lv (.null :: .int i :: .ref a :: st) := by
  intro p e s m args below meth c H locs ls X hM hS hl
  obtain ⟨hx, hb, -, hown, hts, -, -, hname, hK, -, hN, -⟩ := id X
  obtain ⟨hA, hcell⟩ := hM.2.2 a _ ha
  refine va_WaastN (C := C) hx hb hcell ((hK.2 t _ ht).1 N (fun j => va_rf (g j))) (fun h => by cases h) (by show ¬ (i < 0 ∨ (arrV _ _ _).slots.size ≤ _); rw [arrV_size]; exact hin) rfl rfl hd fun H1 e1 z oq => ?_
  refine kk p e s m args below meth c H1 _ ls X (hM.put ha ?_ z oq) (hS.put z oq hA) hl
  show H1[a]? = some (vp_cell _ _)
  rw [e1]
  rw [vp_cell_q, vp_cell_q, arrV_store]
  congr 2
  funext q
  by_cases hq : q = i.toNatClampNeg
  · subst hq
    simp [updV, va_up, va_rf]
  · simp [updV, va_up, hq]
theorem gx_new {ci idx N : Nat} {C : String} {T : u_T} {fs : List Value} (ty0 : Nat → FieldType) (hc : vwCl[ci]? = some (C, T, N)) (hin : ∀ w ∈ u_ws C T N, w ∈ ch_tb) (hty : ∀ k, k < N → parseFieldDescriptor (T k).2.2.1 = some (ty0 k)) (hcl : Cond.classLink M.1.cls idx C ∈ ch_tb) (hinst : Cond.instantiable C N ∈ ch_tb) (hini : Cond.initialized C ∈ ch_tb) (hfs : ∀ j, j < N → defaultValue (ty0 j) = vp_V fs j) (hcells : k + 1 ≤ R.cells) (hslots : n + N ≤ R.slots) (hd : decode M.2.1 pc = .ok (.new idx, 3)) (kk : ch_G l E M Xt R Z (k + 1) (n + N) (ch_set h hi (.inr (ci, fs))) (hi + 1) (pc + 3) lv (.ref hi :: st)) : ch_G l E M Xt R Z k n h hi pc lv st := by
  intro p e s m args below meth c H locs ls X hM hS hl
  obtain ⟨hx, hb, -, hown, hts, -, -, hname, hK, hlo, hNw, -⟩ := id X
  have hKn := hK.1 ci _ hc
  refine W.newcK hx hb hown (hts _ hcl) (hts _ hinst) (hts _ hini) rfl hd hcells hslots hKn.2.1 hM.1 fun H1 kC hkC e1 z1 o1 => ?_
  refine kk p e s m args below meth c H1 _ ls X (hM.new ⟨_, hc, (u_born ty0 hts hin hKn hkC e1 hty).to hfs⟩ z1 o1) ⟨?_, fun x h1 h2 => ?_, hS.2.2⟩ hl
  · have := hS.1; have := hM.1; omega
  · have h3 := hS.1
    have h4 := hM.1
    exact (o1 x (by omega)).trans (hS.2.1 x h1 h2)
theorem gx_newi {z : Int32} {N : Nat} {cA : ClassId} (t : Nat) (ht : E.2.1[t]? = some (cA, .int)) (harr : Cond.arrayClass .int ∈ ch_tb) (hd : decode M.2.1 pc = .ok (.newarray .int, 2)) (hn : ¬ z < 0) (hN : z.toNatClampNeg = N) (hbytes : N * componentBytes .int ≤ 536870912) (hcells : k + 1 ≤ R.cells) (hslots : n + N ≤ R.slots) (kk : ch_G l E M Xt R Z (k + 1) (n + N) (ch_set h hi (.inl (cA, N, .inl (fun _ => 0)))) (hi + 1) (pc + 2) lv (.ref hi :: st)) : ch_G l E M Xt R Z k n h hi pc lv (.int z :: st) := by
  intro p e s m args below meth c H locs ls X hM hS hl
  obtain ⟨hx, hb, -, hown, hts, -, -, hname, hK, hlo, hNw, -⟩ := id X
  refine va_newaK hx hb (atype := .int) (hts _ harr) rfl hd rfl hn hN hbytes hcells hslots hM.1 fun H1 cB e1 z1 o1 hAr hNm => ?_
  have hcc : cB = cA := Option.some.inj (hNm.symm.trans (hK.2 t _ ht).2)
  subst hcc
  refine kk p e s m args below meth c H1 _ ls X (hM.new (by show H1[hi]? = some (vp_cell _ _); rw [e1]; rfl) z1 o1) ⟨?_, fun x h1 h2 => ?_, hS.2.2⟩ hl
  · have := hS.1; have := hM.1; omega
  · have h3 := hS.1
    have h4 := hM.1
    exact (o1 x (by omega)).trans (hS.2.1 x h1 h2)
theorem gx_anew {z : Int32} {N idx : Nat} {cA : ClassId} {C : String} (t : Nat) (ht : E.2.1[t]? = some (cA, .object C)) (hcl : Cond.classLink M.1.cls idx C ∈ ch_tb) (hov : ∀ U, ch_N U → va_AO C U) (hd : decode M.2.1 pc = .ok (.anewarray idx, 3)) (hn : ¬ z < 0) (hN : z.toNatClampNeg = N) (hbytes : N * 4 ≤ 536870912) (hcells : k + 1 ≤ R.cells) (hslots : n + N ≤ R.slots) (kk : ch_G l E M Xt R Z (k + 1) (n + N) (ch_set h hi (.inl (cA, N, .inr (.inr (.inr (.inr (fun _ => none))))))) (hi + 1) (pc + 3) lv (.ref hi :: st)) : ch_G l E M Xt R Z k n h hi pc lv (.int z :: st) := by
  intro p e s m args below meth c H locs ls X hM hS hl
  obtain ⟨hx, hb, -, hown, hts, -, -, hname, hK, hlo, hNw, -⟩ := id X
  subst hN
  refine W.anew hx hb hown (hts _ hcl) (va_AO.use (hov s hNw)) rfl hd rfl hn hbytes hcells hslots fun cB kA comp h1 h2 h3 h4 => ?_
  obtain ⟨kA', comp', k1, k2, k3, k4⟩ := (hK.2 t _ ht).2
  have hcc : cB = cA := Option.some.inj (h1.symm.trans k4)
  subst hcc
  rw [arrV_new]
  have hz := hM.1
  have hsz := hS.1
  subst hz
  refine kk p e s m args below meth c _ _ ls X (hM.new (by show (H.push _)[H.size]? = some (vp_cell _ _); rw [vp_cell_q]; simp [va_rf]) (by simp) (fun q hq => by rw [Array.getElem?_push, if_neg (Nat.ne_of_lt hq)])) ⟨?_, fun x h1 h2 => ?_, hS.2.2⟩ hl
  · simp; omega
  · rw [Array.getElem?_push, if_neg (by omega)]; exact hS.2.1 x h1 h2
theorem gx_objInit {a idx : Nat} (hlink : Cond.methodLink M.1.cls idx objectInit ∈ ch_tb) (hinst : Cond.instanceMethod objectInit ∈ ch_tb) (hcode : Cond.code objectInit ⟨#[0xb1]⟩ 1 none ∈ ch_tb) (hd : decode M.2.1 pc = .ok (.invokespecial idx, 3)) (hfr : 1 ≤ R.frames) (hlo : (st.map fun v => v.category).sum + 12 ≤ R.locals) (kk : ch_G l E M Xt R Z k n h hi (pc + 3) lv st) : ch_G l E M Xt R Z k n h hi pc lv (.ref a :: st) := by
  intro p e s m args below meth c H locs ls X hM hS hl
  obtain ⟨hx, hb, hml, hown, hts, -, -, hname, hK, -, hN, -⟩ := id X
  refine W.objInit hx hb hown (hts _ hlink) (hts _ hinst) (hts _ hcode) rfl (by rw [hml]; exact hl.1) rfl hd hfr (by show 2 * 0 + _ + 12 ≤ _; omega) ?_
  exact kk p e s m args below meth c H locs ls X hM hS hl
theorem gx_lshl {x : Int64} {y : Int32} (hd : decode M.2.1 pc = .ok (.lshl, 1)) (kk : ∀ v : Int64, v = x <<< (y.toInt64 &&& 63) → ch_G l E M Xt R Z k n h hi (pc + 1) lv (.long v :: st)) : ch_G l E M Xt R Z k n h hi pc lv (.int y :: .long x :: st) := by
  intro p e s m args below meth c H locs ls X hM hS hl
  exact lv_lshl X.1 X.2.1 hd rfl (kk _ rfl p e s m args below meth c H locs ls X hM hS hl)
theorem gx_lshr {x : Int64} {y : Int32} (hd : decode M.2.1 pc = .ok (.lshr, 1)) (kk : ∀ v : Int64, v = x >>> (y.toInt64 &&& 63) → ch_G l E M Xt R Z k n h hi (pc + 1) lv (.long v :: st)) : ch_G l E M Xt R Z k n h hi pc lv (.int y :: .long x :: st) := by
  intro p e s m args below meth c H locs ls X hM hS hl
  exact lv_lshr X.1 X.2.1 hd rfl (kk _ rfl p e s m args below meth c H locs ls X hM hS hl)
theorem gx_lald {a N : Nat} {cA : ClassId} {g : Nat → Int64} {i : Int32} (t : Nat) (ht : E.2.1[t]? = some (cA, .long)) (hd : decode M.2.1 pc = .ok (.laload, 1)) (ha : h a = some (.inl (cA, N, .inr (.inl g)))) (hin : vp_in i N) (kk : ∀ v : Int64, v = g i.toNatClampNeg → ch_G l E M Xt R Z k n h hi (pc + 1) lv (.long v :: st)) : ch_G l E M Xt R Z k n h hi pc lv (.int i :: .ref a :: st) := by
  intro p e s m args below meth c H locs ls X hM hS hl
  exact va_lald X.1 X.2.1 X.2.2.2.2.2.2.2.2.1 (ch_one hM ha) 0 t rfl ht hin hd (kk _ rfl p e s m args below meth c H locs ls X hM hS hl)
theorem gx_last {a N : Nat} {cA : ClassId} {g : Nat → Int64} {i : Int32} {x : Int64} (t : Nat) (ht : E.2.1[t]? = some (cA, .long)) (hd : decode M.2.1 pc = .ok (.lastore, 1)) (ha : h a = some (.inl (cA, N, .inr (.inl g)))) (hin : vp_in i N) (kk : ch_G l E M Xt R Z k n (ch_set h a (.inl (cA, N, .inr (.inl (vp_updL g i.toNatClampNeg x))))) hi (pc + 1) lv st) : ch_G l E M Xt R Z k n h hi pc lv (.long x :: .int i :: .ref a :: st) := by
  intro p e s m args below meth c H locs ls X hM hS hl
  obtain ⟨hx, hb, -, hown, hts, -, -, hname, hK, -, hN, -⟩ := id X
  obtain ⟨hA, hcell⟩ := hM.2.2 a _ ha
  refine W.last hx hb hcell ((hK.2 t _ ht).1 N (fun j => .long (g j))) (fun q => by cases q) (by show ¬ (i < 0 ∨ (arrV _ _ _).slots.size ≤ _); rw [arrV_size]; exact hin) rfl rfl hd fun H1 e1 z oq => ?_
  refine kk p e s m args below meth c H1 _ ls X (hM.put ha ?_ z oq) (hS.put z oq hA) hl
  show H1[a]? = some (vp_cell _ _)
  rw [e1]
  rw [vp_cell_l, vp_cell_l, arrV_store]
  congr 2
  funext q
  by_cases hq : q = i.toNatClampNeg
  · subst hq
    simp [updV, vp_updL]
  · simp [updV, vp_updL, hq]
theorem gx_newl {z : Int32} {N : Nat} {cA : ClassId} (t : Nat) (ht : E.2.1[t]? = some (cA, .long)) (harr : Cond.arrayClass .long ∈ ch_tb) (hd : decode M.2.1 pc = .ok (.newarray .long, 2)) (hn : ¬ z < 0) (hN : z.toNatClampNeg = N) (hbytes : N * componentBytes .long ≤ 536870912) (hcells : k + 1 ≤ R.cells) (hslots : n + N ≤ R.slots) (kk : ch_G l E M Xt R Z (k + 1) (n + N) (ch_set h hi (.inl (cA, N, .inr (.inl (fun _ => 0))))) (hi + 1) (pc + 2) lv (.ref hi :: st)) : ch_G l E M Xt R Z k n h hi pc lv (.int z :: st) := by
  intro p e s m args below meth c H locs ls X hM hS hl
  obtain ⟨hx, hb, -, hown, hts, -, -, hname, hK, hlo, hNw, -⟩ := id X
  refine va_newaK hx hb (atype := .long) (hts _ harr) rfl hd rfl hn hN hbytes hcells hslots hM.1 fun H1 cB e1 z1 o1 hAr hNm => ?_
  have hcc : cB = cA := Option.some.inj (hNm.symm.trans (hK.2 t _ ht).2)
  subst hcc
  refine kk p e s m args below meth c H1 _ ls X (hM.new (by show H1[hi]? = some (vp_cell _ _); rw [e1]; rfl) z1 o1) ⟨?_, fun x h1 h2 => ?_, hS.2.2⟩ hl
  · have := hS.1; have := hM.1; omega
  · have h3 := hS.1
    have h4 := hM.1
    exact (o1 x (by omega)).trans (hS.2.1 x h1 h2)
theorem gx_mmax {x y : Int32} {idx : Nat} (hlink : Cond.methodLink M.1.cls idx Lib.Math.max.name ∈ ch_tb) (hstat : Cond.static Lib.Math.max.name ∈ ch_tb) (hini : Cond.initialized "java/lang/Math" ∈ ch_tb) (hcode : Cond.code Lib.Math.max.name Lib.Math.max.code 2 (some .int) ∈ ch_tb) (hd : decode M.2.1 pc = .ok (.invokestatic idx, 3)) (hfr : 1 ≤ R.frames) (hlo : (st.map fun v => v.category).sum + 13 ≤ R.locals) (hk : k ≤ R.cells) (hn : n ≤ R.slots) (kk : ∀ v : Int32, v = (if x < y then y else x) → ch_G l E M Xt R Z k n h hi (pc + 3) lv (.int v :: st)) : ch_G l E M Xt R Z k n h hi pc lv (.int y :: .int x :: st) := by
  intro p e s m args below meth c H locs ls X hM hS hl
  obtain ⟨hx, hb, hml, hown, hts, -, -, hname, hK, -, hN, -⟩ := id X
  exact va_mmax hx hb (hml.trans hl.1.symm) hown (hts _ hlink) (hts _ hstat) (hts _ hini) (hts _ hcode) hfr hlo hk hn hd (kk _ rfl p e s m args below meth c H locs ls X hM hS hl)
theorem gx_mmin {x y : Int32} {idx : Nat} (hlink : Cond.methodLink M.1.cls idx Lib.Math.min.name ∈ ch_tb) (hstat : Cond.static Lib.Math.min.name ∈ ch_tb) (hini : Cond.initialized "java/lang/Math" ∈ ch_tb) (hcode : Cond.code Lib.Math.min.name Lib.Math.min.code 2 (some .int) ∈ ch_tb) (hd : decode M.2.1 pc = .ok (.invokestatic idx, 3)) (hfr : 1 ≤ R.frames) (hlo : (st.map fun v => v.category).sum + 13 ≤ R.locals) (hk : k ≤ R.cells) (hn : n ≤ R.slots) (kk : ∀ v : Int32, v = (if y < x then y else x) → ch_G l E M Xt R Z k n h hi (pc + 3) lv (.int v :: st)) : ch_G l E M Xt R Z k n h hi pc lv (.int y :: .int x :: st) := by
  intro p e s m args below meth c H locs ls X hM hS hl
  obtain ⟨hx, hb, hml, hown, hts, -, -, hname, hK, -, hN, -⟩ := id X
  exact va_mmin hx hb (hml.trans hl.1.symm) hown (hts _ hlink) (hts _ hstat) (hts _ hini) (hts _ hcode) hfr hlo hk hn hd (kk _ rfl p e s m args below meth c H locs ls X hM hS hl)
theorem gx_vret {mc ms : Nat} {Q : Option Value → ch_H → Nat → Prop} (hr : M.2.2.2 = none) (hd : decode M.2.1 pc = .ok (.return_, 1)) (hk : k ≤ mc) (hn : n ≤ ms) (hq : Q none h hi) : ch_G l E M Xt R (ch_Z E mc ms Q) k n h hi pc lv [] := by
  intro p e s m args below meth c H locs ls X hM hS hl
  obtain ⟨hx, hb, -, hown, hts, hrt, hlocks, -, hK, -, hN, -⟩ := X
  refine W.widen hk hn ?_
  exact W.vret hx hb (hrt.trans hr) (fun t ht hW => ⟨⟨_, h, hi, rfl, hq, by rw [ht]; exact hM⟩, hS.F ht⟩) hS.2.2 hd hlocks
theorem gx_iret {mc ms : Nat} {Q : Option Value → ch_H → Nat → Prop} {v : Int32} (hr : M.2.2.2 = some .int) (hd : decode M.2.1 pc = .ok (.ireturn, 1)) (hk : k ≤ mc) (hn : n ≤ ms) (hq : Q (some (.int v)) h hi) : ch_G l E M Xt R (ch_Z E mc ms Q) k n h hi pc lv [.int v] := by
  intro p e s m args below meth c H locs ls X hM hS hl
  obtain ⟨hx, hb, -, hown, hts, hrt, hlocks, -, hK, -, hN, -⟩ := X
  refine W.widen hk hn ?_
  exact W.iret hx hb (hrt.trans hr) (fun t ht hW => ⟨⟨_, h, hi, rfl, hq, by rw [ht]; exact hM⟩, hS.F ht⟩) hS.2.2 hd hlocks
theorem gx_zret {mc ms : Nat} {Q : Option Value → ch_H → Nat → Prop} {v : Int32} (hr : M.2.2.2 = some .boolean) (hv : narrow .boolean (.int v) = .int v) (hd : decode M.2.1 pc = .ok (.ireturn, 1)) (hk : k ≤ mc) (hn : n ≤ ms) (hq : Q (some (.int v)) h hi) : ch_G l E M Xt R (ch_Z E mc ms Q) k n h hi pc lv [.int v] := by
  intro p e s m args below meth c H locs ls X hM hS hl
  obtain ⟨hx, hb, -, hown, hts, hrt, hlocks, -, hK, -, hN, -⟩ := X
  refine W.widen hk hn ?_
  exact W.zret hx hb (hrt.trans hr) hv (fun t ht hW => ⟨⟨_, h, hi, rfl, hq, by rw [ht]; exact hM⟩, hS.F ht⟩) hS.2.2 hd hlocks
theorem gx_lret {mc ms : Nat} {Q : Option Value → ch_H → Nat → Prop} {v : Int64} (hr : M.2.2.2 = some .long) (hd : decode M.2.1 pc = .ok (.lreturn, 1)) (hk : k ≤ mc) (hn : n ≤ ms) (hq : Q (some (.long v)) h hi) : ch_G l E M Xt R (ch_Z E mc ms Q) k n h hi pc lv [.long v] := by
  intro p e s m args below meth c H locs ls X hM hS hl
  obtain ⟨hx, hb, -, hown, hts, hrt, hlocks, -, hK, -, hN, -⟩ := X
  refine W.widen hk hn ?_
  exact W.lret hx hb (hrt.trans hr) (fun t ht hW => ⟨⟨_, h, hi, rfl, hq, by rw [ht]; exact hM⟩, hS.F ht⟩) hS.2.2 hd hlocks
theorem gx_aret {mc ms : Nat} {Q : Option Value → ch_H → Nat → Prop} {v : Value} {rt : FieldType} (hr : M.2.2.2 = some rt) (hrt0 : (∃ n, rt = .object n) ∨ ∃ t, rt = .array t) (hv : v = .null ∨ ∃ a, v = .ref a) (hd : decode M.2.1 pc = .ok (.areturn, 1)) (hk : k ≤ mc) (hn : n ≤ ms) (hq : Q (some v) h hi) : ch_G l E M Xt R (ch_Z E mc ms Q) k n h hi pc lv [v] := by
  intro p e s m args below meth c H locs ls X hM hS hl
  obtain ⟨hx, hb, -, hown, hts, hrt, hlocks, -, hK, -, hN, -⟩ := X
  refine W.widen hk hn ?_
  exact W.aret hx hb (hrt.trans hr) hrt0 hv (fun t ht hW => ⟨⟨_, h, hi, rfl, hq, by rw [ht]; exact hM⟩, hS.F ht⟩) hS.2.2 hd hlocks
theorem ch_C.of {rm : Room} {As : List Value} {Q : Option Value → ch_H → Nat → Prop} (hy : plainName M.1.cls = true) (hlen : (lg_sl As).length ≤ M.2.2.1) (body : ch_G l E M ch_T rm (ch_Z E rm.cells rm.slots Q) 0 0 h hi 0 (lv_args 0 As) []) : ch_C l E M rm As h hi Q := by
  refine Met.ofW (cc := M.2.1) (maxL := M.2.2.1) (ret := M.2.2.2) hy rfl ?_
  intro p e s m args below meth c s₁ B hml hv
  obtain ⟨rfl, hM, hK, hN⟩ := hv
  have hts := atoms_spec (ws := ch_ws M) B.pre
  have hl := lv_entry As (n := M.2.2.1) hlen
  rw [lg_entry_eq]
  exact body p e s m _ below meth c s.heap [] _ ⟨B.exec, B.bytes, hml, findClass_of_methodNamed B.named, fun w hw => hts w (List.mem_cons_of_mem _ hw), B.returns, B.notSynchronized, (name_of_methodNamed B.named B.method).1, hK, by rw [hM.1]; exact hM.2.1, hN, trivial⟩ hM va_S.rf hl
theorem gx_run {mc ms : Nat} {a0 : Array Value} {rest : List Value} {Q : Option Value → ch_H → Nat → Prop} (hrun : ∀ (p : Program) (e : Env) (s : State) (m : MethodId) (args : Array Value) (below : List Frame) (meth : Method) (c : Code) (H : Heap) (locs : List Loc) (ls : Array Slot), ch_X E M Xt p s m args meth c → ch_M E h hi H → lv_has ls M.2.2.1 lv → va_Run p l e R s m args below meth c H locs k n mc ms (F0 m pc ls st) rest (ch_Qc E Q a0) (fun q : Nat => E.2.2 ≤ q)) (kk : ∀ (r : Option Value) (h' : ch_H) (hi' : Nat), Q r h' hi' → hi ≤ hi' → ch_G l E M Xt R Z (k + mc) (n + ms) h' hi' (pc + 3) lv (r.toList ++ rest)) : ch_G l E M Xt R Z k n h hi pc lv st := by
  intro p e s m args below meth c H locs ls X hM hS hl
  intro T hT Xs
  obtain ⟨v, st₀, t, T', L, h0, X', hL, e1, e2, ⟨⟨r, h', hi', hv, hq, hM'⟩, hz, hkp⟩, stp⟩ := hrun p e s m args below meth c H locs ls X hM hl T hT Xs
  cases hv
  rw [h0] at hz hkp
  have hlo := hM.2.1
  have hsz := hM.1
  obtain ⟨t2, a1, b1⟩ := kk v h' hi' hq (by rw [← hM.1, ← hM'.1]; exact hz) p e s m args below meth c T'.heap (locs ++ L) ls X (by rw [e1]; exact hM')
    ⟨Nat.le_trans hS.1 (by rw [e1]; exact hz), fun q h1 h2 => by rw [e1, hkp q (Nat.lt_of_lt_of_le h1 hS.1) h2]; exact hS.2.1 q h1 h2, fun q hq => by
      rcases List.mem_append.mp hq with h | h
      · exact hS.2.2 q h
      · exact hL q h⟩ hl T' rfl X'
  exact ⟨t2, stp t2 a1, b1⟩
theorem ch_good {M2 : ch_D} (hc : Cond.code M2.1 M2.2.1 M2.2.2.1 M2.2.2.2 ∈ ch_tb) : GoodIn ch_tb (ch_ws M2) := by
  intro w hw
  rcases List.mem_cons.mp hw with rfl | hw
  · exact ⟨hc, ch_tbG _ hc⟩
  · exact ⟨hw, ch_tbG _ hw⟩
theorem ch_blind {As : List Value} {h : ch_H} {hi : Nat} {E : ch_E} : FrameBlind (va_Pc As (fun U => ch_M E h hi U.heap ∧ va_K E.1 vwCl E.2.1 U ∧ ch_N U)) := by
  intro a U g mk q
  obtain ⟨q0, qM, qK, qN⟩ := q
  exact ⟨q0, qM, va_K.moved (u := U) (U := U.calling g mk a) (Vm.Alike.refl U.vm) qK, ch_N.same rfl qN⟩

theorem gx_callS {M2 : ch_D} {rm : Room} {idx na : Nat} {As rest : List Value} {Q : Option Value → ch_H → Nat → Prop} (C0 : ch_C l E M2 rm As h hi Q) (ok : ch_ok M2 na) (hlink : Cond.methodLink M.1.cls idx M2.1 ∈ ch_tb) (hstat : Cond.static M2.1 ∈ ch_tb) (hd : decode M.2.1 pc = .ok (.invokestatic idx, 3)) (hna : As.length = na) (hst : st = As.reverse ++ rest) (hcat : (rest.map fun v => v.category).sum ≤ 8) (hfr : rm.frames + 1 ≤ R.frames) (hlo : 8 + (M2.2.2.1 + 11) + rm.locals ≤ R.locals) (hk : k + rm.cells ≤ R.cells) (hn : n + rm.slots ≤ R.slots) (kk : ∀ (r : Option Value) (h' : ch_H) (hi' : Nat), Q r h' hi' → hi ≤ hi' → ch_G l E M Xt R Z (k + rm.cells) (n + rm.slots) h' hi' (pc + 3) lv (r.toList ++ rest)) : ch_G l E M Xt R Z k n h hi pc lv st := by
  refine gx_run (a0 := As.toArray) (fun p e s m args below meth c H locs ls X hM hl => ?_) kk
  obtain ⟨hx, hb, hml, hown, hts, -, -, -, hK, -, hN, -⟩ := X
  exact va_runS ⟨hx, hb, hml, hown, hts⟩ C0 ⟨callB_of na hts (ch_good ok.1) rfl rfl rfl (hts _ ok.2.1) (hts _ hlink) ⟨ok.2.2.1.1, ok.2.2.1.2, ok.2.2.2⟩ ⟨hfr, hlo⟩, hts _ hstat⟩ ⟨ch_blind, fun U hU hW => ⟨rfl, by rw [hU]; exact hM, va_K.moved hW.alike hK, ch_N.warm hW hN⟩⟩ rfl hna hl.1 hst (lv_room hcat) hd ⟨hk, hn⟩
theorem gx_callSN {M2 : ch_D} {rm : Room} {host : String} {idx na : Nat} {As rest : List Value} {Q : Option Value → ch_H → Nat → Prop} (C0 : ch_C l E M2 rm As h hi Q) (ok : ch_ok M2 na) (hlink : ∀ U, ch_N U → va_Nw (Cond.methodLinkNest M.1.cls idx M2.1 host) U) (hstat : Cond.static M2.1 ∈ ch_tb) (hd : decode M.2.1 pc = .ok (.invokestatic idx, 3)) (hna : As.length = na) (hst : st = As.reverse ++ rest) (hcat : (rest.map fun v => v.category).sum ≤ 8) (hfr : rm.frames + 1 ≤ R.frames) (hlo : 8 + (M2.2.2.1 + 11) + rm.locals ≤ R.locals) (hk : k + rm.cells ≤ R.cells) (hn : n + rm.slots ≤ R.slots) (kk : ∀ (r : Option Value) (h' : ch_H) (hi' : Nat), Q r h' hi' → hi ≤ hi' → ch_G l E M Xt R Z (k + rm.cells) (n + rm.slots) h' hi' (pc + 3) lv (r.toList ++ rest)) : ch_G l E M Xt R Z k n h hi pc lv st := by
  refine gx_run (a0 := As.toArray) (fun p e s m args below meth c H locs ls X hM hl => ?_) kk
  obtain ⟨hx, hb, hml, hown, hts, -, -, -, hK, -, hN, -⟩ := X
  exact va_runSN ⟨hx, hb, hml, hown, hts⟩ C0 ⟨va_cnB na hts (ch_good ok.1) rfl rfl rfl (hlink s hN) (hts _ ok.2.1) ⟨ok.2.2.1.1, ok.2.2.1.2, ok.2.2.2⟩ ⟨hfr, hlo⟩, hts _ hstat, trivial⟩ ⟨ch_blind, fun U hU hW => ⟨rfl, by rw [hU]; exact hM, va_K.moved hW.alike hK, ch_N.warm hW hN⟩⟩ rfl hna hl.1 hst (lv_room hcat) hd ⟨hk, hn⟩
theorem gx_callV {M2 : ch_D} {rm : Room} {idx na b ci : Nat} {fs : List Value} {r : vw_C} {As rest : List Value} {Q : Option Value → ch_H → Nat → Prop} (C0 : ch_C l E M2 rm (.ref b :: As) h hi Q) (ok : ch_ok M2 na) (hlink : Cond.methodLink M.1.cls idx M2.1 ∈ ch_tb) (hinst : Cond.instanceMethod M2.1 ∈ ch_tb) (hsel : Cond.selects r.1 M2.1 M2.1 ∈ ch_tb) (hd : decode M.2.1 pc = .ok (.invokevirtual idx, 3)) (hc : vwCl[ci]? = some r) (hb0 : h b = some (.inr (ci, fs))) (hna : As.length = na) (hst : st = As.reverse ++ .ref b :: rest) (hcat : (rest.map fun v => v.category).sum ≤ 8) (hfr : rm.frames + 1 ≤ R.frames) (hlo : 8 + (M2.2.2.1 + 11) + rm.locals ≤ R.locals) (hk : k + rm.cells ≤ R.cells) (hn : n + rm.slots ≤ R.slots) (kk : ∀ (r : Option Value) (h' : ch_H) (hi' : Nat), Q r h' hi' → hi ≤ hi' → ch_G l E M Xt R Z (k + rm.cells) (n + rm.slots) h' hi' (pc + 3) lv (r.toList ++ rest)) : ch_G l E M Xt R Z k n h hi pc lv st := by
  refine gx_run (a0 := (Value.ref b :: As).toArray) (fun p e s m args below meth c H locs ls X hM hl => ?_) kk
  obtain ⟨hx, hb, hml, hown, hts, -, -, -, hK, -, hN, -⟩ := X
  exact va_runV (C := r.1) ⟨hx, hb, hml, hown, hts⟩ C0 ⟨callB_of na hts (ch_good ok.1) rfl rfl rfl (hts _ ok.2.1) (hts _ hlink) ⟨ok.2.2.1.1, ok.2.2.1.2, ok.2.2.2⟩ ⟨hfr, hlo⟩, hts _ hinst, hts _ hsel⟩ ⟨ch_blind, va_recv hK (ch_one hM hb0) hc (q0 := 0) rfl, fun U hU hW => ⟨rfl, by rw [hU]; exact hM, va_K.moved hW.alike hK, ch_N.warm hW hN⟩⟩ rfl hna hl.1 hst (lv_room hcat) hd ⟨hk, hn⟩
theorem gx_callI {M2 : ch_D} {rm : Room} {idx na b : Nat} {As rest : List Value} {Q : Option Value → ch_H → Nat → Prop} (C0 : ch_C l E M2 rm (.ref b :: As) h hi Q) (ok : ch_ok M2 na) (hlink : Cond.methodLink M.1.cls idx M2.1 ∈ ch_tb) (hinst : Cond.instanceMethod M2.1 ∈ ch_tb) (hini : M2.1.name = "<init>") (hvoid : M2.2.2.2 = none) (hd : decode M.2.1 pc = .ok (.invokespecial idx, 3)) (hna : As.length = na) (hst : st = As.reverse ++ .ref b :: rest) (hcat : (rest.map fun v => v.category).sum ≤ 8) (hfr : rm.frames + 1 ≤ R.frames) (hlo : 8 + (M2.2.2.1 + 11) + rm.locals ≤ R.locals) (hk : k + rm.cells ≤ R.cells) (hn : n + rm.slots ≤ R.slots) (kk : ∀ (r : Option Value) (h' : ch_H) (hi' : Nat), Q r h' hi' → hi ≤ hi' → ch_G l E M Xt R Z (k + rm.cells) (n + rm.slots) h' hi' (pc + 3) lv (r.toList ++ rest)) : ch_G l E M Xt R Z k n h hi pc lv st := by
  refine gx_run (a0 := (Value.ref b :: As).toArray) (fun p e s m args below meth c H locs ls X hM hl => ?_) kk
  obtain ⟨hx, hb, hml, hown, hts, -, -, -, hK, -, hN, -⟩ := X
  have hB : CallB R s args M.1.cls idx M2.1 M2.2.1 M2.2.2.1 none (ch_ws M2) rm rm.cells rm.slots na := callB_of na hts (ch_good ok.1) (by unfold ch_ws; rw [hvoid]) rfl rfl (hts _ ok.2.1) (hts _ hlink) ⟨ok.2.2.1.1, ok.2.2.1.2, ok.2.2.2⟩ ⟨hfr, hlo⟩
  exact va_runI ⟨hx, hb, hml, hown, hts⟩ C0 ⟨hB, hini, hts _ hinst⟩ ⟨ch_blind, fun U hU hW => ⟨rfl, by rw [hU]; exact hM, va_K.moved hW.alike hK, ch_N.warm hW hN⟩⟩ rfl hna hl.1 hst (lv_room hcat) hd ⟨hk, hn⟩
theorem gx_callA {M2 : ch_D} {x : MethodName} {rm : Room} {idx na b ci : Nat} {fs : List Value} {r : vw_C} {As rest : List Value} {Q : Option Value → ch_H → Nat → Prop} (C0 : ch_C l E M2 rm (.ref b :: As) h hi Q) (ok : ch_ok M2 na) (hlink : Cond.methodLink M.1.cls idx x ∈ ch_tb) (hsame : Cond.sameMethod x.cls x.cls x.name x.desc ∈ ch_tb) (hdecl : ∀ U, ch_N U → va_Nw (Cond.declares x) U) (hinst : Cond.instanceMethod M2.1 ∈ ch_tb) (hsel : Cond.selects r.1 x M2.1 ∈ ch_tb) (hx1 : x.cls ≠ "java/lang/invoke/MethodHandle" ∧ x.cls ≠ "java/lang/invoke/VarHandle" ∧ (parseMethodDescriptor x.desc).map (fun d => d.parameters.length) = some na) (hd : decode M.2.1 pc = .ok (.invokevirtual idx, 3)) (hc : vwCl[ci]? = some r) (hb0 : h b = some (.inr (ci, fs))) (hna : As.length = na) (hst : st = As.reverse ++ .ref b :: rest) (hcat : (rest.map fun v => v.category).sum ≤ 8) (hfr : rm.frames + 1 ≤ R.frames) (hlo : 8 + (M2.2.2.1 + 11) + rm.locals ≤ R.locals) (hk : k + rm.cells ≤ R.cells) (hn : n + rm.slots ≤ R.slots) (kk : ∀ (r : Option Value) (h' : ch_H) (hi' : Nat), Q r h' hi' → hi ≤ hi' → ch_G l E M Xt R Z (k + rm.cells) (n + rm.slots) h' hi' (pc + 3) lv (r.toList ++ rest)) : ch_G l E M Xt R Z k n h hi pc lv st := by
  refine gx_run (a0 := (Value.ref b :: As).toArray) (fun p e s m args below meth c H locs ls X hM hl => ?_) kk
  obtain ⟨hx, hb, hml, hown, hts, -, -, -, hK, -, hN, -⟩ := X
  have hG : GoodIn ch_tb (va_wsU M.1.cls idx r.1 x.cls x M2.1 (ch_ws M2)) := by
    intro w hw
    rcases List.mem_append.mp hw with hw | hw
    · have hm : w ∈ ch_tb := by
        simp only [List.mem_cons, List.not_mem_nil, or_false] at hw
        rcases hw with rfl | rfl | rfl | rfl | rfl
        · exact hlink
        · exact hsame
        · exact hsel
        · exact hinst
        · exact ok.2.1
      exact ⟨hm, ch_tbG _ hm⟩
    · exact ch_good ok.1 w hw
  exact va_runU (C := r.1) (owner := x.cls) ⟨hx, hb, hml, hown, hts⟩ C0 (va_cwA na hts hG rfl rfl rfl (hdecl s hN) hx1 ⟨hfr, hlo⟩) ⟨ch_blind, va_recv hK (ch_one hM hb0) hc (q0 := 0) rfl, fun U hU hW => ⟨rfl, by rw [hU]; exact hM, va_K.moved hW.alike hK, ch_N.warm hW hN⟩⟩ rfl hna hl.1 hst (lv_room hcat) hd ⟨hk, hn⟩
end CORE
end
