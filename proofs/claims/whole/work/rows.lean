section
-- ===== PART A: goes FIRST, ahead of the names: the tables' words, and 'selects' of the private methods out of them =====
/-- a private method of a class that the tables say can be made, by its rows of tables_1 -/
def lw_okq (q : MethodName × Nat) : Prop := (q.1.cls ≠ "java/lang/invoke/MethodHandle" ∧ q.1.cls ≠ "java/lang/invoke/VarHandle") ∧ Cond.instantiable q.1.cls q.2 ∈ tables_1 ∧ Cond.privateMethod q.1 ∈ tables_1 ∧ Cond.instanceMethod q.1 ∈ tables_1
theorem lw_p0 : lw_okq (⟨"SpanSolids", "useUpSizes", "()I"⟩, 7) := ⟨⟨by decide +kernel, by decide +kernel⟩, List.mem_of_getElem? (i := 16) (by decide +kernel), List.mem_of_getElem? (i := 121) (by decide +kernel), List.mem_of_getElem? (i := 122) (by decide +kernel)⟩
theorem lw_p1 : lw_okq (⟨"SpanSolids", "radiusOf", "(I)I"⟩, 7) := ⟨⟨by decide +kernel, by decide +kernel⟩, List.mem_of_getElem? (i := 16) (by decide +kernel), List.mem_of_getElem? (i := 128) (by decide +kernel), List.mem_of_getElem? (i := 129) (by decide +kernel)⟩
theorem lw_p2 : lw_okq (⟨"SpanSolids", "isFull", "()Z"⟩, 7) := ⟨⟨by decide +kernel, by decide +kernel⟩, List.mem_of_getElem? (i := 16) (by decide +kernel), List.mem_of_getElem? (i := 132) (by decide +kernel), List.mem_of_getElem? (i := 133) (by decide +kernel)⟩
theorem lw_p3 : lw_okq (⟨"SpanSolids", "newShape", "(I)LSpanSolids$Solid;"⟩, 7) := ⟨⟨by decide +kernel, by decide +kernel⟩, List.mem_of_getElem? (i := 16) (by decide +kernel), List.mem_of_getElem? (i := 136) (by decide +kernel), List.mem_of_getElem? (i := 137) (by decide +kernel)⟩
theorem lw_p4 : lw_okq (⟨"SpanSolids", "keep", "(LSpanSolids$Solid;)I"⟩, 7) := ⟨⟨by decide +kernel, by decide +kernel⟩, List.mem_of_getElem? (i := 16) (by decide +kernel), List.mem_of_getElem? (i := 241) (by decide +kernel), List.mem_of_getElem? (i := 242) (by decide +kernel)⟩
theorem lw_p5 : lw_okq (⟨"SpanSolids", "find", "(I)LSpanSolids$Solid;"⟩, 7) := ⟨⟨by decide +kernel, by decide +kernel⟩, List.mem_of_getElem? (i := 16) (by decide +kernel), List.mem_of_getElem? (i := 249) (by decide +kernel), List.mem_of_getElem? (i := 250) (by decide +kernel)⟩
theorem lw_p6 : lw_okq (⟨"SpanSolids", "lookOver", "(LSpanSolids$Solid;IILSpanSolids$Runs;)V"⟩, 7) := ⟨⟨by decide +kernel, by decide +kernel⟩, List.mem_of_getElem? (i := 16) (by decide +kernel), List.mem_of_getElem? (i := 322) (by decide +kernel), List.mem_of_getElem? (i := 323) (by decide +kernel)⟩
theorem lw_p7 : lw_okq (⟨"SpanSolids$Walk", "lookAt", "(I)V"⟩, 7) := ⟨⟨by decide +kernel, by decide +kernel⟩, List.mem_of_getElem? (i := 26) (by decide +kernel), List.mem_of_getElem? (i := 342) (by decide +kernel), List.mem_of_getElem? (i := 343) (by decide +kernel)⟩
theorem lw_p8 : lw_okq (⟨"SpanSolids$FoundSets", "mix", "(III)I"⟩, 5) := ⟨⟨by decide +kernel, by decide +kernel⟩, List.mem_of_getElem? (i := 33) (by decide +kernel), List.mem_of_getElem? (i := 350) (by decide +kernel), List.mem_of_getElem? (i := 351) (by decide +kernel)⟩
theorem lw_p9 : lw_okq (⟨"SpanSolids$FoundSets", "nextEdge", "(III)I"⟩, 5) := ⟨⟨by decide +kernel, by decide +kernel⟩, List.mem_of_getElem? (i := 33) (by decide +kernel), List.mem_of_getElem? (i := 354) (by decide +kernel), List.mem_of_getElem? (i := 355) (by decide +kernel)⟩
theorem lw_p10 : lw_okq (⟨"SpanSolids$Cone", "leastDepth", "(J)I"⟩, 6) := ⟨⟨by decide +kernel, by decide +kernel⟩, List.mem_of_getElem? (i := 218) (by decide +kernel), List.mem_of_getElem? (i := 396) (by decide +kernel), List.mem_of_getElem? (i := 397) (by decide +kernel)⟩
theorem lw_p11 : lw_okq (⟨"SpanSolidsModel", "made", "(II)I"⟩, 12) := ⟨⟨by decide +kernel, by decide +kernel⟩, List.mem_of_getElem? (i := 476) (by decide +kernel), List.mem_of_getElem? (i := 528) (by decide +kernel), List.mem_of_getElem? (i := 529) (by decide +kernel)⟩
theorem lw_p12 : lw_okq (⟨"SpanSolidsModel", "isSolid", "(I)Z"⟩, 12) := ⟨⟨by decide +kernel, by decide +kernel⟩, List.mem_of_getElem? (i := 476) (by decide +kernel), List.mem_of_getElem? (i := 536) (by decide +kernel), List.mem_of_getElem? (i := 537) (by decide +kernel)⟩
theorem lw_p13 : lw_okq (⟨"SpanSolidsModel", "isIn", "(IJJJ)Z"⟩, 12) := ⟨⟨by decide +kernel, by decide +kernel⟩, List.mem_of_getElem? (i := 476) (by decide +kernel), List.mem_of_getElem? (i := 557) (by decide +kernel), List.mem_of_getElem? (i := 558) (by decide +kernel)⟩
theorem lw_p14 : lw_okq (⟨"SpanSolidsModel", "number", "(II)I"⟩, 12) := ⟨⟨by decide +kernel, by decide +kernel⟩, List.mem_of_getElem? (i := 476) (by decide +kernel), List.mem_of_getElem? (i := 561) (by decide +kernel), List.mem_of_getElem? (i := 562) (by decide +kernel)⟩
theorem lw_p15 : lw_okq (⟨"SpanSolidsModel", "isInKind", "(IJJJ)Z"⟩, 12) := ⟨⟨by decide +kernel, by decide +kernel⟩, List.mem_of_getElem? (i := 476) (by decide +kernel), List.mem_of_getElem? (i := 565) (by decide +kernel), List.mem_of_getElem? (i := 566) (by decide +kernel)⟩
def lw_privs_1 : List (MethodName × Nat) := [(⟨"SpanSolids", "useUpSizes", "()I"⟩, 7), (⟨"SpanSolids", "radiusOf", "(I)I"⟩, 7), (⟨"SpanSolids", "isFull", "()Z"⟩, 7), (⟨"SpanSolids", "newShape", "(I)LSpanSolids$Solid;"⟩, 7), (⟨"SpanSolids", "keep", "(LSpanSolids$Solid;)I"⟩, 7), (⟨"SpanSolids", "find", "(I)LSpanSolids$Solid;"⟩, 7), (⟨"SpanSolids", "lookOver", "(LSpanSolids$Solid;IILSpanSolids$Runs;)V"⟩, 7), (⟨"SpanSolids$Walk", "lookAt", "(I)V"⟩, 7), (⟨"SpanSolids$FoundSets", "mix", "(III)I"⟩, 5), (⟨"SpanSolids$FoundSets", "nextEdge", "(III)I"⟩, 5), (⟨"SpanSolids$Cone", "leastDepth", "(J)I"⟩, 6), (⟨"SpanSolidsModel", "made", "(II)I"⟩, 12), (⟨"SpanSolidsModel", "isSolid", "(I)Z"⟩, 12), (⟨"SpanSolidsModel", "isIn", "(IJJJ)Z"⟩, 12), (⟨"SpanSolidsModel", "number", "(II)I"⟩, 12), (⟨"SpanSolidsModel", "isInKind", "(IJJJ)Z"⟩, 12)]
theorem lw_r1 : ∀ q ∈ lw_privs_1, lw_okq q := List.forall_mem_cons.mpr ⟨lw_p0, List.forall_mem_cons.mpr ⟨lw_p1, List.forall_mem_cons.mpr ⟨lw_p2, List.forall_mem_cons.mpr ⟨lw_p3, List.forall_mem_cons.mpr ⟨lw_p4, List.forall_mem_cons.mpr ⟨lw_p5, List.forall_mem_cons.mpr ⟨lw_p6, List.forall_mem_cons.mpr ⟨lw_p7, List.forall_mem_cons.mpr ⟨lw_p8, List.forall_mem_cons.mpr ⟨lw_p9, List.forall_mem_cons.mpr ⟨lw_p10, List.forall_mem_cons.mpr ⟨lw_p11, List.forall_mem_cons.mpr ⟨lw_p12, List.forall_mem_cons.mpr ⟨lw_p13, List.forall_mem_cons.mpr ⟨lw_p14, List.forall_mem_cons.mpr ⟨lw_p15, fun _ h => absurd h List.not_mem_nil⟩⟩⟩⟩⟩⟩⟩⟩⟩⟩⟩⟩⟩⟩⟩⟩
theorem lw_p16 : lw_okq (⟨"SpanSolidsModel", "topOf", "(III)I"⟩, 12) := ⟨⟨by decide +kernel, by decide +kernel⟩, List.mem_of_getElem? (i := 476) (by decide +kernel), List.mem_of_getElem? (i := 576) (by decide +kernel), List.mem_of_getElem? (i := 577) (by decide +kernel)⟩
theorem lw_p17 : lw_okq (⟨"SpanSolidsModel", "rise", "(IJJII)V"⟩, 12) := ⟨⟨by decide +kernel, by decide +kernel⟩, List.mem_of_getElem? (i := 476) (by decide +kernel), List.mem_of_getElem? (i := 580) (by decide +kernel), List.mem_of_getElem? (i := 581) (by decide +kernel)⟩
theorem lw_p18 : lw_okq (⟨"SpanSolidsModel", "ends", "(IJJJ)V"⟩, 12) := ⟨⟨by decide +kernel, by decide +kernel⟩, List.mem_of_getElem? (i := 476) (by decide +kernel), List.mem_of_getElem? (i := 593) (by decide +kernel), List.mem_of_getElem? (i := 594) (by decide +kernel)⟩
theorem lw_p19 : lw_okq (⟨"SpanSolidsModel", "last", "(IJJJ)J"⟩, 12) := ⟨⟨by decide +kernel, by decide +kernel⟩, List.mem_of_getElem? (i := 476) (by decide +kernel), List.mem_of_getElem? (i := 597) (by decide +kernel), List.mem_of_getElem? (i := 598) (by decide +kernel)⟩
theorem lw_p20 : lw_okq (⟨"SpanSolidsModel", "height", "(J)V"⟩, 12) := ⟨⟨by decide +kernel, by decide +kernel⟩, List.mem_of_getElem? (i := 476) (by decide +kernel), List.mem_of_getElem? (i := 603) (by decide +kernel), List.mem_of_getElem? (i := 604) (by decide +kernel)⟩
theorem lw_p21 : lw_okq (⟨"SpanSolidsModel", "sort", "()V"⟩, 12) := ⟨⟨by decide +kernel, by decide +kernel⟩, List.mem_of_getElem? (i := 476) (by decide +kernel), List.mem_of_getElem? (i := 607) (by decide +kernel), List.mem_of_getElem? (i := 608) (by decide +kernel)⟩
def lw_privs_2 : List (MethodName × Nat) := [(⟨"SpanSolidsModel", "topOf", "(III)I"⟩, 12), (⟨"SpanSolidsModel", "rise", "(IJJII)V"⟩, 12), (⟨"SpanSolidsModel", "ends", "(IJJJ)V"⟩, 12), (⟨"SpanSolidsModel", "last", "(IJJJ)J"⟩, 12), (⟨"SpanSolidsModel", "height", "(J)V"⟩, 12), (⟨"SpanSolidsModel", "sort", "()V"⟩, 12)]
theorem lw_r2 : ∀ q ∈ lw_privs_2, lw_okq q := List.forall_mem_cons.mpr ⟨lw_p16, List.forall_mem_cons.mpr ⟨lw_p17, List.forall_mem_cons.mpr ⟨lw_p18, List.forall_mem_cons.mpr ⟨lw_p19, List.forall_mem_cons.mpr ⟨lw_p20, List.forall_mem_cons.mpr ⟨lw_p21, fun _ h => absurd h List.not_mem_nil⟩⟩⟩⟩⟩⟩
def lw_privs : List (MethodName × Nat) := lw_privs_1 ++ (lw_privs_2)
def lw_tbl : List Cond := k2_sels lw_privs ++ tables_1
theorem lw_privs_ok : ∀ q ∈ lw_privs, lw_okq q := by
  show ∀ q ∈ lw_privs_1 ++ (lw_privs_2), lw_okq q
  exact List.forall_mem_append.mpr ⟨lw_r1, lw_r2⟩
-- ===== end of PART A =====
theorem goodIn_r {big : List Cond} (ws : List Cond) (ps : List Nat) (hp : ws = ps.filterMap (fun i => big[i]?)) (h : ws.all goodWord = true) : GoodIn big ws := by
  intro w hw
  have h1 := List.all_eq_true.mp h w hw
  rw [hp] at hw
  obtain ⟨i, -, hi⟩ := List.mem_filterMap.mp hw
  have hm : w ∈ big := by first | exact List.mem_of_getElem? hi | exact List.getElem?_mem hi
  exact ⟨hm, good_of_word h1⟩
theorem goodIn_app {big a b : List Cond} (ha : GoodIn big a) (hb : GoodIn big b) : GoodIn big (a ++ b) := fun w h => (List.mem_append.mp h).elim (ha w) (hb w)
theorem goodIn_ca {big a b : List Cond} {c : Cond} (ha : GoodIn big (c :: a)) (hb : GoodIn big b) : GoodIn big (c :: (a ++ b)) := fun w h => (List.mem_cons.mp h).elim (fun e => ha w (List.mem_cons.mpr (Or.inl e))) (fun h => (List.mem_append.mp h).elim (fun h => ha w (List.mem_cons.mpr (Or.inr h))) (hb w))
theorem goodIn_sub {big ws : List Cond} (hm : ∀ w ∈ ws, w ∈ big) (h : ws.all goodWord = true) : GoodIn big ws := fun w hw => ⟨hm w hw, good_of_word (List.all_eq_true.mp h w hw)⟩
def RX0 : String := "SpanSolids$Ball"
def TX0 : u_T := fun k => match k with
  | 0 => ("SpanSolids$Solid", "weight", "I", true)
  | 1 => ("SpanSolids$Ball", "x", "I", true)
  | 2 => ("SpanSolids$Ball", "y", "I", true)
  | 3 => ("SpanSolids$Ball", "z", "I", true)
  | _ => ("SpanSolids$Ball", "\x72", "I", true)
def tyX0 : Nat → FieldType := fun k => match k with
  | 0 => .int
  | 1 => .int
  | 2 => .int
  | 3 => .int
  | _ => .int
abbrev wsX00 : List Cond := u_ws RX0 TX0 5
theorem nmX0 : ∀ a, a < 5 → ∀ b, b < 5 → a ≠ b → (TX0 a).2.1 ≠ (TX0 b).2.1 := by decide +kernel
theorem tyX0_ok : ∀ k, k < 5 → parseFieldDescriptor (TX0 k).2.2.1 = some (tyX0 k) := by decide +kernel
abbrev cX0_init : ByteArray := prog_2_method_1_code
def yX0_init : MethodName := ⟨RX0, "<init>", "(IIII)V"⟩
abbrev cX0_lookFrom : ByteArray := prog_2_method_2_code
def yX0_lookFrom : MethodName := ⟨RX0, "lookFrom", "(IIILSpanSolids$Walk;)V"⟩
def RX1 : String := "SpanSolids$Box"
def TX1 : u_T := fun k => match k with
  | 0 => ("SpanSolids$Solid", "weight", "I", true)
  | 1 => ("SpanSolids$Box", "x", "I", true)
  | 2 => ("SpanSolids$Box", "y", "I", true)
  | 3 => ("SpanSolids$Box", "z", "I", true)
  | 4 => ("SpanSolids$Box", "endX", "I", true)
  | 5 => ("SpanSolids$Box", "endY", "I", true)
  | _ => ("SpanSolids$Box", "endZ", "I", true)
def tyX1 : Nat → FieldType := fun k => match k with
  | 0 => .int
  | 1 => .int
  | 2 => .int
  | 3 => .int
  | 4 => .int
  | 5 => .int
  | _ => .int
abbrev wsX10 : List Cond := u_ws RX1 TX1 7
theorem nmX1 : ∀ a, a < 7 → ∀ b, b < 7 → a ≠ b → (TX1 a).2.1 ≠ (TX1 b).2.1 := by decide +kernel
theorem tyX1_ok : ∀ k, k < 7 → parseFieldDescriptor (TX1 k).2.2.1 = some (tyX1 k) := by decide +kernel
abbrev cX1_init : ByteArray := prog_3_method_1_code
def yX1_init : MethodName := ⟨RX1, "<init>", "(IIIIII)V"⟩
abbrev cX1_lookFrom : ByteArray := prog_3_method_2_code
def yX1_lookFrom : MethodName := ⟨RX1, "lookFrom", "(IIILSpanSolids$Walk;)V"⟩
def RX2 : String := "SpanSolids$Cone"
def TX2 : u_T := fun k => match k with
  | 0 => ("SpanSolids$Solid", "weight", "I", true)
  | 1 => ("SpanSolids$Cone", "x", "I", true)
  | 2 => ("SpanSolids$Cone", "y", "I", true)
  | 3 => ("SpanSolids$Cone", "\x72", "I", true)
  | 4 => ("SpanSolids$Cone", "z", "I", true)
  | _ => ("SpanSolids$Cone", "endZ", "I", true)
def tyX2 : Nat → FieldType := fun k => match k with
  | 0 => .int
  | 1 => .int
  | 2 => .int
  | 3 => .int
  | 4 => .int
  | _ => .int
abbrev wsX20 : List Cond := u_ws RX2 TX2 6
theorem nmX2 : ∀ a, a < 6 → ∀ b, b < 6 → a ≠ b → (TX2 a).2.1 ≠ (TX2 b).2.1 := by decide +kernel
theorem tyX2_ok : ∀ k, k < 6 → parseFieldDescriptor (TX2 k).2.2.1 = some (tyX2 k) := by decide +kernel
abbrev cX2_init : ByteArray := prog_4_method_1_code
def yX2_init : MethodName := ⟨RX2, "<init>", "(IIIII)V"⟩
abbrev cX2_lookFrom : ByteArray := prog_4_method_2_code
def yX2_lookFrom : MethodName := ⟨RX2, "lookFrom", "(IIILSpanSolids$Walk;)V"⟩
abbrev cX2_leastDepth : ByteArray := prog_4_method_3_code
def yX2_leastDepth : MethodName := ⟨RX2, "leastDepth", "(J)I"⟩
def RX3 : String := "SpanSolids$FoundSets"
def TX3 : u_T := fun k => match k with
  | 0 => ("SpanSolids$FoundSets", "edges", "[I", true)
  | 1 => ("SpanSolids$FoundSets", "starts", "[I", true)
  | 2 => ("SpanSolids$FoundSets", "mixed", "[I", true)
  | 3 => ("SpanSolids$FoundSets", "edgeCount", "I", false)
  | _ => ("SpanSolids$FoundSets", "setCount", "I", false)
def tyX3 : Nat → FieldType := fun k => match k with
  | 0 => .array .int
  | 1 => .array .int
  | 2 => .array .int
  | 3 => .int
  | _ => .int
abbrev wsX30 : List Cond := u_ws RX3 TX3 5
theorem nmX3 : ∀ a, a < 5 → ∀ b, b < 5 → a ≠ b → (TX3 a).2.1 ≠ (TX3 b).2.1 := by decide +kernel
theorem tyX3_ok : ∀ k, k < 5 → parseFieldDescriptor (TX3 k).2.2.1 = some (tyX3 k) := by decide +kernel
abbrev cX3_init : ByteArray := prog_5_method_1_code
def yX3_init : MethodName := ⟨RX3, "<init>", "()V"⟩
abbrev cX3_clear : ByteArray := prog_5_method_2_code
def yX3_clear : MethodName := ⟨RX3, "clear", "()V"⟩
abbrev cX3_add : ByteArray := prog_5_method_3_code
def yX3_add : MethodName := ⟨RX3, "add", "(II)V"⟩
abbrev cX3_joinNewest : ByteArray := prog_5_method_4_code
def yX3_joinNewest : MethodName := ⟨RX3, "joinNewest", "(I)V"⟩
abbrev cX3_mix : ByteArray := prog_5_method_5_code
def yX3_mix : MethodName := ⟨RX3, "mix", "(III)I"⟩
abbrev cX3_nextEdge : ByteArray := prog_5_method_6_code
def yX3_nextEdge : MethodName := ⟨RX3, "nextEdge", "(III)I"⟩
abbrev cX3_isJoined : ByteArray := prog_5_method_7_code
def yX3_isJoined : MethodName := ⟨RX3, "isJoined", "(ZZI)Z"⟩
abbrev cX3_copyTo : ByteArray := prog_5_method_8_code
def yX3_copyTo : MethodName := ⟨RX3, "copyTo", "(LSpanSolids$Runs;)V"⟩
def RX4 : String := "SpanSolids$Joined"
def TX4 : u_T := fun k => match k with
  | 0 => ("SpanSolids$Solid", "weight", "I", true)
  | 1 => ("SpanSolids$Joined", "first", "LSpanSolids$Solid;", true)
  | 2 => ("SpanSolids$Joined", "second", "LSpanSolids$Solid;", true)
  | _ => ("SpanSolids$Joined", "how", "I", true)
def tyX4 : Nat → FieldType := fun k => match k with
  | 0 => .int
  | 1 => .object "SpanSolids$Solid"
  | 2 => .object "SpanSolids$Solid"
  | _ => .int
abbrev wsX40 : List Cond := u_ws RX4 TX4 4
theorem nmX4 : ∀ a, a < 4 → ∀ b, b < 4 → a ≠ b → (TX4 a).2.1 ≠ (TX4 b).2.1 := by decide +kernel
theorem tyX4_ok : ∀ k, k < 4 → parseFieldDescriptor (TX4 k).2.2.1 = some (tyX4 k) := by decide +kernel
abbrev cX4_init : ByteArray := prog_6_method_1_code
def yX4_init : MethodName := ⟨RX4, "<init>", "(LSpanSolids$Solid;LSpanSolids$Solid;I)V"⟩
abbrev cX4_lookFrom : ByteArray := prog_6_method_2_code
def yX4_lookFrom : MethodName := ⟨RX4, "lookFrom", "(IIILSpanSolids$Walk;)V"⟩
def RX5 : String := "SpanSolids$Moved"
def TX5 : u_T := fun k => match k with
  | 0 => ("SpanSolids$Solid", "weight", "I", true)
  | 1 => ("SpanSolids$Moved", "part", "LSpanSolids$Solid;", true)
  | 2 => ("SpanSolids$Moved", "byX", "I", true)
  | 3 => ("SpanSolids$Moved", "byY", "I", true)
  | _ => ("SpanSolids$Moved", "byZ", "I", true)
def tyX5 : Nat → FieldType := fun k => match k with
  | 0 => .int
  | 1 => .object "SpanSolids$Solid"
  | 2 => .int
  | 3 => .int
  | _ => .int
abbrev wsX50 : List Cond := u_ws RX5 TX5 5
theorem nmX5 : ∀ a, a < 5 → ∀ b, b < 5 → a ≠ b → (TX5 a).2.1 ≠ (TX5 b).2.1 := by decide +kernel
theorem tyX5_ok : ∀ k, k < 5 → parseFieldDescriptor (TX5 k).2.2.1 = some (tyX5 k) := by decide +kernel
abbrev cX5_init : ByteArray := prog_7_method_1_code
def yX5_init : MethodName := ⟨RX5, "<init>", "(LSpanSolids$Solid;III)V"⟩
abbrev cX5_lookFrom : ByteArray := prog_7_method_2_code
def yX5_lookFrom : MethodName := ⟨RX5, "lookFrom", "(IIILSpanSolids$Walk;)V"⟩
def RX6 : String := "SpanSolids$Post"
def TX6 : u_T := fun k => match k with
  | 0 => ("SpanSolids$Solid", "weight", "I", true)
  | 1 => ("SpanSolids$Post", "x", "I", true)
  | 2 => ("SpanSolids$Post", "y", "I", true)
  | 3 => ("SpanSolids$Post", "\x72", "I", true)
  | 4 => ("SpanSolids$Post", "z", "I", true)
  | _ => ("SpanSolids$Post", "endZ", "I", true)
def tyX6 : Nat → FieldType := fun k => match k with
  | 0 => .int
  | 1 => .int
  | 2 => .int
  | 3 => .int
  | 4 => .int
  | _ => .int
abbrev wsX60 : List Cond := u_ws RX6 TX6 6
theorem nmX6 : ∀ a, a < 6 → ∀ b, b < 6 → a ≠ b → (TX6 a).2.1 ≠ (TX6 b).2.1 := by decide +kernel
theorem tyX6_ok : ∀ k, k < 6 → parseFieldDescriptor (TX6 k).2.2.1 = some (tyX6 k) := by decide +kernel
abbrev cX6_init : ByteArray := prog_8_method_1_code
def yX6_init : MethodName := ⟨RX6, "<init>", "(IIIII)V"⟩
abbrev cX6_lookFrom : ByteArray := prog_8_method_2_code
def yX6_lookFrom : MethodName := ⟨RX6, "lookFrom", "(IIILSpanSolids$Walk;)V"⟩
def RX7 : String := "SpanSolids$Runs"
def TX7 : u_T := fun k => match k with
  | 0 => ("SpanSolids$Runs", "edges", "[I", true)
  | _ => ("SpanSolids$Runs", "edgeCount", "I", false)
def tyX7 : Nat → FieldType := fun k => match k with
  | 0 => .array .int
  | _ => .int
abbrev wsX70 : List Cond := u_ws RX7 TX7 2
theorem nmX7 : ∀ a, a < 2 → ∀ b, b < 2 → a ≠ b → (TX7 a).2.1 ≠ (TX7 b).2.1 := by decide +kernel
theorem tyX7_ok : ∀ k, k < 2 → parseFieldDescriptor (TX7 k).2.2.1 = some (tyX7 k) := by decide +kernel
abbrev cX7_init : ByteArray := prog_9_method_1_code
def yX7_init : MethodName := ⟨RX7, "<init>", "()V"⟩
abbrev cX7_clear : ByteArray := prog_9_method_2_code
def yX7_clear : MethodName := ⟨RX7, "clear", "()V"⟩
abbrev cX7_copyFrom : ByteArray := prog_9_method_3_code
def yX7_copyFrom : MethodName := ⟨RX7, "copyFrom", "([II)V"⟩
abbrev cX7_runCount : ByteArray := prog_9_method_4_code
def yX7_runCount : MethodName := ⟨RX7, "runCount", "()I"⟩
abbrev cX7_firstOf : ByteArray := prog_9_method_5_code
def yX7_firstOf : MethodName := ⟨RX7, "firstOf", "(I)I"⟩
abbrev cX7_lastOf : ByteArray := prog_9_method_6_code
def yX7_lastOf : MethodName := ⟨RX7, "lastOf", "(I)I"⟩
abbrev cX7_countFrom : ByteArray := prog_9_method_7_code
def yX7_countFrom : MethodName := ⟨RX7, "countFrom", "(II)J"⟩
abbrev cX7_afterGreatest : ByteArray := prog_9_method_8_code
def yX7_afterGreatest : MethodName := ⟨RX7, "afterGreatest", "()I"⟩
def RX8 : String := "SpanSolids$Solid"
def TX8 : u_T := fun k => match k with
  | _ => ("", "", "", false)
def tyX8 : Nat → FieldType := fun k => match k with
  | _ => .int
abbrev wsX80 : List Cond := u_ws RX8 TX8 0
theorem nmX8 : ∀ a, a < 0 → ∀ b, b < 0 → a ≠ b → (TX8 a).2.1 ≠ (TX8 b).2.1 := by decide +kernel
theorem tyX8_ok : ∀ k, k < 0 → parseFieldDescriptor (TX8 k).2.2.1 = some (tyX8 k) := by decide +kernel
abbrev cX8_init : ByteArray := prog_10_method_1_code
def yX8_init : MethodName := ⟨RX8, "<init>", "(I)V"⟩
def RX9 : String := "SpanSolids$Turned"
def TX9 : u_T := fun k => match k with
  | 0 => ("SpanSolids$Solid", "weight", "I", true)
  | _ => ("SpanSolids$Turned", "part", "LSpanSolids$Solid;", true)
def tyX9 : Nat → FieldType := fun k => match k with
  | 0 => .int
  | _ => .object "SpanSolids$Solid"
abbrev wsX90 : List Cond := u_ws RX9 TX9 2
theorem nmX9 : ∀ a, a < 2 → ∀ b, b < 2 → a ≠ b → (TX9 a).2.1 ≠ (TX9 b).2.1 := by decide +kernel
theorem tyX9_ok : ∀ k, k < 2 → parseFieldDescriptor (TX9 k).2.2.1 = some (tyX9 k) := by decide +kernel
abbrev cX9_init : ByteArray := prog_11_method_1_code
def yX9_init : MethodName := ⟨RX9, "<init>", "(LSpanSolids$Solid;)V"⟩
abbrev cX9_lookFrom : ByteArray := prog_11_method_2_code
def yX9_lookFrom : MethodName := ⟨RX9, "lookFrom", "(IIILSpanSolids$Walk;)V"⟩
def RX10 : String := "SpanSolids$Walk"
def TX10 : u_T := fun k => match k with
  | 0 => ("SpanSolids$Walk", "waiting", "[LSpanSolids$Solid;", true)
  | 1 => ("SpanSolids$Walk", "xs", "[I", true)
  | 2 => ("SpanSolids$Walk", "ys", "[I", true)
  | 3 => ("SpanSolids$Walk", "lifts", "[I", true)
  | 4 => ("SpanSolids$Walk", "hows", "[I", true)
  | 5 => ("SpanSolids$Walk", "waitingCount", "I", false)
  | _ => ("SpanSolids$Walk", "found", "LSpanSolids$FoundSets;", true)
def tyX10 : Nat → FieldType := fun k => match k with
  | 0 => .array (.object "SpanSolids$Solid")
  | 1 => .array .int
  | 2 => .array .int
  | 3 => .array .int
  | 4 => .array .int
  | 5 => .int
  | _ => .object "SpanSolids$FoundSets"
abbrev wsX100 : List Cond := u_ws RX10 TX10 7
theorem nmX10 : ∀ a, a < 7 → ∀ b, b < 7 → a ≠ b → (TX10 a).2.1 ≠ (TX10 b).2.1 := by decide +kernel
theorem tyX10_ok : ∀ k, k < 7 → parseFieldDescriptor (TX10 k).2.2.1 = some (tyX10 k) := by decide +kernel
abbrev cX10_init : ByteArray := prog_12_method_1_code
def yX10_init : MethodName := ⟨RX10, "<init>", "()V"⟩
abbrev cX10_over : ByteArray := prog_12_method_2_code
def yX10_over : MethodName := ⟨RX10, "over", "(LSpanSolids$Solid;IILSpanSolids$Runs;)V"⟩
abbrev cX10_lookAt : ByteArray := prog_12_method_3_code
def yX10_lookAt : MethodName := ⟨RX10, "lookAt", "(I)V"⟩
abbrev cX10_await : ByteArray := prog_12_method_4_code
def yX10_await : MethodName := ⟨RX10, "await", "(LSpanSolids$Solid;III)V"⟩
abbrev cX10_awaitJoin : ByteArray := prog_12_method_5_code
def yX10_awaitJoin : MethodName := ⟨RX10, "awaitJoin", "(I)V"⟩
abbrev cX10_give : ByteArray := prog_12_method_6_code
def yX10_give : MethodName := ⟨RX10, "give", "(II)V"⟩
abbrev cX10_giveNone : ByteArray := prog_12_method_7_code
def yX10_giveNone : MethodName := ⟨RX10, "giveNone", "()V"⟩
def RX11 : String := "SpanSolids"
def TX11 : u_T := fun k => match k with
  | 0 => ("SpanSolids", "sizes", "[I", true)
  | 1 => ("SpanSolids", "sizeCount", "I", false)
  | 2 => ("SpanSolids", "solids", "[LSpanSolids$Solid;", true)
  | 3 => ("SpanSolids", "solidCount", "I", false)
  | 4 => ("SpanSolids", "walk", "LSpanSolids$Walk;", true)
  | 5 => ("SpanSolids", "seen", "LSpanSolids$Runs;", true)
  | _ => ("SpanSolids", "told", "LSpanSolids$Runs;", true)
def tyX11 : Nat → FieldType := fun k => match k with
  | 0 => .array .int
  | 1 => .int
  | 2 => .array (.object "SpanSolids$Solid")
  | 3 => .int
  | 4 => .object "SpanSolids$Walk"
  | 5 => .object "SpanSolids$Runs"
  | _ => .object "SpanSolids$Runs"
abbrev wsX110 : List Cond := u_ws RX11 TX11 7
theorem nmX11 : ∀ a, a < 7 → ∀ b, b < 7 → a ≠ b → (TX11 a).2.1 ≠ (TX11 b).2.1 := by decide +kernel
theorem tyX11_ok : ∀ k, k < 7 → parseFieldDescriptor (TX11 k).2.2.1 = some (tyX11 k) := by decide +kernel
abbrev cX11_init : ByteArray := prog_1_method_1_code
def yX11_init : MethodName := ⟨RX11, "<init>", "()V"⟩
abbrev cX11_size : ByteArray := prog_1_method_2_code
def yX11_size : MethodName := ⟨RX11, "size", "(I)I"⟩
abbrev cX11_solid : ByteArray := prog_1_method_3_code
def yX11_solid : MethodName := ⟨RX11, "solid", "(I)I"⟩
abbrev cX11_join : ByteArray := prog_1_method_4_code
def yX11_join : MethodName := ⟨RX11, "join", "(III)I"⟩
abbrev cX11_moved : ByteArray := prog_1_method_5_code
def yX11_moved : MethodName := ⟨RX11, "moved", "(I)I"⟩
abbrev cX11_turned : ByteArray := prog_1_method_6_code
def yX11_turned : MethodName := ⟨RX11, "turned", "(I)I"⟩
abbrev cX11_weight : ByteArray := prog_1_method_7_code
def yX11_weight : MethodName := ⟨RX11, "weight", "(I)I"⟩
abbrev cX11_inside : ByteArray := prog_1_method_8_code
def yX11_inside : MethodName := ⟨RX11, "inside", "(IIII)Z"⟩
abbrev cX11_top : ByteArray := prog_1_method_9_code
def yX11_top : MethodName := ⟨RX11, "top", "(III)I"⟩
abbrev cX11_spans : ByteArray := prog_1_method_10_code
def yX11_spans : MethodName := ⟨RX11, "spans", "(III)I"⟩
abbrev cX11_span : ByteArray := prog_1_method_11_code
def yX11_span : MethodName := ⟨RX11, "span", "(II)I"⟩
abbrev cX11_within : ByteArray := prog_1_method_12_code
def yX11_within : MethodName := ⟨RX11, "within", "(II)J"⟩
abbrev cX11_find : ByteArray := prog_1_method_13_code
def yX11_find : MethodName := ⟨RX11, "find", "(I)LSpanSolids$Solid;"⟩
abbrev cX11_isFull : ByteArray := prog_1_method_14_code
def yX11_isFull : MethodName := ⟨RX11, "isFull", "()Z"⟩
abbrev cX11_keep : ByteArray := prog_1_method_15_code
def yX11_keep : MethodName := ⟨RX11, "keep", "(LSpanSolids$Solid;)I"⟩
abbrev cX11_useUpSizes : ByteArray := prog_1_method_16_code
def yX11_useUpSizes : MethodName := ⟨RX11, "useUpSizes", "()I"⟩
abbrev cX11_sizesNeeded : ByteArray := prog_1_method_17_code
def yX11_sizesNeeded : MethodName := ⟨RX11, "sizesNeeded", "(I)I"⟩
abbrev cX11_radiusOf : ByteArray := prog_1_method_18_code
def yX11_radiusOf : MethodName := ⟨RX11, "radiusOf", "(I)I"⟩
abbrev cX11_newShape : ByteArray := prog_1_method_19_code
def yX11_newShape : MethodName := ⟨RX11, "newShape", "(I)LSpanSolids$Solid;"⟩
abbrev cX11_lookOver : ByteArray := prog_1_method_20_code
def yX11_lookOver : MethodName := ⟨RX11, "lookOver", "(LSpanSolids$Solid;IILSpanSolids$Runs;)V"⟩
abbrev cX11_isBeyond : ByteArray := prog_1_method_21_code
def yX11_isBeyond : MethodName := ⟨RX11, "isBeyond", "(I)Z"⟩
abbrev cX11_square : ByteArray := prog_1_method_22_code
def yX11_square : MethodName := ⟨RX11, "square", "(J)J"⟩
abbrev cX11_rootBelow : ByteArray := prog_1_method_23_code
def yX11_rootBelow : MethodName := ⟨RX11, "rootBelow", "(JI)I"⟩
def RX12 : String := "SpanSolidsModel"
def TX12 : u_T := fun k => match k with
  | 0 => ("SpanSolidsModel", "kinds", "[I", true)
  | 1 => ("SpanSolidsModel", "numbers", "[I", true)
  | 2 => ("SpanSolidsModel", "weights", "[I", true)
  | 3 => ("SpanSolidsModel", "solids", "I", false)
  | 4 => ("SpanSolidsModel", "sizes", "[I", true)
  | 5 => ("SpanSolidsModel", "sizeCount", "I", false)
  | 6 => ("SpanSolidsModel", "bits", "[J", true)
  | 7 => ("SpanSolidsModel", "heights", "[J", true)
  | 8 => ("SpanSolidsModel", "heightCount", "I", false)
  | 9 => ("SpanSolidsModel", "firsts", "[J", true)
  | 10 => ("SpanSolidsModel", "lasts", "[J", true)
  | _ => ("SpanSolidsModel", "spanCount", "I", false)
def tyX12 : Nat → FieldType := fun k => match k with
  | 0 => .array .int
  | 1 => .array .int
  | 2 => .array .int
  | 3 => .int
  | 4 => .array .int
  | 5 => .int
  | 6 => .array .long
  | 7 => .array .long
  | 8 => .int
  | 9 => .array .long
  | 10 => .array .long
  | _ => .int
abbrev wsX120 : List Cond := u_ws RX12 TX12 12
theorem nmX12 : ∀ a, a < 12 → ∀ b, b < 12 → a ≠ b → (TX12 a).2.1 ≠ (TX12 b).2.1 := by decide +kernel
theorem tyX12_ok : ∀ k, k < 12 → parseFieldDescriptor (TX12 k).2.2.1 = some (tyX12 k) := by decide +kernel
abbrev cX12_init : ByteArray := prog_14_method_1_code
def yX12_init : MethodName := ⟨RX12, "<init>", "()V"⟩
abbrev cX12_size : ByteArray := prog_14_method_3_code
def yX12_size : MethodName := ⟨RX12, "size", "(I)I"⟩
abbrev cX12_isSolid : ByteArray := prog_14_method_4_code
def yX12_isSolid : MethodName := ⟨RX12, "isSolid", "(I)Z"⟩
abbrev cX12_made : ByteArray := prog_14_method_5_code
def yX12_made : MethodName := ⟨RX12, "made", "(II)I"⟩
abbrev cX12_number : ByteArray := prog_14_method_6_code
def yX12_number : MethodName := ⟨RX12, "number", "(II)I"⟩
abbrev cX12_solid : ByteArray := prog_14_method_7_code
def yX12_solid : MethodName := ⟨RX12, "solid", "(I)I"⟩
abbrev cX12_join : ByteArray := prog_14_method_8_code
def yX12_join : MethodName := ⟨RX12, "join", "(III)I"⟩
abbrev cX12_moved : ByteArray := prog_14_method_9_code
def yX12_moved : MethodName := ⟨RX12, "moved", "(I)I"⟩
abbrev cX12_turned : ByteArray := prog_14_method_10_code
def yX12_turned : MethodName := ⟨RX12, "turned", "(I)I"⟩
abbrev cX12_square : ByteArray := prog_14_method_11_code
def yX12_square : MethodName := ⟨RX12, "square", "(J)J"⟩
abbrev cX12_isInKind : ByteArray := prog_14_method_12_code
def yX12_isInKind : MethodName := ⟨RX12, "isInKind", "(IJJJ)Z"⟩
abbrev cX12_isIn : ByteArray := prog_14_method_13_code
def yX12_isIn : MethodName := ⟨RX12, "isIn", "(IJJJ)Z"⟩
abbrev cX12_isNear : ByteArray := prog_14_method_14_code
def yX12_isNear : MethodName := ⟨RX12, "isNear", "(I)Z"⟩
abbrev cX12_inside : ByteArray := prog_14_method_15_code
def yX12_inside : MethodName := ⟨RX12, "inside", "(IIII)Z"⟩
abbrev cX12_rise : ByteArray := prog_14_method_16_code
def yX12_rise : MethodName := ⟨RX12, "rise", "(IJJII)V"⟩
abbrev cX12_topOf : ByteArray := prog_14_method_17_code
def yX12_topOf : MethodName := ⟨RX12, "topOf", "(III)I"⟩
abbrev cX12_top : ByteArray := prog_14_method_18_code
def yX12_top : MethodName := ⟨RX12, "top", "(III)I"⟩
abbrev cX12_weight : ByteArray := prog_14_method_19_code
def yX12_weight : MethodName := ⟨RX12, "weight", "(I)I"⟩
abbrev cX12_height : ByteArray := prog_14_method_21_code
def yX12_height : MethodName := ⟨RX12, "height", "(J)V"⟩
abbrev cX12_last : ByteArray := prog_14_method_22_code
def yX12_last : MethodName := ⟨RX12, "last", "(IJJJ)J"⟩
abbrev cX12_ends : ByteArray := prog_14_method_23_code
def yX12_ends : MethodName := ⟨RX12, "ends", "(IJJJ)V"⟩
abbrev cX12_sort : ByteArray := prog_14_method_24_code
def yX12_sort : MethodName := ⟨RX12, "sort", "()V"⟩
abbrev cX12_spans : ByteArray := prog_14_method_25_code
def yX12_spans : MethodName := ⟨RX12, "spans", "(III)I"⟩
abbrev cX12_span : ByteArray := prog_14_method_26_code
def yX12_span : MethodName := ⟨RX12, "span", "(II)I"⟩
abbrev cX12_within : ByteArray := prog_14_method_27_code
def yX12_within : MethodName := ⟨RX12, "within", "(II)J"⟩
def RJ9 : String := "java/lang/Math"
def TJ9 : u_T := fun k => match k with
  | _ => ("", "", "", false)
def tyJ9 : Nat → FieldType := fun k => match k with
  | _ => .int
abbrev wsJ90 : List Cond := u_ws RJ9 TJ9 0
theorem nmJ9 : ∀ a, a < 0 → ∀ b, b < 0 → a ≠ b → (TJ9 a).2.1 ≠ (TJ9 b).2.1 := by decide +kernel
theorem tyJ9_ok : ∀ k, k < 0 → parseFieldDescriptor (TJ9 k).2.2.1 = some (tyJ9 k) := by decide +kernel
abbrev cJ9_max_7cf53 : ByteArray := prog_15_method_65_code
def yJ9_max_7cf53 : MethodName := ⟨RJ9, "max", "(II)I"⟩
abbrev cJ9_max_f86c9 : ByteArray := prog_15_method_66_code
def yJ9_max_f86c9 : MethodName := ⟨RJ9, "max", "(JJ)J"⟩
abbrev cJ9_min_7cf53 : ByteArray := prog_15_method_69_code
def yJ9_min_7cf53 : MethodName := ⟨RJ9, "min", "(II)I"⟩
abbrev cJ9_min_f86c9 : ByteArray := prog_15_method_70_code
def yJ9_min_f86c9 : MethodName := ⟨RJ9, "min", "(JJ)J"⟩
def RL : String := "SpanSolidsLaw"
abbrev cL_law : ByteArray := code
def yL_law : MethodName := ⟨RL, "law", "([I)Z"⟩
abbrev vwCl : List vw_C := [(RX0, TX0, 5), (RX1, TX1, 7), (RX2, TX2, 6), (RX3, TX3, 5), (RX4, TX4, 4), (RX5, TX5, 5), (RX6, TX6, 6), (RX7, TX7, 2), (RX9, TX9, 2), (RX10, TX10, 7), (RX11, TX11, 7), (RX12, TX12, 12)]
def ch_tb : List Cond := lw_tbl.filter goodWord
theorem ch_tbG : ∀ w ∈ ch_tb, (w.onTables && w.keeps) = true ∨ ∃ ty, w = .arrayClass ty := fun w h => good_of_word (List.mem_filter.mp h).2
theorem ch_tbL : ∀ w ∈ ch_tb, w ∈ lw_tbl := fun w h => (List.mem_filter.mp h).1
theorem wi_1 {w : Cond} (h : w ∈ tables_1_1) (g : goodWord w = true) : w ∈ ch_tb := List.mem_filter.mpr ⟨List.mem_append_right _ (List.mem_append_left _ h), g⟩
theorem wi_2 {w : Cond} (h : w ∈ tables_1_2) (g : goodWord w = true) : w ∈ ch_tb := List.mem_filter.mpr ⟨List.mem_append_right _ (List.mem_append_right _ (List.mem_append_left _ h)), g⟩
theorem wi_3 {w : Cond} (h : w ∈ tables_1_3) (g : goodWord w = true) : w ∈ ch_tb := List.mem_filter.mpr ⟨List.mem_append_right _ (List.mem_append_right _ (List.mem_append_right _ h)), g⟩
theorem wi_p {w : Cond} (h : w ∈ k2_sels lw_privs) (g : goodWord w = true) : w ∈ ch_tb := List.mem_filter.mpr ⟨List.mem_append_left _ h, g⟩
theorem mw_1_0 : Cond.initialized RL ∈ ch_tb := wi_1 (List.mem_of_getElem? (i := 0) rfl) rfl
theorem mw_1_1 : Cond.initialized RX11 ∈ ch_tb := wi_1 (List.mem_of_getElem? (i := 1) rfl) rfl
theorem mw_1_2 : Cond.initialized RX10 ∈ ch_tb := wi_1 (List.mem_of_getElem? (i := 2) rfl) rfl
theorem mw_1_3 : Cond.initialized RX3 ∈ ch_tb := wi_1 (List.mem_of_getElem? (i := 3) rfl) rfl
theorem mw_1_4 : Cond.initialized RX7 ∈ ch_tb := wi_1 (List.mem_of_getElem? (i := 4) rfl) rfl
theorem mw_1_5 : Cond.initialized RX12 ∈ ch_tb := wi_1 (List.mem_of_getElem? (i := 5) rfl) rfl
theorem mw_1_6 : Cond.initialized RX8 ∈ ch_tb := wi_1 (List.mem_of_getElem? (i := 6) rfl) rfl
theorem mw_1_7 : Cond.initialized RX1 ∈ ch_tb := wi_1 (List.mem_of_getElem? (i := 7) rfl) rfl
theorem mw_1_8 : Cond.initialized RX6 ∈ ch_tb := wi_1 (List.mem_of_getElem? (i := 8) rfl) rfl
theorem mw_1_9 : Cond.initialized RX0 ∈ ch_tb := wi_1 (List.mem_of_getElem? (i := 9) rfl) rfl
theorem mw_1_10 : Cond.initialized RX2 ∈ ch_tb := wi_1 (List.mem_of_getElem? (i := 10) rfl) rfl
theorem mw_1_11 : Cond.initialized RX4 ∈ ch_tb := wi_1 (List.mem_of_getElem? (i := 11) rfl) rfl
theorem mw_1_12 : Cond.initialized RX5 ∈ ch_tb := wi_1 (List.mem_of_getElem? (i := 12) rfl) rfl
theorem mw_1_13 : Cond.initialized RX9 ∈ ch_tb := wi_1 (List.mem_of_getElem? (i := 13) rfl) rfl
theorem mw_1_14 : Cond.initialized RJ9 ∈ ch_tb := wi_1 (List.mem_of_getElem? (i := 14) rfl) rfl
theorem mw_1_15 : Cond.classLink RL 7 RX11 ∈ ch_tb := wi_1 (List.mem_of_getElem? (i := 15) rfl) rfl
theorem mw_1_16 : Cond.instantiable RX11 7 ∈ ch_tb := wi_1 (List.mem_of_getElem? (i := 16) rfl) rfl
theorem mw_1_17 : Cond.methodLink RL 9 yX11_init ∈ ch_tb := wi_1 (List.mem_of_getElem? (i := 17) rfl) rfl
theorem mw_1_18 : Cond.instanceMethod yX11_init ∈ ch_tb := wi_1 (List.mem_of_getElem? (i := 18) rfl) rfl
theorem mw_1_19 : Cond.code yX11_init cX11_init 1 none ∈ ch_tb := wi_1 (List.mem_of_getElem? (i := 19) rfl) rfl
theorem mw_1_20 : Cond.methodLink RX11 3 objectInit ∈ ch_tb := wi_1 (List.mem_of_getElem? (i := 20) rfl) rfl
theorem mw_1_21 : Cond.instanceMethod objectInit ∈ ch_tb := wi_1 (List.mem_of_getElem? (i := 21) rfl) rfl
theorem mw_1_22 : Cond.code objectInit object_method_1_code 1 none ∈ ch_tb := wi_1 (List.mem_of_getElem? (i := 22) rfl) rfl
theorem mw_1_23 : Cond.classLink RX11 17 RX8 ∈ ch_tb := wi_1 (List.mem_of_getElem? (i := 23) rfl) rfl
theorem mw_1_25 : Cond.classLink RX11 26 RX10 ∈ ch_tb := wi_1 (List.mem_of_getElem? (i := 25) rfl) rfl
theorem mw_1_26 : Cond.instantiable RX10 7 ∈ ch_tb := wi_1 (List.mem_of_getElem? (i := 26) rfl) rfl
theorem mw_1_27 : Cond.methodLink RX11 28 yX10_init ∈ ch_tb := wi_1 (List.mem_of_getElem? (i := 27) rfl) rfl
theorem mw_1_28 : Cond.instanceMethod yX10_init ∈ ch_tb := wi_1 (List.mem_of_getElem? (i := 28) rfl) rfl
theorem mw_1_29 : Cond.code yX10_init cX10_init 1 none ∈ ch_tb := wi_1 (List.mem_of_getElem? (i := 29) rfl) rfl
theorem mw_1_30 : Cond.methodLink RX10 3 objectInit ∈ ch_tb := wi_1 (List.mem_of_getElem? (i := 30) rfl) rfl
theorem mw_1_31 : Cond.classLink RX10 11 RX8 ∈ ch_tb := wi_1 (List.mem_of_getElem? (i := 31) rfl) rfl
theorem mw_1_32 : Cond.classLink RX10 34 RX3 ∈ ch_tb := wi_1 (List.mem_of_getElem? (i := 32) rfl) rfl
theorem mw_1_33 : Cond.instantiable RX3 5 ∈ ch_tb := wi_1 (List.mem_of_getElem? (i := 33) rfl) rfl
theorem mw_1_34 : Cond.methodLink RX10 36 yX3_init ∈ ch_tb := wi_1 (List.mem_of_getElem? (i := 34) rfl) rfl
theorem mw_1_35 : Cond.instanceMethod yX3_init ∈ ch_tb := wi_1 (List.mem_of_getElem? (i := 35) rfl) rfl
theorem mw_1_36 : Cond.code yX3_init cX3_init 1 none ∈ ch_tb := wi_1 (List.mem_of_getElem? (i := 36) rfl) rfl
theorem mw_1_37 : Cond.methodLink RX3 3 objectInit ∈ ch_tb := wi_1 (List.mem_of_getElem? (i := 37) rfl) rfl
theorem mw_1_38 : Cond.fieldLink RX3 9 "SpanSolids$FoundSets" "edges" "[I" ∈ ch_tb := wi_1 (List.mem_of_getElem? (i := 38) rfl) rfl
theorem mw_1_39 : Cond.fieldLink RX3 15 "SpanSolids$FoundSets" "starts" "[I" ∈ ch_tb := wi_1 (List.mem_of_getElem? (i := 39) rfl) rfl
theorem mw_1_40 : Cond.fieldLink RX3 18 "SpanSolids$FoundSets" "mixed" "[I" ∈ ch_tb := wi_1 (List.mem_of_getElem? (i := 40) rfl) rfl
theorem mw_1_41 : Cond.fieldLink RX3 21 "SpanSolids$FoundSets" "edgeCount" "I" ∈ ch_tb := wi_1 (List.mem_of_getElem? (i := 41) rfl) rfl
theorem mw_1_42 : Cond.fieldLink RX3 25 "SpanSolids$FoundSets" "setCount" "I" ∈ ch_tb := wi_1 (List.mem_of_getElem? (i := 42) rfl) rfl
theorem mw_1_43 : Cond.laysFinal RX3 "SpanSolids$FoundSets" "edges" "[I" ∈ ch_tb := wi_1 (List.mem_of_getElem? (i := 43) rfl) rfl
theorem mw_1_45 : Cond.laysFinal RX3 "SpanSolids$FoundSets" "starts" "[I" ∈ ch_tb := wi_1 (List.mem_of_getElem? (i := 45) rfl) rfl
theorem mw_1_47 : Cond.laysFinal RX3 "SpanSolids$FoundSets" "mixed" "[I" ∈ ch_tb := wi_1 (List.mem_of_getElem? (i := 47) rfl) rfl
theorem mw_1_49 : Cond.lays RX3 "SpanSolids$FoundSets" "edgeCount" "I" ∈ ch_tb := wi_1 (List.mem_of_getElem? (i := 49) rfl) rfl
theorem mw_1_51 : Cond.lays RX3 "SpanSolids$FoundSets" "setCount" "I" ∈ ch_tb := wi_1 (List.mem_of_getElem? (i := 51) rfl) rfl
theorem mw_1_53 : Cond.superclass RX3 "java/lang/Object" ∈ ch_tb := wi_1 (List.mem_of_getElem? (i := 53) rfl) rfl
theorem mw_1_54 : Cond.arrayClass FieldType.int ∈ ch_tb := wi_1 (List.mem_of_getElem? (i := 54) rfl) rfl
theorem mw_1_55 : Cond.fieldLink RX10 13 "SpanSolids$Walk" "waiting" "[LSpanSolids$Solid;" ∈ ch_tb := wi_1 (List.mem_of_getElem? (i := 55) rfl) rfl
theorem mw_1_56 : Cond.fieldLink RX10 17 "SpanSolids$Walk" "xs" "[I" ∈ ch_tb := wi_1 (List.mem_of_getElem? (i := 56) rfl) rfl
theorem mw_1_57 : Cond.fieldLink RX10 21 "SpanSolids$Walk" "ys" "[I" ∈ ch_tb := wi_1 (List.mem_of_getElem? (i := 57) rfl) rfl
theorem mw_1_58 : Cond.fieldLink RX10 24 "SpanSolids$Walk" "lifts" "[I" ∈ ch_tb := wi_1 (List.mem_of_getElem? (i := 58) rfl) rfl
theorem mw_1_59 : Cond.fieldLink RX10 27 "SpanSolids$Walk" "hows" "[I" ∈ ch_tb := wi_1 (List.mem_of_getElem? (i := 59) rfl) rfl
theorem mw_1_60 : Cond.fieldLink RX10 30 "SpanSolids$Walk" "waitingCount" "I" ∈ ch_tb := wi_1 (List.mem_of_getElem? (i := 60) rfl) rfl
theorem mw_1_61 : Cond.fieldLink RX10 37 "SpanSolids$Walk" "found" "LSpanSolids$FoundSets;" ∈ ch_tb := wi_1 (List.mem_of_getElem? (i := 61) rfl) rfl
theorem mw_1_62 : Cond.laysFinal RX10 "SpanSolids$Walk" "waiting" "[LSpanSolids$Solid;" ∈ ch_tb := wi_1 (List.mem_of_getElem? (i := 62) rfl) rfl
theorem mw_1_64 : Cond.laysFinal RX10 "SpanSolids$Walk" "xs" "[I" ∈ ch_tb := wi_1 (List.mem_of_getElem? (i := 64) rfl) rfl
theorem mw_1_66 : Cond.laysFinal RX10 "SpanSolids$Walk" "ys" "[I" ∈ ch_tb := wi_1 (List.mem_of_getElem? (i := 66) rfl) rfl
theorem mw_1_68 : Cond.laysFinal RX10 "SpanSolids$Walk" "lifts" "[I" ∈ ch_tb := wi_1 (List.mem_of_getElem? (i := 68) rfl) rfl
theorem mw_1_70 : Cond.laysFinal RX10 "SpanSolids$Walk" "hows" "[I" ∈ ch_tb := wi_1 (List.mem_of_getElem? (i := 70) rfl) rfl
theorem mw_1_72 : Cond.lays RX10 "SpanSolids$Walk" "waitingCount" "I" ∈ ch_tb := wi_1 (List.mem_of_getElem? (i := 72) rfl) rfl
theorem mw_1_74 : Cond.laysFinal RX10 "SpanSolids$Walk" "found" "LSpanSolids$FoundSets;" ∈ ch_tb := wi_1 (List.mem_of_getElem? (i := 74) rfl) rfl
theorem mw_1_76 : Cond.superclass RX10 "java/lang/Object" ∈ ch_tb := wi_1 (List.mem_of_getElem? (i := 76) rfl) rfl
theorem mw_1_77 : Cond.classLink RX11 33 RX7 ∈ ch_tb := wi_1 (List.mem_of_getElem? (i := 77) rfl) rfl
theorem mw_1_78 : Cond.instantiable RX7 2 ∈ ch_tb := wi_1 (List.mem_of_getElem? (i := 78) rfl) rfl
theorem mw_1_79 : Cond.methodLink RX11 35 yX7_init ∈ ch_tb := wi_1 (List.mem_of_getElem? (i := 79) rfl) rfl
theorem mw_1_80 : Cond.instanceMethod yX7_init ∈ ch_tb := wi_1 (List.mem_of_getElem? (i := 80) rfl) rfl
theorem mw_1_81 : Cond.code yX7_init cX7_init 1 none ∈ ch_tb := wi_1 (List.mem_of_getElem? (i := 81) rfl) rfl
theorem mw_1_82 : Cond.methodLink RX7 3 objectInit ∈ ch_tb := wi_1 (List.mem_of_getElem? (i := 82) rfl) rfl
theorem mw_1_83 : Cond.fieldLink RX7 9 "SpanSolids$Runs" "edges" "[I" ∈ ch_tb := wi_1 (List.mem_of_getElem? (i := 83) rfl) rfl
theorem mw_1_84 : Cond.fieldLink RX7 15 "SpanSolids$Runs" "edgeCount" "I" ∈ ch_tb := wi_1 (List.mem_of_getElem? (i := 84) rfl) rfl
theorem mw_1_85 : Cond.laysFinal RX7 "SpanSolids$Runs" "edges" "[I" ∈ ch_tb := wi_1 (List.mem_of_getElem? (i := 85) rfl) rfl
theorem mw_1_87 : Cond.lays RX7 "SpanSolids$Runs" "edgeCount" "I" ∈ ch_tb := wi_1 (List.mem_of_getElem? (i := 87) rfl) rfl
theorem mw_1_89 : Cond.superclass RX7 "java/lang/Object" ∈ ch_tb := wi_1 (List.mem_of_getElem? (i := 89) rfl) rfl
theorem mw_1_90 : Cond.fieldLink RX11 9 "SpanSolids" "sizes" "[I" ∈ ch_tb := wi_1 (List.mem_of_getElem? (i := 90) rfl) rfl
theorem mw_1_91 : Cond.fieldLink RX11 13 "SpanSolids" "sizeCount" "I" ∈ ch_tb := wi_1 (List.mem_of_getElem? (i := 91) rfl) rfl
theorem mw_1_92 : Cond.fieldLink RX11 19 "SpanSolids" "solids" "[LSpanSolids$Solid;" ∈ ch_tb := wi_1 (List.mem_of_getElem? (i := 92) rfl) rfl
theorem mw_1_93 : Cond.fieldLink RX11 23 "SpanSolids" "solidCount" "I" ∈ ch_tb := wi_1 (List.mem_of_getElem? (i := 93) rfl) rfl
theorem mw_1_94 : Cond.fieldLink RX11 29 "SpanSolids" "walk" "LSpanSolids$Walk;" ∈ ch_tb := wi_1 (List.mem_of_getElem? (i := 94) rfl) rfl
theorem mw_1_95 : Cond.fieldLink RX11 36 "SpanSolids" "seen" "LSpanSolids$Runs;" ∈ ch_tb := wi_1 (List.mem_of_getElem? (i := 95) rfl) rfl
theorem mw_1_96 : Cond.fieldLink RX11 40 "SpanSolids" "told" "LSpanSolids$Runs;" ∈ ch_tb := wi_1 (List.mem_of_getElem? (i := 96) rfl) rfl
theorem mw_1_97 : Cond.laysFinal RX11 "SpanSolids" "sizes" "[I" ∈ ch_tb := wi_1 (List.mem_of_getElem? (i := 97) rfl) rfl
theorem mw_1_99 : Cond.lays RX11 "SpanSolids" "sizeCount" "I" ∈ ch_tb := wi_1 (List.mem_of_getElem? (i := 99) rfl) rfl
theorem mw_1_101 : Cond.laysFinal RX11 "SpanSolids" "solids" "[LSpanSolids$Solid;" ∈ ch_tb := wi_1 (List.mem_of_getElem? (i := 101) rfl) rfl
theorem mw_1_103 : Cond.lays RX11 "SpanSolids" "solidCount" "I" ∈ ch_tb := wi_1 (List.mem_of_getElem? (i := 103) rfl) rfl
theorem mw_1_105 : Cond.laysFinal RX11 "SpanSolids" "walk" "LSpanSolids$Walk;" ∈ ch_tb := wi_1 (List.mem_of_getElem? (i := 105) rfl) rfl
theorem mw_1_107 : Cond.laysFinal RX11 "SpanSolids" "seen" "LSpanSolids$Runs;" ∈ ch_tb := wi_1 (List.mem_of_getElem? (i := 107) rfl) rfl
theorem mw_1_109 : Cond.laysFinal RX11 "SpanSolids" "told" "LSpanSolids$Runs;" ∈ ch_tb := wi_1 (List.mem_of_getElem? (i := 109) rfl) rfl
theorem mw_1_111 : Cond.superclass RX11 "java/lang/Object" ∈ ch_tb := wi_1 (List.mem_of_getElem? (i := 111) rfl) rfl
theorem mw_1_112 : Cond.methodLink RL 13 yX11_size ∈ ch_tb := wi_1 (List.mem_of_getElem? (i := 112) rfl) rfl
theorem mw_1_113 : Cond.instanceMethod yX11_size ∈ ch_tb := wi_1 (List.mem_of_getElem? (i := 113) rfl) rfl
theorem mw_1_114 : Cond.selects RX11 yX11_size yX11_size ∈ ch_tb := wi_1 (List.mem_of_getElem? (i := 114) rfl) rfl
theorem mw_1_115 : Cond.code yX11_size cX11_size 2 (Option.some FieldType.int) ∈ ch_tb := wi_1 (List.mem_of_getElem? (i := 115) rfl) rfl
theorem mw_1_116 : Cond.methodLink RL 18 yX11_solid ∈ ch_tb := wi_1 (List.mem_of_getElem? (i := 116) rfl) rfl
theorem mw_1_117 : Cond.instanceMethod yX11_solid ∈ ch_tb := wi_1 (List.mem_of_getElem? (i := 117) rfl) rfl
theorem mw_1_118 : Cond.selects RX11 yX11_solid yX11_solid ∈ ch_tb := wi_1 (List.mem_of_getElem? (i := 118) rfl) rfl
theorem mw_1_119 : Cond.code yX11_solid cX11_solid 3 (Option.some FieldType.int) ∈ ch_tb := wi_1 (List.mem_of_getElem? (i := 119) rfl) rfl
theorem mw_1_120 : Cond.methodLink RX11 43 yX11_useUpSizes ∈ ch_tb := wi_1 (List.mem_of_getElem? (i := 120) rfl) rfl
theorem mw_1_122 : Cond.instanceMethod yX11_useUpSizes ∈ ch_tb := wi_1 (List.mem_of_getElem? (i := 122) rfl) rfl
theorem mw_1_123 : Cond.code yX11_useUpSizes cX11_useUpSizes 2 (Option.some FieldType.int) ∈ ch_tb := wi_1 (List.mem_of_getElem? (i := 123) rfl) rfl
theorem mw_1_124 : Cond.methodLink RX11 47 yX11_sizesNeeded ∈ ch_tb := wi_1 (List.mem_of_getElem? (i := 124) rfl) rfl
theorem mw_1_125 : Cond.static yX11_sizesNeeded ∈ ch_tb := wi_1 (List.mem_of_getElem? (i := 125) rfl) rfl
theorem mw_1_126 : Cond.code yX11_sizesNeeded cX11_sizesNeeded 1 (Option.some FieldType.int) ∈ ch_tb := wi_1 (List.mem_of_getElem? (i := 126) rfl) rfl
theorem mw_1_127 : Cond.methodLink RX11 51 yX11_radiusOf ∈ ch_tb := wi_1 (List.mem_of_getElem? (i := 127) rfl) rfl
theorem mw_1_129 : Cond.instanceMethod yX11_radiusOf ∈ ch_tb := wi_1 (List.mem_of_getElem? (i := 129) rfl) rfl
theorem mw_1_130 : Cond.code yX11_radiusOf cX11_radiusOf 2 (Option.some FieldType.int) ∈ ch_tb := wi_1 (List.mem_of_getElem? (i := 130) rfl) rfl
theorem mw_1_131 : Cond.methodLink RX11 54 yX11_isFull ∈ ch_tb := wi_1 (List.mem_of_getElem? (i := 131) rfl) rfl
theorem mw_1_133 : Cond.instanceMethod yX11_isFull ∈ ch_tb := wi_1 (List.mem_of_getElem? (i := 133) rfl) rfl
theorem mw_1_134 : Cond.code yX11_isFull cX11_isFull 1 (Option.some FieldType.boolean) ∈ ch_tb := wi_1 (List.mem_of_getElem? (i := 134) rfl) rfl
theorem mw_1_135 : Cond.methodLink RX11 58 yX11_newShape ∈ ch_tb := wi_1 (List.mem_of_getElem? (i := 135) rfl) rfl
theorem mw_1_137 : Cond.instanceMethod yX11_newShape ∈ ch_tb := wi_1 (List.mem_of_getElem? (i := 137) rfl) rfl
theorem mw_1_138 : Cond.code yX11_newShape cX11_newShape 2 (Option.some (FieldType.object "SpanSolids$Solid")) ∈ ch_tb := wi_1 (List.mem_of_getElem? (i := 138) rfl) rfl
theorem mw_1_139 : Cond.classLink RX11 111 RX1 ∈ ch_tb := wi_1 (List.mem_of_getElem? (i := 139) rfl) rfl
theorem mw_1_140 : Cond.instantiable RX1 7 ∈ ch_tb := wi_1 (List.mem_of_getElem? (i := 140) rfl) rfl
theorem mw_1_141 : Cond.methodLink RX11 113 yX1_init ∈ ch_tb := wi_1 (List.mem_of_getElem? (i := 141) rfl) rfl
theorem mw_1_142 : Cond.instanceMethod yX1_init ∈ ch_tb := wi_1 (List.mem_of_getElem? (i := 142) rfl) rfl
theorem mw_1_143 : Cond.code yX1_init cX1_init 7 none ∈ ch_tb := wi_1 (List.mem_of_getElem? (i := 143) rfl) rfl
theorem mw_1_144 : Cond.methodLink RX1 1 yX8_init ∈ ch_tb := wi_1 (List.mem_of_getElem? (i := 144) rfl) rfl
theorem mw_1_145 : Cond.instanceMethod yX8_init ∈ ch_tb := wi_1 (List.mem_of_getElem? (i := 145) rfl) rfl
theorem mw_1_146 : Cond.code yX8_init cX8_init 2 none ∈ ch_tb := wi_1 (List.mem_of_getElem? (i := 146) rfl) rfl
theorem mw_1_147 : Cond.methodLink RX8 1 objectInit ∈ ch_tb := wi_1 (List.mem_of_getElem? (i := 147) rfl) rfl
theorem mw_1_148 : Cond.fieldLink RX1 7 "SpanSolids$Box" "x" "I" ∈ ch_tb := wi_1 (List.mem_of_getElem? (i := 148) rfl) rfl
theorem mw_1_149 : Cond.fieldLink RX1 13 "SpanSolids$Box" "y" "I" ∈ ch_tb := wi_1 (List.mem_of_getElem? (i := 149) rfl) rfl
theorem mw_1_150 : Cond.fieldLink RX1 16 "SpanSolids$Box" "z" "I" ∈ ch_tb := wi_1 (List.mem_of_getElem? (i := 150) rfl) rfl
theorem mw_1_151 : Cond.fieldLink RX1 19 "SpanSolids$Box" "endX" "I" ∈ ch_tb := wi_1 (List.mem_of_getElem? (i := 151) rfl) rfl
theorem mw_1_152 : Cond.fieldLink RX1 22 "SpanSolids$Box" "endY" "I" ∈ ch_tb := wi_1 (List.mem_of_getElem? (i := 152) rfl) rfl
theorem mw_1_153 : Cond.fieldLink RX1 25 "SpanSolids$Box" "endZ" "I" ∈ ch_tb := wi_1 (List.mem_of_getElem? (i := 153) rfl) rfl
theorem mw_1_154 : Cond.fieldLink RX4 1 "SpanSolids$Solid" "weight" "I" ∈ ch_tb := wi_1 (List.mem_of_getElem? (i := 154) rfl) rfl
theorem mw_1_155 : Cond.fieldLink RX5 1 "SpanSolids$Solid" "weight" "I" ∈ ch_tb := wi_1 (List.mem_of_getElem? (i := 155) rfl) rfl
theorem mw_1_156 : Cond.fieldLink RX9 1 "SpanSolids$Solid" "weight" "I" ∈ ch_tb := wi_1 (List.mem_of_getElem? (i := 156) rfl) rfl
theorem mw_1_157 : Cond.fieldLink RX8 7 "SpanSolids$Solid" "weight" "I" ∈ ch_tb := wi_1 (List.mem_of_getElem? (i := 157) rfl) rfl
theorem mw_1_158 : Cond.fieldLink RX11 69 "SpanSolids$Solid" "weight" "I" ∈ ch_tb := wi_1 (List.mem_of_getElem? (i := 158) rfl) rfl
theorem mw_1_159 : Cond.laysFinal RX1 "SpanSolids$Box" "x" "I" ∈ ch_tb := wi_1 (List.mem_of_getElem? (i := 159) rfl) rfl
theorem mw_1_161 : Cond.laysFinal RX1 "SpanSolids$Box" "y" "I" ∈ ch_tb := wi_1 (List.mem_of_getElem? (i := 161) rfl) rfl
theorem mw_1_163 : Cond.laysFinal RX1 "SpanSolids$Box" "z" "I" ∈ ch_tb := wi_1 (List.mem_of_getElem? (i := 163) rfl) rfl
theorem mw_1_165 : Cond.laysFinal RX1 "SpanSolids$Box" "endX" "I" ∈ ch_tb := wi_1 (List.mem_of_getElem? (i := 165) rfl) rfl
theorem mw_1_167 : Cond.laysFinal RX1 "SpanSolids$Box" "endY" "I" ∈ ch_tb := wi_1 (List.mem_of_getElem? (i := 167) rfl) rfl
theorem mw_1_169 : Cond.laysFinal RX1 "SpanSolids$Box" "endZ" "I" ∈ ch_tb := wi_1 (List.mem_of_getElem? (i := 169) rfl) rfl
theorem mw_1_171 : Cond.laysFinal RX1 "SpanSolids$Solid" "weight" "I" ∈ ch_tb := wi_1 (List.mem_of_getElem? (i := 171) rfl) rfl
theorem mw_1_173 : Cond.superclass RX1 "SpanSolids$Solid" ∈ ch_tb := wi_1 (List.mem_of_getElem? (i := 173) rfl) rfl
theorem mw_1_174 : Cond.classLink RX11 116 RX6 ∈ ch_tb := wi_1 (List.mem_of_getElem? (i := 174) rfl) rfl
theorem mw_1_175 : Cond.instantiable RX6 6 ∈ ch_tb := wi_1 (List.mem_of_getElem? (i := 175) rfl) rfl
theorem mw_1_176 : Cond.methodLink RX11 118 yX6_init ∈ ch_tb := wi_1 (List.mem_of_getElem? (i := 176) rfl) rfl
theorem mw_1_177 : Cond.instanceMethod yX6_init ∈ ch_tb := wi_1 (List.mem_of_getElem? (i := 177) rfl) rfl
theorem mw_1_178 : Cond.code yX6_init cX6_init 6 none ∈ ch_tb := wi_1 (List.mem_of_getElem? (i := 178) rfl) rfl
theorem mw_1_179 : Cond.methodLink RX6 1 yX8_init ∈ ch_tb := wi_1 (List.mem_of_getElem? (i := 179) rfl) rfl
theorem mw_1_180 : Cond.fieldLink RX6 7 "SpanSolids$Post" "x" "I" ∈ ch_tb := wi_1 (List.mem_of_getElem? (i := 180) rfl) rfl
theorem mw_1_181 : Cond.fieldLink RX6 13 "SpanSolids$Post" "y" "I" ∈ ch_tb := wi_1 (List.mem_of_getElem? (i := 181) rfl) rfl
theorem mw_1_182 : Cond.fieldLink RX6 16 "SpanSolids$Post" "\x72" "I" ∈ ch_tb := wi_1 (List.mem_of_getElem? (i := 182) rfl) rfl
theorem mw_1_183 : Cond.fieldLink RX6 19 "SpanSolids$Post" "z" "I" ∈ ch_tb := wi_1 (List.mem_of_getElem? (i := 183) rfl) rfl
theorem mw_1_184 : Cond.fieldLink RX6 22 "SpanSolids$Post" "endZ" "I" ∈ ch_tb := wi_1 (List.mem_of_getElem? (i := 184) rfl) rfl
theorem mw_1_185 : Cond.laysFinal RX6 "SpanSolids$Post" "x" "I" ∈ ch_tb := wi_1 (List.mem_of_getElem? (i := 185) rfl) rfl
theorem mw_1_187 : Cond.laysFinal RX6 "SpanSolids$Post" "y" "I" ∈ ch_tb := wi_1 (List.mem_of_getElem? (i := 187) rfl) rfl
theorem mw_1_189 : Cond.laysFinal RX6 "SpanSolids$Post" "\x72" "I" ∈ ch_tb := wi_1 (List.mem_of_getElem? (i := 189) rfl) rfl
theorem mw_1_191 : Cond.laysFinal RX6 "SpanSolids$Post" "z" "I" ∈ ch_tb := wi_1 (List.mem_of_getElem? (i := 191) rfl) rfl
theorem mw_1_193 : Cond.laysFinal RX6 "SpanSolids$Post" "endZ" "I" ∈ ch_tb := wi_1 (List.mem_of_getElem? (i := 193) rfl) rfl
theorem mw_1_195 : Cond.laysFinal RX6 "SpanSolids$Solid" "weight" "I" ∈ ch_tb := wi_1 (List.mem_of_getElem? (i := 195) rfl) rfl
theorem mw_1_196 : Cond.superclass RX6 "SpanSolids$Solid" ∈ ch_tb := wi_1 (List.mem_of_getElem? (i := 196) rfl) rfl
theorem mw_1_197 : Cond.classLink RX11 121 RX0 ∈ ch_tb := wi_1 (List.mem_of_getElem? (i := 197) rfl) rfl
theorem mw_1_198 : Cond.instantiable RX0 5 ∈ ch_tb := wi_1 (List.mem_of_getElem? (i := 198) rfl) rfl
theorem mw_1_199 : Cond.methodLink RX11 123 yX0_init ∈ ch_tb := wi_1 (List.mem_of_getElem? (i := 199) rfl) rfl
theorem mw_1_200 : Cond.instanceMethod yX0_init ∈ ch_tb := wi_1 (List.mem_of_getElem? (i := 200) rfl) rfl
theorem mw_1_201 : Cond.code yX0_init cX0_init 5 none ∈ ch_tb := wi_1 (List.mem_of_getElem? (i := 201) rfl) rfl
theorem mw_1_202 : Cond.methodLink RX0 1 yX8_init ∈ ch_tb := wi_1 (List.mem_of_getElem? (i := 202) rfl) rfl
theorem mw_1_203 : Cond.fieldLink RX0 7 "SpanSolids$Ball" "x" "I" ∈ ch_tb := wi_1 (List.mem_of_getElem? (i := 203) rfl) rfl
theorem mw_1_204 : Cond.fieldLink RX0 13 "SpanSolids$Ball" "y" "I" ∈ ch_tb := wi_1 (List.mem_of_getElem? (i := 204) rfl) rfl
theorem mw_1_205 : Cond.fieldLink RX0 16 "SpanSolids$Ball" "z" "I" ∈ ch_tb := wi_1 (List.mem_of_getElem? (i := 205) rfl) rfl
theorem mw_1_206 : Cond.fieldLink RX0 19 "SpanSolids$Ball" "\x72" "I" ∈ ch_tb := wi_1 (List.mem_of_getElem? (i := 206) rfl) rfl
theorem mw_1_207 : Cond.laysFinal RX0 "SpanSolids$Ball" "x" "I" ∈ ch_tb := wi_1 (List.mem_of_getElem? (i := 207) rfl) rfl
theorem mw_1_209 : Cond.laysFinal RX0 "SpanSolids$Ball" "y" "I" ∈ ch_tb := wi_1 (List.mem_of_getElem? (i := 209) rfl) rfl
theorem mw_1_211 : Cond.laysFinal RX0 "SpanSolids$Ball" "z" "I" ∈ ch_tb := wi_1 (List.mem_of_getElem? (i := 211) rfl) rfl
theorem mw_1_213 : Cond.laysFinal RX0 "SpanSolids$Ball" "\x72" "I" ∈ ch_tb := wi_1 (List.mem_of_getElem? (i := 213) rfl) rfl
theorem mw_1_215 : Cond.laysFinal RX0 "SpanSolids$Solid" "weight" "I" ∈ ch_tb := wi_1 (List.mem_of_getElem? (i := 215) rfl) rfl
theorem mw_1_216 : Cond.superclass RX0 "SpanSolids$Solid" ∈ ch_tb := wi_1 (List.mem_of_getElem? (i := 216) rfl) rfl
theorem mw_1_217 : Cond.classLink RX11 126 RX2 ∈ ch_tb := wi_1 (List.mem_of_getElem? (i := 217) rfl) rfl
theorem mw_1_218 : Cond.instantiable RX2 6 ∈ ch_tb := wi_1 (List.mem_of_getElem? (i := 218) rfl) rfl
theorem mw_1_219 : Cond.methodLink RX11 128 yX2_init ∈ ch_tb := wi_1 (List.mem_of_getElem? (i := 219) rfl) rfl
theorem mw_1_220 : Cond.instanceMethod yX2_init ∈ ch_tb := wi_1 (List.mem_of_getElem? (i := 220) rfl) rfl
theorem mw_1_221 : Cond.code yX2_init cX2_init 6 none ∈ ch_tb := wi_1 (List.mem_of_getElem? (i := 221) rfl) rfl
theorem mw_1_222 : Cond.methodLink RX2 1 yX8_init ∈ ch_tb := wi_1 (List.mem_of_getElem? (i := 222) rfl) rfl
theorem mw_1_223 : Cond.fieldLink RX2 7 "SpanSolids$Cone" "x" "I" ∈ ch_tb := wi_1 (List.mem_of_getElem? (i := 223) rfl) rfl
theorem mw_1_224 : Cond.fieldLink RX2 13 "SpanSolids$Cone" "y" "I" ∈ ch_tb := wi_1 (List.mem_of_getElem? (i := 224) rfl) rfl
theorem mw_1_225 : Cond.fieldLink RX2 16 "SpanSolids$Cone" "\x72" "I" ∈ ch_tb := wi_1 (List.mem_of_getElem? (i := 225) rfl) rfl
theorem mw_1_226 : Cond.fieldLink RX2 19 "SpanSolids$Cone" "z" "I" ∈ ch_tb := wi_1 (List.mem_of_getElem? (i := 226) rfl) rfl
theorem mw_1_227 : Cond.fieldLink RX2 22 "SpanSolids$Cone" "endZ" "I" ∈ ch_tb := wi_1 (List.mem_of_getElem? (i := 227) rfl) rfl
theorem mw_1_228 : Cond.laysFinal RX2 "SpanSolids$Cone" "x" "I" ∈ ch_tb := wi_1 (List.mem_of_getElem? (i := 228) rfl) rfl
theorem mw_1_230 : Cond.laysFinal RX2 "SpanSolids$Cone" "y" "I" ∈ ch_tb := wi_1 (List.mem_of_getElem? (i := 230) rfl) rfl
theorem mw_1_232 : Cond.laysFinal RX2 "SpanSolids$Cone" "\x72" "I" ∈ ch_tb := wi_1 (List.mem_of_getElem? (i := 232) rfl) rfl
theorem mw_1_234 : Cond.laysFinal RX2 "SpanSolids$Cone" "z" "I" ∈ ch_tb := wi_1 (List.mem_of_getElem? (i := 234) rfl) rfl
theorem mw_1_236 : Cond.laysFinal RX2 "SpanSolids$Cone" "endZ" "I" ∈ ch_tb := wi_1 (List.mem_of_getElem? (i := 236) rfl) rfl
theorem mw_1_238 : Cond.laysFinal RX2 "SpanSolids$Solid" "weight" "I" ∈ ch_tb := wi_1 (List.mem_of_getElem? (i := 238) rfl) rfl
theorem mw_1_239 : Cond.superclass RX2 "SpanSolids$Solid" ∈ ch_tb := wi_1 (List.mem_of_getElem? (i := 239) rfl) rfl
theorem mw_2_0 : Cond.methodLink RX11 62 yX11_keep ∈ ch_tb := wi_2 (List.mem_of_getElem? (i := 0) rfl) rfl
theorem mw_2_2 : Cond.instanceMethod yX11_keep ∈ ch_tb := wi_2 (List.mem_of_getElem? (i := 2) rfl) rfl
theorem mw_2_3 : Cond.code yX11_keep cX11_keep 2 (Option.some FieldType.int) ∈ ch_tb := wi_2 (List.mem_of_getElem? (i := 3) rfl) rfl
theorem mw_2_4 : Cond.methodLink RL 22 yX11_join ∈ ch_tb := wi_2 (List.mem_of_getElem? (i := 4) rfl) rfl
theorem mw_2_5 : Cond.instanceMethod yX11_join ∈ ch_tb := wi_2 (List.mem_of_getElem? (i := 5) rfl) rfl
theorem mw_2_6 : Cond.selects RX11 yX11_join yX11_join ∈ ch_tb := wi_2 (List.mem_of_getElem? (i := 6) rfl) rfl
theorem mw_2_7 : Cond.code yX11_join cX11_join 6 (Option.some FieldType.int) ∈ ch_tb := wi_2 (List.mem_of_getElem? (i := 7) rfl) rfl
theorem mw_2_8 : Cond.methodLink RX11 66 yX11_find ∈ ch_tb := wi_2 (List.mem_of_getElem? (i := 8) rfl) rfl
theorem mw_2_10 : Cond.instanceMethod yX11_find ∈ ch_tb := wi_2 (List.mem_of_getElem? (i := 10) rfl) rfl
theorem mw_2_11 : Cond.code yX11_find cX11_find 2 (Option.some (FieldType.object "SpanSolids$Solid")) ∈ ch_tb := wi_2 (List.mem_of_getElem? (i := 11) rfl) rfl
theorem mw_2_12 : Cond.classLink RX11 72 RX4 ∈ ch_tb := wi_2 (List.mem_of_getElem? (i := 12) rfl) rfl
theorem mw_2_13 : Cond.instantiable RX4 4 ∈ ch_tb := wi_2 (List.mem_of_getElem? (i := 13) rfl) rfl
theorem mw_2_14 : Cond.methodLink RX11 74 yX4_init ∈ ch_tb := wi_2 (List.mem_of_getElem? (i := 14) rfl) rfl
theorem mw_2_15 : Cond.instanceMethod yX4_init ∈ ch_tb := wi_2 (List.mem_of_getElem? (i := 15) rfl) rfl
theorem mw_2_16 : Cond.code yX4_init cX4_init 4 none ∈ ch_tb := wi_2 (List.mem_of_getElem? (i := 16) rfl) rfl
theorem mw_2_17 : Cond.methodLink RX4 7 yX8_init ∈ ch_tb := wi_2 (List.mem_of_getElem? (i := 17) rfl) rfl
theorem mw_2_18 : Cond.fieldLink RX4 11 "SpanSolids$Joined" "first" "LSpanSolids$Solid;" ∈ ch_tb := wi_2 (List.mem_of_getElem? (i := 18) rfl) rfl
theorem mw_2_19 : Cond.fieldLink RX4 17 "SpanSolids$Joined" "second" "LSpanSolids$Solid;" ∈ ch_tb := wi_2 (List.mem_of_getElem? (i := 19) rfl) rfl
theorem mw_2_20 : Cond.fieldLink RX4 20 "SpanSolids$Joined" "how" "I" ∈ ch_tb := wi_2 (List.mem_of_getElem? (i := 20) rfl) rfl
theorem mw_2_21 : Cond.laysFinal RX4 "SpanSolids$Joined" "first" "LSpanSolids$Solid;" ∈ ch_tb := wi_2 (List.mem_of_getElem? (i := 21) rfl) rfl
theorem mw_2_23 : Cond.laysFinal RX4 "SpanSolids$Joined" "second" "LSpanSolids$Solid;" ∈ ch_tb := wi_2 (List.mem_of_getElem? (i := 23) rfl) rfl
theorem mw_2_25 : Cond.laysFinal RX4 "SpanSolids$Joined" "how" "I" ∈ ch_tb := wi_2 (List.mem_of_getElem? (i := 25) rfl) rfl
theorem mw_2_27 : Cond.laysFinal RX4 "SpanSolids$Solid" "weight" "I" ∈ ch_tb := wi_2 (List.mem_of_getElem? (i := 27) rfl) rfl
theorem mw_2_28 : Cond.superclass RX4 "SpanSolids$Solid" ∈ ch_tb := wi_2 (List.mem_of_getElem? (i := 28) rfl) rfl
theorem mw_2_29 : Cond.methodLink RL 27 yX11_moved ∈ ch_tb := wi_2 (List.mem_of_getElem? (i := 29) rfl) rfl
theorem mw_2_30 : Cond.instanceMethod yX11_moved ∈ ch_tb := wi_2 (List.mem_of_getElem? (i := 30) rfl) rfl
theorem mw_2_31 : Cond.selects RX11 yX11_moved yX11_moved ∈ ch_tb := wi_2 (List.mem_of_getElem? (i := 31) rfl) rfl
theorem mw_2_32 : Cond.code yX11_moved cX11_moved 4 (Option.some FieldType.int) ∈ ch_tb := wi_2 (List.mem_of_getElem? (i := 32) rfl) rfl
theorem mw_2_33 : Cond.classLink RX11 77 RX5 ∈ ch_tb := wi_2 (List.mem_of_getElem? (i := 33) rfl) rfl
theorem mw_2_34 : Cond.instantiable RX5 5 ∈ ch_tb := wi_2 (List.mem_of_getElem? (i := 34) rfl) rfl
theorem mw_2_35 : Cond.methodLink RX11 79 yX5_init ∈ ch_tb := wi_2 (List.mem_of_getElem? (i := 35) rfl) rfl
theorem mw_2_36 : Cond.instanceMethod yX5_init ∈ ch_tb := wi_2 (List.mem_of_getElem? (i := 36) rfl) rfl
theorem mw_2_37 : Cond.code yX5_init cX5_init 5 none ∈ ch_tb := wi_2 (List.mem_of_getElem? (i := 37) rfl) rfl
theorem mw_2_38 : Cond.methodLink RX5 7 yX8_init ∈ ch_tb := wi_2 (List.mem_of_getElem? (i := 38) rfl) rfl
theorem mw_2_39 : Cond.fieldLink RX5 11 "SpanSolids$Moved" "part" "LSpanSolids$Solid;" ∈ ch_tb := wi_2 (List.mem_of_getElem? (i := 39) rfl) rfl
theorem mw_2_40 : Cond.fieldLink RX5 17 "SpanSolids$Moved" "byX" "I" ∈ ch_tb := wi_2 (List.mem_of_getElem? (i := 40) rfl) rfl
theorem mw_2_41 : Cond.fieldLink RX5 20 "SpanSolids$Moved" "byY" "I" ∈ ch_tb := wi_2 (List.mem_of_getElem? (i := 41) rfl) rfl
theorem mw_2_42 : Cond.fieldLink RX5 23 "SpanSolids$Moved" "byZ" "I" ∈ ch_tb := wi_2 (List.mem_of_getElem? (i := 42) rfl) rfl
theorem mw_2_43 : Cond.laysFinal RX5 "SpanSolids$Moved" "part" "LSpanSolids$Solid;" ∈ ch_tb := wi_2 (List.mem_of_getElem? (i := 43) rfl) rfl
theorem mw_2_45 : Cond.laysFinal RX5 "SpanSolids$Moved" "byX" "I" ∈ ch_tb := wi_2 (List.mem_of_getElem? (i := 45) rfl) rfl
theorem mw_2_47 : Cond.laysFinal RX5 "SpanSolids$Moved" "byY" "I" ∈ ch_tb := wi_2 (List.mem_of_getElem? (i := 47) rfl) rfl
theorem mw_2_49 : Cond.laysFinal RX5 "SpanSolids$Moved" "byZ" "I" ∈ ch_tb := wi_2 (List.mem_of_getElem? (i := 49) rfl) rfl
theorem mw_2_51 : Cond.laysFinal RX5 "SpanSolids$Solid" "weight" "I" ∈ ch_tb := wi_2 (List.mem_of_getElem? (i := 51) rfl) rfl
theorem mw_2_52 : Cond.superclass RX5 "SpanSolids$Solid" ∈ ch_tb := wi_2 (List.mem_of_getElem? (i := 52) rfl) rfl
theorem mw_2_53 : Cond.methodLink RL 31 yX11_turned ∈ ch_tb := wi_2 (List.mem_of_getElem? (i := 53) rfl) rfl
theorem mw_2_54 : Cond.instanceMethod yX11_turned ∈ ch_tb := wi_2 (List.mem_of_getElem? (i := 54) rfl) rfl
theorem mw_2_55 : Cond.selects RX11 yX11_turned yX11_turned ∈ ch_tb := wi_2 (List.mem_of_getElem? (i := 55) rfl) rfl
theorem mw_2_56 : Cond.code yX11_turned cX11_turned 3 (Option.some FieldType.int) ∈ ch_tb := wi_2 (List.mem_of_getElem? (i := 56) rfl) rfl
theorem mw_2_57 : Cond.classLink RX11 82 RX9 ∈ ch_tb := wi_2 (List.mem_of_getElem? (i := 57) rfl) rfl
theorem mw_2_58 : Cond.instantiable RX9 2 ∈ ch_tb := wi_2 (List.mem_of_getElem? (i := 58) rfl) rfl
theorem mw_2_59 : Cond.methodLink RX11 84 yX9_init ∈ ch_tb := wi_2 (List.mem_of_getElem? (i := 59) rfl) rfl
theorem mw_2_60 : Cond.instanceMethod yX9_init ∈ ch_tb := wi_2 (List.mem_of_getElem? (i := 60) rfl) rfl
theorem mw_2_61 : Cond.code yX9_init cX9_init 2 none ∈ ch_tb := wi_2 (List.mem_of_getElem? (i := 61) rfl) rfl
theorem mw_2_62 : Cond.methodLink RX9 7 yX8_init ∈ ch_tb := wi_2 (List.mem_of_getElem? (i := 62) rfl) rfl
theorem mw_2_63 : Cond.fieldLink RX9 11 "SpanSolids$Turned" "part" "LSpanSolids$Solid;" ∈ ch_tb := wi_2 (List.mem_of_getElem? (i := 63) rfl) rfl
theorem mw_2_64 : Cond.laysFinal RX9 "SpanSolids$Turned" "part" "LSpanSolids$Solid;" ∈ ch_tb := wi_2 (List.mem_of_getElem? (i := 64) rfl) rfl
theorem mw_2_66 : Cond.laysFinal RX9 "SpanSolids$Solid" "weight" "I" ∈ ch_tb := wi_2 (List.mem_of_getElem? (i := 66) rfl) rfl
theorem mw_2_67 : Cond.superclass RX9 "SpanSolids$Solid" ∈ ch_tb := wi_2 (List.mem_of_getElem? (i := 67) rfl) rfl
theorem mw_2_68 : Cond.methodLink RL 35 yX11_weight ∈ ch_tb := wi_2 (List.mem_of_getElem? (i := 68) rfl) rfl
theorem mw_2_69 : Cond.instanceMethod yX11_weight ∈ ch_tb := wi_2 (List.mem_of_getElem? (i := 69) rfl) rfl
theorem mw_2_70 : Cond.selects RX11 yX11_weight yX11_weight ∈ ch_tb := wi_2 (List.mem_of_getElem? (i := 70) rfl) rfl
theorem mw_2_71 : Cond.code yX11_weight cX11_weight 3 (Option.some FieldType.int) ∈ ch_tb := wi_2 (List.mem_of_getElem? (i := 71) rfl) rfl
theorem mw_2_72 : Cond.methodLink RL 39 yX11_inside ∈ ch_tb := wi_2 (List.mem_of_getElem? (i := 72) rfl) rfl
theorem mw_2_73 : Cond.instanceMethod yX11_inside ∈ ch_tb := wi_2 (List.mem_of_getElem? (i := 73) rfl) rfl
theorem mw_2_74 : Cond.selects RX11 yX11_inside yX11_inside ∈ ch_tb := wi_2 (List.mem_of_getElem? (i := 74) rfl) rfl
theorem mw_2_75 : Cond.code yX11_inside cX11_inside 6 (Option.some FieldType.boolean) ∈ ch_tb := wi_2 (List.mem_of_getElem? (i := 75) rfl) rfl
theorem mw_2_76 : Cond.methodLink RX11 87 yX11_isBeyond ∈ ch_tb := wi_2 (List.mem_of_getElem? (i := 76) rfl) rfl
theorem mw_2_77 : Cond.static yX11_isBeyond ∈ ch_tb := wi_2 (List.mem_of_getElem? (i := 77) rfl) rfl
theorem mw_2_78 : Cond.code yX11_isBeyond cX11_isBeyond 1 (Option.some FieldType.boolean) ∈ ch_tb := wi_2 (List.mem_of_getElem? (i := 78) rfl) rfl
theorem mw_2_79 : Cond.constant RX11 135 (-100000) ∈ ch_tb := wi_2 (List.mem_of_getElem? (i := 79) rfl) rfl
theorem mw_2_80 : Cond.constant RX11 136 (100000) ∈ ch_tb := wi_2 (List.mem_of_getElem? (i := 80) rfl) rfl
theorem mw_2_81 : Cond.methodLink RX11 91 yX11_lookOver ∈ ch_tb := wi_2 (List.mem_of_getElem? (i := 81) rfl) rfl
theorem mw_2_83 : Cond.instanceMethod yX11_lookOver ∈ ch_tb := wi_2 (List.mem_of_getElem? (i := 83) rfl) rfl
theorem mw_2_84 : Cond.code yX11_lookOver cX11_lookOver 5 none ∈ ch_tb := wi_2 (List.mem_of_getElem? (i := 84) rfl) rfl
theorem mw_2_85 : Cond.methodLink RX11 129 yX7_clear ∈ ch_tb := wi_2 (List.mem_of_getElem? (i := 85) rfl) rfl
theorem mw_2_86 : Cond.instanceMethod yX7_clear ∈ ch_tb := wi_2 (List.mem_of_getElem? (i := 86) rfl) rfl
theorem mw_2_87 : Cond.selects RX7 yX7_clear yX7_clear ∈ ch_tb := wi_2 (List.mem_of_getElem? (i := 87) rfl) rfl
theorem mw_2_88 : Cond.code yX7_clear cX7_clear 1 none ∈ ch_tb := wi_2 (List.mem_of_getElem? (i := 88) rfl) rfl
theorem mw_2_89 : Cond.methodLink RX11 132 yX10_over ∈ ch_tb := wi_2 (List.mem_of_getElem? (i := 89) rfl) rfl
theorem mw_2_90 : Cond.instanceMethod yX10_over ∈ ch_tb := wi_2 (List.mem_of_getElem? (i := 90) rfl) rfl
theorem mw_2_91 : Cond.selects RX10 yX10_over yX10_over ∈ ch_tb := wi_2 (List.mem_of_getElem? (i := 91) rfl) rfl
theorem mw_2_92 : Cond.code yX10_over cX10_over 6 none ∈ ch_tb := wi_2 (List.mem_of_getElem? (i := 92) rfl) rfl
theorem mw_2_93 : Cond.methodLink RX10 41 yX3_clear ∈ ch_tb := wi_2 (List.mem_of_getElem? (i := 93) rfl) rfl
theorem mw_2_94 : Cond.instanceMethod yX3_clear ∈ ch_tb := wi_2 (List.mem_of_getElem? (i := 94) rfl) rfl
theorem mw_2_95 : Cond.selects RX3 yX3_clear yX3_clear ∈ ch_tb := wi_2 (List.mem_of_getElem? (i := 95) rfl) rfl
theorem mw_2_96 : Cond.code yX3_clear cX3_clear 1 none ∈ ch_tb := wi_2 (List.mem_of_getElem? (i := 96) rfl) rfl
theorem mw_2_97 : Cond.methodLink RX10 44 yX10_await ∈ ch_tb := wi_2 (List.mem_of_getElem? (i := 97) rfl) rfl
theorem mw_2_98 : Cond.instanceMethod yX10_await ∈ ch_tb := wi_2 (List.mem_of_getElem? (i := 98) rfl) rfl
theorem mw_2_99 : Cond.selects RX10 yX10_await yX10_await ∈ ch_tb := wi_2 (List.mem_of_getElem? (i := 99) rfl) rfl
theorem mw_2_100 : Cond.code yX10_await cX10_await 5 none ∈ ch_tb := wi_2 (List.mem_of_getElem? (i := 100) rfl) rfl
theorem mw_2_101 : Cond.methodLink RX10 48 yX10_lookAt ∈ ch_tb := wi_2 (List.mem_of_getElem? (i := 101) rfl) rfl
theorem mw_2_103 : Cond.instanceMethod yX10_lookAt ∈ ch_tb := wi_2 (List.mem_of_getElem? (i := 103) rfl) rfl
theorem mw_2_104 : Cond.code yX10_lookAt cX10_lookAt 3 none ∈ ch_tb := wi_2 (List.mem_of_getElem? (i := 104) rfl) rfl
theorem mw_2_105 : Cond.methodLink RX10 56 yX3_joinNewest ∈ ch_tb := wi_2 (List.mem_of_getElem? (i := 105) rfl) rfl
theorem mw_2_106 : Cond.instanceMethod yX3_joinNewest ∈ ch_tb := wi_2 (List.mem_of_getElem? (i := 106) rfl) rfl
theorem mw_2_107 : Cond.selects RX3 yX3_joinNewest yX3_joinNewest ∈ ch_tb := wi_2 (List.mem_of_getElem? (i := 107) rfl) rfl
theorem mw_2_108 : Cond.code yX3_joinNewest cX3_joinNewest 5 none ∈ ch_tb := wi_2 (List.mem_of_getElem? (i := 108) rfl) rfl
theorem mw_2_109 : Cond.methodLink RX3 28 yX3_mix ∈ ch_tb := wi_2 (List.mem_of_getElem? (i := 109) rfl) rfl
theorem mw_2_111 : Cond.instanceMethod yX3_mix ∈ ch_tb := wi_2 (List.mem_of_getElem? (i := 111) rfl) rfl
theorem mw_2_112 : Cond.code yX3_mix cX3_mix 12 (Option.some FieldType.int) ∈ ch_tb := wi_2 (List.mem_of_getElem? (i := 112) rfl) rfl
theorem mw_2_113 : Cond.methodLink RX3 32 yX3_nextEdge ∈ ch_tb := wi_2 (List.mem_of_getElem? (i := 113) rfl) rfl
theorem mw_2_115 : Cond.instanceMethod yX3_nextEdge ∈ ch_tb := wi_2 (List.mem_of_getElem? (i := 115) rfl) rfl
theorem mw_2_116 : Cond.code yX3_nextEdge cX3_nextEdge 4 (Option.some FieldType.int) ∈ ch_tb := wi_2 (List.mem_of_getElem? (i := 116) rfl) rfl
theorem mw_2_117 : Cond.methodLink RX3 35 yX3_isJoined ∈ ch_tb := wi_2 (List.mem_of_getElem? (i := 117) rfl) rfl
theorem mw_2_118 : Cond.static yX3_isJoined ∈ ch_tb := wi_2 (List.mem_of_getElem? (i := 118) rfl) rfl
theorem mw_2_119 : Cond.code yX3_isJoined cX3_isJoined 3 (Option.some FieldType.boolean) ∈ ch_tb := wi_2 (List.mem_of_getElem? (i := 119) rfl) rfl
theorem mw_2_120 : Cond.methodLink RX10 59 ⟨"SpanSolids$Solid", "lookFrom", "(IIILSpanSolids$Walk;)V"⟩ ∈ ch_tb := wi_2 (List.mem_of_getElem? (i := 120) rfl) rfl
theorem mw_2_122 : Cond.sameMethod RX8 "SpanSolids$Solid" "lookFrom" "(IIILSpanSolids$Walk;)V" ∈ ch_tb := wi_2 (List.mem_of_getElem? (i := 122) rfl) rfl
theorem mw_2_123 : Cond.selects RX0 ⟨"SpanSolids$Solid", "lookFrom", "(IIILSpanSolids$Walk;)V"⟩ yX0_lookFrom ∈ ch_tb := wi_2 (List.mem_of_getElem? (i := 123) rfl) rfl
theorem mw_2_124 : Cond.instanceMethod yX0_lookFrom ∈ ch_tb := wi_2 (List.mem_of_getElem? (i := 124) rfl) rfl
theorem mw_2_125 : Cond.code yX0_lookFrom cX0_lookFrom 8 none ∈ ch_tb := wi_2 (List.mem_of_getElem? (i := 125) rfl) rfl
theorem mw_2_127 : Cond.static yX11_square ∈ ch_tb := wi_2 (List.mem_of_getElem? (i := 127) rfl) rfl
theorem mw_2_128 : Cond.code yX11_square cX11_square 2 (Option.some FieldType.long) ∈ ch_tb := wi_2 (List.mem_of_getElem? (i := 128) rfl) rfl
theorem mw_2_129 : Cond.methodLink RX0 28 yX10_giveNone ∈ ch_tb := wi_2 (List.mem_of_getElem? (i := 129) rfl) rfl
theorem mw_2_130 : Cond.instanceMethod yX10_giveNone ∈ ch_tb := wi_2 (List.mem_of_getElem? (i := 130) rfl) rfl
theorem mw_2_131 : Cond.selects RX10 yX10_giveNone yX10_giveNone ∈ ch_tb := wi_2 (List.mem_of_getElem? (i := 131) rfl) rfl
theorem mw_2_132 : Cond.code yX10_giveNone cX10_giveNone 1 none ∈ ch_tb := wi_2 (List.mem_of_getElem? (i := 132) rfl) rfl
theorem mw_2_133 : Cond.methodLink RX10 63 yX3_add ∈ ch_tb := wi_2 (List.mem_of_getElem? (i := 133) rfl) rfl
theorem mw_2_134 : Cond.instanceMethod yX3_add ∈ ch_tb := wi_2 (List.mem_of_getElem? (i := 134) rfl) rfl
theorem mw_2_135 : Cond.selects RX3 yX3_add yX3_add ∈ ch_tb := wi_2 (List.mem_of_getElem? (i := 135) rfl) rfl
theorem mw_2_136 : Cond.code yX3_add cX3_add 3 none ∈ ch_tb := wi_2 (List.mem_of_getElem? (i := 136) rfl) rfl
theorem mw_2_138 : Cond.static yX11_rootBelow ∈ ch_tb := wi_2 (List.mem_of_getElem? (i := 138) rfl) rfl
theorem mw_2_139 : Cond.code yX11_rootBelow cX11_rootBelow 7 (Option.some FieldType.int) ∈ ch_tb := wi_2 (List.mem_of_getElem? (i := 139) rfl) rfl
theorem mw_2_140 : Cond.methodLink RX11 137 yX11_square ∈ ch_tb := wi_2 (List.mem_of_getElem? (i := 140) rfl) rfl
theorem mw_2_141 : Cond.methodLink RX0 38 yX10_give ∈ ch_tb := wi_2 (List.mem_of_getElem? (i := 141) rfl) rfl
theorem mw_2_142 : Cond.instanceMethod yX10_give ∈ ch_tb := wi_2 (List.mem_of_getElem? (i := 142) rfl) rfl
theorem mw_2_143 : Cond.selects RX10 yX10_give yX10_give ∈ ch_tb := wi_2 (List.mem_of_getElem? (i := 143) rfl) rfl
theorem mw_2_144 : Cond.code yX10_give cX10_give 3 none ∈ ch_tb := wi_2 (List.mem_of_getElem? (i := 144) rfl) rfl
theorem mw_2_145 : Cond.selects RX1 ⟨"SpanSolids$Solid", "lookFrom", "(IIILSpanSolids$Walk;)V"⟩ yX1_lookFrom ∈ ch_tb := wi_2 (List.mem_of_getElem? (i := 145) rfl) rfl
theorem mw_2_146 : Cond.instanceMethod yX1_lookFrom ∈ ch_tb := wi_2 (List.mem_of_getElem? (i := 146) rfl) rfl
theorem mw_2_147 : Cond.code yX1_lookFrom cX1_lookFrom 5 none ∈ ch_tb := wi_2 (List.mem_of_getElem? (i := 147) rfl) rfl
theorem mw_2_148 : Cond.methodLink RX1 28 yX10_give ∈ ch_tb := wi_2 (List.mem_of_getElem? (i := 148) rfl) rfl
theorem mw_2_149 : Cond.methodLink RX1 34 yX10_giveNone ∈ ch_tb := wi_2 (List.mem_of_getElem? (i := 149) rfl) rfl
theorem mw_2_150 : Cond.selects RX2 ⟨"SpanSolids$Solid", "lookFrom", "(IIILSpanSolids$Walk;)V"⟩ yX2_lookFrom ∈ ch_tb := wi_2 (List.mem_of_getElem? (i := 150) rfl) rfl
theorem mw_2_151 : Cond.instanceMethod yX2_lookFrom ∈ ch_tb := wi_2 (List.mem_of_getElem? (i := 151) rfl) rfl
theorem mw_2_152 : Cond.code yX2_lookFrom cX2_lookFrom 7 none ∈ ch_tb := wi_2 (List.mem_of_getElem? (i := 152) rfl) rfl
theorem mw_2_154 : Cond.methodLink RX2 31 yX10_giveNone ∈ ch_tb := wi_2 (List.mem_of_getElem? (i := 154) rfl) rfl
theorem mw_2_155 : Cond.methodLink RX2 37 yX2_leastDepth ∈ ch_tb := wi_2 (List.mem_of_getElem? (i := 155) rfl) rfl
theorem mw_2_157 : Cond.instanceMethod yX2_leastDepth ∈ ch_tb := wi_2 (List.mem_of_getElem? (i := 157) rfl) rfl
theorem mw_2_158 : Cond.code yX2_leastDepth cX2_leastDepth 9 (Option.some FieldType.int) ∈ ch_tb := wi_2 (List.mem_of_getElem? (i := 158) rfl) rfl
theorem mw_2_159 : Cond.methodLink RX2 41 yX10_give ∈ ch_tb := wi_2 (List.mem_of_getElem? (i := 159) rfl) rfl
theorem mw_2_160 : Cond.selects RX4 ⟨"SpanSolids$Solid", "lookFrom", "(IIILSpanSolids$Walk;)V"⟩ yX4_lookFrom ∈ ch_tb := wi_2 (List.mem_of_getElem? (i := 160) rfl) rfl
theorem mw_2_161 : Cond.instanceMethod yX4_lookFrom ∈ ch_tb := wi_2 (List.mem_of_getElem? (i := 161) rfl) rfl
theorem mw_2_162 : Cond.code yX4_lookFrom cX4_lookFrom 5 none ∈ ch_tb := wi_2 (List.mem_of_getElem? (i := 162) rfl) rfl
theorem mw_2_163 : Cond.methodLink RX4 23 yX10_awaitJoin ∈ ch_tb := wi_2 (List.mem_of_getElem? (i := 163) rfl) rfl
theorem mw_2_164 : Cond.instanceMethod yX10_awaitJoin ∈ ch_tb := wi_2 (List.mem_of_getElem? (i := 164) rfl) rfl
theorem mw_2_165 : Cond.selects RX10 yX10_awaitJoin yX10_awaitJoin ∈ ch_tb := wi_2 (List.mem_of_getElem? (i := 165) rfl) rfl
theorem mw_2_166 : Cond.code yX10_awaitJoin cX10_awaitJoin 2 none ∈ ch_tb := wi_2 (List.mem_of_getElem? (i := 166) rfl) rfl
theorem mw_2_167 : Cond.methodLink RX4 28 yX10_await ∈ ch_tb := wi_2 (List.mem_of_getElem? (i := 167) rfl) rfl
theorem mw_2_168 : Cond.selects RX5 ⟨"SpanSolids$Solid", "lookFrom", "(IIILSpanSolids$Walk;)V"⟩ yX5_lookFrom ∈ ch_tb := wi_2 (List.mem_of_getElem? (i := 168) rfl) rfl
theorem mw_2_169 : Cond.instanceMethod yX5_lookFrom ∈ ch_tb := wi_2 (List.mem_of_getElem? (i := 169) rfl) rfl
theorem mw_2_170 : Cond.code yX5_lookFrom cX5_lookFrom 5 none ∈ ch_tb := wi_2 (List.mem_of_getElem? (i := 170) rfl) rfl
theorem mw_2_171 : Cond.methodLink RX5 26 yX10_await ∈ ch_tb := wi_2 (List.mem_of_getElem? (i := 171) rfl) rfl
theorem mw_2_172 : Cond.selects RX6 ⟨"SpanSolids$Solid", "lookFrom", "(IIILSpanSolids$Walk;)V"⟩ yX6_lookFrom ∈ ch_tb := wi_2 (List.mem_of_getElem? (i := 172) rfl) rfl
theorem mw_2_173 : Cond.instanceMethod yX6_lookFrom ∈ ch_tb := wi_2 (List.mem_of_getElem? (i := 173) rfl) rfl
theorem mw_2_174 : Cond.code yX6_lookFrom cX6_lookFrom 5 none ∈ ch_tb := wi_2 (List.mem_of_getElem? (i := 174) rfl) rfl
theorem mw_2_176 : Cond.methodLink RX6 31 yX10_give ∈ ch_tb := wi_2 (List.mem_of_getElem? (i := 176) rfl) rfl
theorem mw_2_177 : Cond.methodLink RX6 37 yX10_giveNone ∈ ch_tb := wi_2 (List.mem_of_getElem? (i := 177) rfl) rfl
theorem mw_2_178 : Cond.selects RX9 ⟨"SpanSolids$Solid", "lookFrom", "(IIILSpanSolids$Walk;)V"⟩ yX9_lookFrom ∈ ch_tb := wi_2 (List.mem_of_getElem? (i := 178) rfl) rfl
theorem mw_2_179 : Cond.instanceMethod yX9_lookFrom ∈ ch_tb := wi_2 (List.mem_of_getElem? (i := 179) rfl) rfl
theorem mw_2_180 : Cond.code yX9_lookFrom cX9_lookFrom 5 none ∈ ch_tb := wi_2 (List.mem_of_getElem? (i := 180) rfl) rfl
theorem mw_2_181 : Cond.methodLink RX9 17 yX10_await ∈ ch_tb := wi_2 (List.mem_of_getElem? (i := 181) rfl) rfl
theorem mw_2_182 : Cond.methodLink RX10 52 yX3_copyTo ∈ ch_tb := wi_2 (List.mem_of_getElem? (i := 182) rfl) rfl
theorem mw_2_183 : Cond.instanceMethod yX3_copyTo ∈ ch_tb := wi_2 (List.mem_of_getElem? (i := 183) rfl) rfl
theorem mw_2_184 : Cond.selects RX3 yX3_copyTo yX3_copyTo ∈ ch_tb := wi_2 (List.mem_of_getElem? (i := 184) rfl) rfl
theorem mw_2_185 : Cond.code yX3_copyTo cX3_copyTo 2 none ∈ ch_tb := wi_2 (List.mem_of_getElem? (i := 185) rfl) rfl
theorem mw_2_186 : Cond.methodLink RX3 39 yX7_copyFrom ∈ ch_tb := wi_2 (List.mem_of_getElem? (i := 186) rfl) rfl
theorem mw_2_187 : Cond.instanceMethod yX7_copyFrom ∈ ch_tb := wi_2 (List.mem_of_getElem? (i := 187) rfl) rfl
theorem mw_2_188 : Cond.selects RX7 yX7_copyFrom yX7_copyFrom ∈ ch_tb := wi_2 (List.mem_of_getElem? (i := 188) rfl) rfl
theorem mw_2_189 : Cond.code yX7_copyFrom cX7_copyFrom 4 none ∈ ch_tb := wi_2 (List.mem_of_getElem? (i := 189) rfl) rfl
theorem mw_2_190 : Cond.methodLink RX7 19 yJ9_min_7cf53 ∈ ch_tb := wi_2 (List.mem_of_getElem? (i := 190) rfl) rfl
theorem mw_2_191 : Cond.static yJ9_min_7cf53 ∈ ch_tb := wi_2 (List.mem_of_getElem? (i := 191) rfl) rfl
theorem mw_2_192 : Cond.code yJ9_min_7cf53 cJ9_min_7cf53 2 (Option.some FieldType.int) ∈ ch_tb := wi_2 (List.mem_of_getElem? (i := 192) rfl) rfl
theorem mw_2_193 : Cond.methodLink RX11 95 yX7_countFrom ∈ ch_tb := wi_2 (List.mem_of_getElem? (i := 193) rfl) rfl
theorem mw_2_194 : Cond.instanceMethod yX7_countFrom ∈ ch_tb := wi_2 (List.mem_of_getElem? (i := 194) rfl) rfl
theorem mw_2_195 : Cond.selects RX7 yX7_countFrom yX7_countFrom ∈ ch_tb := wi_2 (List.mem_of_getElem? (i := 195) rfl) rfl
theorem mw_2_196 : Cond.code yX7_countFrom cX7_countFrom 10 (Option.some FieldType.long) ∈ ch_tb := wi_2 (List.mem_of_getElem? (i := 196) rfl) rfl
theorem mw_2_197 : Cond.methodLink RX7 25 yX7_runCount ∈ ch_tb := wi_2 (List.mem_of_getElem? (i := 197) rfl) rfl
theorem mw_2_198 : Cond.instanceMethod yX7_runCount ∈ ch_tb := wi_2 (List.mem_of_getElem? (i := 198) rfl) rfl
theorem mw_2_199 : Cond.selects RX7 yX7_runCount yX7_runCount ∈ ch_tb := wi_2 (List.mem_of_getElem? (i := 199) rfl) rfl
theorem mw_2_200 : Cond.code yX7_runCount cX7_runCount 1 (Option.some FieldType.int) ∈ ch_tb := wi_2 (List.mem_of_getElem? (i := 200) rfl) rfl
theorem mw_2_201 : Cond.methodLink RX7 29 yX7_firstOf ∈ ch_tb := wi_2 (List.mem_of_getElem? (i := 201) rfl) rfl
theorem mw_2_202 : Cond.instanceMethod yX7_firstOf ∈ ch_tb := wi_2 (List.mem_of_getElem? (i := 202) rfl) rfl
theorem mw_2_203 : Cond.selects RX7 yX7_firstOf yX7_firstOf ∈ ch_tb := wi_2 (List.mem_of_getElem? (i := 203) rfl) rfl
theorem mw_2_204 : Cond.code yX7_firstOf cX7_firstOf 2 (Option.some FieldType.int) ∈ ch_tb := wi_2 (List.mem_of_getElem? (i := 204) rfl) rfl
theorem mw_2_205 : Cond.methodLink RX7 33 yJ9_max_7cf53 ∈ ch_tb := wi_2 (List.mem_of_getElem? (i := 205) rfl) rfl
theorem mw_2_206 : Cond.static yJ9_max_7cf53 ∈ ch_tb := wi_2 (List.mem_of_getElem? (i := 206) rfl) rfl
theorem mw_2_207 : Cond.code yJ9_max_7cf53 cJ9_max_7cf53 2 (Option.some FieldType.int) ∈ ch_tb := wi_2 (List.mem_of_getElem? (i := 207) rfl) rfl
theorem mw_2_208 : Cond.methodLink RX7 36 yX7_lastOf ∈ ch_tb := wi_2 (List.mem_of_getElem? (i := 208) rfl) rfl
theorem mw_2_209 : Cond.instanceMethod yX7_lastOf ∈ ch_tb := wi_2 (List.mem_of_getElem? (i := 209) rfl) rfl
theorem mw_2_210 : Cond.selects RX7 yX7_lastOf yX7_lastOf ∈ ch_tb := wi_2 (List.mem_of_getElem? (i := 210) rfl) rfl
theorem mw_2_211 : Cond.code yX7_lastOf cX7_lastOf 2 (Option.some FieldType.int) ∈ ch_tb := wi_2 (List.mem_of_getElem? (i := 211) rfl) rfl
theorem mw_2_212 : Cond.methodLink RL 44 yX11_top ∈ ch_tb := wi_2 (List.mem_of_getElem? (i := 212) rfl) rfl
theorem mw_2_213 : Cond.instanceMethod yX11_top ∈ ch_tb := wi_2 (List.mem_of_getElem? (i := 213) rfl) rfl
theorem mw_2_214 : Cond.selects RX11 yX11_top yX11_top ∈ ch_tb := wi_2 (List.mem_of_getElem? (i := 214) rfl) rfl
theorem mw_2_215 : Cond.code yX11_top cX11_top 5 (Option.some FieldType.int) ∈ ch_tb := wi_2 (List.mem_of_getElem? (i := 215) rfl) rfl
theorem mw_2_216 : Cond.methodLink RX11 99 yX7_afterGreatest ∈ ch_tb := wi_2 (List.mem_of_getElem? (i := 216) rfl) rfl
theorem mw_2_217 : Cond.instanceMethod yX7_afterGreatest ∈ ch_tb := wi_2 (List.mem_of_getElem? (i := 217) rfl) rfl
theorem mw_2_218 : Cond.selects RX7 yX7_afterGreatest yX7_afterGreatest ∈ ch_tb := wi_2 (List.mem_of_getElem? (i := 218) rfl) rfl
theorem mw_2_219 : Cond.code yX7_afterGreatest cX7_afterGreatest 4 (Option.some FieldType.int) ∈ ch_tb := wi_2 (List.mem_of_getElem? (i := 219) rfl) rfl
theorem mw_2_220 : Cond.methodLink RL 48 yX11_spans ∈ ch_tb := wi_2 (List.mem_of_getElem? (i := 220) rfl) rfl
theorem mw_2_221 : Cond.instanceMethod yX11_spans ∈ ch_tb := wi_2 (List.mem_of_getElem? (i := 221) rfl) rfl
theorem mw_2_222 : Cond.selects RX11 yX11_spans yX11_spans ∈ ch_tb := wi_2 (List.mem_of_getElem? (i := 222) rfl) rfl
theorem mw_2_223 : Cond.code yX11_spans cX11_spans 5 (Option.some FieldType.int) ∈ ch_tb := wi_2 (List.mem_of_getElem? (i := 223) rfl) rfl
theorem mw_2_224 : Cond.methodLink RX11 102 yX7_runCount ∈ ch_tb := wi_2 (List.mem_of_getElem? (i := 224) rfl) rfl
theorem mw_2_225 : Cond.methodLink RL 52 yX11_span ∈ ch_tb := wi_2 (List.mem_of_getElem? (i := 225) rfl) rfl
theorem mw_2_226 : Cond.instanceMethod yX11_span ∈ ch_tb := wi_2 (List.mem_of_getElem? (i := 226) rfl) rfl
theorem mw_2_227 : Cond.selects RX11 yX11_span yX11_span ∈ ch_tb := wi_2 (List.mem_of_getElem? (i := 227) rfl) rfl
theorem mw_2_228 : Cond.code yX11_span cX11_span 3 (Option.some FieldType.int) ∈ ch_tb := wi_2 (List.mem_of_getElem? (i := 228) rfl) rfl
theorem mw_2_229 : Cond.methodLink RX11 105 yX7_firstOf ∈ ch_tb := wi_2 (List.mem_of_getElem? (i := 229) rfl) rfl
theorem mw_2_230 : Cond.methodLink RX11 108 yX7_lastOf ∈ ch_tb := wi_2 (List.mem_of_getElem? (i := 230) rfl) rfl
theorem mw_2_231 : Cond.methodLink RL 57 yX11_within ∈ ch_tb := wi_2 (List.mem_of_getElem? (i := 231) rfl) rfl
theorem mw_2_232 : Cond.instanceMethod yX11_within ∈ ch_tb := wi_2 (List.mem_of_getElem? (i := 232) rfl) rfl
theorem mw_2_233 : Cond.selects RX11 yX11_within yX11_within ∈ ch_tb := wi_2 (List.mem_of_getElem? (i := 233) rfl) rfl
theorem mw_2_234 : Cond.code yX11_within cX11_within 3 (Option.some FieldType.long) ∈ ch_tb := wi_2 (List.mem_of_getElem? (i := 234) rfl) rfl
theorem mw_2_235 : Cond.classLink RL 10 RX12 ∈ ch_tb := wi_2 (List.mem_of_getElem? (i := 235) rfl) rfl
theorem mw_2_236 : Cond.instantiable RX12 12 ∈ ch_tb := wi_2 (List.mem_of_getElem? (i := 236) rfl) rfl
theorem mw_2_237 : Cond.methodLink RL 12 yX12_init ∈ ch_tb := wi_2 (List.mem_of_getElem? (i := 237) rfl) rfl
theorem mw_2_238 : Cond.instanceMethod yX12_init ∈ ch_tb := wi_2 (List.mem_of_getElem? (i := 238) rfl) rfl
theorem mw_2_239 : Cond.code yX12_init cX12_init 1 none ∈ ch_tb := wi_2 (List.mem_of_getElem? (i := 239) rfl) rfl
theorem mw_3_0 : Cond.methodLink RX12 1 objectInit ∈ ch_tb := wi_3 (List.mem_of_getElem? (i := 0) rfl) rfl
theorem mw_3_1 : Cond.fieldLink RX12 9 "SpanSolidsModel" "kinds" "[I" ∈ ch_tb := wi_3 (List.mem_of_getElem? (i := 1) rfl) rfl
theorem mw_3_2 : Cond.fieldLink RX12 13 "SpanSolidsModel" "numbers" "[I" ∈ ch_tb := wi_3 (List.mem_of_getElem? (i := 2) rfl) rfl
theorem mw_3_3 : Cond.fieldLink RX12 16 "SpanSolidsModel" "weights" "[I" ∈ ch_tb := wi_3 (List.mem_of_getElem? (i := 3) rfl) rfl
theorem mw_3_4 : Cond.fieldLink RX12 39 "SpanSolidsModel" "solids" "I" ∈ ch_tb := wi_3 (List.mem_of_getElem? (i := 4) rfl) rfl
theorem mw_3_5 : Cond.fieldLink RX12 19 "SpanSolidsModel" "sizes" "[I" ∈ ch_tb := wi_3 (List.mem_of_getElem? (i := 5) rfl) rfl
theorem mw_3_6 : Cond.fieldLink RX12 35 "SpanSolidsModel" "sizeCount" "I" ∈ ch_tb := wi_3 (List.mem_of_getElem? (i := 6) rfl) rfl
theorem mw_3_7 : Cond.fieldLink RX12 22 "SpanSolidsModel" "bits" "[J" ∈ ch_tb := wi_3 (List.mem_of_getElem? (i := 7) rfl) rfl
theorem mw_3_8 : Cond.fieldLink RX12 26 "SpanSolidsModel" "heights" "[J" ∈ ch_tb := wi_3 (List.mem_of_getElem? (i := 8) rfl) rfl
theorem mw_3_9 : Cond.fieldLink RX12 83 "SpanSolidsModel" "heightCount" "I" ∈ ch_tb := wi_3 (List.mem_of_getElem? (i := 9) rfl) rfl
theorem mw_3_10 : Cond.fieldLink RX12 29 "SpanSolidsModel" "firsts" "[J" ∈ ch_tb := wi_3 (List.mem_of_getElem? (i := 10) rfl) rfl
theorem mw_3_11 : Cond.fieldLink RX12 32 "SpanSolidsModel" "lasts" "[J" ∈ ch_tb := wi_3 (List.mem_of_getElem? (i := 11) rfl) rfl
theorem mw_3_12 : Cond.fieldLink RX12 100 "SpanSolidsModel" "spanCount" "I" ∈ ch_tb := wi_3 (List.mem_of_getElem? (i := 12) rfl) rfl
theorem mw_3_13 : Cond.laysFinal RX12 "SpanSolidsModel" "kinds" "[I" ∈ ch_tb := wi_3 (List.mem_of_getElem? (i := 13) rfl) rfl
theorem mw_3_15 : Cond.laysFinal RX12 "SpanSolidsModel" "numbers" "[I" ∈ ch_tb := wi_3 (List.mem_of_getElem? (i := 15) rfl) rfl
theorem mw_3_17 : Cond.laysFinal RX12 "SpanSolidsModel" "weights" "[I" ∈ ch_tb := wi_3 (List.mem_of_getElem? (i := 17) rfl) rfl
theorem mw_3_19 : Cond.lays RX12 "SpanSolidsModel" "solids" "I" ∈ ch_tb := wi_3 (List.mem_of_getElem? (i := 19) rfl) rfl
theorem mw_3_21 : Cond.laysFinal RX12 "SpanSolidsModel" "sizes" "[I" ∈ ch_tb := wi_3 (List.mem_of_getElem? (i := 21) rfl) rfl
theorem mw_3_23 : Cond.lays RX12 "SpanSolidsModel" "sizeCount" "I" ∈ ch_tb := wi_3 (List.mem_of_getElem? (i := 23) rfl) rfl
theorem mw_3_25 : Cond.laysFinal RX12 "SpanSolidsModel" "bits" "[J" ∈ ch_tb := wi_3 (List.mem_of_getElem? (i := 25) rfl) rfl
theorem mw_3_27 : Cond.laysFinal RX12 "SpanSolidsModel" "heights" "[J" ∈ ch_tb := wi_3 (List.mem_of_getElem? (i := 27) rfl) rfl
theorem mw_3_29 : Cond.lays RX12 "SpanSolidsModel" "heightCount" "I" ∈ ch_tb := wi_3 (List.mem_of_getElem? (i := 29) rfl) rfl
theorem mw_3_31 : Cond.laysFinal RX12 "SpanSolidsModel" "firsts" "[J" ∈ ch_tb := wi_3 (List.mem_of_getElem? (i := 31) rfl) rfl
theorem mw_3_33 : Cond.laysFinal RX12 "SpanSolidsModel" "lasts" "[J" ∈ ch_tb := wi_3 (List.mem_of_getElem? (i := 33) rfl) rfl
theorem mw_3_35 : Cond.lays RX12 "SpanSolidsModel" "spanCount" "I" ∈ ch_tb := wi_3 (List.mem_of_getElem? (i := 35) rfl) rfl
theorem mw_3_37 : Cond.superclass RX12 "java/lang/Object" ∈ ch_tb := wi_3 (List.mem_of_getElem? (i := 37) rfl) rfl
theorem mw_3_38 : Cond.arrayClass FieldType.long ∈ ch_tb := wi_3 (List.mem_of_getElem? (i := 38) rfl) rfl
theorem mw_3_39 : Cond.methodLink RL 17 yX12_size ∈ ch_tb := wi_3 (List.mem_of_getElem? (i := 39) rfl) rfl
theorem mw_3_40 : Cond.instanceMethod yX12_size ∈ ch_tb := wi_3 (List.mem_of_getElem? (i := 40) rfl) rfl
theorem mw_3_41 : Cond.selects RX12 yX12_size yX12_size ∈ ch_tb := wi_3 (List.mem_of_getElem? (i := 41) rfl) rfl
theorem mw_3_42 : Cond.code yX12_size cX12_size 2 (Option.some FieldType.int) ∈ ch_tb := wi_3 (List.mem_of_getElem? (i := 42) rfl) rfl
theorem mw_3_43 : Cond.methodLink RL 21 yX12_solid ∈ ch_tb := wi_3 (List.mem_of_getElem? (i := 43) rfl) rfl
theorem mw_3_44 : Cond.instanceMethod yX12_solid ∈ ch_tb := wi_3 (List.mem_of_getElem? (i := 44) rfl) rfl
theorem mw_3_45 : Cond.selects RX12 yX12_solid yX12_solid ∈ ch_tb := wi_3 (List.mem_of_getElem? (i := 45) rfl) rfl
theorem mw_3_46 : Cond.code yX12_solid cX12_solid 4 (Option.some FieldType.int) ∈ ch_tb := wi_3 (List.mem_of_getElem? (i := 46) rfl) rfl
theorem mw_3_47 : Cond.methodLink RX12 42 yX12_made ∈ ch_tb := wi_3 (List.mem_of_getElem? (i := 47) rfl) rfl
theorem mw_3_49 : Cond.instanceMethod yX12_made ∈ ch_tb := wi_3 (List.mem_of_getElem? (i := 49) rfl) rfl
theorem mw_3_50 : Cond.code yX12_made cX12_made 4 (Option.some FieldType.int) ∈ ch_tb := wi_3 (List.mem_of_getElem? (i := 50) rfl) rfl
theorem mw_3_51 : Cond.methodLink RL 26 yX12_join ∈ ch_tb := wi_3 (List.mem_of_getElem? (i := 51) rfl) rfl
theorem mw_3_52 : Cond.instanceMethod yX12_join ∈ ch_tb := wi_3 (List.mem_of_getElem? (i := 52) rfl) rfl
theorem mw_3_53 : Cond.selects RX12 yX12_join yX12_join ∈ ch_tb := wi_3 (List.mem_of_getElem? (i := 53) rfl) rfl
theorem mw_3_54 : Cond.code yX12_join cX12_join 5 (Option.some FieldType.int) ∈ ch_tb := wi_3 (List.mem_of_getElem? (i := 54) rfl) rfl
theorem mw_3_55 : Cond.methodLink RX12 46 yX12_isSolid ∈ ch_tb := wi_3 (List.mem_of_getElem? (i := 55) rfl) rfl
theorem mw_3_57 : Cond.instanceMethod yX12_isSolid ∈ ch_tb := wi_3 (List.mem_of_getElem? (i := 57) rfl) rfl
theorem mw_3_58 : Cond.code yX12_isSolid cX12_isSolid 2 (Option.some FieldType.boolean) ∈ ch_tb := wi_3 (List.mem_of_getElem? (i := 58) rfl) rfl
theorem mw_3_59 : Cond.methodLink RL 30 yX12_moved ∈ ch_tb := wi_3 (List.mem_of_getElem? (i := 59) rfl) rfl
theorem mw_3_60 : Cond.instanceMethod yX12_moved ∈ ch_tb := wi_3 (List.mem_of_getElem? (i := 60) rfl) rfl
theorem mw_3_61 : Cond.selects RX12 yX12_moved yX12_moved ∈ ch_tb := wi_3 (List.mem_of_getElem? (i := 61) rfl) rfl
theorem mw_3_62 : Cond.code yX12_moved cX12_moved 4 (Option.some FieldType.int) ∈ ch_tb := wi_3 (List.mem_of_getElem? (i := 62) rfl) rfl
theorem mw_3_63 : Cond.methodLink RL 34 yX12_turned ∈ ch_tb := wi_3 (List.mem_of_getElem? (i := 63) rfl) rfl
theorem mw_3_64 : Cond.instanceMethod yX12_turned ∈ ch_tb := wi_3 (List.mem_of_getElem? (i := 64) rfl) rfl
theorem mw_3_65 : Cond.selects RX12 yX12_turned yX12_turned ∈ ch_tb := wi_3 (List.mem_of_getElem? (i := 65) rfl) rfl
theorem mw_3_66 : Cond.code yX12_turned cX12_turned 3 (Option.some FieldType.int) ∈ ch_tb := wi_3 (List.mem_of_getElem? (i := 66) rfl) rfl
theorem mw_3_67 : Cond.methodLink RL 43 yX12_inside ∈ ch_tb := wi_3 (List.mem_of_getElem? (i := 67) rfl) rfl
theorem mw_3_68 : Cond.instanceMethod yX12_inside ∈ ch_tb := wi_3 (List.mem_of_getElem? (i := 68) rfl) rfl
theorem mw_3_69 : Cond.selects RX12 yX12_inside yX12_inside ∈ ch_tb := wi_3 (List.mem_of_getElem? (i := 69) rfl) rfl
theorem mw_3_70 : Cond.code yX12_inside cX12_inside 5 (Option.some FieldType.boolean) ∈ ch_tb := wi_3 (List.mem_of_getElem? (i := 70) rfl) rfl
theorem mw_3_71 : Cond.methodLink RX12 66 yX12_isNear ∈ ch_tb := wi_3 (List.mem_of_getElem? (i := 71) rfl) rfl
theorem mw_3_72 : Cond.static yX12_isNear ∈ ch_tb := wi_3 (List.mem_of_getElem? (i := 72) rfl) rfl
theorem mw_3_73 : Cond.code yX12_isNear cX12_isNear 1 (Option.some FieldType.boolean) ∈ ch_tb := wi_3 (List.mem_of_getElem? (i := 73) rfl) rfl
theorem mw_3_74 : Cond.constant RX12 64 (-100000) ∈ ch_tb := wi_3 (List.mem_of_getElem? (i := 74) rfl) rfl
theorem mw_3_75 : Cond.constant RX12 65 (100000) ∈ ch_tb := wi_3 (List.mem_of_getElem? (i := 75) rfl) rfl
theorem mw_3_76 : Cond.methodLink RX12 57 yX12_isIn ∈ ch_tb := wi_3 (List.mem_of_getElem? (i := 76) rfl) rfl
theorem mw_3_78 : Cond.instanceMethod yX12_isIn ∈ ch_tb := wi_3 (List.mem_of_getElem? (i := 78) rfl) rfl
theorem mw_3_79 : Cond.code yX12_isIn cX12_isIn 10 (Option.some FieldType.boolean) ∈ ch_tb := wi_3 (List.mem_of_getElem? (i := 79) rfl) rfl
theorem mw_3_80 : Cond.methodLink RX12 50 yX12_number ∈ ch_tb := wi_3 (List.mem_of_getElem? (i := 80) rfl) rfl
theorem mw_3_82 : Cond.instanceMethod yX12_number ∈ ch_tb := wi_3 (List.mem_of_getElem? (i := 82) rfl) rfl
theorem mw_3_83 : Cond.code yX12_number cX12_number 3 (Option.some FieldType.int) ∈ ch_tb := wi_3 (List.mem_of_getElem? (i := 83) rfl) rfl
theorem mw_3_84 : Cond.methodLink RX12 61 yX12_isInKind ∈ ch_tb := wi_3 (List.mem_of_getElem? (i := 84) rfl) rfl
theorem mw_3_86 : Cond.instanceMethod yX12_isInKind ∈ ch_tb := wi_3 (List.mem_of_getElem? (i := 86) rfl) rfl
theorem mw_3_87 : Cond.code yX12_isInKind cX12_isInKind 12 (Option.some FieldType.boolean) ∈ ch_tb := wi_3 (List.mem_of_getElem? (i := 87) rfl) rfl
theorem mw_3_88 : Cond.methodLink RX12 53 yX12_square ∈ ch_tb := wi_3 (List.mem_of_getElem? (i := 88) rfl) rfl
theorem mw_3_89 : Cond.static yX12_square ∈ ch_tb := wi_3 (List.mem_of_getElem? (i := 89) rfl) rfl
theorem mw_3_90 : Cond.code yX12_square cX12_square 2 (Option.some FieldType.long) ∈ ch_tb := wi_3 (List.mem_of_getElem? (i := 90) rfl) rfl
theorem mw_3_91 : Cond.methodLink RL 47 yX12_top ∈ ch_tb := wi_3 (List.mem_of_getElem? (i := 91) rfl) rfl
theorem mw_3_92 : Cond.instanceMethod yX12_top ∈ ch_tb := wi_3 (List.mem_of_getElem? (i := 92) rfl) rfl
theorem mw_3_93 : Cond.selects RX12 yX12_top yX12_top ∈ ch_tb := wi_3 (List.mem_of_getElem? (i := 93) rfl) rfl
theorem mw_3_94 : Cond.code yX12_top cX12_top 4 (Option.some FieldType.int) ∈ ch_tb := wi_3 (List.mem_of_getElem? (i := 94) rfl) rfl
theorem mw_3_95 : Cond.methodLink RX12 75 yX12_topOf ∈ ch_tb := wi_3 (List.mem_of_getElem? (i := 95) rfl) rfl
theorem mw_3_97 : Cond.instanceMethod yX12_topOf ∈ ch_tb := wi_3 (List.mem_of_getElem? (i := 97) rfl) rfl
theorem mw_3_98 : Cond.code yX12_topOf cX12_topOf 5 (Option.some FieldType.int) ∈ ch_tb := wi_3 (List.mem_of_getElem? (i := 98) rfl) rfl
theorem mw_3_99 : Cond.methodLink RX12 69 yX12_rise ∈ ch_tb := wi_3 (List.mem_of_getElem? (i := 99) rfl) rfl
theorem mw_3_101 : Cond.instanceMethod yX12_rise ∈ ch_tb := wi_3 (List.mem_of_getElem? (i := 101) rfl) rfl
theorem mw_3_102 : Cond.code yX12_rise cX12_rise 14 none ∈ ch_tb := wi_3 (List.mem_of_getElem? (i := 102) rfl) rfl
theorem mw_3_103 : Cond.constantLong RX12 73 (-1) ∈ ch_tb := wi_3 (List.mem_of_getElem? (i := 103) rfl) rfl
theorem mw_3_104 : Cond.methodLink RL 38 yX12_weight ∈ ch_tb := wi_3 (List.mem_of_getElem? (i := 104) rfl) rfl
theorem mw_3_105 : Cond.instanceMethod yX12_weight ∈ ch_tb := wi_3 (List.mem_of_getElem? (i := 105) rfl) rfl
theorem mw_3_106 : Cond.selects RX12 yX12_weight yX12_weight ∈ ch_tb := wi_3 (List.mem_of_getElem? (i := 106) rfl) rfl
theorem mw_3_107 : Cond.code yX12_weight cX12_weight 2 (Option.some FieldType.int) ∈ ch_tb := wi_3 (List.mem_of_getElem? (i := 107) rfl) rfl
theorem mw_3_108 : Cond.methodLink RL 51 yX12_spans ∈ ch_tb := wi_3 (List.mem_of_getElem? (i := 108) rfl) rfl
theorem mw_3_109 : Cond.instanceMethod yX12_spans ∈ ch_tb := wi_3 (List.mem_of_getElem? (i := 109) rfl) rfl
theorem mw_3_110 : Cond.selects RX12 yX12_spans yX12_spans ∈ ch_tb := wi_3 (List.mem_of_getElem? (i := 110) rfl) rfl
theorem mw_3_111 : Cond.code yX12_spans cX12_spans 7 (Option.some FieldType.int) ∈ ch_tb := wi_3 (List.mem_of_getElem? (i := 111) rfl) rfl
theorem mw_3_112 : Cond.methodLink RX12 88 yX12_ends ∈ ch_tb := wi_3 (List.mem_of_getElem? (i := 112) rfl) rfl
theorem mw_3_114 : Cond.instanceMethod yX12_ends ∈ ch_tb := wi_3 (List.mem_of_getElem? (i := 114) rfl) rfl
theorem mw_3_115 : Cond.code yX12_ends cX12_ends 12 none ∈ ch_tb := wi_3 (List.mem_of_getElem? (i := 115) rfl) rfl
theorem mw_3_116 : Cond.methodLink RX12 92 yX12_last ∈ ch_tb := wi_3 (List.mem_of_getElem? (i := 116) rfl) rfl
theorem mw_3_118 : Cond.instanceMethod yX12_last ∈ ch_tb := wi_3 (List.mem_of_getElem? (i := 118) rfl) rfl
theorem mw_3_119 : Cond.code yX12_last cX12_last 14 (Option.some FieldType.long) ∈ ch_tb := wi_3 (List.mem_of_getElem? (i := 119) rfl) rfl
theorem mw_3_120 : Cond.constantLong RX12 86 (20001) ∈ ch_tb := wi_3 (List.mem_of_getElem? (i := 120) rfl) rfl
theorem mw_3_121 : Cond.constantLong RX12 81 (2) ∈ ch_tb := wi_3 (List.mem_of_getElem? (i := 121) rfl) rfl
theorem mw_3_122 : Cond.methodLink RX12 96 yX12_height ∈ ch_tb := wi_3 (List.mem_of_getElem? (i := 122) rfl) rfl
theorem mw_3_124 : Cond.instanceMethod yX12_height ∈ ch_tb := wi_3 (List.mem_of_getElem? (i := 124) rfl) rfl
theorem mw_3_125 : Cond.code yX12_height cX12_height 3 none ∈ ch_tb := wi_3 (List.mem_of_getElem? (i := 125) rfl) rfl
theorem mw_3_126 : Cond.methodLink RX12 103 yX12_sort ∈ ch_tb := wi_3 (List.mem_of_getElem? (i := 126) rfl) rfl
theorem mw_3_128 : Cond.instanceMethod yX12_sort ∈ ch_tb := wi_3 (List.mem_of_getElem? (i := 128) rfl) rfl
theorem mw_3_129 : Cond.code yX12_sort cX12_sort 5 none ∈ ch_tb := wi_3 (List.mem_of_getElem? (i := 129) rfl) rfl
theorem mw_3_130 : Cond.methodLink RL 56 yX12_span ∈ ch_tb := wi_3 (List.mem_of_getElem? (i := 130) rfl) rfl
theorem mw_3_131 : Cond.instanceMethod yX12_span ∈ ch_tb := wi_3 (List.mem_of_getElem? (i := 131) rfl) rfl
theorem mw_3_132 : Cond.selects RX12 yX12_span yX12_span ∈ ch_tb := wi_3 (List.mem_of_getElem? (i := 132) rfl) rfl
theorem mw_3_133 : Cond.code yX12_span cX12_span 3 (Option.some FieldType.int) ∈ ch_tb := wi_3 (List.mem_of_getElem? (i := 133) rfl) rfl
theorem mw_3_134 : Cond.methodLink RL 61 yX12_within ∈ ch_tb := wi_3 (List.mem_of_getElem? (i := 134) rfl) rfl
theorem mw_3_135 : Cond.instanceMethod yX12_within ∈ ch_tb := wi_3 (List.mem_of_getElem? (i := 135) rfl) rfl
theorem mw_3_136 : Cond.selects RX12 yX12_within yX12_within ∈ ch_tb := wi_3 (List.mem_of_getElem? (i := 136) rfl) rfl
theorem mw_3_137 : Cond.code yX12_within cX12_within 10 (Option.some FieldType.long) ∈ ch_tb := wi_3 (List.mem_of_getElem? (i := 137) rfl) rfl
theorem mw_3_138 : Cond.methodLink RX12 106 yJ9_max_f86c9 ∈ ch_tb := wi_3 (List.mem_of_getElem? (i := 138) rfl) rfl
theorem mw_3_139 : Cond.static yJ9_max_f86c9 ∈ ch_tb := wi_3 (List.mem_of_getElem? (i := 139) rfl) rfl
theorem mw_3_140 : Cond.code yJ9_max_f86c9 cJ9_max_f86c9 4 (Option.some FieldType.long) ∈ ch_tb := wi_3 (List.mem_of_getElem? (i := 140) rfl) rfl
theorem mw_3_141 : Cond.methodLink RX12 112 yJ9_min_f86c9 ∈ ch_tb := wi_3 (List.mem_of_getElem? (i := 141) rfl) rfl
theorem mw_3_142 : Cond.static yJ9_min_f86c9 ∈ ch_tb := wi_3 (List.mem_of_getElem? (i := 142) rfl) rfl
theorem mw_3_143 : Cond.code yJ9_min_f86c9 cJ9_min_f86c9 4 (Option.some FieldType.long) ∈ ch_tb := wi_3 (List.mem_of_getElem? (i := 143) rfl) rfl
theorem mw_p_0 : Cond.selects RX11 yX11_useUpSizes yX11_useUpSizes ∈ ch_tb := wi_p (List.mem_of_getElem? (i := 0) rfl) rfl
theorem mw_p_1 : Cond.selects RX11 yX11_radiusOf yX11_radiusOf ∈ ch_tb := wi_p (List.mem_of_getElem? (i := 1) rfl) rfl
theorem mw_p_2 : Cond.selects RX11 yX11_isFull yX11_isFull ∈ ch_tb := wi_p (List.mem_of_getElem? (i := 2) rfl) rfl
theorem mw_p_3 : Cond.selects RX11 yX11_newShape yX11_newShape ∈ ch_tb := wi_p (List.mem_of_getElem? (i := 3) rfl) rfl
theorem mw_p_4 : Cond.selects RX11 yX11_keep yX11_keep ∈ ch_tb := wi_p (List.mem_of_getElem? (i := 4) rfl) rfl
theorem mw_p_5 : Cond.selects RX11 yX11_find yX11_find ∈ ch_tb := wi_p (List.mem_of_getElem? (i := 5) rfl) rfl
theorem mw_p_6 : Cond.selects RX11 yX11_lookOver yX11_lookOver ∈ ch_tb := wi_p (List.mem_of_getElem? (i := 6) rfl) rfl
theorem mw_p_7 : Cond.selects RX10 yX10_lookAt yX10_lookAt ∈ ch_tb := wi_p (List.mem_of_getElem? (i := 7) rfl) rfl
theorem mw_p_8 : Cond.selects RX3 yX3_mix yX3_mix ∈ ch_tb := wi_p (List.mem_of_getElem? (i := 8) rfl) rfl
theorem mw_p_9 : Cond.selects RX3 yX3_nextEdge yX3_nextEdge ∈ ch_tb := wi_p (List.mem_of_getElem? (i := 9) rfl) rfl
theorem mw_p_10 : Cond.selects RX2 yX2_leastDepth yX2_leastDepth ∈ ch_tb := wi_p (List.mem_of_getElem? (i := 10) rfl) rfl
theorem mw_p_11 : Cond.selects RX12 yX12_made yX12_made ∈ ch_tb := wi_p (List.mem_of_getElem? (i := 11) rfl) rfl
theorem mw_p_12 : Cond.selects RX12 yX12_isSolid yX12_isSolid ∈ ch_tb := wi_p (List.mem_of_getElem? (i := 12) rfl) rfl
theorem mw_p_13 : Cond.selects RX12 yX12_isIn yX12_isIn ∈ ch_tb := wi_p (List.mem_of_getElem? (i := 13) rfl) rfl
theorem mw_p_14 : Cond.selects RX12 yX12_number yX12_number ∈ ch_tb := wi_p (List.mem_of_getElem? (i := 14) rfl) rfl
theorem mw_p_15 : Cond.selects RX12 yX12_isInKind yX12_isInKind ∈ ch_tb := wi_p (List.mem_of_getElem? (i := 15) rfl) rfl
theorem mw_p_16 : Cond.selects RX12 yX12_topOf yX12_topOf ∈ ch_tb := wi_p (List.mem_of_getElem? (i := 16) rfl) rfl
theorem mw_p_17 : Cond.selects RX12 yX12_rise yX12_rise ∈ ch_tb := wi_p (List.mem_of_getElem? (i := 17) rfl) rfl
theorem mw_p_18 : Cond.selects RX12 yX12_ends yX12_ends ∈ ch_tb := wi_p (List.mem_of_getElem? (i := 18) rfl) rfl
theorem mw_p_19 : Cond.selects RX12 yX12_last yX12_last ∈ ch_tb := wi_p (List.mem_of_getElem? (i := 19) rfl) rfl
theorem mw_p_20 : Cond.selects RX12 yX12_height yX12_height ∈ ch_tb := wi_p (List.mem_of_getElem? (i := 20) rfl) rfl
theorem mw_p_21 : Cond.selects RX12 yX12_sort yX12_sort ∈ ch_tb := wi_p (List.mem_of_getElem? (i := 21) rfl) rfl
/-- words of the tables that are kept in their own way -/
def ch_N (U : State) : Prop := va_AO "SpanSolids$Solid" U ∧ va_Nw (Cond.declares ⟨"SpanSolids$Solid", "lookFrom", "(IIILSpanSolids$Walk;)V"⟩) U ∧ va_Nw (Cond.methodLinkNest RX0 22 yX11_square "SpanSolids") U ∧ va_Nw (Cond.methodLinkNest RX0 34 yX11_rootBelow "SpanSolids") U ∧ va_Nw (Cond.methodLinkNest RX2 25 yX11_square "SpanSolids") U ∧ va_Nw (Cond.methodLinkNest RX6 25 yX11_square "SpanSolids") U ∧ va_Nw (Cond.castable RX0 "SpanSolids$Solid") U ∧ va_Nw (Cond.castable RX1 "SpanSolids$Solid") U ∧ va_Nw (Cond.castable RX2 "SpanSolids$Solid") U ∧ va_Nw (Cond.castable RX4 "SpanSolids$Solid") U ∧ va_Nw (Cond.castable RX5 "SpanSolids$Solid") U ∧ va_Nw (Cond.castable RX6 "SpanSolids$Solid") U ∧ va_Nw (Cond.castable RX9 "SpanSolids$Solid") U
theorem nw_0 : ∀ U, ch_N U → va_AO "SpanSolids$Solid" U := fun U h => h.1
theorem nw_1 : ∀ U, ch_N U → va_Nw (Cond.declares ⟨"SpanSolids$Solid", "lookFrom", "(IIILSpanSolids$Walk;)V"⟩) U := fun U h => h.2.1
theorem nw_2 : ∀ U, ch_N U → va_Nw (Cond.methodLinkNest RX0 22 yX11_square "SpanSolids") U := fun U h => h.2.2.1
theorem nw_3 : ∀ U, ch_N U → va_Nw (Cond.methodLinkNest RX0 34 yX11_rootBelow "SpanSolids") U := fun U h => h.2.2.2.1
theorem nw_4 : ∀ U, ch_N U → va_Nw (Cond.methodLinkNest RX2 25 yX11_square "SpanSolids") U := fun U h => h.2.2.2.2.1
theorem nw_5 : ∀ U, ch_N U → va_Nw (Cond.methodLinkNest RX6 25 yX11_square "SpanSolids") U := fun U h => h.2.2.2.2.2.1
theorem nw_6 : ∀ U, ch_N U → va_Nw (Cond.castable RX0 "SpanSolids$Solid") U := fun U h => h.2.2.2.2.2.2.1
theorem nw_7 : ∀ U, ch_N U → va_Nw (Cond.castable RX1 "SpanSolids$Solid") U := fun U h => h.2.2.2.2.2.2.2.1
theorem nw_8 : ∀ U, ch_N U → va_Nw (Cond.castable RX2 "SpanSolids$Solid") U := fun U h => h.2.2.2.2.2.2.2.2.1
theorem nw_9 : ∀ U, ch_N U → va_Nw (Cond.castable RX4 "SpanSolids$Solid") U := fun U h => h.2.2.2.2.2.2.2.2.2.1
theorem nw_10 : ∀ U, ch_N U → va_Nw (Cond.castable RX5 "SpanSolids$Solid") U := fun U h => h.2.2.2.2.2.2.2.2.2.2.1
theorem nw_11 : ∀ U, ch_N U → va_Nw (Cond.castable RX6 "SpanSolids$Solid") U := fun U h => h.2.2.2.2.2.2.2.2.2.2.2.1
theorem nw_12 : ∀ U, ch_N U → va_Nw (Cond.castable RX9 "SpanSolids$Solid") U := fun U h => h.2.2.2.2.2.2.2.2.2.2.2.2
theorem ch_N.warm {s U : State} (hW : s.WarmedH U.vm) (h : ch_N s) : ch_N U := ⟨va_AO.moved (hW).alike h.1, va_Nw.warmD hW h.2.1, va_Nw.warmM hW h.2.2.1, va_Nw.warmM hW h.2.2.2.1, va_Nw.warmM hW h.2.2.2.2.1, va_Nw.warmM hW h.2.2.2.2.2.1, va_Nw.warmC hW h.2.2.2.2.2.2.1, va_Nw.warmC hW h.2.2.2.2.2.2.2.1, va_Nw.warmC hW h.2.2.2.2.2.2.2.2.1, va_Nw.warmC hW h.2.2.2.2.2.2.2.2.2.1, va_Nw.warmC hW h.2.2.2.2.2.2.2.2.2.2.1, va_Nw.warmC hW h.2.2.2.2.2.2.2.2.2.2.2.1, va_Nw.warmC hW h.2.2.2.2.2.2.2.2.2.2.2.2⟩
theorem ch_N.same {s U : State} (e : s.vm = U.vm) (h : ch_N s) : ch_N U := ⟨va_AO.moved (by rw [e]; exact Vm.Alike.refl _) h.1, va_Nw.same rfl e h.2.1, va_Nw.same rfl e h.2.2.1, va_Nw.same rfl e h.2.2.2.1, va_Nw.same rfl e h.2.2.2.2.1, va_Nw.same rfl e h.2.2.2.2.2.1, va_Nw.same rfl e h.2.2.2.2.2.2.1, va_Nw.same rfl e h.2.2.2.2.2.2.2.1, va_Nw.same rfl e h.2.2.2.2.2.2.2.2.1, va_Nw.same rfl e h.2.2.2.2.2.2.2.2.2.1, va_Nw.same rfl e h.2.2.2.2.2.2.2.2.2.2.1, va_Nw.same rfl e h.2.2.2.2.2.2.2.2.2.2.2.1, va_Nw.same rfl e h.2.2.2.2.2.2.2.2.2.2.2.2⟩
theorem ch_N.of {A : Array Value} {U : State} (hts : ∀ w ∈ lw_tbl, w.before A U = true) : ch_N U := ⟨va_AO.of (hts _ (List.mem_append_right _ (List.mem_append_left _ (List.mem_of_getElem? (i := 24) rfl : Cond.arrayOver (FieldType.object "SpanSolids$Solid") ∈ tables_1_1)))), va_Nw.of rfl (hts _ (List.mem_append_right _ (List.mem_append_right _ (List.mem_append_left _ (List.mem_of_getElem? (i := 121) rfl : Cond.declares ⟨"SpanSolids$Solid", "lookFrom", "(IIILSpanSolids$Walk;)V"⟩ ∈ tables_1_2))))), va_Nw.of rfl (hts _ (List.mem_append_right _ (List.mem_append_right _ (List.mem_append_left _ (List.mem_of_getElem? (i := 126) rfl : Cond.methodLinkNest RX0 22 yX11_square "SpanSolids" ∈ tables_1_2))))), va_Nw.of rfl (hts _ (List.mem_append_right _ (List.mem_append_right _ (List.mem_append_left _ (List.mem_of_getElem? (i := 137) rfl : Cond.methodLinkNest RX0 34 yX11_rootBelow "SpanSolids" ∈ tables_1_2))))), va_Nw.of rfl (hts _ (List.mem_append_right _ (List.mem_append_right _ (List.mem_append_left _ (List.mem_of_getElem? (i := 153) rfl : Cond.methodLinkNest RX2 25 yX11_square "SpanSolids" ∈ tables_1_2))))), va_Nw.of rfl (hts _ (List.mem_append_right _ (List.mem_append_right _ (List.mem_append_left _ (List.mem_of_getElem? (i := 175) rfl : Cond.methodLinkNest RX6 25 yX11_square "SpanSolids" ∈ tables_1_2))))), va_Nw.of rfl (hts _ (List.mem_append_right _ (List.mem_append_right _ (List.mem_append_right _ (List.mem_of_getElem? (i := 144) rfl : Cond.castable RX0 "SpanSolids$Solid" ∈ tables_1_3))))), va_Nw.of rfl (hts _ (List.mem_append_right _ (List.mem_append_right _ (List.mem_append_right _ (List.mem_of_getElem? (i := 145) rfl : Cond.castable RX1 "SpanSolids$Solid" ∈ tables_1_3))))), va_Nw.of rfl (hts _ (List.mem_append_right _ (List.mem_append_right _ (List.mem_append_right _ (List.mem_of_getElem? (i := 146) rfl : Cond.castable RX2 "SpanSolids$Solid" ∈ tables_1_3))))), va_Nw.of rfl (hts _ (List.mem_append_right _ (List.mem_append_right _ (List.mem_append_right _ (List.mem_of_getElem? (i := 147) rfl : Cond.castable RX4 "SpanSolids$Solid" ∈ tables_1_3))))), va_Nw.of rfl (hts _ (List.mem_append_right _ (List.mem_append_right _ (List.mem_append_right _ (List.mem_of_getElem? (i := 148) rfl : Cond.castable RX5 "SpanSolids$Solid" ∈ tables_1_3))))), va_Nw.of rfl (hts _ (List.mem_append_right _ (List.mem_append_right _ (List.mem_append_right _ (List.mem_of_getElem? (i := 149) rfl : Cond.castable RX6 "SpanSolids$Solid" ∈ tables_1_3))))), va_Nw.of rfl (hts _ (List.mem_append_right _ (List.mem_append_right _ (List.mem_append_right _ (List.mem_of_getElem? (i := 150) rfl : Cond.castable RX9 "SpanSolids$Solid" ∈ tables_1_3)))))⟩
theorem inX0 : ∀ w ∈ u_ws RX0 TX0 5, w ∈ ch_tb := List.forall_mem_cons.mpr ⟨mw_1_215, List.forall_mem_cons.mpr ⟨mw_1_207, List.forall_mem_cons.mpr ⟨mw_1_209, List.forall_mem_cons.mpr ⟨mw_1_211, List.forall_mem_cons.mpr ⟨mw_1_213, fun _ h => absurd h List.not_mem_nil⟩⟩⟩⟩⟩
theorem inX1 : ∀ w ∈ u_ws RX1 TX1 7, w ∈ ch_tb := List.forall_mem_cons.mpr ⟨mw_1_171, List.forall_mem_cons.mpr ⟨mw_1_159, List.forall_mem_cons.mpr ⟨mw_1_161, List.forall_mem_cons.mpr ⟨mw_1_163, List.forall_mem_cons.mpr ⟨mw_1_165, List.forall_mem_cons.mpr ⟨mw_1_167, List.forall_mem_cons.mpr ⟨mw_1_169, fun _ h => absurd h List.not_mem_nil⟩⟩⟩⟩⟩⟩⟩
theorem inX2 : ∀ w ∈ u_ws RX2 TX2 6, w ∈ ch_tb := List.forall_mem_cons.mpr ⟨mw_1_238, List.forall_mem_cons.mpr ⟨mw_1_228, List.forall_mem_cons.mpr ⟨mw_1_230, List.forall_mem_cons.mpr ⟨mw_1_232, List.forall_mem_cons.mpr ⟨mw_1_234, List.forall_mem_cons.mpr ⟨mw_1_236, fun _ h => absurd h List.not_mem_nil⟩⟩⟩⟩⟩⟩
theorem inX3 : ∀ w ∈ u_ws RX3 TX3 5, w ∈ ch_tb := List.forall_mem_cons.mpr ⟨mw_1_43, List.forall_mem_cons.mpr ⟨mw_1_45, List.forall_mem_cons.mpr ⟨mw_1_47, List.forall_mem_cons.mpr ⟨mw_1_49, List.forall_mem_cons.mpr ⟨mw_1_51, fun _ h => absurd h List.not_mem_nil⟩⟩⟩⟩⟩
theorem inX4 : ∀ w ∈ u_ws RX4 TX4 4, w ∈ ch_tb := List.forall_mem_cons.mpr ⟨mw_2_27, List.forall_mem_cons.mpr ⟨mw_2_21, List.forall_mem_cons.mpr ⟨mw_2_23, List.forall_mem_cons.mpr ⟨mw_2_25, fun _ h => absurd h List.not_mem_nil⟩⟩⟩⟩
theorem inX5 : ∀ w ∈ u_ws RX5 TX5 5, w ∈ ch_tb := List.forall_mem_cons.mpr ⟨mw_2_51, List.forall_mem_cons.mpr ⟨mw_2_43, List.forall_mem_cons.mpr ⟨mw_2_45, List.forall_mem_cons.mpr ⟨mw_2_47, List.forall_mem_cons.mpr ⟨mw_2_49, fun _ h => absurd h List.not_mem_nil⟩⟩⟩⟩⟩
theorem inX6 : ∀ w ∈ u_ws RX6 TX6 6, w ∈ ch_tb := List.forall_mem_cons.mpr ⟨mw_1_195, List.forall_mem_cons.mpr ⟨mw_1_185, List.forall_mem_cons.mpr ⟨mw_1_187, List.forall_mem_cons.mpr ⟨mw_1_189, List.forall_mem_cons.mpr ⟨mw_1_191, List.forall_mem_cons.mpr ⟨mw_1_193, fun _ h => absurd h List.not_mem_nil⟩⟩⟩⟩⟩⟩
theorem inX7 : ∀ w ∈ u_ws RX7 TX7 2, w ∈ ch_tb := List.forall_mem_cons.mpr ⟨mw_1_85, List.forall_mem_cons.mpr ⟨mw_1_87, fun _ h => absurd h List.not_mem_nil⟩⟩
theorem inX9 : ∀ w ∈ u_ws RX9 TX9 2, w ∈ ch_tb := List.forall_mem_cons.mpr ⟨mw_2_66, List.forall_mem_cons.mpr ⟨mw_2_64, fun _ h => absurd h List.not_mem_nil⟩⟩
theorem inX10 : ∀ w ∈ u_ws RX10 TX10 7, w ∈ ch_tb := List.forall_mem_cons.mpr ⟨mw_1_62, List.forall_mem_cons.mpr ⟨mw_1_64, List.forall_mem_cons.mpr ⟨mw_1_66, List.forall_mem_cons.mpr ⟨mw_1_68, List.forall_mem_cons.mpr ⟨mw_1_70, List.forall_mem_cons.mpr ⟨mw_1_72, List.forall_mem_cons.mpr ⟨mw_1_74, fun _ h => absurd h List.not_mem_nil⟩⟩⟩⟩⟩⟩⟩
theorem inX11 : ∀ w ∈ u_ws RX11 TX11 7, w ∈ ch_tb := List.forall_mem_cons.mpr ⟨mw_1_97, List.forall_mem_cons.mpr ⟨mw_1_99, List.forall_mem_cons.mpr ⟨mw_1_101, List.forall_mem_cons.mpr ⟨mw_1_103, List.forall_mem_cons.mpr ⟨mw_1_105, List.forall_mem_cons.mpr ⟨mw_1_107, List.forall_mem_cons.mpr ⟨mw_1_109, fun _ h => absurd h List.not_mem_nil⟩⟩⟩⟩⟩⟩⟩
theorem inX12 : ∀ w ∈ u_ws RX12 TX12 12, w ∈ ch_tb := List.forall_mem_cons.mpr ⟨mw_3_13, List.forall_mem_cons.mpr ⟨mw_3_15, List.forall_mem_cons.mpr ⟨mw_3_17, List.forall_mem_cons.mpr ⟨mw_3_19, List.forall_mem_cons.mpr ⟨mw_3_21, List.forall_mem_cons.mpr ⟨mw_3_23, List.forall_mem_cons.mpr ⟨mw_3_25, List.forall_mem_cons.mpr ⟨mw_3_27, List.forall_mem_cons.mpr ⟨mw_3_29, List.forall_mem_cons.mpr ⟨mw_3_31, List.forall_mem_cons.mpr ⟨mw_3_33, List.forall_mem_cons.mpr ⟨mw_3_35, fun _ h => absurd h List.not_mem_nil⟩⟩⟩⟩⟩⟩⟩⟩⟩⟩⟩⟩
/-- a method: name, code, locals, return type -/
abbrev ch_D : Type := MethodName × ByteArray × Nat × Option FieldType

/-- what a call's words are: the callee's code is in the tables, its class is ready, how many arguments it has -/
def ch_ok (M2 : ch_D) (na : Nat) : Prop := Cond.code M2.1 M2.2.1 M2.2.2.1 M2.2.2.2 ∈ ch_tb ∧ Cond.initialized M2.1.cls ∈ ch_tb ∧ (M2.1.cls ≠ "java/lang/invoke/MethodHandle" ∧ M2.1.cls ≠ "java/lang/invoke/VarHandle") ∧ (parseMethodDescriptor M2.1.desc).map (fun d => d.parameters.length) = some na
abbrev M_X11_init : ch_D := (yX11_init, cX11_init, 1, none)
theorem ok_X11_init : ch_ok M_X11_init 0 := ⟨mw_1_19, mw_1_1, by decide +kernel, by decide +kernel⟩
abbrev M_X10_init : ch_D := (yX10_init, cX10_init, 1, none)
theorem ok_X10_init : ch_ok M_X10_init 0 := ⟨mw_1_29, mw_1_2, by decide +kernel, by decide +kernel⟩
abbrev M_X3_init : ch_D := (yX3_init, cX3_init, 1, none)
theorem ok_X3_init : ch_ok M_X3_init 0 := ⟨mw_1_36, mw_1_3, by decide +kernel, by decide +kernel⟩
abbrev M_X7_init : ch_D := (yX7_init, cX7_init, 1, none)
theorem ok_X7_init : ch_ok M_X7_init 0 := ⟨mw_1_81, mw_1_4, by decide +kernel, by decide +kernel⟩
abbrev M_X11_size : ch_D := (yX11_size, cX11_size, 2, (Option.some FieldType.int))
theorem ok_X11_size : ch_ok M_X11_size 1 := ⟨mw_1_115, mw_1_1, by decide +kernel, by decide +kernel⟩
abbrev M_X11_solid : ch_D := (yX11_solid, cX11_solid, 3, (Option.some FieldType.int))
theorem ok_X11_solid : ch_ok M_X11_solid 1 := ⟨mw_1_119, mw_1_1, by decide +kernel, by decide +kernel⟩
abbrev M_X11_useUpSizes : ch_D := (yX11_useUpSizes, cX11_useUpSizes, 2, (Option.some FieldType.int))
theorem ok_X11_useUpSizes : ch_ok M_X11_useUpSizes 0 := ⟨mw_1_123, mw_1_1, by decide +kernel, by decide +kernel⟩
abbrev M_X11_sizesNeeded : ch_D := (yX11_sizesNeeded, cX11_sizesNeeded, 1, (Option.some FieldType.int))
theorem ok_X11_sizesNeeded : ch_ok M_X11_sizesNeeded 1 := ⟨mw_1_126, mw_1_1, by decide +kernel, by decide +kernel⟩
abbrev M_X11_radiusOf : ch_D := (yX11_radiusOf, cX11_radiusOf, 2, (Option.some FieldType.int))
theorem ok_X11_radiusOf : ch_ok M_X11_radiusOf 1 := ⟨mw_1_130, mw_1_1, by decide +kernel, by decide +kernel⟩
abbrev M_X11_isFull : ch_D := (yX11_isFull, cX11_isFull, 1, (Option.some FieldType.boolean))
theorem ok_X11_isFull : ch_ok M_X11_isFull 0 := ⟨mw_1_134, mw_1_1, by decide +kernel, by decide +kernel⟩
abbrev M_X11_newShape : ch_D := (yX11_newShape, cX11_newShape, 2, (Option.some (FieldType.object "SpanSolids$Solid")))
theorem ok_X11_newShape : ch_ok M_X11_newShape 1 := ⟨mw_1_138, mw_1_1, by decide +kernel, by decide +kernel⟩
abbrev M_X1_init : ch_D := (yX1_init, cX1_init, 7, none)
theorem ok_X1_init : ch_ok M_X1_init 6 := ⟨mw_1_143, mw_1_7, by decide +kernel, by decide +kernel⟩
abbrev M_X8_init : ch_D := (yX8_init, cX8_init, 2, none)
theorem ok_X8_init : ch_ok M_X8_init 1 := ⟨mw_1_146, mw_1_6, by decide +kernel, by decide +kernel⟩
abbrev M_X6_init : ch_D := (yX6_init, cX6_init, 6, none)
theorem ok_X6_init : ch_ok M_X6_init 5 := ⟨mw_1_178, mw_1_8, by decide +kernel, by decide +kernel⟩
abbrev M_X0_init : ch_D := (yX0_init, cX0_init, 5, none)
theorem ok_X0_init : ch_ok M_X0_init 4 := ⟨mw_1_201, mw_1_9, by decide +kernel, by decide +kernel⟩
abbrev M_X2_init : ch_D := (yX2_init, cX2_init, 6, none)
theorem ok_X2_init : ch_ok M_X2_init 5 := ⟨mw_1_221, mw_1_10, by decide +kernel, by decide +kernel⟩
abbrev M_X11_keep : ch_D := (yX11_keep, cX11_keep, 2, (Option.some FieldType.int))
theorem ok_X11_keep : ch_ok M_X11_keep 1 := ⟨mw_2_3, mw_1_1, by decide +kernel, by decide +kernel⟩
abbrev M_X11_join : ch_D := (yX11_join, cX11_join, 6, (Option.some FieldType.int))
theorem ok_X11_join : ch_ok M_X11_join 3 := ⟨mw_2_7, mw_1_1, by decide +kernel, by decide +kernel⟩
abbrev M_X11_find : ch_D := (yX11_find, cX11_find, 2, (Option.some (FieldType.object "SpanSolids$Solid")))
theorem ok_X11_find : ch_ok M_X11_find 1 := ⟨mw_2_11, mw_1_1, by decide +kernel, by decide +kernel⟩
abbrev M_X4_init : ch_D := (yX4_init, cX4_init, 4, none)
theorem ok_X4_init : ch_ok M_X4_init 3 := ⟨mw_2_16, mw_1_11, by decide +kernel, by decide +kernel⟩
abbrev M_X11_moved : ch_D := (yX11_moved, cX11_moved, 4, (Option.some FieldType.int))
theorem ok_X11_moved : ch_ok M_X11_moved 1 := ⟨mw_2_32, mw_1_1, by decide +kernel, by decide +kernel⟩
abbrev M_X5_init : ch_D := (yX5_init, cX5_init, 5, none)
theorem ok_X5_init : ch_ok M_X5_init 4 := ⟨mw_2_37, mw_1_12, by decide +kernel, by decide +kernel⟩
abbrev M_X11_turned : ch_D := (yX11_turned, cX11_turned, 3, (Option.some FieldType.int))
theorem ok_X11_turned : ch_ok M_X11_turned 1 := ⟨mw_2_56, mw_1_1, by decide +kernel, by decide +kernel⟩
abbrev M_X9_init : ch_D := (yX9_init, cX9_init, 2, none)
theorem ok_X9_init : ch_ok M_X9_init 1 := ⟨mw_2_61, mw_1_13, by decide +kernel, by decide +kernel⟩
abbrev M_X11_weight : ch_D := (yX11_weight, cX11_weight, 3, (Option.some FieldType.int))
theorem ok_X11_weight : ch_ok M_X11_weight 1 := ⟨mw_2_71, mw_1_1, by decide +kernel, by decide +kernel⟩
abbrev M_X11_inside : ch_D := (yX11_inside, cX11_inside, 6, (Option.some FieldType.boolean))
theorem ok_X11_inside : ch_ok M_X11_inside 4 := ⟨mw_2_75, mw_1_1, by decide +kernel, by decide +kernel⟩
abbrev M_X11_isBeyond : ch_D := (yX11_isBeyond, cX11_isBeyond, 1, (Option.some FieldType.boolean))
theorem ok_X11_isBeyond : ch_ok M_X11_isBeyond 1 := ⟨mw_2_78, mw_1_1, by decide +kernel, by decide +kernel⟩
abbrev M_X11_lookOver : ch_D := (yX11_lookOver, cX11_lookOver, 5, none)
theorem ok_X11_lookOver : ch_ok M_X11_lookOver 4 := ⟨mw_2_84, mw_1_1, by decide +kernel, by decide +kernel⟩
abbrev M_X7_clear : ch_D := (yX7_clear, cX7_clear, 1, none)
theorem ok_X7_clear : ch_ok M_X7_clear 0 := ⟨mw_2_88, mw_1_4, by decide +kernel, by decide +kernel⟩
abbrev M_X10_over : ch_D := (yX10_over, cX10_over, 6, none)
theorem ok_X10_over : ch_ok M_X10_over 4 := ⟨mw_2_92, mw_1_2, by decide +kernel, by decide +kernel⟩
abbrev M_X3_clear : ch_D := (yX3_clear, cX3_clear, 1, none)
theorem ok_X3_clear : ch_ok M_X3_clear 0 := ⟨mw_2_96, mw_1_3, by decide +kernel, by decide +kernel⟩
abbrev M_X10_await : ch_D := (yX10_await, cX10_await, 5, none)
theorem ok_X10_await : ch_ok M_X10_await 4 := ⟨mw_2_100, mw_1_2, by decide +kernel, by decide +kernel⟩
abbrev M_X10_lookAt : ch_D := (yX10_lookAt, cX10_lookAt, 3, none)
theorem ok_X10_lookAt : ch_ok M_X10_lookAt 1 := ⟨mw_2_104, mw_1_2, by decide +kernel, by decide +kernel⟩
abbrev M_X3_joinNewest : ch_D := (yX3_joinNewest, cX3_joinNewest, 5, none)
theorem ok_X3_joinNewest : ch_ok M_X3_joinNewest 1 := ⟨mw_2_108, mw_1_3, by decide +kernel, by decide +kernel⟩
abbrev M_X3_mix : ch_D := (yX3_mix, cX3_mix, 12, (Option.some FieldType.int))
theorem ok_X3_mix : ch_ok M_X3_mix 3 := ⟨mw_2_112, mw_1_3, by decide +kernel, by decide +kernel⟩
abbrev M_X3_nextEdge : ch_D := (yX3_nextEdge, cX3_nextEdge, 4, (Option.some FieldType.int))
theorem ok_X3_nextEdge : ch_ok M_X3_nextEdge 3 := ⟨mw_2_116, mw_1_3, by decide +kernel, by decide +kernel⟩
abbrev M_X3_isJoined : ch_D := (yX3_isJoined, cX3_isJoined, 3, (Option.some FieldType.boolean))
theorem ok_X3_isJoined : ch_ok M_X3_isJoined 3 := ⟨mw_2_119, mw_1_3, by decide +kernel, by decide +kernel⟩
abbrev M_X0_lookFrom : ch_D := (yX0_lookFrom, cX0_lookFrom, 8, none)
theorem ok_X0_lookFrom : ch_ok M_X0_lookFrom 4 := ⟨mw_2_125, mw_1_9, by decide +kernel, by decide +kernel⟩
abbrev M_X11_square : ch_D := (yX11_square, cX11_square, 2, (Option.some FieldType.long))
theorem ok_X11_square : ch_ok M_X11_square 1 := ⟨mw_2_128, mw_1_1, by decide +kernel, by decide +kernel⟩
abbrev M_X10_giveNone : ch_D := (yX10_giveNone, cX10_giveNone, 1, none)
theorem ok_X10_giveNone : ch_ok M_X10_giveNone 0 := ⟨mw_2_132, mw_1_2, by decide +kernel, by decide +kernel⟩
abbrev M_X3_add : ch_D := (yX3_add, cX3_add, 3, none)
theorem ok_X3_add : ch_ok M_X3_add 2 := ⟨mw_2_136, mw_1_3, by decide +kernel, by decide +kernel⟩
abbrev M_X11_rootBelow : ch_D := (yX11_rootBelow, cX11_rootBelow, 7, (Option.some FieldType.int))
theorem ok_X11_rootBelow : ch_ok M_X11_rootBelow 2 := ⟨mw_2_139, mw_1_1, by decide +kernel, by decide +kernel⟩
abbrev M_X10_give : ch_D := (yX10_give, cX10_give, 3, none)
theorem ok_X10_give : ch_ok M_X10_give 2 := ⟨mw_2_144, mw_1_2, by decide +kernel, by decide +kernel⟩
abbrev M_X1_lookFrom : ch_D := (yX1_lookFrom, cX1_lookFrom, 5, none)
theorem ok_X1_lookFrom : ch_ok M_X1_lookFrom 4 := ⟨mw_2_147, mw_1_7, by decide +kernel, by decide +kernel⟩
abbrev M_X2_lookFrom : ch_D := (yX2_lookFrom, cX2_lookFrom, 7, none)
theorem ok_X2_lookFrom : ch_ok M_X2_lookFrom 4 := ⟨mw_2_152, mw_1_10, by decide +kernel, by decide +kernel⟩
abbrev M_X2_leastDepth : ch_D := (yX2_leastDepth, cX2_leastDepth, 9, (Option.some FieldType.int))
theorem ok_X2_leastDepth : ch_ok M_X2_leastDepth 1 := ⟨mw_2_158, mw_1_10, by decide +kernel, by decide +kernel⟩
abbrev M_X4_lookFrom : ch_D := (yX4_lookFrom, cX4_lookFrom, 5, none)
theorem ok_X4_lookFrom : ch_ok M_X4_lookFrom 4 := ⟨mw_2_162, mw_1_11, by decide +kernel, by decide +kernel⟩
abbrev M_X10_awaitJoin : ch_D := (yX10_awaitJoin, cX10_awaitJoin, 2, none)
theorem ok_X10_awaitJoin : ch_ok M_X10_awaitJoin 1 := ⟨mw_2_166, mw_1_2, by decide +kernel, by decide +kernel⟩
abbrev M_X5_lookFrom : ch_D := (yX5_lookFrom, cX5_lookFrom, 5, none)
theorem ok_X5_lookFrom : ch_ok M_X5_lookFrom 4 := ⟨mw_2_170, mw_1_12, by decide +kernel, by decide +kernel⟩
abbrev M_X6_lookFrom : ch_D := (yX6_lookFrom, cX6_lookFrom, 5, none)
theorem ok_X6_lookFrom : ch_ok M_X6_lookFrom 4 := ⟨mw_2_174, mw_1_8, by decide +kernel, by decide +kernel⟩
abbrev M_X9_lookFrom : ch_D := (yX9_lookFrom, cX9_lookFrom, 5, none)
theorem ok_X9_lookFrom : ch_ok M_X9_lookFrom 4 := ⟨mw_2_180, mw_1_13, by decide +kernel, by decide +kernel⟩
abbrev M_X3_copyTo : ch_D := (yX3_copyTo, cX3_copyTo, 2, none)
theorem ok_X3_copyTo : ch_ok M_X3_copyTo 1 := ⟨mw_2_185, mw_1_3, by decide +kernel, by decide +kernel⟩
abbrev M_X7_copyFrom : ch_D := (yX7_copyFrom, cX7_copyFrom, 4, none)
theorem ok_X7_copyFrom : ch_ok M_X7_copyFrom 2 := ⟨mw_2_189, mw_1_4, by decide +kernel, by decide +kernel⟩
abbrev M_J9_min_7cf53 : ch_D := (yJ9_min_7cf53, cJ9_min_7cf53, 2, (Option.some FieldType.int))
theorem ok_J9_min_7cf53 : ch_ok M_J9_min_7cf53 2 := ⟨mw_2_192, mw_1_14, by decide +kernel, by decide +kernel⟩
abbrev M_X7_countFrom : ch_D := (yX7_countFrom, cX7_countFrom, 10, (Option.some FieldType.long))
theorem ok_X7_countFrom : ch_ok M_X7_countFrom 2 := ⟨mw_2_196, mw_1_4, by decide +kernel, by decide +kernel⟩
abbrev M_X7_runCount : ch_D := (yX7_runCount, cX7_runCount, 1, (Option.some FieldType.int))
theorem ok_X7_runCount : ch_ok M_X7_runCount 0 := ⟨mw_2_200, mw_1_4, by decide +kernel, by decide +kernel⟩
abbrev M_X7_firstOf : ch_D := (yX7_firstOf, cX7_firstOf, 2, (Option.some FieldType.int))
theorem ok_X7_firstOf : ch_ok M_X7_firstOf 1 := ⟨mw_2_204, mw_1_4, by decide +kernel, by decide +kernel⟩
abbrev M_J9_max_7cf53 : ch_D := (yJ9_max_7cf53, cJ9_max_7cf53, 2, (Option.some FieldType.int))
theorem ok_J9_max_7cf53 : ch_ok M_J9_max_7cf53 2 := ⟨mw_2_207, mw_1_14, by decide +kernel, by decide +kernel⟩
abbrev M_X7_lastOf : ch_D := (yX7_lastOf, cX7_lastOf, 2, (Option.some FieldType.int))
theorem ok_X7_lastOf : ch_ok M_X7_lastOf 1 := ⟨mw_2_211, mw_1_4, by decide +kernel, by decide +kernel⟩
abbrev M_X11_top : ch_D := (yX11_top, cX11_top, 5, (Option.some FieldType.int))
theorem ok_X11_top : ch_ok M_X11_top 3 := ⟨mw_2_215, mw_1_1, by decide +kernel, by decide +kernel⟩
abbrev M_X7_afterGreatest : ch_D := (yX7_afterGreatest, cX7_afterGreatest, 4, (Option.some FieldType.int))
theorem ok_X7_afterGreatest : ch_ok M_X7_afterGreatest 0 := ⟨mw_2_219, mw_1_4, by decide +kernel, by decide +kernel⟩
abbrev M_X11_spans : ch_D := (yX11_spans, cX11_spans, 5, (Option.some FieldType.int))
theorem ok_X11_spans : ch_ok M_X11_spans 3 := ⟨mw_2_223, mw_1_1, by decide +kernel, by decide +kernel⟩
abbrev M_X11_span : ch_D := (yX11_span, cX11_span, 3, (Option.some FieldType.int))
theorem ok_X11_span : ch_ok M_X11_span 2 := ⟨mw_2_228, mw_1_1, by decide +kernel, by decide +kernel⟩
abbrev M_X11_within : ch_D := (yX11_within, cX11_within, 3, (Option.some FieldType.long))
theorem ok_X11_within : ch_ok M_X11_within 2 := ⟨mw_2_234, mw_1_1, by decide +kernel, by decide +kernel⟩
abbrev M_X12_init : ch_D := (yX12_init, cX12_init, 1, none)
theorem ok_X12_init : ch_ok M_X12_init 0 := ⟨mw_2_239, mw_1_5, by decide +kernel, by decide +kernel⟩
abbrev M_X12_size : ch_D := (yX12_size, cX12_size, 2, (Option.some FieldType.int))
theorem ok_X12_size : ch_ok M_X12_size 1 := ⟨mw_3_42, mw_1_5, by decide +kernel, by decide +kernel⟩
abbrev M_X12_solid : ch_D := (yX12_solid, cX12_solid, 4, (Option.some FieldType.int))
theorem ok_X12_solid : ch_ok M_X12_solid 1 := ⟨mw_3_46, mw_1_5, by decide +kernel, by decide +kernel⟩
abbrev M_X12_made : ch_D := (yX12_made, cX12_made, 4, (Option.some FieldType.int))
theorem ok_X12_made : ch_ok M_X12_made 2 := ⟨mw_3_50, mw_1_5, by decide +kernel, by decide +kernel⟩
abbrev M_X12_join : ch_D := (yX12_join, cX12_join, 5, (Option.some FieldType.int))
theorem ok_X12_join : ch_ok M_X12_join 3 := ⟨mw_3_54, mw_1_5, by decide +kernel, by decide +kernel⟩
abbrev M_X12_isSolid : ch_D := (yX12_isSolid, cX12_isSolid, 2, (Option.some FieldType.boolean))
theorem ok_X12_isSolid : ch_ok M_X12_isSolid 1 := ⟨mw_3_58, mw_1_5, by decide +kernel, by decide +kernel⟩
abbrev M_X12_moved : ch_D := (yX12_moved, cX12_moved, 4, (Option.some FieldType.int))
theorem ok_X12_moved : ch_ok M_X12_moved 1 := ⟨mw_3_62, mw_1_5, by decide +kernel, by decide +kernel⟩
abbrev M_X12_turned : ch_D := (yX12_turned, cX12_turned, 3, (Option.some FieldType.int))
theorem ok_X12_turned : ch_ok M_X12_turned 1 := ⟨mw_3_66, mw_1_5, by decide +kernel, by decide +kernel⟩
abbrev M_X12_inside : ch_D := (yX12_inside, cX12_inside, 5, (Option.some FieldType.boolean))
theorem ok_X12_inside : ch_ok M_X12_inside 4 := ⟨mw_3_70, mw_1_5, by decide +kernel, by decide +kernel⟩
abbrev M_X12_isNear : ch_D := (yX12_isNear, cX12_isNear, 1, (Option.some FieldType.boolean))
theorem ok_X12_isNear : ch_ok M_X12_isNear 1 := ⟨mw_3_73, mw_1_5, by decide +kernel, by decide +kernel⟩
abbrev M_X12_isIn : ch_D := (yX12_isIn, cX12_isIn, 10, (Option.some FieldType.boolean))
theorem ok_X12_isIn : ch_ok M_X12_isIn 4 := ⟨mw_3_79, mw_1_5, by decide +kernel, by decide +kernel⟩
abbrev M_X12_number : ch_D := (yX12_number, cX12_number, 3, (Option.some FieldType.int))
theorem ok_X12_number : ch_ok M_X12_number 2 := ⟨mw_3_83, mw_1_5, by decide +kernel, by decide +kernel⟩
abbrev M_X12_isInKind : ch_D := (yX12_isInKind, cX12_isInKind, 12, (Option.some FieldType.boolean))
theorem ok_X12_isInKind : ch_ok M_X12_isInKind 4 := ⟨mw_3_87, mw_1_5, by decide +kernel, by decide +kernel⟩
abbrev M_X12_square : ch_D := (yX12_square, cX12_square, 2, (Option.some FieldType.long))
theorem ok_X12_square : ch_ok M_X12_square 1 := ⟨mw_3_90, mw_1_5, by decide +kernel, by decide +kernel⟩
abbrev M_X12_top : ch_D := (yX12_top, cX12_top, 4, (Option.some FieldType.int))
theorem ok_X12_top : ch_ok M_X12_top 3 := ⟨mw_3_94, mw_1_5, by decide +kernel, by decide +kernel⟩
abbrev M_X12_topOf : ch_D := (yX12_topOf, cX12_topOf, 5, (Option.some FieldType.int))
theorem ok_X12_topOf : ch_ok M_X12_topOf 3 := ⟨mw_3_98, mw_1_5, by decide +kernel, by decide +kernel⟩
abbrev M_X12_rise : ch_D := (yX12_rise, cX12_rise, 14, none)
theorem ok_X12_rise : ch_ok M_X12_rise 5 := ⟨mw_3_102, mw_1_5, by decide +kernel, by decide +kernel⟩
abbrev M_X12_weight : ch_D := (yX12_weight, cX12_weight, 2, (Option.some FieldType.int))
theorem ok_X12_weight : ch_ok M_X12_weight 1 := ⟨mw_3_107, mw_1_5, by decide +kernel, by decide +kernel⟩
abbrev M_X12_spans : ch_D := (yX12_spans, cX12_spans, 7, (Option.some FieldType.int))
theorem ok_X12_spans : ch_ok M_X12_spans 3 := ⟨mw_3_111, mw_1_5, by decide +kernel, by decide +kernel⟩
abbrev M_X12_ends : ch_D := (yX12_ends, cX12_ends, 12, none)
theorem ok_X12_ends : ch_ok M_X12_ends 4 := ⟨mw_3_115, mw_1_5, by decide +kernel, by decide +kernel⟩
abbrev M_X12_last : ch_D := (yX12_last, cX12_last, 14, (Option.some FieldType.long))
theorem ok_X12_last : ch_ok M_X12_last 4 := ⟨mw_3_119, mw_1_5, by decide +kernel, by decide +kernel⟩
abbrev M_X12_height : ch_D := (yX12_height, cX12_height, 3, none)
theorem ok_X12_height : ch_ok M_X12_height 1 := ⟨mw_3_125, mw_1_5, by decide +kernel, by decide +kernel⟩
abbrev M_X12_sort : ch_D := (yX12_sort, cX12_sort, 5, none)
theorem ok_X12_sort : ch_ok M_X12_sort 0 := ⟨mw_3_129, mw_1_5, by decide +kernel, by decide +kernel⟩
abbrev M_X12_span : ch_D := (yX12_span, cX12_span, 3, (Option.some FieldType.int))
theorem ok_X12_span : ch_ok M_X12_span 2 := ⟨mw_3_133, mw_1_5, by decide +kernel, by decide +kernel⟩
abbrev M_X12_within : ch_D := (yX12_within, cX12_within, 10, (Option.some FieldType.long))
theorem ok_X12_within : ch_ok M_X12_within 2 := ⟨mw_3_137, mw_1_5, by decide +kernel, by decide +kernel⟩
abbrev M_J9_max_f86c9 : ch_D := (yJ9_max_f86c9, cJ9_max_f86c9, 4, (Option.some FieldType.long))
theorem ok_J9_max_f86c9 : ch_ok M_J9_max_f86c9 2 := ⟨mw_3_140, mw_1_14, by decide +kernel, by decide +kernel⟩
abbrev M_J9_min_f86c9 : ch_D := (yJ9_min_f86c9, cJ9_min_f86c9, 4, (Option.some FieldType.long))
theorem ok_J9_min_f86c9 : ch_ok M_J9_min_f86c9 2 := ⟨mw_3_143, mw_1_14, by decide +kernel, by decide +kernel⟩
end
section
theorem dX0_init_0 : decode cX0_init 0 = .ok (.aload_n 0, 1) := by decide +kernel
theorem dX0_init_1 : decode cX0_init 1 = .ok (.iconst 1, 1) := by decide +kernel
theorem dX0_init_2 : decode cX0_init 2 = .ok (.invokespecial 1, 3) := by decide +kernel
theorem dX0_init_5 : decode cX0_init 5 = .ok (.aload_n 0, 1) := by decide +kernel
theorem dX0_init_6 : decode cX0_init 6 = .ok (.iload_n 1, 1) := by decide +kernel
theorem dX0_init_7 : decode cX0_init 7 = .ok (.putfield 7, 3) := by decide +kernel
theorem dX0_init_10 : decode cX0_init 10 = .ok (.aload_n 0, 1) := by decide +kernel
theorem dX0_init_11 : decode cX0_init 11 = .ok (.iload_n 2, 1) := by decide +kernel
theorem dX0_init_12 : decode cX0_init 12 = .ok (.putfield 13, 3) := by decide +kernel
theorem dX0_init_15 : decode cX0_init 15 = .ok (.aload_n 0, 1) := by decide +kernel
theorem dX0_init_16 : decode cX0_init 16 = .ok (.iload_n 3, 1) := by decide +kernel
theorem dX0_init_17 : decode cX0_init 17 = .ok (.putfield 16, 3) := by decide +kernel
theorem dX0_init_20 : decode cX0_init 20 = .ok (.aload_n 0, 1) := by decide +kernel
theorem dX0_init_21 : decode cX0_init 21 = .ok (.iload 4, 2) := by decide +kernel
theorem dX0_init_23 : decode cX0_init 23 = .ok (.putfield 19, 3) := by decide +kernel
theorem dX0_init_26 : decode cX0_init 26 = .ok (.return_, 1) := by decide +kernel
theorem dX0_lookFrom_0 : decode cX0_lookFrom 0 = .ok (.aload_n 0, 1) := by decide +kernel
theorem dX0_lookFrom_1 : decode cX0_lookFrom 1 = .ok (.getfield 19, 3) := by decide +kernel
theorem dX0_lookFrom_4 : decode cX0_lookFrom 4 = .ok (.i2l, 1) := by decide +kernel
theorem dX0_lookFrom_5 : decode cX0_lookFrom 5 = .ok (.invokestatic 22, 3) := by decide +kernel
theorem dX0_lookFrom_8 : decode cX0_lookFrom 8 = .ok (.iload_n 1, 1) := by decide +kernel
theorem dX0_lookFrom_9 : decode cX0_lookFrom 9 = .ok (.aload_n 0, 1) := by decide +kernel
theorem dX0_lookFrom_10 : decode cX0_lookFrom 10 = .ok (.getfield 7, 3) := by decide +kernel
theorem dX0_lookFrom_13 : decode cX0_lookFrom 13 = .ok (.isub, 1) := by decide +kernel
theorem dX0_lookFrom_14 : decode cX0_lookFrom 14 = .ok (.i2l, 1) := by decide +kernel
theorem dX0_lookFrom_15 : decode cX0_lookFrom 15 = .ok (.invokestatic 22, 3) := by decide +kernel
theorem dX0_lookFrom_18 : decode cX0_lookFrom 18 = .ok (.lsub, 1) := by decide +kernel
theorem dX0_lookFrom_19 : decode cX0_lookFrom 19 = .ok (.iload_n 2, 1) := by decide +kernel
theorem dX0_lookFrom_20 : decode cX0_lookFrom 20 = .ok (.aload_n 0, 1) := by decide +kernel
theorem dX0_lookFrom_21 : decode cX0_lookFrom 21 = .ok (.getfield 13, 3) := by decide +kernel
theorem dX0_lookFrom_24 : decode cX0_lookFrom 24 = .ok (.isub, 1) := by decide +kernel
theorem dX0_lookFrom_25 : decode cX0_lookFrom 25 = .ok (.i2l, 1) := by decide +kernel
theorem dX0_lookFrom_26 : decode cX0_lookFrom 26 = .ok (.invokestatic 22, 3) := by decide +kernel
theorem dX0_lookFrom_29 : decode cX0_lookFrom 29 = .ok (.lsub, 1) := by decide +kernel
theorem dX0_lookFrom_30 : decode cX0_lookFrom 30 = .ok (.lstore 5, 2) := by decide +kernel
theorem dX0_lookFrom_32 : decode cX0_lookFrom 32 = .ok (.lload 5, 2) := by decide +kernel
theorem dX0_lookFrom_34 : decode cX0_lookFrom 34 = .ok (.lconst 0, 1) := by decide +kernel
theorem dX0_lookFrom_35 : decode cX0_lookFrom 35 = .ok (.lcmp, 1) := by decide +kernel
theorem dX0_lookFrom_36 : decode cX0_lookFrom 36 = .ok (.ifCond .ge 11, 3) := by decide +kernel
theorem dX0_lookFrom_39 : decode cX0_lookFrom 39 = .ok (.aload 4, 2) := by decide +kernel
theorem dX0_lookFrom_41 : decode cX0_lookFrom 41 = .ok (.invokevirtual 28, 3) := by decide +kernel
theorem dX0_lookFrom_44 : decode cX0_lookFrom 44 = .ok (.goto 39, 3) := by decide +kernel
theorem dX0_lookFrom_47 : decode cX0_lookFrom 47 = .ok (.lload 5, 2) := by decide +kernel
theorem dX0_lookFrom_49 : decode cX0_lookFrom 49 = .ok (.aload_n 0, 1) := by decide +kernel
theorem dX0_lookFrom_50 : decode cX0_lookFrom 50 = .ok (.getfield 19, 3) := by decide +kernel
theorem dX0_lookFrom_53 : decode cX0_lookFrom 53 = .ok (.invokestatic 34, 3) := by decide +kernel
theorem dX0_lookFrom_56 : decode cX0_lookFrom 56 = .ok (.istore 7, 2) := by decide +kernel
theorem dX0_lookFrom_58 : decode cX0_lookFrom 58 = .ok (.aload 4, 2) := by decide +kernel
theorem dX0_lookFrom_60 : decode cX0_lookFrom 60 = .ok (.aload_n 0, 1) := by decide +kernel
theorem dX0_lookFrom_61 : decode cX0_lookFrom 61 = .ok (.getfield 16, 3) := by decide +kernel
theorem dX0_lookFrom_64 : decode cX0_lookFrom 64 = .ok (.iload 7, 2) := by decide +kernel
theorem dX0_lookFrom_66 : decode cX0_lookFrom 66 = .ok (.isub, 1) := by decide +kernel
theorem dX0_lookFrom_67 : decode cX0_lookFrom 67 = .ok (.iload_n 3, 1) := by decide +kernel
theorem dX0_lookFrom_68 : decode cX0_lookFrom 68 = .ok (.iadd, 1) := by decide +kernel
theorem dX0_lookFrom_69 : decode cX0_lookFrom 69 = .ok (.aload_n 0, 1) := by decide +kernel
theorem dX0_lookFrom_70 : decode cX0_lookFrom 70 = .ok (.getfield 16, 3) := by decide +kernel
theorem dX0_lookFrom_73 : decode cX0_lookFrom 73 = .ok (.iload 7, 2) := by decide +kernel
theorem dX0_lookFrom_75 : decode cX0_lookFrom 75 = .ok (.iadd, 1) := by decide +kernel
theorem dX0_lookFrom_76 : decode cX0_lookFrom 76 = .ok (.iconst 1, 1) := by decide +kernel
theorem dX0_lookFrom_77 : decode cX0_lookFrom 77 = .ok (.iadd, 1) := by decide +kernel
theorem dX0_lookFrom_78 : decode cX0_lookFrom 78 = .ok (.iload_n 3, 1) := by decide +kernel
theorem dX0_lookFrom_79 : decode cX0_lookFrom 79 = .ok (.iadd, 1) := by decide +kernel
theorem dX0_lookFrom_80 : decode cX0_lookFrom 80 = .ok (.invokevirtual 38, 3) := by decide +kernel
theorem dX0_lookFrom_83 : decode cX0_lookFrom 83 = .ok (.return_, 1) := by decide +kernel
theorem dX1_init_0 : decode cX1_init 0 = .ok (.aload_n 0, 1) := by decide +kernel
theorem dX1_init_1 : decode cX1_init 1 = .ok (.iconst 1, 1) := by decide +kernel
theorem dX1_init_2 : decode cX1_init 2 = .ok (.invokespecial 1, 3) := by decide +kernel
theorem dX1_init_5 : decode cX1_init 5 = .ok (.aload_n 0, 1) := by decide +kernel
theorem dX1_init_6 : decode cX1_init 6 = .ok (.iload_n 1, 1) := by decide +kernel
theorem dX1_init_7 : decode cX1_init 7 = .ok (.putfield 7, 3) := by decide +kernel
theorem dX1_init_10 : decode cX1_init 10 = .ok (.aload_n 0, 1) := by decide +kernel
theorem dX1_init_11 : decode cX1_init 11 = .ok (.iload_n 2, 1) := by decide +kernel
theorem dX1_init_12 : decode cX1_init 12 = .ok (.putfield 13, 3) := by decide +kernel
theorem dX1_init_15 : decode cX1_init 15 = .ok (.aload_n 0, 1) := by decide +kernel
theorem dX1_init_16 : decode cX1_init 16 = .ok (.iload_n 3, 1) := by decide +kernel
theorem dX1_init_17 : decode cX1_init 17 = .ok (.putfield 16, 3) := by decide +kernel
theorem dX1_init_20 : decode cX1_init 20 = .ok (.aload_n 0, 1) := by decide +kernel
theorem dX1_init_21 : decode cX1_init 21 = .ok (.iload 4, 2) := by decide +kernel
theorem dX1_init_23 : decode cX1_init 23 = .ok (.putfield 19, 3) := by decide +kernel
theorem dX1_init_26 : decode cX1_init 26 = .ok (.aload_n 0, 1) := by decide +kernel
theorem dX1_init_27 : decode cX1_init 27 = .ok (.iload 5, 2) := by decide +kernel
theorem dX1_init_29 : decode cX1_init 29 = .ok (.putfield 22, 3) := by decide +kernel
theorem dX1_init_32 : decode cX1_init 32 = .ok (.aload_n 0, 1) := by decide +kernel
theorem dX1_init_33 : decode cX1_init 33 = .ok (.iload 6, 2) := by decide +kernel
theorem dX1_init_35 : decode cX1_init 35 = .ok (.putfield 25, 3) := by decide +kernel
theorem dX1_init_38 : decode cX1_init 38 = .ok (.return_, 1) := by decide +kernel
theorem dX1_lookFrom_0 : decode cX1_lookFrom 0 = .ok (.aload_n 0, 1) := by decide +kernel
theorem dX1_lookFrom_1 : decode cX1_lookFrom 1 = .ok (.getfield 7, 3) := by decide +kernel
theorem dX1_lookFrom_4 : decode cX1_lookFrom 4 = .ok (.iload_n 1, 1) := by decide +kernel
theorem dX1_lookFrom_5 : decode cX1_lookFrom 5 = .ok (.if_icmp .gt 47, 3) := by decide +kernel
theorem dX1_lookFrom_8 : decode cX1_lookFrom 8 = .ok (.iload_n 1, 1) := by decide +kernel
theorem dX1_lookFrom_9 : decode cX1_lookFrom 9 = .ok (.aload_n 0, 1) := by decide +kernel
theorem dX1_lookFrom_10 : decode cX1_lookFrom 10 = .ok (.getfield 19, 3) := by decide +kernel
theorem dX1_lookFrom_13 : decode cX1_lookFrom 13 = .ok (.if_icmp .ge 39, 3) := by decide +kernel
theorem dX1_lookFrom_16 : decode cX1_lookFrom 16 = .ok (.aload_n 0, 1) := by decide +kernel
theorem dX1_lookFrom_17 : decode cX1_lookFrom 17 = .ok (.getfield 13, 3) := by decide +kernel
theorem dX1_lookFrom_20 : decode cX1_lookFrom 20 = .ok (.iload_n 2, 1) := by decide +kernel
theorem dX1_lookFrom_21 : decode cX1_lookFrom 21 = .ok (.if_icmp .gt 31, 3) := by decide +kernel
theorem dX1_lookFrom_24 : decode cX1_lookFrom 24 = .ok (.iload_n 2, 1) := by decide +kernel
theorem dX1_lookFrom_25 : decode cX1_lookFrom 25 = .ok (.aload_n 0, 1) := by decide +kernel
theorem dX1_lookFrom_26 : decode cX1_lookFrom 26 = .ok (.getfield 22, 3) := by decide +kernel
theorem dX1_lookFrom_29 : decode cX1_lookFrom 29 = .ok (.if_icmp .ge 23, 3) := by decide +kernel
theorem dX1_lookFrom_32 : decode cX1_lookFrom 32 = .ok (.aload 4, 2) := by decide +kernel
theorem dX1_lookFrom_34 : decode cX1_lookFrom 34 = .ok (.aload_n 0, 1) := by decide +kernel
theorem dX1_lookFrom_35 : decode cX1_lookFrom 35 = .ok (.getfield 16, 3) := by decide +kernel
theorem dX1_lookFrom_38 : decode cX1_lookFrom 38 = .ok (.iload_n 3, 1) := by decide +kernel
theorem dX1_lookFrom_39 : decode cX1_lookFrom 39 = .ok (.iadd, 1) := by decide +kernel
theorem dX1_lookFrom_40 : decode cX1_lookFrom 40 = .ok (.aload_n 0, 1) := by decide +kernel
theorem dX1_lookFrom_41 : decode cX1_lookFrom 41 = .ok (.getfield 25, 3) := by decide +kernel
theorem dX1_lookFrom_44 : decode cX1_lookFrom 44 = .ok (.iload_n 3, 1) := by decide +kernel
theorem dX1_lookFrom_45 : decode cX1_lookFrom 45 = .ok (.iadd, 1) := by decide +kernel
theorem dX1_lookFrom_46 : decode cX1_lookFrom 46 = .ok (.invokevirtual 28, 3) := by decide +kernel
theorem dX1_lookFrom_49 : decode cX1_lookFrom 49 = .ok (.goto 8, 3) := by decide +kernel
theorem dX1_lookFrom_52 : decode cX1_lookFrom 52 = .ok (.aload 4, 2) := by decide +kernel
theorem dX1_lookFrom_54 : decode cX1_lookFrom 54 = .ok (.invokevirtual 34, 3) := by decide +kernel
theorem dX1_lookFrom_57 : decode cX1_lookFrom 57 = .ok (.return_, 1) := by decide +kernel
theorem dX2_init_0 : decode cX2_init 0 = .ok (.aload_n 0, 1) := by decide +kernel
theorem dX2_init_1 : decode cX2_init 1 = .ok (.iconst 1, 1) := by decide +kernel
theorem dX2_init_2 : decode cX2_init 2 = .ok (.invokespecial 1, 3) := by decide +kernel
theorem dX2_init_5 : decode cX2_init 5 = .ok (.aload_n 0, 1) := by decide +kernel
theorem dX2_init_6 : decode cX2_init 6 = .ok (.iload_n 1, 1) := by decide +kernel
theorem dX2_init_7 : decode cX2_init 7 = .ok (.putfield 7, 3) := by decide +kernel
theorem dX2_init_10 : decode cX2_init 10 = .ok (.aload_n 0, 1) := by decide +kernel
theorem dX2_init_11 : decode cX2_init 11 = .ok (.iload_n 2, 1) := by decide +kernel
theorem dX2_init_12 : decode cX2_init 12 = .ok (.putfield 13, 3) := by decide +kernel
theorem dX2_init_15 : decode cX2_init 15 = .ok (.aload_n 0, 1) := by decide +kernel
theorem dX2_init_16 : decode cX2_init 16 = .ok (.iload_n 3, 1) := by decide +kernel
theorem dX2_init_17 : decode cX2_init 17 = .ok (.putfield 16, 3) := by decide +kernel
theorem dX2_init_20 : decode cX2_init 20 = .ok (.aload_n 0, 1) := by decide +kernel
theorem dX2_init_21 : decode cX2_init 21 = .ok (.iload 4, 2) := by decide +kernel
theorem dX2_init_23 : decode cX2_init 23 = .ok (.putfield 19, 3) := by decide +kernel
theorem dX2_init_26 : decode cX2_init 26 = .ok (.aload_n 0, 1) := by decide +kernel
theorem dX2_init_27 : decode cX2_init 27 = .ok (.iload 5, 2) := by decide +kernel
theorem dX2_init_29 : decode cX2_init 29 = .ok (.putfield 22, 3) := by decide +kernel
theorem dX2_init_32 : decode cX2_init 32 = .ok (.return_, 1) := by decide +kernel
theorem dX2_lookFrom_0 : decode cX2_lookFrom 0 = .ok (.iload_n 1, 1) := by decide +kernel
theorem dX2_lookFrom_1 : decode cX2_lookFrom 1 = .ok (.aload_n 0, 1) := by decide +kernel
theorem dX2_lookFrom_2 : decode cX2_lookFrom 2 = .ok (.getfield 7, 3) := by decide +kernel
theorem dX2_lookFrom_5 : decode cX2_lookFrom 5 = .ok (.isub, 1) := by decide +kernel
theorem dX2_lookFrom_6 : decode cX2_lookFrom 6 = .ok (.i2l, 1) := by decide +kernel
theorem dX2_lookFrom_7 : decode cX2_lookFrom 7 = .ok (.invokestatic 25, 3) := by decide +kernel
theorem dX2_lookFrom_10 : decode cX2_lookFrom 10 = .ok (.iload_n 2, 1) := by decide +kernel
theorem dX2_lookFrom_11 : decode cX2_lookFrom 11 = .ok (.aload_n 0, 1) := by decide +kernel
theorem dX2_lookFrom_12 : decode cX2_lookFrom 12 = .ok (.getfield 13, 3) := by decide +kernel
theorem dX2_lookFrom_15 : decode cX2_lookFrom 15 = .ok (.isub, 1) := by decide +kernel
theorem dX2_lookFrom_16 : decode cX2_lookFrom 16 = .ok (.i2l, 1) := by decide +kernel
theorem dX2_lookFrom_17 : decode cX2_lookFrom 17 = .ok (.invokestatic 25, 3) := by decide +kernel
theorem dX2_lookFrom_20 : decode cX2_lookFrom 20 = .ok (.ladd, 1) := by decide +kernel
theorem dX2_lookFrom_21 : decode cX2_lookFrom 21 = .ok (.lstore 5, 2) := by decide +kernel
theorem dX2_lookFrom_23 : decode cX2_lookFrom 23 = .ok (.aload_n 0, 1) := by decide +kernel
theorem dX2_lookFrom_24 : decode cX2_lookFrom 24 = .ok (.getfield 22, 3) := by decide +kernel
theorem dX2_lookFrom_27 : decode cX2_lookFrom 27 = .ok (.aload_n 0, 1) := by decide +kernel
theorem dX2_lookFrom_28 : decode cX2_lookFrom 28 = .ok (.getfield 19, 3) := by decide +kernel
theorem dX2_lookFrom_31 : decode cX2_lookFrom 31 = .ok (.if_icmp .le 17, 3) := by decide +kernel
theorem dX2_lookFrom_34 : decode cX2_lookFrom 34 = .ok (.lload 5, 2) := by decide +kernel
theorem dX2_lookFrom_36 : decode cX2_lookFrom 36 = .ok (.aload_n 0, 1) := by decide +kernel
theorem dX2_lookFrom_37 : decode cX2_lookFrom 37 = .ok (.getfield 16, 3) := by decide +kernel
theorem dX2_lookFrom_40 : decode cX2_lookFrom 40 = .ok (.i2l, 1) := by decide +kernel
theorem dX2_lookFrom_41 : decode cX2_lookFrom 41 = .ok (.invokestatic 25, 3) := by decide +kernel
theorem dX2_lookFrom_44 : decode cX2_lookFrom 44 = .ok (.lcmp, 1) := by decide +kernel
theorem dX2_lookFrom_45 : decode cX2_lookFrom 45 = .ok (.ifCond .le 11, 3) := by decide +kernel
theorem dX2_lookFrom_48 : decode cX2_lookFrom 48 = .ok (.aload 4, 2) := by decide +kernel
theorem dX2_lookFrom_50 : decode cX2_lookFrom 50 = .ok (.invokevirtual 31, 3) := by decide +kernel
theorem dX2_lookFrom_53 : decode cX2_lookFrom 53 = .ok (.goto 29, 3) := by decide +kernel
theorem dX2_lookFrom_56 : decode cX2_lookFrom 56 = .ok (.aload 4, 2) := by decide +kernel
theorem dX2_lookFrom_58 : decode cX2_lookFrom 58 = .ok (.aload_n 0, 1) := by decide +kernel
theorem dX2_lookFrom_59 : decode cX2_lookFrom 59 = .ok (.getfield 19, 3) := by decide +kernel
theorem dX2_lookFrom_62 : decode cX2_lookFrom 62 = .ok (.iload_n 3, 1) := by decide +kernel
theorem dX2_lookFrom_63 : decode cX2_lookFrom 63 = .ok (.iadd, 1) := by decide +kernel
theorem dX2_lookFrom_64 : decode cX2_lookFrom 64 = .ok (.aload_n 0, 1) := by decide +kernel
theorem dX2_lookFrom_65 : decode cX2_lookFrom 65 = .ok (.getfield 22, 3) := by decide +kernel
theorem dX2_lookFrom_68 : decode cX2_lookFrom 68 = .ok (.aload_n 0, 1) := by decide +kernel
theorem dX2_lookFrom_69 : decode cX2_lookFrom 69 = .ok (.lload 5, 2) := by decide +kernel
theorem dX2_lookFrom_71 : decode cX2_lookFrom 71 = .ok (.invokevirtual 37, 3) := by decide +kernel
theorem dX2_lookFrom_74 : decode cX2_lookFrom 74 = .ok (.isub, 1) := by decide +kernel
theorem dX2_lookFrom_75 : decode cX2_lookFrom 75 = .ok (.iconst 1, 1) := by decide +kernel
theorem dX2_lookFrom_76 : decode cX2_lookFrom 76 = .ok (.iadd, 1) := by decide +kernel
theorem dX2_lookFrom_77 : decode cX2_lookFrom 77 = .ok (.iload_n 3, 1) := by decide +kernel
theorem dX2_lookFrom_78 : decode cX2_lookFrom 78 = .ok (.iadd, 1) := by decide +kernel
theorem dX2_lookFrom_79 : decode cX2_lookFrom 79 = .ok (.invokevirtual 41, 3) := by decide +kernel
theorem dX2_lookFrom_82 : decode cX2_lookFrom 82 = .ok (.return_, 1) := by decide +kernel
theorem dX2_leastDepth_0 : decode cX2_leastDepth 0 = .ok (.iconst 1, 1) := by decide +kernel
theorem dX2_leastDepth_1 : decode cX2_leastDepth 1 = .ok (.istore_n 3, 1) := by decide +kernel
theorem dX2_leastDepth_2 : decode cX2_leastDepth 2 = .ok (.aload_n 0, 1) := by decide +kernel
theorem dX2_leastDepth_3 : decode cX2_leastDepth 3 = .ok (.getfield 22, 3) := by decide +kernel
theorem dX2_leastDepth_6 : decode cX2_leastDepth 6 = .ok (.aload_n 0, 1) := by decide +kernel
theorem dX2_leastDepth_7 : decode cX2_leastDepth 7 = .ok (.getfield 19, 3) := by decide +kernel
theorem dX2_leastDepth_10 : decode cX2_leastDepth 10 = .ok (.isub, 1) := by decide +kernel
theorem dX2_leastDepth_11 : decode cX2_leastDepth 11 = .ok (.istore 4, 2) := by decide +kernel
theorem dX2_leastDepth_13 : decode cX2_leastDepth 13 = .ok (.lload_n 1, 1) := by decide +kernel
theorem dX2_leastDepth_14 : decode cX2_leastDepth 14 = .ok (.aload_n 0, 1) := by decide +kernel
theorem dX2_leastDepth_15 : decode cX2_leastDepth 15 = .ok (.getfield 22, 3) := by decide +kernel
theorem dX2_leastDepth_18 : decode cX2_leastDepth 18 = .ok (.aload_n 0, 1) := by decide +kernel
theorem dX2_leastDepth_19 : decode cX2_leastDepth 19 = .ok (.getfield 19, 3) := by decide +kernel
theorem dX2_leastDepth_22 : decode cX2_leastDepth 22 = .ok (.isub, 1) := by decide +kernel
theorem dX2_leastDepth_23 : decode cX2_leastDepth 23 = .ok (.i2l, 1) := by decide +kernel
theorem dX2_leastDepth_24 : decode cX2_leastDepth 24 = .ok (.invokestatic 25, 3) := by decide +kernel
theorem dX2_leastDepth_27 : decode cX2_leastDepth 27 = .ok (.lmul, 1) := by decide +kernel
theorem dX2_leastDepth_28 : decode cX2_leastDepth 28 = .ok (.lstore 5, 2) := by decide +kernel
theorem dX2_leastDepth_30 : decode cX2_leastDepth 30 = .ok (.iconst 0, 1) := by decide +kernel
theorem dX2_leastDepth_31 : decode cX2_leastDepth 31 = .ok (.istore 7, 2) := by decide +kernel
theorem dX2_leastDepth_33 : decode cX2_leastDepth 33 = .ok (.iload 7, 2) := by decide +kernel
theorem dX2_leastDepth_35 : decode cX2_leastDepth 35 = .ok (.bipush 32, 2) := by decide +kernel
theorem dX2_leastDepth_37 : decode cX2_leastDepth 37 = .ok (.if_icmp .ge 58, 3) := by decide +kernel
theorem dX2_leastDepth_40 : decode cX2_leastDepth 40 = .ok (.iload_n 3, 1) := by decide +kernel
theorem dX2_leastDepth_41 : decode cX2_leastDepth 41 = .ok (.iload 4, 2) := by decide +kernel
theorem dX2_leastDepth_43 : decode cX2_leastDepth 43 = .ok (.if_icmp .ge 52, 3) := by decide +kernel
theorem dX2_leastDepth_46 : decode cX2_leastDepth 46 = .ok (.iload_n 3, 1) := by decide +kernel
theorem dX2_leastDepth_47 : decode cX2_leastDepth 47 = .ok (.iload 4, 2) := by decide +kernel
theorem dX2_leastDepth_49 : decode cX2_leastDepth 49 = .ok (.iload_n 3, 1) := by decide +kernel
theorem dX2_leastDepth_50 : decode cX2_leastDepth 50 = .ok (.isub, 1) := by decide +kernel
theorem dX2_leastDepth_51 : decode cX2_leastDepth 51 = .ok (.iconst 2, 1) := by decide +kernel
theorem dX2_leastDepth_52 : decode cX2_leastDepth 52 = .ok (.idiv, 1) := by decide +kernel
theorem dX2_leastDepth_53 : decode cX2_leastDepth 53 = .ok (.iadd, 1) := by decide +kernel
theorem dX2_leastDepth_54 : decode cX2_leastDepth 54 = .ok (.istore 8, 2) := by decide +kernel
theorem dX2_leastDepth_56 : decode cX2_leastDepth 56 = .ok (.lload 5, 2) := by decide +kernel
theorem dX2_leastDepth_58 : decode cX2_leastDepth 58 = .ok (.aload_n 0, 1) := by decide +kernel
theorem dX2_leastDepth_59 : decode cX2_leastDepth 59 = .ok (.getfield 16, 3) := by decide +kernel
theorem dX2_leastDepth_62 : decode cX2_leastDepth 62 = .ok (.i2l, 1) := by decide +kernel
theorem dX2_leastDepth_63 : decode cX2_leastDepth 63 = .ok (.invokestatic 25, 3) := by decide +kernel
theorem dX2_leastDepth_66 : decode cX2_leastDepth 66 = .ok (.iload 8, 2) := by decide +kernel
theorem dX2_leastDepth_68 : decode cX2_leastDepth 68 = .ok (.i2l, 1) := by decide +kernel
theorem dX2_leastDepth_69 : decode cX2_leastDepth 69 = .ok (.invokestatic 25, 3) := by decide +kernel
theorem dX2_leastDepth_72 : decode cX2_leastDepth 72 = .ok (.lmul, 1) := by decide +kernel
theorem dX2_leastDepth_73 : decode cX2_leastDepth 73 = .ok (.lcmp, 1) := by decide +kernel
theorem dX2_leastDepth_74 : decode cX2_leastDepth 74 = .ok (.ifCond .gt 10, 3) := by decide +kernel
theorem dX2_leastDepth_77 : decode cX2_leastDepth 77 = .ok (.iload 8, 2) := by decide +kernel
theorem dX2_leastDepth_79 : decode cX2_leastDepth 79 = .ok (.istore 4, 2) := by decide +kernel
theorem dX2_leastDepth_81 : decode cX2_leastDepth 81 = .ok (.goto 8, 3) := by decide +kernel
theorem dX2_leastDepth_84 : decode cX2_leastDepth 84 = .ok (.iload 8, 2) := by decide +kernel
theorem dX2_leastDepth_86 : decode cX2_leastDepth 86 = .ok (.iconst 1, 1) := by decide +kernel
theorem dX2_leastDepth_87 : decode cX2_leastDepth 87 = .ok (.iadd, 1) := by decide +kernel
theorem dX2_leastDepth_88 : decode cX2_leastDepth 88 = .ok (.istore_n 3, 1) := by decide +kernel
theorem dX2_leastDepth_89 : decode cX2_leastDepth 89 = .ok (.iinc 7 1, 3) := by decide +kernel
theorem dX2_leastDepth_92 : decode cX2_leastDepth 92 = .ok (.goto (-59), 3) := by decide +kernel
theorem dX2_leastDepth_95 : decode cX2_leastDepth 95 = .ok (.iload_n 3, 1) := by decide +kernel
theorem dX2_leastDepth_96 : decode cX2_leastDepth 96 = .ok (.ireturn, 1) := by decide +kernel
theorem dX3_init_0 : decode cX3_init 0 = .ok (.aload_n 0, 1) := by decide +kernel
theorem dX3_init_1 : decode cX3_init 1 = .ok (.invokespecial 3, 3) := by decide +kernel
theorem dX3_init_4 : decode cX3_init 4 = .ok (.aload_n 0, 1) := by decide +kernel
theorem dX3_init_5 : decode cX3_init 5 = .ok (.bipush 100, 2) := by decide +kernel
theorem dX3_init_7 : decode cX3_init 7 = .ok (.newarray .int, 2) := by decide +kernel
theorem dX3_init_9 : decode cX3_init 9 = .ok (.putfield 9, 3) := by decide +kernel
theorem dX3_init_12 : decode cX3_init 12 = .ok (.aload_n 0, 1) := by decide +kernel
theorem dX3_init_13 : decode cX3_init 13 = .ok (.bipush 50, 2) := by decide +kernel
theorem dX3_init_15 : decode cX3_init 15 = .ok (.newarray .int, 2) := by decide +kernel
theorem dX3_init_17 : decode cX3_init 17 = .ok (.putfield 15, 3) := by decide +kernel
theorem dX3_init_20 : decode cX3_init 20 = .ok (.aload_n 0, 1) := by decide +kernel
theorem dX3_init_21 : decode cX3_init 21 = .ok (.bipush 100, 2) := by decide +kernel
theorem dX3_init_23 : decode cX3_init 23 = .ok (.newarray .int, 2) := by decide +kernel
theorem dX3_init_25 : decode cX3_init 25 = .ok (.putfield 18, 3) := by decide +kernel
theorem dX3_init_28 : decode cX3_init 28 = .ok (.aload_n 0, 1) := by decide +kernel
theorem dX3_init_29 : decode cX3_init 29 = .ok (.iconst 0, 1) := by decide +kernel
theorem dX3_init_30 : decode cX3_init 30 = .ok (.putfield 21, 3) := by decide +kernel
theorem dX3_init_33 : decode cX3_init 33 = .ok (.aload_n 0, 1) := by decide +kernel
theorem dX3_init_34 : decode cX3_init 34 = .ok (.iconst 0, 1) := by decide +kernel
theorem dX3_init_35 : decode cX3_init 35 = .ok (.putfield 25, 3) := by decide +kernel
theorem dX3_init_38 : decode cX3_init 38 = .ok (.return_, 1) := by decide +kernel
theorem dX3_clear_0 : decode cX3_clear 0 = .ok (.aload_n 0, 1) := by decide +kernel
theorem dX3_clear_1 : decode cX3_clear 1 = .ok (.iconst 0, 1) := by decide +kernel
theorem dX3_clear_2 : decode cX3_clear 2 = .ok (.putfield 21, 3) := by decide +kernel
theorem dX3_clear_5 : decode cX3_clear 5 = .ok (.aload_n 0, 1) := by decide +kernel
theorem dX3_clear_6 : decode cX3_clear 6 = .ok (.iconst 0, 1) := by decide +kernel
theorem dX3_clear_7 : decode cX3_clear 7 = .ok (.putfield 25, 3) := by decide +kernel
theorem dX3_clear_10 : decode cX3_clear 10 = .ok (.return_, 1) := by decide +kernel
theorem dX3_add_0 : decode cX3_add 0 = .ok (.aload_n 0, 1) := by decide +kernel
theorem dX3_add_1 : decode cX3_add 1 = .ok (.getfield 25, 3) := by decide +kernel
theorem dX3_add_4 : decode cX3_add 4 = .ok (.bipush 50, 2) := by decide +kernel
theorem dX3_add_6 : decode cX3_add 6 = .ok (.if_icmp .ge 14, 3) := by decide +kernel
theorem dX3_add_9 : decode cX3_add 9 = .ok (.aload_n 0, 1) := by decide +kernel
theorem dX3_add_10 : decode cX3_add 10 = .ok (.getfield 21, 3) := by decide +kernel
theorem dX3_add_13 : decode cX3_add 13 = .ok (.iconst 2, 1) := by decide +kernel
theorem dX3_add_14 : decode cX3_add 14 = .ok (.iadd, 1) := by decide +kernel
theorem dX3_add_15 : decode cX3_add 15 = .ok (.bipush 100, 2) := by decide +kernel
theorem dX3_add_17 : decode cX3_add 17 = .ok (.if_icmp .le 4, 3) := by decide +kernel
theorem dX3_add_20 : decode cX3_add 20 = .ok (.return_, 1) := by decide +kernel
theorem dX3_add_21 : decode cX3_add 21 = .ok (.aload_n 0, 1) := by decide +kernel
theorem dX3_add_22 : decode cX3_add 22 = .ok (.getfield 15, 3) := by decide +kernel
theorem dX3_add_25 : decode cX3_add 25 = .ok (.aload_n 0, 1) := by decide +kernel
theorem dX3_add_26 : decode cX3_add 26 = .ok (.getfield 25, 3) := by decide +kernel
theorem dX3_add_29 : decode cX3_add 29 = .ok (.aload_n 0, 1) := by decide +kernel
theorem dX3_add_30 : decode cX3_add 30 = .ok (.getfield 21, 3) := by decide +kernel
theorem dX3_add_33 : decode cX3_add 33 = .ok (.iastore, 1) := by decide +kernel
theorem dX3_add_34 : decode cX3_add 34 = .ok (.aload_n 0, 1) := by decide +kernel
theorem dX3_add_35 : decode cX3_add 35 = .ok (.dup, 1) := by decide +kernel
theorem dX3_add_36 : decode cX3_add 36 = .ok (.getfield 25, 3) := by decide +kernel
theorem dX3_add_39 : decode cX3_add 39 = .ok (.iconst 1, 1) := by decide +kernel
theorem dX3_add_40 : decode cX3_add 40 = .ok (.iadd, 1) := by decide +kernel
theorem dX3_add_41 : decode cX3_add 41 = .ok (.putfield 25, 3) := by decide +kernel
theorem dX3_add_44 : decode cX3_add 44 = .ok (.iload_n 1, 1) := by decide +kernel
theorem dX3_add_45 : decode cX3_add 45 = .ok (.iload_n 2, 1) := by decide +kernel
theorem dX3_add_46 : decode cX3_add 46 = .ok (.if_icmp .ge 35, 3) := by decide +kernel
theorem dX3_add_49 : decode cX3_add 49 = .ok (.aload_n 0, 1) := by decide +kernel
theorem dX3_add_50 : decode cX3_add 50 = .ok (.getfield 9, 3) := by decide +kernel
theorem dX3_add_53 : decode cX3_add 53 = .ok (.aload_n 0, 1) := by decide +kernel
theorem dX3_add_54 : decode cX3_add 54 = .ok (.getfield 21, 3) := by decide +kernel
theorem dX3_add_57 : decode cX3_add 57 = .ok (.iload_n 1, 1) := by decide +kernel
theorem dX3_add_58 : decode cX3_add 58 = .ok (.iastore, 1) := by decide +kernel
theorem dX3_add_59 : decode cX3_add 59 = .ok (.aload_n 0, 1) := by decide +kernel
theorem dX3_add_60 : decode cX3_add 60 = .ok (.getfield 9, 3) := by decide +kernel
theorem dX3_add_63 : decode cX3_add 63 = .ok (.aload_n 0, 1) := by decide +kernel
theorem dX3_add_64 : decode cX3_add 64 = .ok (.getfield 21, 3) := by decide +kernel
theorem dX3_add_67 : decode cX3_add 67 = .ok (.iconst 1, 1) := by decide +kernel
theorem dX3_add_68 : decode cX3_add 68 = .ok (.iadd, 1) := by decide +kernel
theorem dX3_add_69 : decode cX3_add 69 = .ok (.iload_n 2, 1) := by decide +kernel
theorem dX3_add_70 : decode cX3_add 70 = .ok (.iastore, 1) := by decide +kernel
theorem dX3_add_71 : decode cX3_add 71 = .ok (.aload_n 0, 1) := by decide +kernel
theorem dX3_add_72 : decode cX3_add 72 = .ok (.dup, 1) := by decide +kernel
theorem dX3_add_73 : decode cX3_add 73 = .ok (.getfield 21, 3) := by decide +kernel
theorem dX3_add_76 : decode cX3_add 76 = .ok (.iconst 2, 1) := by decide +kernel
theorem dX3_add_77 : decode cX3_add 77 = .ok (.iadd, 1) := by decide +kernel
theorem dX3_add_78 : decode cX3_add 78 = .ok (.putfield 21, 3) := by decide +kernel
theorem dX3_add_81 : decode cX3_add 81 = .ok (.return_, 1) := by decide +kernel
theorem dX3_joinNewest_0 : decode cX3_joinNewest 0 = .ok (.aload_n 0, 1) := by decide +kernel
theorem dX3_joinNewest_1 : decode cX3_joinNewest 1 = .ok (.getfield 25, 3) := by decide +kernel
theorem dX3_joinNewest_4 : decode cX3_joinNewest 4 = .ok (.iconst 2, 1) := by decide +kernel
theorem dX3_joinNewest_5 : decode cX3_joinNewest 5 = .ok (.if_icmp .ge 4, 3) := by decide +kernel
theorem dX3_joinNewest_8 : decode cX3_joinNewest 8 = .ok (.return_, 1) := by decide +kernel
theorem dX3_joinNewest_9 : decode cX3_joinNewest 9 = .ok (.aload_n 0, 1) := by decide +kernel
theorem dX3_joinNewest_10 : decode cX3_joinNewest 10 = .ok (.getfield 15, 3) := by decide +kernel
theorem dX3_joinNewest_13 : decode cX3_joinNewest 13 = .ok (.aload_n 0, 1) := by decide +kernel
theorem dX3_joinNewest_14 : decode cX3_joinNewest 14 = .ok (.getfield 25, 3) := by decide +kernel
theorem dX3_joinNewest_17 : decode cX3_joinNewest 17 = .ok (.iconst 2, 1) := by decide +kernel
theorem dX3_joinNewest_18 : decode cX3_joinNewest 18 = .ok (.isub, 1) := by decide +kernel
theorem dX3_joinNewest_19 : decode cX3_joinNewest 19 = .ok (.iaload, 1) := by decide +kernel
theorem dX3_joinNewest_20 : decode cX3_joinNewest 20 = .ok (.istore_n 2, 1) := by decide +kernel
theorem dX3_joinNewest_21 : decode cX3_joinNewest 21 = .ok (.aload_n 0, 1) := by decide +kernel
theorem dX3_joinNewest_22 : decode cX3_joinNewest 22 = .ok (.iload_n 2, 1) := by decide +kernel
theorem dX3_joinNewest_23 : decode cX3_joinNewest 23 = .ok (.aload_n 0, 1) := by decide +kernel
theorem dX3_joinNewest_24 : decode cX3_joinNewest 24 = .ok (.getfield 15, 3) := by decide +kernel
theorem dX3_joinNewest_27 : decode cX3_joinNewest 27 = .ok (.aload_n 0, 1) := by decide +kernel
theorem dX3_joinNewest_28 : decode cX3_joinNewest 28 = .ok (.getfield 25, 3) := by decide +kernel
theorem dX3_joinNewest_31 : decode cX3_joinNewest 31 = .ok (.iconst 1, 1) := by decide +kernel
theorem dX3_joinNewest_32 : decode cX3_joinNewest 32 = .ok (.isub, 1) := by decide +kernel
theorem dX3_joinNewest_33 : decode cX3_joinNewest 33 = .ok (.iaload, 1) := by decide +kernel
theorem dX3_joinNewest_34 : decode cX3_joinNewest 34 = .ok (.iload_n 1, 1) := by decide +kernel
theorem dX3_joinNewest_35 : decode cX3_joinNewest 35 = .ok (.invokevirtual 28, 3) := by decide +kernel
theorem dX3_joinNewest_38 : decode cX3_joinNewest 38 = .ok (.istore_n 3, 1) := by decide +kernel
theorem dX3_joinNewest_39 : decode cX3_joinNewest 39 = .ok (.iconst 0, 1) := by decide +kernel
theorem dX3_joinNewest_40 : decode cX3_joinNewest 40 = .ok (.istore 4, 2) := by decide +kernel
theorem dX3_joinNewest_42 : decode cX3_joinNewest 42 = .ok (.iload 4, 2) := by decide +kernel
theorem dX3_joinNewest_44 : decode cX3_joinNewest 44 = .ok (.iload_n 3, 1) := by decide +kernel
theorem dX3_joinNewest_45 : decode cX3_joinNewest 45 = .ok (.if_icmp .ge 34, 3) := by decide +kernel
theorem dX3_joinNewest_48 : decode cX3_joinNewest 48 = .ok (.iload_n 2, 1) := by decide +kernel
theorem dX3_joinNewest_49 : decode cX3_joinNewest 49 = .ok (.iload 4, 2) := by decide +kernel
theorem dX3_joinNewest_51 : decode cX3_joinNewest 51 = .ok (.iadd, 1) := by decide +kernel
theorem dX3_joinNewest_52 : decode cX3_joinNewest 52 = .ok (.bipush 100, 2) := by decide +kernel
theorem dX3_joinNewest_54 : decode cX3_joinNewest 54 = .ok (.if_icmp .ge 25, 3) := by decide +kernel
theorem dX3_joinNewest_57 : decode cX3_joinNewest 57 = .ok (.aload_n 0, 1) := by decide +kernel
theorem dX3_joinNewest_58 : decode cX3_joinNewest 58 = .ok (.getfield 9, 3) := by decide +kernel
theorem dX3_joinNewest_61 : decode cX3_joinNewest 61 = .ok (.iload_n 2, 1) := by decide +kernel
theorem dX3_joinNewest_62 : decode cX3_joinNewest 62 = .ok (.iload 4, 2) := by decide +kernel
theorem dX3_joinNewest_64 : decode cX3_joinNewest 64 = .ok (.iadd, 1) := by decide +kernel
theorem dX3_joinNewest_65 : decode cX3_joinNewest 65 = .ok (.aload_n 0, 1) := by decide +kernel
theorem dX3_joinNewest_66 : decode cX3_joinNewest 66 = .ok (.getfield 18, 3) := by decide +kernel
theorem dX3_joinNewest_69 : decode cX3_joinNewest 69 = .ok (.iload 4, 2) := by decide +kernel
theorem dX3_joinNewest_71 : decode cX3_joinNewest 71 = .ok (.iaload, 1) := by decide +kernel
theorem dX3_joinNewest_72 : decode cX3_joinNewest 72 = .ok (.iastore, 1) := by decide +kernel
theorem dX3_joinNewest_73 : decode cX3_joinNewest 73 = .ok (.iinc 4 1, 3) := by decide +kernel
theorem dX3_joinNewest_76 : decode cX3_joinNewest 76 = .ok (.goto (-34), 3) := by decide +kernel
theorem dX3_joinNewest_79 : decode cX3_joinNewest 79 = .ok (.aload_n 0, 1) := by decide +kernel
theorem dX3_joinNewest_80 : decode cX3_joinNewest 80 = .ok (.iload_n 2, 1) := by decide +kernel
theorem dX3_joinNewest_81 : decode cX3_joinNewest 81 = .ok (.iload_n 3, 1) := by decide +kernel
theorem dX3_joinNewest_82 : decode cX3_joinNewest 82 = .ok (.iadd, 1) := by decide +kernel
theorem dX3_joinNewest_83 : decode cX3_joinNewest 83 = .ok (.putfield 21, 3) := by decide +kernel
theorem dX3_joinNewest_86 : decode cX3_joinNewest 86 = .ok (.aload_n 0, 1) := by decide +kernel
theorem dX3_joinNewest_87 : decode cX3_joinNewest 87 = .ok (.dup, 1) := by decide +kernel
theorem dX3_joinNewest_88 : decode cX3_joinNewest 88 = .ok (.getfield 25, 3) := by decide +kernel
theorem dX3_joinNewest_91 : decode cX3_joinNewest 91 = .ok (.iconst 1, 1) := by decide +kernel
theorem dX3_joinNewest_92 : decode cX3_joinNewest 92 = .ok (.isub, 1) := by decide +kernel
theorem dX3_joinNewest_93 : decode cX3_joinNewest 93 = .ok (.putfield 25, 3) := by decide +kernel
theorem dX3_joinNewest_96 : decode cX3_joinNewest 96 = .ok (.return_, 1) := by decide +kernel
theorem dX3_mix_0 : decode cX3_mix 0 = .ok (.iload_n 1, 1) := by decide +kernel
theorem dX3_mix_1 : decode cX3_mix 1 = .ok (.istore 4, 2) := by decide +kernel
theorem dX3_mix_3 : decode cX3_mix 3 = .ok (.iload_n 2, 1) := by decide +kernel
theorem dX3_mix_4 : decode cX3_mix 4 = .ok (.istore 5, 2) := by decide +kernel
theorem dX3_mix_6 : decode cX3_mix 6 = .ok (.iconst 0, 1) := by decide +kernel
theorem dX3_mix_7 : decode cX3_mix 7 = .ok (.istore 6, 2) := by decide +kernel
theorem dX3_mix_9 : decode cX3_mix 9 = .ok (.iconst 0, 1) := by decide +kernel
theorem dX3_mix_10 : decode cX3_mix 10 = .ok (.istore 7, 2) := by decide +kernel
theorem dX3_mix_12 : decode cX3_mix 12 = .ok (.iconst 0, 1) := by decide +kernel
theorem dX3_mix_13 : decode cX3_mix 13 = .ok (.istore 8, 2) := by decide +kernel
theorem dX3_mix_15 : decode cX3_mix 15 = .ok (.iconst 0, 1) := by decide +kernel
theorem dX3_mix_16 : decode cX3_mix 16 = .ok (.istore 9, 2) := by decide +kernel
theorem dX3_mix_18 : decode cX3_mix 18 = .ok (.iconst 0, 1) := by decide +kernel
theorem dX3_mix_19 : decode cX3_mix 19 = .ok (.istore 10, 2) := by decide +kernel
theorem dX3_mix_21 : decode cX3_mix 21 = .ok (.iload 10, 2) := by decide +kernel
theorem dX3_mix_23 : decode cX3_mix 23 = .ok (.bipush 100, 2) := by decide +kernel
theorem dX3_mix_25 : decode cX3_mix 25 = .ok (.if_icmp .ge 141, 3) := by decide +kernel
theorem dX3_mix_28 : decode cX3_mix 28 = .ok (.iload 4, 2) := by decide +kernel
theorem dX3_mix_30 : decode cX3_mix 30 = .ok (.iload_n 2, 1) := by decide +kernel
theorem dX3_mix_31 : decode cX3_mix 31 = .ok (.if_icmp .lt 12, 3) := by decide +kernel
theorem dX3_mix_34 : decode cX3_mix 34 = .ok (.iload 5, 2) := by decide +kernel
theorem dX3_mix_36 : decode cX3_mix 36 = .ok (.aload_n 0, 1) := by decide +kernel
theorem dX3_mix_37 : decode cX3_mix 37 = .ok (.getfield 21, 3) := by decide +kernel
theorem dX3_mix_40 : decode cX3_mix 40 = .ok (.if_icmp .ge 126, 3) := by decide +kernel
theorem dX3_mix_43 : decode cX3_mix 43 = .ok (.aload_n 0, 1) := by decide +kernel
theorem dX3_mix_44 : decode cX3_mix 44 = .ok (.iload 4, 2) := by decide +kernel
theorem dX3_mix_46 : decode cX3_mix 46 = .ok (.iload_n 2, 1) := by decide +kernel
theorem dX3_mix_47 : decode cX3_mix 47 = .ok (.iload 5, 2) := by decide +kernel
theorem dX3_mix_49 : decode cX3_mix 49 = .ok (.invokevirtual 32, 3) := by decide +kernel
theorem dX3_mix_52 : decode cX3_mix 52 = .ok (.istore 11, 2) := by decide +kernel
theorem dX3_mix_54 : decode cX3_mix 54 = .ok (.iload 4, 2) := by decide +kernel
theorem dX3_mix_56 : decode cX3_mix 56 = .ok (.iload_n 2, 1) := by decide +kernel
theorem dX3_mix_57 : decode cX3_mix 57 = .ok (.if_icmp .ge 30, 3) := by decide +kernel
theorem dX3_mix_60 : decode cX3_mix 60 = .ok (.aload_n 0, 1) := by decide +kernel
theorem dX3_mix_61 : decode cX3_mix 61 = .ok (.getfield 9, 3) := by decide +kernel
theorem dX3_mix_64 : decode cX3_mix 64 = .ok (.iload 4, 2) := by decide +kernel
theorem dX3_mix_66 : decode cX3_mix 66 = .ok (.iaload, 1) := by decide +kernel
theorem dX3_mix_67 : decode cX3_mix 67 = .ok (.iload 11, 2) := by decide +kernel
theorem dX3_mix_69 : decode cX3_mix 69 = .ok (.if_icmp .ne 18, 3) := by decide +kernel
theorem dX3_mix_72 : decode cX3_mix 72 = .ok (.iload 7, 2) := by decide +kernel
theorem dX3_mix_74 : decode cX3_mix 74 = .ok (.ifCond .ne 7, 3) := by decide +kernel
theorem dX3_mix_77 : decode cX3_mix 77 = .ok (.iconst 1, 1) := by decide +kernel
theorem dX3_mix_78 : decode cX3_mix 78 = .ok (.goto 4, 3) := by decide +kernel
theorem dX3_mix_81 : decode cX3_mix 81 = .ok (.iconst 0, 1) := by decide +kernel
theorem dX3_mix_82 : decode cX3_mix 82 = .ok (.istore 7, 2) := by decide +kernel
theorem dX3_mix_84 : decode cX3_mix 84 = .ok (.iinc 4 1, 3) := by decide +kernel
theorem dX3_mix_87 : decode cX3_mix 87 = .ok (.iload 5, 2) := by decide +kernel
theorem dX3_mix_89 : decode cX3_mix 89 = .ok (.aload_n 0, 1) := by decide +kernel
theorem dX3_mix_90 : decode cX3_mix 90 = .ok (.getfield 21, 3) := by decide +kernel
theorem dX3_mix_93 : decode cX3_mix 93 = .ok (.if_icmp .ge 30, 3) := by decide +kernel
theorem dX3_mix_96 : decode cX3_mix 96 = .ok (.aload_n 0, 1) := by decide +kernel
theorem dX3_mix_97 : decode cX3_mix 97 = .ok (.getfield 9, 3) := by decide +kernel
theorem dX3_mix_100 : decode cX3_mix 100 = .ok (.iload 5, 2) := by decide +kernel
theorem dX3_mix_102 : decode cX3_mix 102 = .ok (.iaload, 1) := by decide +kernel
theorem dX3_mix_103 : decode cX3_mix 103 = .ok (.iload 11, 2) := by decide +kernel
theorem dX3_mix_105 : decode cX3_mix 105 = .ok (.if_icmp .ne 18, 3) := by decide +kernel
theorem dX3_mix_108 : decode cX3_mix 108 = .ok (.iload 8, 2) := by decide +kernel
theorem dX3_mix_110 : decode cX3_mix 110 = .ok (.ifCond .ne 7, 3) := by decide +kernel
theorem dX3_mix_113 : decode cX3_mix 113 = .ok (.iconst 1, 1) := by decide +kernel
theorem dX3_mix_114 : decode cX3_mix 114 = .ok (.goto 4, 3) := by decide +kernel
theorem dX3_mix_117 : decode cX3_mix 117 = .ok (.iconst 0, 1) := by decide +kernel
theorem dX3_mix_118 : decode cX3_mix 118 = .ok (.istore 8, 2) := by decide +kernel
theorem dX3_mix_120 : decode cX3_mix 120 = .ok (.iinc 5 1, 3) := by decide +kernel
theorem dX3_mix_123 : decode cX3_mix 123 = .ok (.iload 7, 2) := by decide +kernel
theorem dX3_mix_125 : decode cX3_mix 125 = .ok (.iload 8, 2) := by decide +kernel
theorem dX3_mix_127 : decode cX3_mix 127 = .ok (.iload_n 3, 1) := by decide +kernel
theorem dX3_mix_128 : decode cX3_mix 128 = .ok (.invokestatic 35, 3) := by decide +kernel
theorem dX3_mix_131 : decode cX3_mix 131 = .ok (.iload 9, 2) := by decide +kernel
theorem dX3_mix_133 : decode cX3_mix 133 = .ok (.if_icmp .eq 27, 3) := by decide +kernel
theorem dX3_mix_136 : decode cX3_mix 136 = .ok (.iload 9, 2) := by decide +kernel
theorem dX3_mix_138 : decode cX3_mix 138 = .ok (.ifCond .ne 7, 3) := by decide +kernel
theorem dX3_mix_141 : decode cX3_mix 141 = .ok (.iconst 1, 1) := by decide +kernel
theorem dX3_mix_142 : decode cX3_mix 142 = .ok (.goto 4, 3) := by decide +kernel
theorem dX3_mix_145 : decode cX3_mix 145 = .ok (.iconst 0, 1) := by decide +kernel
theorem dX3_mix_146 : decode cX3_mix 146 = .ok (.istore 9, 2) := by decide +kernel
theorem dX3_mix_148 : decode cX3_mix 148 = .ok (.aload_n 0, 1) := by decide +kernel
theorem dX3_mix_149 : decode cX3_mix 149 = .ok (.getfield 18, 3) := by decide +kernel
theorem dX3_mix_152 : decode cX3_mix 152 = .ok (.iload 6, 2) := by decide +kernel
theorem dX3_mix_154 : decode cX3_mix 154 = .ok (.iload 11, 2) := by decide +kernel
theorem dX3_mix_156 : decode cX3_mix 156 = .ok (.iastore, 1) := by decide +kernel
theorem dX3_mix_157 : decode cX3_mix 157 = .ok (.iinc 6 1, 3) := by decide +kernel
theorem dX3_mix_160 : decode cX3_mix 160 = .ok (.iinc 10 1, 3) := by decide +kernel
theorem dX3_mix_163 : decode cX3_mix 163 = .ok (.goto (-142), 3) := by decide +kernel
theorem dX3_mix_166 : decode cX3_mix 166 = .ok (.iload 6, 2) := by decide +kernel
theorem dX3_mix_168 : decode cX3_mix 168 = .ok (.ireturn, 1) := by decide +kernel
theorem dX3_nextEdge_0 : decode cX3_nextEdge 0 = .ok (.iload_n 1, 1) := by decide +kernel
theorem dX3_nextEdge_1 : decode cX3_nextEdge 1 = .ok (.iload_n 2, 1) := by decide +kernel
theorem dX3_nextEdge_2 : decode cX3_nextEdge 2 = .ok (.if_icmp .lt 22, 3) := by decide +kernel
theorem dX3_nextEdge_5 : decode cX3_nextEdge 5 = .ok (.iload_n 3, 1) := by decide +kernel
theorem dX3_nextEdge_6 : decode cX3_nextEdge 6 = .ok (.aload_n 0, 1) := by decide +kernel
theorem dX3_nextEdge_7 : decode cX3_nextEdge 7 = .ok (.getfield 21, 3) := by decide +kernel
theorem dX3_nextEdge_10 : decode cX3_nextEdge 10 = .ok (.if_icmp .ge 12, 3) := by decide +kernel
theorem dX3_nextEdge_13 : decode cX3_nextEdge 13 = .ok (.aload_n 0, 1) := by decide +kernel
theorem dX3_nextEdge_14 : decode cX3_nextEdge 14 = .ok (.getfield 9, 3) := by decide +kernel
theorem dX3_nextEdge_17 : decode cX3_nextEdge 17 = .ok (.iload_n 3, 1) := by decide +kernel
theorem dX3_nextEdge_18 : decode cX3_nextEdge 18 = .ok (.iaload, 1) := by decide +kernel
theorem dX3_nextEdge_19 : decode cX3_nextEdge 19 = .ok (.goto 4, 3) := by decide +kernel
theorem dX3_nextEdge_22 : decode cX3_nextEdge 22 = .ok (.iconst 0, 1) := by decide +kernel
theorem dX3_nextEdge_23 : decode cX3_nextEdge 23 = .ok (.ireturn, 1) := by decide +kernel
theorem dX3_nextEdge_24 : decode cX3_nextEdge 24 = .ok (.iload_n 3, 1) := by decide +kernel
theorem dX3_nextEdge_25 : decode cX3_nextEdge 25 = .ok (.aload_n 0, 1) := by decide +kernel
theorem dX3_nextEdge_26 : decode cX3_nextEdge 26 = .ok (.getfield 21, 3) := by decide +kernel
theorem dX3_nextEdge_29 : decode cX3_nextEdge 29 = .ok (.if_icmp .ge 27, 3) := by decide +kernel
theorem dX3_nextEdge_32 : decode cX3_nextEdge 32 = .ok (.aload_n 0, 1) := by decide +kernel
theorem dX3_nextEdge_33 : decode cX3_nextEdge 33 = .ok (.getfield 9, 3) := by decide +kernel
theorem dX3_nextEdge_36 : decode cX3_nextEdge 36 = .ok (.iload_n 3, 1) := by decide +kernel
theorem dX3_nextEdge_37 : decode cX3_nextEdge 37 = .ok (.iaload, 1) := by decide +kernel
theorem dX3_nextEdge_38 : decode cX3_nextEdge 38 = .ok (.aload_n 0, 1) := by decide +kernel
theorem dX3_nextEdge_39 : decode cX3_nextEdge 39 = .ok (.getfield 9, 3) := by decide +kernel
theorem dX3_nextEdge_42 : decode cX3_nextEdge 42 = .ok (.iload_n 1, 1) := by decide +kernel
theorem dX3_nextEdge_43 : decode cX3_nextEdge 43 = .ok (.iaload, 1) := by decide +kernel
theorem dX3_nextEdge_44 : decode cX3_nextEdge 44 = .ok (.if_icmp .ge 12, 3) := by decide +kernel
theorem dX3_nextEdge_47 : decode cX3_nextEdge 47 = .ok (.aload_n 0, 1) := by decide +kernel
theorem dX3_nextEdge_48 : decode cX3_nextEdge 48 = .ok (.getfield 9, 3) := by decide +kernel
theorem dX3_nextEdge_51 : decode cX3_nextEdge 51 = .ok (.iload_n 3, 1) := by decide +kernel
theorem dX3_nextEdge_52 : decode cX3_nextEdge 52 = .ok (.iaload, 1) := by decide +kernel
theorem dX3_nextEdge_53 : decode cX3_nextEdge 53 = .ok (.goto 9, 3) := by decide +kernel
theorem dX3_nextEdge_56 : decode cX3_nextEdge 56 = .ok (.aload_n 0, 1) := by decide +kernel
theorem dX3_nextEdge_57 : decode cX3_nextEdge 57 = .ok (.getfield 9, 3) := by decide +kernel
theorem dX3_nextEdge_60 : decode cX3_nextEdge 60 = .ok (.iload_n 1, 1) := by decide +kernel
theorem dX3_nextEdge_61 : decode cX3_nextEdge 61 = .ok (.iaload, 1) := by decide +kernel
theorem dX3_nextEdge_62 : decode cX3_nextEdge 62 = .ok (.ireturn, 1) := by decide +kernel
theorem dX3_isJoined_0 : decode cX3_isJoined 0 = .ok (.iload_n 2, 1) := by decide +kernel
theorem dX3_isJoined_1 : decode cX3_isJoined 1 = .ok (.lookupswitch 55 #[(0, 27), (1, 41)], 27) := by decide +kernel
theorem dX3_isJoined_28 : decode cX3_isJoined 28 = .ok (.iload_n 0, 1) := by decide +kernel
theorem dX3_isJoined_29 : decode cX3_isJoined 29 = .ok (.ifCond .ne 7, 3) := by decide +kernel
theorem dX3_isJoined_32 : decode cX3_isJoined 32 = .ok (.iload_n 1, 1) := by decide +kernel
theorem dX3_isJoined_33 : decode cX3_isJoined 33 = .ok (.ifCond .eq 7, 3) := by decide +kernel
theorem dX3_isJoined_36 : decode cX3_isJoined 36 = .ok (.iconst 1, 1) := by decide +kernel
theorem dX3_isJoined_37 : decode cX3_isJoined 37 = .ok (.goto 4, 3) := by decide +kernel
theorem dX3_isJoined_40 : decode cX3_isJoined 40 = .ok (.iconst 0, 1) := by decide +kernel
theorem dX3_isJoined_41 : decode cX3_isJoined 41 = .ok (.ireturn, 1) := by decide +kernel
theorem dX3_isJoined_42 : decode cX3_isJoined 42 = .ok (.iload_n 0, 1) := by decide +kernel
theorem dX3_isJoined_43 : decode cX3_isJoined 43 = .ok (.ifCond .eq 11, 3) := by decide +kernel
theorem dX3_isJoined_46 : decode cX3_isJoined 46 = .ok (.iload_n 1, 1) := by decide +kernel
theorem dX3_isJoined_47 : decode cX3_isJoined 47 = .ok (.ifCond .eq 7, 3) := by decide +kernel
theorem dX3_isJoined_50 : decode cX3_isJoined 50 = .ok (.iconst 1, 1) := by decide +kernel
theorem dX3_isJoined_51 : decode cX3_isJoined 51 = .ok (.goto 4, 3) := by decide +kernel
theorem dX3_isJoined_54 : decode cX3_isJoined 54 = .ok (.iconst 0, 1) := by decide +kernel
theorem dX3_isJoined_55 : decode cX3_isJoined 55 = .ok (.ireturn, 1) := by decide +kernel
theorem dX3_isJoined_56 : decode cX3_isJoined 56 = .ok (.iload_n 0, 1) := by decide +kernel
theorem dX3_isJoined_57 : decode cX3_isJoined 57 = .ok (.ifCond .eq 11, 3) := by decide +kernel
theorem dX3_isJoined_60 : decode cX3_isJoined 60 = .ok (.iload_n 1, 1) := by decide +kernel
theorem dX3_isJoined_61 : decode cX3_isJoined 61 = .ok (.ifCond .ne 7, 3) := by decide +kernel
theorem dX3_isJoined_64 : decode cX3_isJoined 64 = .ok (.iconst 1, 1) := by decide +kernel
theorem dX3_isJoined_65 : decode cX3_isJoined 65 = .ok (.goto 4, 3) := by decide +kernel
theorem dX3_isJoined_68 : decode cX3_isJoined 68 = .ok (.iconst 0, 1) := by decide +kernel
theorem dX3_isJoined_69 : decode cX3_isJoined 69 = .ok (.ireturn, 1) := by decide +kernel
theorem dX3_copyTo_0 : decode cX3_copyTo 0 = .ok (.aload_n 1, 1) := by decide +kernel
theorem dX3_copyTo_1 : decode cX3_copyTo 1 = .ok (.aload_n 0, 1) := by decide +kernel
theorem dX3_copyTo_2 : decode cX3_copyTo 2 = .ok (.getfield 9, 3) := by decide +kernel
theorem dX3_copyTo_5 : decode cX3_copyTo 5 = .ok (.aload_n 0, 1) := by decide +kernel
theorem dX3_copyTo_6 : decode cX3_copyTo 6 = .ok (.getfield 21, 3) := by decide +kernel
theorem dX3_copyTo_9 : decode cX3_copyTo 9 = .ok (.invokevirtual 39, 3) := by decide +kernel
theorem dX3_copyTo_12 : decode cX3_copyTo 12 = .ok (.return_, 1) := by decide +kernel
theorem dX4_init_0 : decode cX4_init 0 = .ok (.aload_n 0, 1) := by decide +kernel
theorem dX4_init_1 : decode cX4_init 1 = .ok (.aload_n 1, 1) := by decide +kernel
theorem dX4_init_2 : decode cX4_init 2 = .ok (.getfield 1, 3) := by decide +kernel
theorem dX4_init_5 : decode cX4_init 5 = .ok (.aload_n 2, 1) := by decide +kernel
theorem dX4_init_6 : decode cX4_init 6 = .ok (.getfield 1, 3) := by decide +kernel
theorem dX4_init_9 : decode cX4_init 9 = .ok (.iadd, 1) := by decide +kernel
theorem dX4_init_10 : decode cX4_init 10 = .ok (.iconst 1, 1) := by decide +kernel
theorem dX4_init_11 : decode cX4_init 11 = .ok (.iadd, 1) := by decide +kernel
theorem dX4_init_12 : decode cX4_init 12 = .ok (.invokespecial 7, 3) := by decide +kernel
theorem dX4_init_15 : decode cX4_init 15 = .ok (.aload_n 0, 1) := by decide +kernel
theorem dX4_init_16 : decode cX4_init 16 = .ok (.aload_n 1, 1) := by decide +kernel
theorem dX4_init_17 : decode cX4_init 17 = .ok (.putfield 11, 3) := by decide +kernel
theorem dX4_init_20 : decode cX4_init 20 = .ok (.aload_n 0, 1) := by decide +kernel
theorem dX4_init_21 : decode cX4_init 21 = .ok (.aload_n 2, 1) := by decide +kernel
theorem dX4_init_22 : decode cX4_init 22 = .ok (.putfield 17, 3) := by decide +kernel
theorem dX4_init_25 : decode cX4_init 25 = .ok (.aload_n 0, 1) := by decide +kernel
theorem dX4_init_26 : decode cX4_init 26 = .ok (.iload_n 3, 1) := by decide +kernel
theorem dX4_init_27 : decode cX4_init 27 = .ok (.putfield 20, 3) := by decide +kernel
theorem dX4_init_30 : decode cX4_init 30 = .ok (.return_, 1) := by decide +kernel
theorem dX4_lookFrom_0 : decode cX4_lookFrom 0 = .ok (.aload 4, 2) := by decide +kernel
theorem dX4_lookFrom_2 : decode cX4_lookFrom 2 = .ok (.aload_n 0, 1) := by decide +kernel
theorem dX4_lookFrom_3 : decode cX4_lookFrom 3 = .ok (.getfield 20, 3) := by decide +kernel
theorem dX4_lookFrom_6 : decode cX4_lookFrom 6 = .ok (.invokevirtual 23, 3) := by decide +kernel
theorem dX4_lookFrom_9 : decode cX4_lookFrom 9 = .ok (.aload 4, 2) := by decide +kernel
theorem dX4_lookFrom_11 : decode cX4_lookFrom 11 = .ok (.aload_n 0, 1) := by decide +kernel
theorem dX4_lookFrom_12 : decode cX4_lookFrom 12 = .ok (.getfield 17, 3) := by decide +kernel
theorem dX4_lookFrom_15 : decode cX4_lookFrom 15 = .ok (.iload_n 1, 1) := by decide +kernel
theorem dX4_lookFrom_16 : decode cX4_lookFrom 16 = .ok (.iload_n 2, 1) := by decide +kernel
theorem dX4_lookFrom_17 : decode cX4_lookFrom 17 = .ok (.iload_n 3, 1) := by decide +kernel
theorem dX4_lookFrom_18 : decode cX4_lookFrom 18 = .ok (.invokevirtual 28, 3) := by decide +kernel
theorem dX4_lookFrom_21 : decode cX4_lookFrom 21 = .ok (.aload 4, 2) := by decide +kernel
theorem dX4_lookFrom_23 : decode cX4_lookFrom 23 = .ok (.aload_n 0, 1) := by decide +kernel
theorem dX4_lookFrom_24 : decode cX4_lookFrom 24 = .ok (.getfield 11, 3) := by decide +kernel
theorem dX4_lookFrom_27 : decode cX4_lookFrom 27 = .ok (.iload_n 1, 1) := by decide +kernel
theorem dX4_lookFrom_28 : decode cX4_lookFrom 28 = .ok (.iload_n 2, 1) := by decide +kernel
theorem dX4_lookFrom_29 : decode cX4_lookFrom 29 = .ok (.iload_n 3, 1) := by decide +kernel
theorem dX4_lookFrom_30 : decode cX4_lookFrom 30 = .ok (.invokevirtual 28, 3) := by decide +kernel
theorem dX4_lookFrom_33 : decode cX4_lookFrom 33 = .ok (.return_, 1) := by decide +kernel
theorem dX5_init_0 : decode cX5_init 0 = .ok (.aload_n 0, 1) := by decide +kernel
theorem dX5_init_1 : decode cX5_init 1 = .ok (.aload_n 1, 1) := by decide +kernel
theorem dX5_init_2 : decode cX5_init 2 = .ok (.getfield 1, 3) := by decide +kernel
theorem dX5_init_5 : decode cX5_init 5 = .ok (.iconst 1, 1) := by decide +kernel
theorem dX5_init_6 : decode cX5_init 6 = .ok (.iadd, 1) := by decide +kernel
theorem dX5_init_7 : decode cX5_init 7 = .ok (.invokespecial 7, 3) := by decide +kernel
theorem dX5_init_10 : decode cX5_init 10 = .ok (.aload_n 0, 1) := by decide +kernel
theorem dX5_init_11 : decode cX5_init 11 = .ok (.aload_n 1, 1) := by decide +kernel
theorem dX5_init_12 : decode cX5_init 12 = .ok (.putfield 11, 3) := by decide +kernel
theorem dX5_init_15 : decode cX5_init 15 = .ok (.aload_n 0, 1) := by decide +kernel
theorem dX5_init_16 : decode cX5_init 16 = .ok (.iload_n 2, 1) := by decide +kernel
theorem dX5_init_17 : decode cX5_init 17 = .ok (.putfield 17, 3) := by decide +kernel
theorem dX5_init_20 : decode cX5_init 20 = .ok (.aload_n 0, 1) := by decide +kernel
theorem dX5_init_21 : decode cX5_init 21 = .ok (.iload_n 3, 1) := by decide +kernel
theorem dX5_init_22 : decode cX5_init 22 = .ok (.putfield 20, 3) := by decide +kernel
theorem dX5_init_25 : decode cX5_init 25 = .ok (.aload_n 0, 1) := by decide +kernel
theorem dX5_init_26 : decode cX5_init 26 = .ok (.iload 4, 2) := by decide +kernel
theorem dX5_init_28 : decode cX5_init 28 = .ok (.putfield 23, 3) := by decide +kernel
theorem dX5_init_31 : decode cX5_init 31 = .ok (.return_, 1) := by decide +kernel
theorem dX5_lookFrom_0 : decode cX5_lookFrom 0 = .ok (.aload 4, 2) := by decide +kernel
theorem dX5_lookFrom_2 : decode cX5_lookFrom 2 = .ok (.aload_n 0, 1) := by decide +kernel
theorem dX5_lookFrom_3 : decode cX5_lookFrom 3 = .ok (.getfield 11, 3) := by decide +kernel
theorem dX5_lookFrom_6 : decode cX5_lookFrom 6 = .ok (.iload_n 1, 1) := by decide +kernel
theorem dX5_lookFrom_7 : decode cX5_lookFrom 7 = .ok (.aload_n 0, 1) := by decide +kernel
theorem dX5_lookFrom_8 : decode cX5_lookFrom 8 = .ok (.getfield 17, 3) := by decide +kernel
theorem dX5_lookFrom_11 : decode cX5_lookFrom 11 = .ok (.isub, 1) := by decide +kernel
theorem dX5_lookFrom_12 : decode cX5_lookFrom 12 = .ok (.iload_n 2, 1) := by decide +kernel
theorem dX5_lookFrom_13 : decode cX5_lookFrom 13 = .ok (.aload_n 0, 1) := by decide +kernel
theorem dX5_lookFrom_14 : decode cX5_lookFrom 14 = .ok (.getfield 20, 3) := by decide +kernel
theorem dX5_lookFrom_17 : decode cX5_lookFrom 17 = .ok (.isub, 1) := by decide +kernel
theorem dX5_lookFrom_18 : decode cX5_lookFrom 18 = .ok (.iload_n 3, 1) := by decide +kernel
theorem dX5_lookFrom_19 : decode cX5_lookFrom 19 = .ok (.aload_n 0, 1) := by decide +kernel
theorem dX5_lookFrom_20 : decode cX5_lookFrom 20 = .ok (.getfield 23, 3) := by decide +kernel
theorem dX5_lookFrom_23 : decode cX5_lookFrom 23 = .ok (.iadd, 1) := by decide +kernel
theorem dX5_lookFrom_24 : decode cX5_lookFrom 24 = .ok (.invokevirtual 26, 3) := by decide +kernel
theorem dX5_lookFrom_27 : decode cX5_lookFrom 27 = .ok (.return_, 1) := by decide +kernel
theorem dX6_init_0 : decode cX6_init 0 = .ok (.aload_n 0, 1) := by decide +kernel
theorem dX6_init_1 : decode cX6_init 1 = .ok (.iconst 1, 1) := by decide +kernel
theorem dX6_init_2 : decode cX6_init 2 = .ok (.invokespecial 1, 3) := by decide +kernel
theorem dX6_init_5 : decode cX6_init 5 = .ok (.aload_n 0, 1) := by decide +kernel
theorem dX6_init_6 : decode cX6_init 6 = .ok (.iload_n 1, 1) := by decide +kernel
theorem dX6_init_7 : decode cX6_init 7 = .ok (.putfield 7, 3) := by decide +kernel
theorem dX6_init_10 : decode cX6_init 10 = .ok (.aload_n 0, 1) := by decide +kernel
theorem dX6_init_11 : decode cX6_init 11 = .ok (.iload_n 2, 1) := by decide +kernel
theorem dX6_init_12 : decode cX6_init 12 = .ok (.putfield 13, 3) := by decide +kernel
theorem dX6_init_15 : decode cX6_init 15 = .ok (.aload_n 0, 1) := by decide +kernel
theorem dX6_init_16 : decode cX6_init 16 = .ok (.iload_n 3, 1) := by decide +kernel
theorem dX6_init_17 : decode cX6_init 17 = .ok (.putfield 16, 3) := by decide +kernel
theorem dX6_init_20 : decode cX6_init 20 = .ok (.aload_n 0, 1) := by decide +kernel
theorem dX6_init_21 : decode cX6_init 21 = .ok (.iload 4, 2) := by decide +kernel
theorem dX6_init_23 : decode cX6_init 23 = .ok (.putfield 19, 3) := by decide +kernel
theorem dX6_init_26 : decode cX6_init 26 = .ok (.aload_n 0, 1) := by decide +kernel
theorem dX6_init_27 : decode cX6_init 27 = .ok (.iload 5, 2) := by decide +kernel
theorem dX6_init_29 : decode cX6_init 29 = .ok (.putfield 22, 3) := by decide +kernel
theorem dX6_init_32 : decode cX6_init 32 = .ok (.return_, 1) := by decide +kernel
theorem dX6_lookFrom_0 : decode cX6_lookFrom 0 = .ok (.iload_n 1, 1) := by decide +kernel
theorem dX6_lookFrom_1 : decode cX6_lookFrom 1 = .ok (.aload_n 0, 1) := by decide +kernel
theorem dX6_lookFrom_2 : decode cX6_lookFrom 2 = .ok (.getfield 7, 3) := by decide +kernel
theorem dX6_lookFrom_5 : decode cX6_lookFrom 5 = .ok (.isub, 1) := by decide +kernel
theorem dX6_lookFrom_6 : decode cX6_lookFrom 6 = .ok (.i2l, 1) := by decide +kernel
theorem dX6_lookFrom_7 : decode cX6_lookFrom 7 = .ok (.invokestatic 25, 3) := by decide +kernel
theorem dX6_lookFrom_10 : decode cX6_lookFrom 10 = .ok (.iload_n 2, 1) := by decide +kernel
theorem dX6_lookFrom_11 : decode cX6_lookFrom 11 = .ok (.aload_n 0, 1) := by decide +kernel
theorem dX6_lookFrom_12 : decode cX6_lookFrom 12 = .ok (.getfield 13, 3) := by decide +kernel
theorem dX6_lookFrom_15 : decode cX6_lookFrom 15 = .ok (.isub, 1) := by decide +kernel
theorem dX6_lookFrom_16 : decode cX6_lookFrom 16 = .ok (.i2l, 1) := by decide +kernel
theorem dX6_lookFrom_17 : decode cX6_lookFrom 17 = .ok (.invokestatic 25, 3) := by decide +kernel
theorem dX6_lookFrom_20 : decode cX6_lookFrom 20 = .ok (.ladd, 1) := by decide +kernel
theorem dX6_lookFrom_21 : decode cX6_lookFrom 21 = .ok (.aload_n 0, 1) := by decide +kernel
theorem dX6_lookFrom_22 : decode cX6_lookFrom 22 = .ok (.getfield 16, 3) := by decide +kernel
theorem dX6_lookFrom_25 : decode cX6_lookFrom 25 = .ok (.i2l, 1) := by decide +kernel
theorem dX6_lookFrom_26 : decode cX6_lookFrom 26 = .ok (.invokestatic 25, 3) := by decide +kernel
theorem dX6_lookFrom_29 : decode cX6_lookFrom 29 = .ok (.lcmp, 1) := by decide +kernel
theorem dX6_lookFrom_30 : decode cX6_lookFrom 30 = .ok (.ifCond .gt 23, 3) := by decide +kernel
theorem dX6_lookFrom_33 : decode cX6_lookFrom 33 = .ok (.aload 4, 2) := by decide +kernel
theorem dX6_lookFrom_35 : decode cX6_lookFrom 35 = .ok (.aload_n 0, 1) := by decide +kernel
theorem dX6_lookFrom_36 : decode cX6_lookFrom 36 = .ok (.getfield 19, 3) := by decide +kernel
theorem dX6_lookFrom_39 : decode cX6_lookFrom 39 = .ok (.iload_n 3, 1) := by decide +kernel
theorem dX6_lookFrom_40 : decode cX6_lookFrom 40 = .ok (.iadd, 1) := by decide +kernel
theorem dX6_lookFrom_41 : decode cX6_lookFrom 41 = .ok (.aload_n 0, 1) := by decide +kernel
theorem dX6_lookFrom_42 : decode cX6_lookFrom 42 = .ok (.getfield 22, 3) := by decide +kernel
theorem dX6_lookFrom_45 : decode cX6_lookFrom 45 = .ok (.iload_n 3, 1) := by decide +kernel
theorem dX6_lookFrom_46 : decode cX6_lookFrom 46 = .ok (.iadd, 1) := by decide +kernel
theorem dX6_lookFrom_47 : decode cX6_lookFrom 47 = .ok (.invokevirtual 31, 3) := by decide +kernel
theorem dX6_lookFrom_50 : decode cX6_lookFrom 50 = .ok (.goto 8, 3) := by decide +kernel
theorem dX6_lookFrom_53 : decode cX6_lookFrom 53 = .ok (.aload 4, 2) := by decide +kernel
theorem dX6_lookFrom_55 : decode cX6_lookFrom 55 = .ok (.invokevirtual 37, 3) := by decide +kernel
theorem dX6_lookFrom_58 : decode cX6_lookFrom 58 = .ok (.return_, 1) := by decide +kernel
theorem dX7_init_0 : decode cX7_init 0 = .ok (.aload_n 0, 1) := by decide +kernel
theorem dX7_init_1 : decode cX7_init 1 = .ok (.invokespecial 3, 3) := by decide +kernel
theorem dX7_init_4 : decode cX7_init 4 = .ok (.aload_n 0, 1) := by decide +kernel
theorem dX7_init_5 : decode cX7_init 5 = .ok (.bipush 100, 2) := by decide +kernel
theorem dX7_init_7 : decode cX7_init 7 = .ok (.newarray .int, 2) := by decide +kernel
theorem dX7_init_9 : decode cX7_init 9 = .ok (.putfield 9, 3) := by decide +kernel
theorem dX7_init_12 : decode cX7_init 12 = .ok (.aload_n 0, 1) := by decide +kernel
theorem dX7_init_13 : decode cX7_init 13 = .ok (.iconst 0, 1) := by decide +kernel
theorem dX7_init_14 : decode cX7_init 14 = .ok (.putfield 15, 3) := by decide +kernel
theorem dX7_init_17 : decode cX7_init 17 = .ok (.return_, 1) := by decide +kernel
theorem dX7_clear_0 : decode cX7_clear 0 = .ok (.aload_n 0, 1) := by decide +kernel
theorem dX7_clear_1 : decode cX7_clear 1 = .ok (.iconst 0, 1) := by decide +kernel
theorem dX7_clear_2 : decode cX7_clear 2 = .ok (.putfield 15, 3) := by decide +kernel
theorem dX7_clear_5 : decode cX7_clear 5 = .ok (.return_, 1) := by decide +kernel
theorem dX7_copyFrom_0 : decode cX7_copyFrom 0 = .ok (.aload_n 0, 1) := by decide +kernel
theorem dX7_copyFrom_1 : decode cX7_copyFrom 1 = .ok (.iload_n 2, 1) := by decide +kernel
theorem dX7_copyFrom_2 : decode cX7_copyFrom 2 = .ok (.aload_n 1, 1) := by decide +kernel
theorem dX7_copyFrom_3 : decode cX7_copyFrom 3 = .ok (.arraylength, 1) := by decide +kernel
theorem dX7_copyFrom_4 : decode cX7_copyFrom 4 = .ok (.bipush 100, 2) := by decide +kernel
theorem dX7_copyFrom_6 : decode cX7_copyFrom 6 = .ok (.invokestatic 19, 3) := by decide +kernel
theorem dX7_copyFrom_9 : decode cX7_copyFrom 9 = .ok (.invokestatic 19, 3) := by decide +kernel
theorem dX7_copyFrom_12 : decode cX7_copyFrom 12 = .ok (.putfield 15, 3) := by decide +kernel
theorem dX7_copyFrom_15 : decode cX7_copyFrom 15 = .ok (.iconst 0, 1) := by decide +kernel
theorem dX7_copyFrom_16 : decode cX7_copyFrom 16 = .ok (.istore_n 3, 1) := by decide +kernel
theorem dX7_copyFrom_17 : decode cX7_copyFrom 17 = .ok (.iload_n 3, 1) := by decide +kernel
theorem dX7_copyFrom_18 : decode cX7_copyFrom 18 = .ok (.aload_n 0, 1) := by decide +kernel
theorem dX7_copyFrom_19 : decode cX7_copyFrom 19 = .ok (.getfield 15, 3) := by decide +kernel
theorem dX7_copyFrom_22 : decode cX7_copyFrom 22 = .ok (.if_icmp .ge 18, 3) := by decide +kernel
theorem dX7_copyFrom_25 : decode cX7_copyFrom 25 = .ok (.aload_n 0, 1) := by decide +kernel
theorem dX7_copyFrom_26 : decode cX7_copyFrom 26 = .ok (.getfield 9, 3) := by decide +kernel
theorem dX7_copyFrom_29 : decode cX7_copyFrom 29 = .ok (.iload_n 3, 1) := by decide +kernel
theorem dX7_copyFrom_30 : decode cX7_copyFrom 30 = .ok (.aload_n 1, 1) := by decide +kernel
theorem dX7_copyFrom_31 : decode cX7_copyFrom 31 = .ok (.iload_n 3, 1) := by decide +kernel
theorem dX7_copyFrom_32 : decode cX7_copyFrom 32 = .ok (.iaload, 1) := by decide +kernel
theorem dX7_copyFrom_33 : decode cX7_copyFrom 33 = .ok (.iastore, 1) := by decide +kernel
theorem dX7_copyFrom_34 : decode cX7_copyFrom 34 = .ok (.iinc 3 1, 3) := by decide +kernel
theorem dX7_copyFrom_37 : decode cX7_copyFrom 37 = .ok (.goto (-20), 3) := by decide +kernel
theorem dX7_copyFrom_40 : decode cX7_copyFrom 40 = .ok (.return_, 1) := by decide +kernel
theorem dX7_runCount_0 : decode cX7_runCount 0 = .ok (.aload_n 0, 1) := by decide +kernel
theorem dX7_runCount_1 : decode cX7_runCount 1 = .ok (.getfield 15, 3) := by decide +kernel
theorem dX7_runCount_4 : decode cX7_runCount 4 = .ok (.iconst 2, 1) := by decide +kernel
theorem dX7_runCount_5 : decode cX7_runCount 5 = .ok (.idiv, 1) := by decide +kernel
theorem dX7_runCount_6 : decode cX7_runCount 6 = .ok (.ireturn, 1) := by decide +kernel
theorem dX7_firstOf_0 : decode cX7_firstOf 0 = .ok (.iload_n 1, 1) := by decide +kernel
theorem dX7_firstOf_1 : decode cX7_firstOf 1 = .ok (.ifCond .lt 11, 3) := by decide +kernel
theorem dX7_firstOf_4 : decode cX7_firstOf 4 = .ok (.iload_n 1, 1) := by decide +kernel
theorem dX7_firstOf_5 : decode cX7_firstOf 5 = .ok (.aload_n 0, 1) := by decide +kernel
theorem dX7_firstOf_6 : decode cX7_firstOf 6 = .ok (.invokevirtual 25, 3) := by decide +kernel
theorem dX7_firstOf_9 : decode cX7_firstOf 9 = .ok (.if_icmp .lt 7, 3) := by decide +kernel
theorem dX7_firstOf_12 : decode cX7_firstOf 12 = .ok (.iconst 0, 1) := by decide +kernel
theorem dX7_firstOf_13 : decode cX7_firstOf 13 = .ok (.goto 11, 3) := by decide +kernel
theorem dX7_firstOf_16 : decode cX7_firstOf 16 = .ok (.aload_n 0, 1) := by decide +kernel
theorem dX7_firstOf_17 : decode cX7_firstOf 17 = .ok (.getfield 9, 3) := by decide +kernel
theorem dX7_firstOf_20 : decode cX7_firstOf 20 = .ok (.iconst 2, 1) := by decide +kernel
theorem dX7_firstOf_21 : decode cX7_firstOf 21 = .ok (.iload_n 1, 1) := by decide +kernel
theorem dX7_firstOf_22 : decode cX7_firstOf 22 = .ok (.imul, 1) := by decide +kernel
theorem dX7_firstOf_23 : decode cX7_firstOf 23 = .ok (.iaload, 1) := by decide +kernel
theorem dX7_firstOf_24 : decode cX7_firstOf 24 = .ok (.ireturn, 1) := by decide +kernel
theorem dX7_lastOf_0 : decode cX7_lastOf 0 = .ok (.iload_n 1, 1) := by decide +kernel
theorem dX7_lastOf_1 : decode cX7_lastOf 1 = .ok (.ifCond .lt 11, 3) := by decide +kernel
theorem dX7_lastOf_4 : decode cX7_lastOf 4 = .ok (.iload_n 1, 1) := by decide +kernel
theorem dX7_lastOf_5 : decode cX7_lastOf 5 = .ok (.aload_n 0, 1) := by decide +kernel
theorem dX7_lastOf_6 : decode cX7_lastOf 6 = .ok (.invokevirtual 25, 3) := by decide +kernel
theorem dX7_lastOf_9 : decode cX7_lastOf 9 = .ok (.if_icmp .lt 7, 3) := by decide +kernel
theorem dX7_lastOf_12 : decode cX7_lastOf 12 = .ok (.iconst 0, 1) := by decide +kernel
theorem dX7_lastOf_13 : decode cX7_lastOf 13 = .ok (.goto 15, 3) := by decide +kernel
theorem dX7_lastOf_16 : decode cX7_lastOf 16 = .ok (.aload_n 0, 1) := by decide +kernel
theorem dX7_lastOf_17 : decode cX7_lastOf 17 = .ok (.getfield 9, 3) := by decide +kernel
theorem dX7_lastOf_20 : decode cX7_lastOf 20 = .ok (.iconst 2, 1) := by decide +kernel
theorem dX7_lastOf_21 : decode cX7_lastOf 21 = .ok (.iload_n 1, 1) := by decide +kernel
theorem dX7_lastOf_22 : decode cX7_lastOf 22 = .ok (.imul, 1) := by decide +kernel
theorem dX7_lastOf_23 : decode cX7_lastOf 23 = .ok (.iconst 1, 1) := by decide +kernel
theorem dX7_lastOf_24 : decode cX7_lastOf 24 = .ok (.iadd, 1) := by decide +kernel
theorem dX7_lastOf_25 : decode cX7_lastOf 25 = .ok (.iaload, 1) := by decide +kernel
theorem dX7_lastOf_26 : decode cX7_lastOf 26 = .ok (.iconst 1, 1) := by decide +kernel
theorem dX7_lastOf_27 : decode cX7_lastOf 27 = .ok (.isub, 1) := by decide +kernel
theorem dX7_lastOf_28 : decode cX7_lastOf 28 = .ok (.ireturn, 1) := by decide +kernel
theorem dX7_countFrom_0 : decode cX7_countFrom 0 = .ok (.lconst 0, 1) := by decide +kernel
theorem dX7_countFrom_1 : decode cX7_countFrom 1 = .ok (.lstore_n 3, 1) := by decide +kernel
theorem dX7_countFrom_2 : decode cX7_countFrom 2 = .ok (.iconst 0, 1) := by decide +kernel
theorem dX7_countFrom_3 : decode cX7_countFrom 3 = .ok (.istore 5, 2) := by decide +kernel
theorem dX7_countFrom_5 : decode cX7_countFrom 5 = .ok (.iload 5, 2) := by decide +kernel
theorem dX7_countFrom_7 : decode cX7_countFrom 7 = .ok (.aload_n 0, 1) := by decide +kernel
theorem dX7_countFrom_8 : decode cX7_countFrom 8 = .ok (.invokevirtual 25, 3) := by decide +kernel
theorem dX7_countFrom_11 : decode cX7_countFrom 11 = .ok (.if_icmp .ge 53, 3) := by decide +kernel
theorem dX7_countFrom_14 : decode cX7_countFrom 14 = .ok (.iload_n 1, 1) := by decide +kernel
theorem dX7_countFrom_15 : decode cX7_countFrom 15 = .ok (.aload_n 0, 1) := by decide +kernel
theorem dX7_countFrom_16 : decode cX7_countFrom 16 = .ok (.iload 5, 2) := by decide +kernel
theorem dX7_countFrom_18 : decode cX7_countFrom 18 = .ok (.invokevirtual 29, 3) := by decide +kernel
theorem dX7_countFrom_21 : decode cX7_countFrom 21 = .ok (.invokestatic 33, 3) := by decide +kernel
theorem dX7_countFrom_24 : decode cX7_countFrom 24 = .ok (.i2l, 1) := by decide +kernel
theorem dX7_countFrom_25 : decode cX7_countFrom 25 = .ok (.lstore 6, 2) := by decide +kernel
theorem dX7_countFrom_27 : decode cX7_countFrom 27 = .ok (.iload_n 2, 1) := by decide +kernel
theorem dX7_countFrom_28 : decode cX7_countFrom 28 = .ok (.aload_n 0, 1) := by decide +kernel
theorem dX7_countFrom_29 : decode cX7_countFrom 29 = .ok (.iload 5, 2) := by decide +kernel
theorem dX7_countFrom_31 : decode cX7_countFrom 31 = .ok (.invokevirtual 36, 3) := by decide +kernel
theorem dX7_countFrom_34 : decode cX7_countFrom 34 = .ok (.invokestatic 19, 3) := by decide +kernel
theorem dX7_countFrom_37 : decode cX7_countFrom 37 = .ok (.i2l, 1) := by decide +kernel
theorem dX7_countFrom_38 : decode cX7_countFrom 38 = .ok (.lstore 8, 2) := by decide +kernel
theorem dX7_countFrom_40 : decode cX7_countFrom 40 = .ok (.lload 6, 2) := by decide +kernel
theorem dX7_countFrom_42 : decode cX7_countFrom 42 = .ok (.lload 8, 2) := by decide +kernel
theorem dX7_countFrom_44 : decode cX7_countFrom 44 = .ok (.lcmp, 1) := by decide +kernel
theorem dX7_countFrom_45 : decode cX7_countFrom 45 = .ok (.ifCond .gt 13, 3) := by decide +kernel
theorem dX7_countFrom_48 : decode cX7_countFrom 48 = .ok (.lload_n 3, 1) := by decide +kernel
theorem dX7_countFrom_49 : decode cX7_countFrom 49 = .ok (.lload 8, 2) := by decide +kernel
theorem dX7_countFrom_51 : decode cX7_countFrom 51 = .ok (.lload 6, 2) := by decide +kernel
theorem dX7_countFrom_53 : decode cX7_countFrom 53 = .ok (.lsub, 1) := by decide +kernel
theorem dX7_countFrom_54 : decode cX7_countFrom 54 = .ok (.lconst 1, 1) := by decide +kernel
theorem dX7_countFrom_55 : decode cX7_countFrom 55 = .ok (.ladd, 1) := by decide +kernel
theorem dX7_countFrom_56 : decode cX7_countFrom 56 = .ok (.ladd, 1) := by decide +kernel
theorem dX7_countFrom_57 : decode cX7_countFrom 57 = .ok (.lstore_n 3, 1) := by decide +kernel
theorem dX7_countFrom_58 : decode cX7_countFrom 58 = .ok (.iinc 5 1, 3) := by decide +kernel
theorem dX7_countFrom_61 : decode cX7_countFrom 61 = .ok (.goto (-56), 3) := by decide +kernel
theorem dX7_countFrom_64 : decode cX7_countFrom 64 = .ok (.lload_n 3, 1) := by decide +kernel
theorem dX7_countFrom_65 : decode cX7_countFrom 65 = .ok (.lreturn, 1) := by decide +kernel
theorem dX7_afterGreatest_0 : decode cX7_afterGreatest 0 = .ok (.iconst 0, 1) := by decide +kernel
theorem dX7_afterGreatest_1 : decode cX7_afterGreatest 1 = .ok (.istore_n 1, 1) := by decide +kernel
theorem dX7_afterGreatest_2 : decode cX7_afterGreatest 2 = .ok (.iconst 0, 1) := by decide +kernel
theorem dX7_afterGreatest_3 : decode cX7_afterGreatest 3 = .ok (.istore_n 2, 1) := by decide +kernel
theorem dX7_afterGreatest_4 : decode cX7_afterGreatest 4 = .ok (.iload_n 2, 1) := by decide +kernel
theorem dX7_afterGreatest_5 : decode cX7_afterGreatest 5 = .ok (.aload_n 0, 1) := by decide +kernel
theorem dX7_afterGreatest_6 : decode cX7_afterGreatest 6 = .ok (.invokevirtual 25, 3) := by decide +kernel
theorem dX7_afterGreatest_9 : decode cX7_afterGreatest 9 = .ok (.if_icmp .ge 38, 3) := by decide +kernel
theorem dX7_afterGreatest_12 : decode cX7_afterGreatest 12 = .ok (.sipush 999, 3) := by decide +kernel
theorem dX7_afterGreatest_15 : decode cX7_afterGreatest 15 = .ok (.aload_n 0, 1) := by decide +kernel
theorem dX7_afterGreatest_16 : decode cX7_afterGreatest 16 = .ok (.iload_n 2, 1) := by decide +kernel
theorem dX7_afterGreatest_17 : decode cX7_afterGreatest 17 = .ok (.invokevirtual 36, 3) := by decide +kernel
theorem dX7_afterGreatest_20 : decode cX7_afterGreatest 20 = .ok (.invokestatic 19, 3) := by decide +kernel
theorem dX7_afterGreatest_23 : decode cX7_afterGreatest 23 = .ok (.istore_n 3, 1) := by decide +kernel
theorem dX7_afterGreatest_24 : decode cX7_afterGreatest 24 = .ok (.iload_n 3, 1) := by decide +kernel
theorem dX7_afterGreatest_25 : decode cX7_afterGreatest 25 = .ok (.ifCond .lt 16, 3) := by decide +kernel
theorem dX7_afterGreatest_28 : decode cX7_afterGreatest 28 = .ok (.iload_n 3, 1) := by decide +kernel
theorem dX7_afterGreatest_29 : decode cX7_afterGreatest 29 = .ok (.aload_n 0, 1) := by decide +kernel
theorem dX7_afterGreatest_30 : decode cX7_afterGreatest 30 = .ok (.iload_n 2, 1) := by decide +kernel
theorem dX7_afterGreatest_31 : decode cX7_afterGreatest 31 = .ok (.invokevirtual 29, 3) := by decide +kernel
theorem dX7_afterGreatest_34 : decode cX7_afterGreatest 34 = .ok (.if_icmp .lt 7, 3) := by decide +kernel
theorem dX7_afterGreatest_37 : decode cX7_afterGreatest 37 = .ok (.iload_n 3, 1) := by decide +kernel
theorem dX7_afterGreatest_38 : decode cX7_afterGreatest 38 = .ok (.iconst 1, 1) := by decide +kernel
theorem dX7_afterGreatest_39 : decode cX7_afterGreatest 39 = .ok (.iadd, 1) := by decide +kernel
theorem dX7_afterGreatest_40 : decode cX7_afterGreatest 40 = .ok (.istore_n 1, 1) := by decide +kernel
theorem dX7_afterGreatest_41 : decode cX7_afterGreatest 41 = .ok (.iinc 2 1, 3) := by decide +kernel
theorem dX7_afterGreatest_44 : decode cX7_afterGreatest 44 = .ok (.goto (-40), 3) := by decide +kernel
theorem dX7_afterGreatest_47 : decode cX7_afterGreatest 47 = .ok (.iload_n 1, 1) := by decide +kernel
end
section
theorem dX7_afterGreatest_48 : decode cX7_afterGreatest 48 = .ok (.ireturn, 1) := by decide +kernel
theorem dX8_init_0 : decode cX8_init 0 = .ok (.aload_n 0, 1) := by decide +kernel
theorem dX8_init_1 : decode cX8_init 1 = .ok (.invokespecial 1, 3) := by decide +kernel
theorem dX8_init_4 : decode cX8_init 4 = .ok (.aload_n 0, 1) := by decide +kernel
theorem dX8_init_5 : decode cX8_init 5 = .ok (.iload_n 1, 1) := by decide +kernel
theorem dX8_init_6 : decode cX8_init 6 = .ok (.putfield 7, 3) := by decide +kernel
theorem dX8_init_9 : decode cX8_init 9 = .ok (.return_, 1) := by decide +kernel
theorem dX9_init_0 : decode cX9_init 0 = .ok (.aload_n 0, 1) := by decide +kernel
theorem dX9_init_1 : decode cX9_init 1 = .ok (.aload_n 1, 1) := by decide +kernel
theorem dX9_init_2 : decode cX9_init 2 = .ok (.getfield 1, 3) := by decide +kernel
theorem dX9_init_5 : decode cX9_init 5 = .ok (.iconst 1, 1) := by decide +kernel
theorem dX9_init_6 : decode cX9_init 6 = .ok (.iadd, 1) := by decide +kernel
theorem dX9_init_7 : decode cX9_init 7 = .ok (.invokespecial 7, 3) := by decide +kernel
theorem dX9_init_10 : decode cX9_init 10 = .ok (.aload_n 0, 1) := by decide +kernel
theorem dX9_init_11 : decode cX9_init 11 = .ok (.aload_n 1, 1) := by decide +kernel
theorem dX9_init_12 : decode cX9_init 12 = .ok (.putfield 11, 3) := by decide +kernel
theorem dX9_init_15 : decode cX9_init 15 = .ok (.return_, 1) := by decide +kernel
theorem dX9_lookFrom_0 : decode cX9_lookFrom 0 = .ok (.aload 4, 2) := by decide +kernel
theorem dX9_lookFrom_2 : decode cX9_lookFrom 2 = .ok (.aload_n 0, 1) := by decide +kernel
theorem dX9_lookFrom_3 : decode cX9_lookFrom 3 = .ok (.getfield 11, 3) := by decide +kernel
theorem dX9_lookFrom_6 : decode cX9_lookFrom 6 = .ok (.iload_n 2, 1) := by decide +kernel
theorem dX9_lookFrom_7 : decode cX9_lookFrom 7 = .ok (.iload_n 1, 1) := by decide +kernel
theorem dX9_lookFrom_8 : decode cX9_lookFrom 8 = .ok (.ineg, 1) := by decide +kernel
theorem dX9_lookFrom_9 : decode cX9_lookFrom 9 = .ok (.iload_n 3, 1) := by decide +kernel
theorem dX9_lookFrom_10 : decode cX9_lookFrom 10 = .ok (.invokevirtual 17, 3) := by decide +kernel
theorem dX9_lookFrom_13 : decode cX9_lookFrom 13 = .ok (.return_, 1) := by decide +kernel
theorem dX10_init_0 : decode cX10_init 0 = .ok (.aload_n 0, 1) := by decide +kernel
theorem dX10_init_1 : decode cX10_init 1 = .ok (.invokespecial 3, 3) := by decide +kernel
theorem dX10_init_4 : decode cX10_init 4 = .ok (.aload_n 0, 1) := by decide +kernel
theorem dX10_init_5 : decode cX10_init 5 = .ok (.bipush 100, 2) := by decide +kernel
theorem dX10_init_7 : decode cX10_init 7 = .ok (.anewarray 11, 3) := by decide +kernel
theorem dX10_init_10 : decode cX10_init 10 = .ok (.putfield 13, 3) := by decide +kernel
theorem dX10_init_13 : decode cX10_init 13 = .ok (.aload_n 0, 1) := by decide +kernel
theorem dX10_init_14 : decode cX10_init 14 = .ok (.bipush 100, 2) := by decide +kernel
theorem dX10_init_16 : decode cX10_init 16 = .ok (.newarray .int, 2) := by decide +kernel
theorem dX10_init_18 : decode cX10_init 18 = .ok (.putfield 17, 3) := by decide +kernel
theorem dX10_init_21 : decode cX10_init 21 = .ok (.aload_n 0, 1) := by decide +kernel
theorem dX10_init_22 : decode cX10_init 22 = .ok (.bipush 100, 2) := by decide +kernel
theorem dX10_init_24 : decode cX10_init 24 = .ok (.newarray .int, 2) := by decide +kernel
theorem dX10_init_26 : decode cX10_init 26 = .ok (.putfield 21, 3) := by decide +kernel
theorem dX10_init_29 : decode cX10_init 29 = .ok (.aload_n 0, 1) := by decide +kernel
theorem dX10_init_30 : decode cX10_init 30 = .ok (.bipush 100, 2) := by decide +kernel
theorem dX10_init_32 : decode cX10_init 32 = .ok (.newarray .int, 2) := by decide +kernel
theorem dX10_init_34 : decode cX10_init 34 = .ok (.putfield 24, 3) := by decide +kernel
theorem dX10_init_37 : decode cX10_init 37 = .ok (.aload_n 0, 1) := by decide +kernel
theorem dX10_init_38 : decode cX10_init 38 = .ok (.bipush 100, 2) := by decide +kernel
theorem dX10_init_40 : decode cX10_init 40 = .ok (.newarray .int, 2) := by decide +kernel
theorem dX10_init_42 : decode cX10_init 42 = .ok (.putfield 27, 3) := by decide +kernel
theorem dX10_init_45 : decode cX10_init 45 = .ok (.aload_n 0, 1) := by decide +kernel
theorem dX10_init_46 : decode cX10_init 46 = .ok (.iconst 0, 1) := by decide +kernel
theorem dX10_init_47 : decode cX10_init 47 = .ok (.putfield 30, 3) := by decide +kernel
theorem dX10_init_50 : decode cX10_init 50 = .ok (.aload_n 0, 1) := by decide +kernel
theorem dX10_init_51 : decode cX10_init 51 = .ok (.new 34, 3) := by decide +kernel
theorem dX10_init_54 : decode cX10_init 54 = .ok (.dup, 1) := by decide +kernel
theorem dX10_init_55 : decode cX10_init 55 = .ok (.invokespecial 36, 3) := by decide +kernel
theorem dX10_init_58 : decode cX10_init 58 = .ok (.putfield 37, 3) := by decide +kernel
theorem dX10_init_61 : decode cX10_init 61 = .ok (.return_, 1) := by decide +kernel
theorem dX10_over_0 : decode cX10_over 0 = .ok (.aload_n 0, 1) := by decide +kernel
theorem dX10_over_1 : decode cX10_over 1 = .ok (.iconst 0, 1) := by decide +kernel
theorem dX10_over_2 : decode cX10_over 2 = .ok (.putfield 30, 3) := by decide +kernel
theorem dX10_over_5 : decode cX10_over 5 = .ok (.aload_n 0, 1) := by decide +kernel
theorem dX10_over_6 : decode cX10_over 6 = .ok (.getfield 37, 3) := by decide +kernel
theorem dX10_over_9 : decode cX10_over 9 = .ok (.invokevirtual 41, 3) := by decide +kernel
theorem dX10_over_12 : decode cX10_over 12 = .ok (.aload_n 0, 1) := by decide +kernel
theorem dX10_over_13 : decode cX10_over 13 = .ok (.aload_n 1, 1) := by decide +kernel
theorem dX10_over_14 : decode cX10_over 14 = .ok (.iload_n 2, 1) := by decide +kernel
theorem dX10_over_15 : decode cX10_over 15 = .ok (.iload_n 3, 1) := by decide +kernel
theorem dX10_over_16 : decode cX10_over 16 = .ok (.iconst 0, 1) := by decide +kernel
theorem dX10_over_17 : decode cX10_over 17 = .ok (.invokevirtual 44, 3) := by decide +kernel
theorem dX10_over_20 : decode cX10_over 20 = .ok (.iconst 0, 1) := by decide +kernel
theorem dX10_over_21 : decode cX10_over 21 = .ok (.istore 5, 2) := by decide +kernel
theorem dX10_over_23 : decode cX10_over 23 = .ok (.iload 5, 2) := by decide +kernel
theorem dX10_over_25 : decode cX10_over 25 = .ok (.sipush 200, 3) := by decide +kernel
theorem dX10_over_28 : decode cX10_over 28 = .ok (.if_icmp .ge 34, 3) := by decide +kernel
theorem dX10_over_31 : decode cX10_over 31 = .ok (.aload_n 0, 1) := by decide +kernel
theorem dX10_over_32 : decode cX10_over 32 = .ok (.getfield 30, 3) := by decide +kernel
theorem dX10_over_35 : decode cX10_over 35 = .ok (.ifCond .le 27, 3) := by decide +kernel
theorem dX10_over_38 : decode cX10_over 38 = .ok (.aload_n 0, 1) := by decide +kernel
theorem dX10_over_39 : decode cX10_over 39 = .ok (.dup, 1) := by decide +kernel
theorem dX10_over_40 : decode cX10_over 40 = .ok (.getfield 30, 3) := by decide +kernel
theorem dX10_over_43 : decode cX10_over 43 = .ok (.iconst 1, 1) := by decide +kernel
theorem dX10_over_44 : decode cX10_over 44 = .ok (.isub, 1) := by decide +kernel
theorem dX10_over_45 : decode cX10_over 45 = .ok (.putfield 30, 3) := by decide +kernel
theorem dX10_over_48 : decode cX10_over 48 = .ok (.aload_n 0, 1) := by decide +kernel
theorem dX10_over_49 : decode cX10_over 49 = .ok (.aload_n 0, 1) := by decide +kernel
theorem dX10_over_50 : decode cX10_over 50 = .ok (.getfield 30, 3) := by decide +kernel
theorem dX10_over_53 : decode cX10_over 53 = .ok (.invokevirtual 48, 3) := by decide +kernel
theorem dX10_over_56 : decode cX10_over 56 = .ok (.iinc 5 1, 3) := by decide +kernel
theorem dX10_over_59 : decode cX10_over 59 = .ok (.goto (-36), 3) := by decide +kernel
theorem dX10_over_62 : decode cX10_over 62 = .ok (.aload_n 0, 1) := by decide +kernel
theorem dX10_over_63 : decode cX10_over 63 = .ok (.getfield 37, 3) := by decide +kernel
theorem dX10_over_66 : decode cX10_over 66 = .ok (.aload 4, 2) := by decide +kernel
theorem dX10_over_68 : decode cX10_over 68 = .ok (.invokevirtual 52, 3) := by decide +kernel
theorem dX10_over_71 : decode cX10_over 71 = .ok (.return_, 1) := by decide +kernel
theorem dX10_lookAt_0 : decode cX10_lookAt 0 = .ok (.aload_n 0, 1) := by decide +kernel
theorem dX10_lookAt_1 : decode cX10_lookAt 1 = .ok (.getfield 13, 3) := by decide +kernel
theorem dX10_lookAt_4 : decode cX10_lookAt 4 = .ok (.iload_n 1, 1) := by decide +kernel
theorem dX10_lookAt_5 : decode cX10_lookAt 5 = .ok (.aaload, 1) := by decide +kernel
theorem dX10_lookAt_6 : decode cX10_lookAt 6 = .ok (.astore_n 2, 1) := by decide +kernel
theorem dX10_lookAt_7 : decode cX10_lookAt 7 = .ok (.aload_n 2, 1) := by decide +kernel
theorem dX10_lookAt_8 : decode cX10_lookAt 8 = .ok (.ifnonnull 19, 3) := by decide +kernel
theorem dX10_lookAt_11 : decode cX10_lookAt 11 = .ok (.aload_n 0, 1) := by decide +kernel
theorem dX10_lookAt_12 : decode cX10_lookAt 12 = .ok (.getfield 37, 3) := by decide +kernel
theorem dX10_lookAt_15 : decode cX10_lookAt 15 = .ok (.aload_n 0, 1) := by decide +kernel
theorem dX10_lookAt_16 : decode cX10_lookAt 16 = .ok (.getfield 27, 3) := by decide +kernel
theorem dX10_lookAt_19 : decode cX10_lookAt 19 = .ok (.iload_n 1, 1) := by decide +kernel
theorem dX10_lookAt_20 : decode cX10_lookAt 20 = .ok (.iaload, 1) := by decide +kernel
theorem dX10_lookAt_21 : decode cX10_lookAt 21 = .ok (.invokevirtual 56, 3) := by decide +kernel
theorem dX10_lookAt_24 : decode cX10_lookAt 24 = .ok (.goto 26, 3) := by decide +kernel
theorem dX10_lookAt_27 : decode cX10_lookAt 27 = .ok (.aload_n 2, 1) := by decide +kernel
theorem dX10_lookAt_28 : decode cX10_lookAt 28 = .ok (.aload_n 0, 1) := by decide +kernel
theorem dX10_lookAt_29 : decode cX10_lookAt 29 = .ok (.getfield 17, 3) := by decide +kernel
theorem dX10_lookAt_32 : decode cX10_lookAt 32 = .ok (.iload_n 1, 1) := by decide +kernel
theorem dX10_lookAt_33 : decode cX10_lookAt 33 = .ok (.iaload, 1) := by decide +kernel
theorem dX10_lookAt_34 : decode cX10_lookAt 34 = .ok (.aload_n 0, 1) := by decide +kernel
theorem dX10_lookAt_35 : decode cX10_lookAt 35 = .ok (.getfield 21, 3) := by decide +kernel
theorem dX10_lookAt_38 : decode cX10_lookAt 38 = .ok (.iload_n 1, 1) := by decide +kernel
theorem dX10_lookAt_39 : decode cX10_lookAt 39 = .ok (.iaload, 1) := by decide +kernel
theorem dX10_lookAt_40 : decode cX10_lookAt 40 = .ok (.aload_n 0, 1) := by decide +kernel
theorem dX10_lookAt_41 : decode cX10_lookAt 41 = .ok (.getfield 24, 3) := by decide +kernel
theorem dX10_lookAt_44 : decode cX10_lookAt 44 = .ok (.iload_n 1, 1) := by decide +kernel
theorem dX10_lookAt_45 : decode cX10_lookAt 45 = .ok (.iaload, 1) := by decide +kernel
theorem dX10_lookAt_46 : decode cX10_lookAt 46 = .ok (.aload_n 0, 1) := by decide +kernel
theorem dX10_lookAt_47 : decode cX10_lookAt 47 = .ok (.invokevirtual 59, 3) := by decide +kernel
theorem dX10_lookAt_50 : decode cX10_lookAt 50 = .ok (.return_, 1) := by decide +kernel
theorem dX10_await_0 : decode cX10_await 0 = .ok (.aload_n 0, 1) := by decide +kernel
theorem dX10_await_1 : decode cX10_await 1 = .ok (.getfield 30, 3) := by decide +kernel
theorem dX10_await_4 : decode cX10_await 4 = .ok (.bipush 100, 2) := by decide +kernel
theorem dX10_await_6 : decode cX10_await 6 = .ok (.if_icmp .lt 4, 3) := by decide +kernel
theorem dX10_await_9 : decode cX10_await 9 = .ok (.return_, 1) := by decide +kernel
theorem dX10_await_10 : decode cX10_await 10 = .ok (.aload_n 0, 1) := by decide +kernel
theorem dX10_await_11 : decode cX10_await 11 = .ok (.getfield 13, 3) := by decide +kernel
theorem dX10_await_14 : decode cX10_await 14 = .ok (.aload_n 0, 1) := by decide +kernel
theorem dX10_await_15 : decode cX10_await 15 = .ok (.getfield 30, 3) := by decide +kernel
theorem dX10_await_18 : decode cX10_await 18 = .ok (.aload_n 1, 1) := by decide +kernel
theorem dX10_await_19 : decode cX10_await 19 = .ok (.aastore, 1) := by decide +kernel
theorem dX10_await_20 : decode cX10_await 20 = .ok (.aload_n 0, 1) := by decide +kernel
theorem dX10_await_21 : decode cX10_await 21 = .ok (.getfield 17, 3) := by decide +kernel
theorem dX10_await_24 : decode cX10_await 24 = .ok (.aload_n 0, 1) := by decide +kernel
theorem dX10_await_25 : decode cX10_await 25 = .ok (.getfield 30, 3) := by decide +kernel
theorem dX10_await_28 : decode cX10_await 28 = .ok (.iload_n 2, 1) := by decide +kernel
theorem dX10_await_29 : decode cX10_await 29 = .ok (.iastore, 1) := by decide +kernel
theorem dX10_await_30 : decode cX10_await 30 = .ok (.aload_n 0, 1) := by decide +kernel
theorem dX10_await_31 : decode cX10_await 31 = .ok (.getfield 21, 3) := by decide +kernel
theorem dX10_await_34 : decode cX10_await 34 = .ok (.aload_n 0, 1) := by decide +kernel
theorem dX10_await_35 : decode cX10_await 35 = .ok (.getfield 30, 3) := by decide +kernel
theorem dX10_await_38 : decode cX10_await 38 = .ok (.iload_n 3, 1) := by decide +kernel
theorem dX10_await_39 : decode cX10_await 39 = .ok (.iastore, 1) := by decide +kernel
theorem dX10_await_40 : decode cX10_await 40 = .ok (.aload_n 0, 1) := by decide +kernel
theorem dX10_await_41 : decode cX10_await 41 = .ok (.getfield 24, 3) := by decide +kernel
theorem dX10_await_44 : decode cX10_await 44 = .ok (.aload_n 0, 1) := by decide +kernel
theorem dX10_await_45 : decode cX10_await 45 = .ok (.getfield 30, 3) := by decide +kernel
theorem dX10_await_48 : decode cX10_await 48 = .ok (.iload 4, 2) := by decide +kernel
theorem dX10_await_50 : decode cX10_await 50 = .ok (.iastore, 1) := by decide +kernel
theorem dX10_await_51 : decode cX10_await 51 = .ok (.aload_n 0, 1) := by decide +kernel
theorem dX10_await_52 : decode cX10_await 52 = .ok (.dup, 1) := by decide +kernel
theorem dX10_await_53 : decode cX10_await 53 = .ok (.getfield 30, 3) := by decide +kernel
theorem dX10_await_56 : decode cX10_await 56 = .ok (.iconst 1, 1) := by decide +kernel
theorem dX10_await_57 : decode cX10_await 57 = .ok (.iadd, 1) := by decide +kernel
theorem dX10_await_58 : decode cX10_await 58 = .ok (.putfield 30, 3) := by decide +kernel
theorem dX10_await_61 : decode cX10_await 61 = .ok (.return_, 1) := by decide +kernel
theorem dX10_awaitJoin_0 : decode cX10_awaitJoin 0 = .ok (.aload_n 0, 1) := by decide +kernel
theorem dX10_awaitJoin_1 : decode cX10_awaitJoin 1 = .ok (.getfield 30, 3) := by decide +kernel
theorem dX10_awaitJoin_4 : decode cX10_awaitJoin 4 = .ok (.bipush 100, 2) := by decide +kernel
theorem dX10_awaitJoin_6 : decode cX10_awaitJoin 6 = .ok (.if_icmp .lt 4, 3) := by decide +kernel
theorem dX10_awaitJoin_9 : decode cX10_awaitJoin 9 = .ok (.return_, 1) := by decide +kernel
theorem dX10_awaitJoin_10 : decode cX10_awaitJoin 10 = .ok (.aload_n 0, 1) := by decide +kernel
theorem dX10_awaitJoin_11 : decode cX10_awaitJoin 11 = .ok (.getfield 13, 3) := by decide +kernel
theorem dX10_awaitJoin_14 : decode cX10_awaitJoin 14 = .ok (.aload_n 0, 1) := by decide +kernel
theorem dX10_awaitJoin_15 : decode cX10_awaitJoin 15 = .ok (.getfield 30, 3) := by decide +kernel
theorem dX10_awaitJoin_18 : decode cX10_awaitJoin 18 = .ok (.aconst_null, 1) := by decide +kernel
theorem dX10_awaitJoin_19 : decode cX10_awaitJoin 19 = .ok (.aastore, 1) := by decide +kernel
theorem dX10_awaitJoin_20 : decode cX10_awaitJoin 20 = .ok (.aload_n 0, 1) := by decide +kernel
theorem dX10_awaitJoin_21 : decode cX10_awaitJoin 21 = .ok (.getfield 27, 3) := by decide +kernel
theorem dX10_awaitJoin_24 : decode cX10_awaitJoin 24 = .ok (.aload_n 0, 1) := by decide +kernel
theorem dX10_awaitJoin_25 : decode cX10_awaitJoin 25 = .ok (.getfield 30, 3) := by decide +kernel
theorem dX10_awaitJoin_28 : decode cX10_awaitJoin 28 = .ok (.iload_n 1, 1) := by decide +kernel
theorem dX10_awaitJoin_29 : decode cX10_awaitJoin 29 = .ok (.iastore, 1) := by decide +kernel
theorem dX10_awaitJoin_30 : decode cX10_awaitJoin 30 = .ok (.aload_n 0, 1) := by decide +kernel
theorem dX10_awaitJoin_31 : decode cX10_awaitJoin 31 = .ok (.dup, 1) := by decide +kernel
theorem dX10_awaitJoin_32 : decode cX10_awaitJoin 32 = .ok (.getfield 30, 3) := by decide +kernel
theorem dX10_awaitJoin_35 : decode cX10_awaitJoin 35 = .ok (.iconst 1, 1) := by decide +kernel
theorem dX10_awaitJoin_36 : decode cX10_awaitJoin 36 = .ok (.iadd, 1) := by decide +kernel
theorem dX10_awaitJoin_37 : decode cX10_awaitJoin 37 = .ok (.putfield 30, 3) := by decide +kernel
theorem dX10_awaitJoin_40 : decode cX10_awaitJoin 40 = .ok (.return_, 1) := by decide +kernel
theorem dX10_give_0 : decode cX10_give 0 = .ok (.aload_n 0, 1) := by decide +kernel
theorem dX10_give_1 : decode cX10_give 1 = .ok (.getfield 37, 3) := by decide +kernel
theorem dX10_give_4 : decode cX10_give 4 = .ok (.iload_n 1, 1) := by decide +kernel
theorem dX10_give_5 : decode cX10_give 5 = .ok (.iload_n 2, 1) := by decide +kernel
theorem dX10_give_6 : decode cX10_give 6 = .ok (.invokevirtual 63, 3) := by decide +kernel
theorem dX10_give_9 : decode cX10_give 9 = .ok (.return_, 1) := by decide +kernel
theorem dX10_giveNone_0 : decode cX10_giveNone 0 = .ok (.aload_n 0, 1) := by decide +kernel
theorem dX10_giveNone_1 : decode cX10_giveNone 1 = .ok (.getfield 37, 3) := by decide +kernel
theorem dX10_giveNone_4 : decode cX10_giveNone 4 = .ok (.iconst 0, 1) := by decide +kernel
theorem dX10_giveNone_5 : decode cX10_giveNone 5 = .ok (.iconst 0, 1) := by decide +kernel
theorem dX10_giveNone_6 : decode cX10_giveNone 6 = .ok (.invokevirtual 63, 3) := by decide +kernel
theorem dX10_giveNone_9 : decode cX10_giveNone 9 = .ok (.return_, 1) := by decide +kernel
theorem dX11_init_0 : decode cX11_init 0 = .ok (.aload_n 0, 1) := by decide +kernel
theorem dX11_init_1 : decode cX11_init 1 = .ok (.invokespecial 3, 3) := by decide +kernel
theorem dX11_init_4 : decode cX11_init 4 = .ok (.aload_n 0, 1) := by decide +kernel
theorem dX11_init_5 : decode cX11_init 5 = .ok (.bipush 6, 2) := by decide +kernel
theorem dX11_init_7 : decode cX11_init 7 = .ok (.newarray .int, 2) := by decide +kernel
theorem dX11_init_9 : decode cX11_init 9 = .ok (.putfield 9, 3) := by decide +kernel
theorem dX11_init_12 : decode cX11_init 12 = .ok (.aload_n 0, 1) := by decide +kernel
theorem dX11_init_13 : decode cX11_init 13 = .ok (.iconst 0, 1) := by decide +kernel
theorem dX11_init_14 : decode cX11_init 14 = .ok (.putfield 13, 3) := by decide +kernel
theorem dX11_init_17 : decode cX11_init 17 = .ok (.aload_n 0, 1) := by decide +kernel
theorem dX11_init_18 : decode cX11_init 18 = .ok (.bipush 60, 2) := by decide +kernel
theorem dX11_init_20 : decode cX11_init 20 = .ok (.anewarray 17, 3) := by decide +kernel
theorem dX11_init_23 : decode cX11_init 23 = .ok (.putfield 19, 3) := by decide +kernel
theorem dX11_init_26 : decode cX11_init 26 = .ok (.aload_n 0, 1) := by decide +kernel
theorem dX11_init_27 : decode cX11_init 27 = .ok (.iconst 0, 1) := by decide +kernel
theorem dX11_init_28 : decode cX11_init 28 = .ok (.putfield 23, 3) := by decide +kernel
theorem dX11_init_31 : decode cX11_init 31 = .ok (.aload_n 0, 1) := by decide +kernel
theorem dX11_init_32 : decode cX11_init 32 = .ok (.new 26, 3) := by decide +kernel
theorem dX11_init_35 : decode cX11_init 35 = .ok (.dup, 1) := by decide +kernel
theorem dX11_init_36 : decode cX11_init 36 = .ok (.invokespecial 28, 3) := by decide +kernel
theorem dX11_init_39 : decode cX11_init 39 = .ok (.putfield 29, 3) := by decide +kernel
theorem dX11_init_42 : decode cX11_init 42 = .ok (.aload_n 0, 1) := by decide +kernel
theorem dX11_init_43 : decode cX11_init 43 = .ok (.new 33, 3) := by decide +kernel
theorem dX11_init_46 : decode cX11_init 46 = .ok (.dup, 1) := by decide +kernel
theorem dX11_init_47 : decode cX11_init 47 = .ok (.invokespecial 35, 3) := by decide +kernel
theorem dX11_init_50 : decode cX11_init 50 = .ok (.putfield 36, 3) := by decide +kernel
theorem dX11_init_53 : decode cX11_init 53 = .ok (.aload_n 0, 1) := by decide +kernel
theorem dX11_init_54 : decode cX11_init 54 = .ok (.new 33, 3) := by decide +kernel
theorem dX11_init_57 : decode cX11_init 57 = .ok (.dup, 1) := by decide +kernel
theorem dX11_init_58 : decode cX11_init 58 = .ok (.invokespecial 35, 3) := by decide +kernel
theorem dX11_init_61 : decode cX11_init 61 = .ok (.putfield 40, 3) := by decide +kernel
theorem dX11_init_64 : decode cX11_init 64 = .ok (.return_, 1) := by decide +kernel
theorem dX11_size_0 : decode cX11_size 0 = .ok (.iload_n 1, 1) := by decide +kernel
theorem dX11_size_1 : decode cX11_size 1 = .ok (.sipush (-5000), 3) := by decide +kernel
theorem dX11_size_4 : decode cX11_size 4 = .ok (.if_icmp .lt 19, 3) := by decide +kernel
theorem dX11_size_7 : decode cX11_size 7 = .ok (.iload_n 1, 1) := by decide +kernel
theorem dX11_size_8 : decode cX11_size 8 = .ok (.sipush 5000, 3) := by decide +kernel
theorem dX11_size_11 : decode cX11_size 11 = .ok (.if_icmp .gt 12, 3) := by decide +kernel
theorem dX11_size_14 : decode cX11_size 14 = .ok (.aload_n 0, 1) := by decide +kernel
theorem dX11_size_15 : decode cX11_size 15 = .ok (.getfield 13, 3) := by decide +kernel
theorem dX11_size_18 : decode cX11_size 18 = .ok (.bipush 6, 2) := by decide +kernel
theorem dX11_size_20 : decode cX11_size 20 = .ok (.if_icmp .lt 5, 3) := by decide +kernel
theorem dX11_size_23 : decode cX11_size 23 = .ok (.iconst (-1), 1) := by decide +kernel
theorem dX11_size_24 : decode cX11_size 24 = .ok (.ireturn, 1) := by decide +kernel
theorem dX11_size_25 : decode cX11_size 25 = .ok (.aload_n 0, 1) := by decide +kernel
theorem dX11_size_26 : decode cX11_size 26 = .ok (.getfield 9, 3) := by decide +kernel
theorem dX11_size_29 : decode cX11_size 29 = .ok (.aload_n 0, 1) := by decide +kernel
theorem dX11_size_30 : decode cX11_size 30 = .ok (.getfield 13, 3) := by decide +kernel
theorem dX11_size_33 : decode cX11_size 33 = .ok (.iload_n 1, 1) := by decide +kernel
theorem dX11_size_34 : decode cX11_size 34 = .ok (.iastore, 1) := by decide +kernel
theorem dX11_size_35 : decode cX11_size 35 = .ok (.aload_n 0, 1) := by decide +kernel
theorem dX11_size_36 : decode cX11_size 36 = .ok (.dup, 1) := by decide +kernel
theorem dX11_size_37 : decode cX11_size 37 = .ok (.getfield 13, 3) := by decide +kernel
theorem dX11_size_40 : decode cX11_size 40 = .ok (.iconst 1, 1) := by decide +kernel
theorem dX11_size_41 : decode cX11_size 41 = .ok (.iadd, 1) := by decide +kernel
theorem dX11_size_42 : decode cX11_size 42 = .ok (.putfield 13, 3) := by decide +kernel
theorem dX11_size_45 : decode cX11_size 45 = .ok (.aload_n 0, 1) := by decide +kernel
theorem dX11_size_46 : decode cX11_size 46 = .ok (.getfield 13, 3) := by decide +kernel
theorem dX11_size_49 : decode cX11_size 49 = .ok (.ireturn, 1) := by decide +kernel
theorem dX11_solid_0 : decode cX11_solid 0 = .ok (.aload_n 0, 1) := by decide +kernel
theorem dX11_solid_1 : decode cX11_solid 1 = .ok (.invokevirtual 43, 3) := by decide +kernel
theorem dX11_solid_4 : decode cX11_solid 4 = .ok (.istore_n 2, 1) := by decide +kernel
theorem dX11_solid_5 : decode cX11_solid 5 = .ok (.iload_n 2, 1) := by decide +kernel
theorem dX11_solid_6 : decode cX11_solid 6 = .ok (.iload_n 1, 1) := by decide +kernel
theorem dX11_solid_7 : decode cX11_solid 7 = .ok (.invokestatic 47, 3) := by decide +kernel
theorem dX11_solid_10 : decode cX11_solid 10 = .ok (.if_icmp .ne 11, 3) := by decide +kernel
theorem dX11_solid_13 : decode cX11_solid 13 = .ok (.aload_n 0, 1) := by decide +kernel
theorem dX11_solid_14 : decode cX11_solid 14 = .ok (.iload_n 1, 1) := by decide +kernel
theorem dX11_solid_15 : decode cX11_solid 15 = .ok (.invokevirtual 51, 3) := by decide +kernel
theorem dX11_solid_18 : decode cX11_solid 18 = .ok (.ifCond .ge 5, 3) := by decide +kernel
theorem dX11_solid_21 : decode cX11_solid 21 = .ok (.iconst (-1), 1) := by decide +kernel
theorem dX11_solid_22 : decode cX11_solid 22 = .ok (.ireturn, 1) := by decide +kernel
theorem dX11_solid_23 : decode cX11_solid 23 = .ok (.aload_n 0, 1) := by decide +kernel
theorem dX11_solid_24 : decode cX11_solid 24 = .ok (.invokevirtual 54, 3) := by decide +kernel
theorem dX11_solid_27 : decode cX11_solid 27 = .ok (.ifCond .eq 8, 3) := by decide +kernel
theorem dX11_solid_30 : decode cX11_solid 30 = .ok (.bipush (-2), 2) := by decide +kernel
theorem dX11_solid_32 : decode cX11_solid 32 = .ok (.goto 12, 3) := by decide +kernel
theorem dX11_solid_35 : decode cX11_solid 35 = .ok (.aload_n 0, 1) := by decide +kernel
theorem dX11_solid_36 : decode cX11_solid 36 = .ok (.aload_n 0, 1) := by decide +kernel
theorem dX11_solid_37 : decode cX11_solid 37 = .ok (.iload_n 1, 1) := by decide +kernel
theorem dX11_solid_38 : decode cX11_solid 38 = .ok (.invokevirtual 58, 3) := by decide +kernel
theorem dX11_solid_41 : decode cX11_solid 41 = .ok (.invokevirtual 62, 3) := by decide +kernel
theorem dX11_solid_44 : decode cX11_solid 44 = .ok (.ireturn, 1) := by decide +kernel
theorem dX11_join_0 : decode cX11_join 0 = .ok (.aload_n 0, 1) := by decide +kernel
theorem dX11_join_1 : decode cX11_join 1 = .ok (.iload_n 1, 1) := by decide +kernel
theorem dX11_join_2 : decode cX11_join 2 = .ok (.invokevirtual 66, 3) := by decide +kernel
theorem dX11_join_5 : decode cX11_join 5 = .ok (.astore 4, 2) := by decide +kernel
theorem dX11_join_7 : decode cX11_join 7 = .ok (.aload_n 0, 1) := by decide +kernel
theorem dX11_join_8 : decode cX11_join 8 = .ok (.iload_n 2, 1) := by decide +kernel
theorem dX11_join_9 : decode cX11_join 9 = .ok (.invokevirtual 66, 3) := by decide +kernel
theorem dX11_join_12 : decode cX11_join 12 = .ok (.astore 5, 2) := by decide +kernel
theorem dX11_join_14 : decode cX11_join 14 = .ok (.aload 4, 2) := by decide +kernel
theorem dX11_join_16 : decode cX11_join 16 = .ok (.ifnull 17, 3) := by decide +kernel
theorem dX11_join_19 : decode cX11_join 19 = .ok (.aload 5, 2) := by decide +kernel
theorem dX11_join_21 : decode cX11_join 21 = .ok (.ifnull 12, 3) := by decide +kernel
theorem dX11_join_24 : decode cX11_join 24 = .ok (.iload_n 3, 1) := by decide +kernel
theorem dX11_join_25 : decode cX11_join 25 = .ok (.ifCond .lt 8, 3) := by decide +kernel
theorem dX11_join_28 : decode cX11_join 28 = .ok (.iload_n 3, 1) := by decide +kernel
theorem dX11_join_29 : decode cX11_join 29 = .ok (.iconst 2, 1) := by decide +kernel
theorem dX11_join_30 : decode cX11_join 30 = .ok (.if_icmp .le 5, 3) := by decide +kernel
theorem dX11_join_33 : decode cX11_join 33 = .ok (.iconst (-1), 1) := by decide +kernel
theorem dX11_join_34 : decode cX11_join 34 = .ok (.ireturn, 1) := by decide +kernel
theorem dX11_join_35 : decode cX11_join 35 = .ok (.aload 4, 2) := by decide +kernel
theorem dX11_join_37 : decode cX11_join 37 = .ok (.getfield 69, 3) := by decide +kernel
theorem dX11_join_40 : decode cX11_join 40 = .ok (.aload 5, 2) := by decide +kernel
theorem dX11_join_42 : decode cX11_join 42 = .ok (.getfield 69, 3) := by decide +kernel
theorem dX11_join_45 : decode cX11_join 45 = .ok (.iadd, 1) := by decide +kernel
theorem dX11_join_46 : decode cX11_join 46 = .ok (.iconst 1, 1) := by decide +kernel
theorem dX11_join_47 : decode cX11_join 47 = .ok (.iadd, 1) := by decide +kernel
theorem dX11_join_48 : decode cX11_join 48 = .ok (.bipush 100, 2) := by decide +kernel
theorem dX11_join_50 : decode cX11_join 50 = .ok (.if_icmp .le 5, 3) := by decide +kernel
theorem dX11_join_53 : decode cX11_join 53 = .ok (.iconst (-1), 1) := by decide +kernel
theorem dX11_join_54 : decode cX11_join 54 = .ok (.ireturn, 1) := by decide +kernel
theorem dX11_join_55 : decode cX11_join 55 = .ok (.aload_n 0, 1) := by decide +kernel
theorem dX11_join_56 : decode cX11_join 56 = .ok (.invokevirtual 54, 3) := by decide +kernel
theorem dX11_join_59 : decode cX11_join 59 = .ok (.ifCond .eq 8, 3) := by decide +kernel
theorem dX11_join_62 : decode cX11_join 62 = .ok (.bipush (-2), 2) := by decide +kernel
theorem dX11_join_64 : decode cX11_join 64 = .ok (.goto 19, 3) := by decide +kernel
theorem dX11_join_67 : decode cX11_join 67 = .ok (.aload_n 0, 1) := by decide +kernel
theorem dX11_join_68 : decode cX11_join 68 = .ok (.new 72, 3) := by decide +kernel
theorem dX11_join_71 : decode cX11_join 71 = .ok (.dup, 1) := by decide +kernel
theorem dX11_join_72 : decode cX11_join 72 = .ok (.aload 4, 2) := by decide +kernel
theorem dX11_join_74 : decode cX11_join 74 = .ok (.aload 5, 2) := by decide +kernel
theorem dX11_join_76 : decode cX11_join 76 = .ok (.iload_n 3, 1) := by decide +kernel
theorem dX11_join_77 : decode cX11_join 77 = .ok (.invokespecial 74, 3) := by decide +kernel
theorem dX11_join_80 : decode cX11_join 80 = .ok (.invokevirtual 62, 3) := by decide +kernel
theorem dX11_join_83 : decode cX11_join 83 = .ok (.ireturn, 1) := by decide +kernel
theorem dX11_moved_0 : decode cX11_moved 0 = .ok (.aload_n 0, 1) := by decide +kernel
theorem dX11_moved_1 : decode cX11_moved 1 = .ok (.invokevirtual 43, 3) := by decide +kernel
theorem dX11_moved_4 : decode cX11_moved 4 = .ok (.istore_n 2, 1) := by decide +kernel
theorem dX11_moved_5 : decode cX11_moved 5 = .ok (.aload_n 0, 1) := by decide +kernel
theorem dX11_moved_6 : decode cX11_moved 6 = .ok (.iload_n 1, 1) := by decide +kernel
theorem dX11_moved_7 : decode cX11_moved 7 = .ok (.invokevirtual 66, 3) := by decide +kernel
theorem dX11_moved_10 : decode cX11_moved 10 = .ok (.astore_n 3, 1) := by decide +kernel
theorem dX11_moved_11 : decode cX11_moved 11 = .ok (.aload_n 3, 1) := by decide +kernel
theorem dX11_moved_12 : decode cX11_moved 12 = .ok (.ifnull 19, 3) := by decide +kernel
theorem dX11_moved_15 : decode cX11_moved 15 = .ok (.iload_n 2, 1) := by decide +kernel
theorem dX11_moved_16 : decode cX11_moved 16 = .ok (.iconst 3, 1) := by decide +kernel
theorem dX11_moved_17 : decode cX11_moved 17 = .ok (.if_icmp .ne 14, 3) := by decide +kernel
theorem dX11_moved_20 : decode cX11_moved 20 = .ok (.aload_n 3, 1) := by decide +kernel
theorem dX11_moved_21 : decode cX11_moved 21 = .ok (.getfield 69, 3) := by decide +kernel
theorem dX11_moved_24 : decode cX11_moved 24 = .ok (.iconst 1, 1) := by decide +kernel
theorem dX11_moved_25 : decode cX11_moved 25 = .ok (.iadd, 1) := by decide +kernel
theorem dX11_moved_26 : decode cX11_moved 26 = .ok (.bipush 100, 2) := by decide +kernel
theorem dX11_moved_28 : decode cX11_moved 28 = .ok (.if_icmp .le 5, 3) := by decide +kernel
theorem dX11_moved_31 : decode cX11_moved 31 = .ok (.iconst (-1), 1) := by decide +kernel
theorem dX11_moved_32 : decode cX11_moved 32 = .ok (.ireturn, 1) := by decide +kernel
theorem dX11_moved_33 : decode cX11_moved 33 = .ok (.aload_n 0, 1) := by decide +kernel
theorem dX11_moved_34 : decode cX11_moved 34 = .ok (.invokevirtual 54, 3) := by decide +kernel
theorem dX11_moved_37 : decode cX11_moved 37 = .ok (.ifCond .eq 8, 3) := by decide +kernel
theorem dX11_moved_40 : decode cX11_moved 40 = .ok (.bipush (-2), 2) := by decide +kernel
theorem dX11_moved_42 : decode cX11_moved 42 = .ok (.goto 33, 3) := by decide +kernel
theorem dX11_moved_45 : decode cX11_moved 45 = .ok (.aload_n 0, 1) := by decide +kernel
theorem dX11_moved_46 : decode cX11_moved 46 = .ok (.new 77, 3) := by decide +kernel
theorem dX11_moved_49 : decode cX11_moved 49 = .ok (.dup, 1) := by decide +kernel
theorem dX11_moved_50 : decode cX11_moved 50 = .ok (.aload_n 3, 1) := by decide +kernel
theorem dX11_moved_51 : decode cX11_moved 51 = .ok (.aload_n 0, 1) := by decide +kernel
theorem dX11_moved_52 : decode cX11_moved 52 = .ok (.getfield 9, 3) := by decide +kernel
theorem dX11_moved_55 : decode cX11_moved 55 = .ok (.iconst 0, 1) := by decide +kernel
theorem dX11_moved_56 : decode cX11_moved 56 = .ok (.iaload, 1) := by decide +kernel
theorem dX11_moved_57 : decode cX11_moved 57 = .ok (.aload_n 0, 1) := by decide +kernel
theorem dX11_moved_58 : decode cX11_moved 58 = .ok (.getfield 9, 3) := by decide +kernel
theorem dX11_moved_61 : decode cX11_moved 61 = .ok (.iconst 1, 1) := by decide +kernel
theorem dX11_moved_62 : decode cX11_moved 62 = .ok (.iaload, 1) := by decide +kernel
theorem dX11_moved_63 : decode cX11_moved 63 = .ok (.aload_n 0, 1) := by decide +kernel
theorem dX11_moved_64 : decode cX11_moved 64 = .ok (.getfield 9, 3) := by decide +kernel
theorem dX11_moved_67 : decode cX11_moved 67 = .ok (.iconst 2, 1) := by decide +kernel
theorem dX11_moved_68 : decode cX11_moved 68 = .ok (.iaload, 1) := by decide +kernel
theorem dX11_moved_69 : decode cX11_moved 69 = .ok (.invokespecial 79, 3) := by decide +kernel
theorem dX11_moved_72 : decode cX11_moved 72 = .ok (.invokevirtual 62, 3) := by decide +kernel
theorem dX11_moved_75 : decode cX11_moved 75 = .ok (.ireturn, 1) := by decide +kernel
theorem dX11_turned_0 : decode cX11_turned 0 = .ok (.aload_n 0, 1) := by decide +kernel
theorem dX11_turned_1 : decode cX11_turned 1 = .ok (.iload_n 1, 1) := by decide +kernel
theorem dX11_turned_2 : decode cX11_turned 2 = .ok (.invokevirtual 66, 3) := by decide +kernel
theorem dX11_turned_5 : decode cX11_turned 5 = .ok (.astore_n 2, 1) := by decide +kernel
theorem dX11_turned_6 : decode cX11_turned 6 = .ok (.aload_n 2, 1) := by decide +kernel
theorem dX11_turned_7 : decode cX11_turned 7 = .ok (.ifnull 14, 3) := by decide +kernel
theorem dX11_turned_10 : decode cX11_turned 10 = .ok (.aload_n 2, 1) := by decide +kernel
theorem dX11_turned_11 : decode cX11_turned 11 = .ok (.getfield 69, 3) := by decide +kernel
theorem dX11_turned_14 : decode cX11_turned 14 = .ok (.iconst 1, 1) := by decide +kernel
theorem dX11_turned_15 : decode cX11_turned 15 = .ok (.iadd, 1) := by decide +kernel
theorem dX11_turned_16 : decode cX11_turned 16 = .ok (.bipush 100, 2) := by decide +kernel
theorem dX11_turned_18 : decode cX11_turned 18 = .ok (.if_icmp .le 5, 3) := by decide +kernel
theorem dX11_turned_21 : decode cX11_turned 21 = .ok (.iconst (-1), 1) := by decide +kernel
theorem dX11_turned_22 : decode cX11_turned 22 = .ok (.ireturn, 1) := by decide +kernel
theorem dX11_turned_23 : decode cX11_turned 23 = .ok (.aload_n 0, 1) := by decide +kernel
theorem dX11_turned_24 : decode cX11_turned 24 = .ok (.invokevirtual 54, 3) := by decide +kernel
theorem dX11_turned_27 : decode cX11_turned 27 = .ok (.ifCond .eq 8, 3) := by decide +kernel
theorem dX11_turned_30 : decode cX11_turned 30 = .ok (.bipush (-2), 2) := by decide +kernel
theorem dX11_turned_32 : decode cX11_turned 32 = .ok (.goto 15, 3) := by decide +kernel
theorem dX11_turned_35 : decode cX11_turned 35 = .ok (.aload_n 0, 1) := by decide +kernel
theorem dX11_turned_36 : decode cX11_turned 36 = .ok (.new 82, 3) := by decide +kernel
theorem dX11_turned_39 : decode cX11_turned 39 = .ok (.dup, 1) := by decide +kernel
theorem dX11_turned_40 : decode cX11_turned 40 = .ok (.aload_n 2, 1) := by decide +kernel
theorem dX11_turned_41 : decode cX11_turned 41 = .ok (.invokespecial 84, 3) := by decide +kernel
theorem dX11_turned_44 : decode cX11_turned 44 = .ok (.invokevirtual 62, 3) := by decide +kernel
theorem dX11_turned_47 : decode cX11_turned 47 = .ok (.ireturn, 1) := by decide +kernel
theorem dX11_weight_0 : decode cX11_weight 0 = .ok (.aload_n 0, 1) := by decide +kernel
theorem dX11_weight_1 : decode cX11_weight 1 = .ok (.iload_n 1, 1) := by decide +kernel
theorem dX11_weight_2 : decode cX11_weight 2 = .ok (.invokevirtual 66, 3) := by decide +kernel
theorem dX11_weight_5 : decode cX11_weight 5 = .ok (.astore_n 2, 1) := by decide +kernel
theorem dX11_weight_6 : decode cX11_weight 6 = .ok (.aload_n 2, 1) := by decide +kernel
theorem dX11_weight_7 : decode cX11_weight 7 = .ok (.ifnonnull 7, 3) := by decide +kernel
theorem dX11_weight_10 : decode cX11_weight 10 = .ok (.iconst (-1), 1) := by decide +kernel
theorem dX11_weight_11 : decode cX11_weight 11 = .ok (.goto 7, 3) := by decide +kernel
theorem dX11_weight_14 : decode cX11_weight 14 = .ok (.aload_n 2, 1) := by decide +kernel
theorem dX11_weight_15 : decode cX11_weight 15 = .ok (.getfield 69, 3) := by decide +kernel
theorem dX11_weight_18 : decode cX11_weight 18 = .ok (.ireturn, 1) := by decide +kernel
theorem dX11_inside_0 : decode cX11_inside 0 = .ok (.aload_n 0, 1) := by decide +kernel
theorem dX11_inside_1 : decode cX11_inside 1 = .ok (.iload_n 1, 1) := by decide +kernel
theorem dX11_inside_2 : decode cX11_inside 2 = .ok (.invokevirtual 66, 3) := by decide +kernel
theorem dX11_inside_5 : decode cX11_inside 5 = .ok (.astore 5, 2) := by decide +kernel
theorem dX11_inside_7 : decode cX11_inside 7 = .ok (.aload 5, 2) := by decide +kernel
theorem dX11_inside_9 : decode cX11_inside 9 = .ok (.ifnull 11, 3) := by decide +kernel
theorem dX11_inside_12 : decode cX11_inside 12 = .ok (.iload 4, 2) := by decide +kernel
theorem dX11_inside_14 : decode cX11_inside 14 = .ok (.invokestatic 87, 3) := by decide +kernel
theorem dX11_inside_17 : decode cX11_inside 17 = .ok (.ifCond .eq 5, 3) := by decide +kernel
theorem dX11_inside_20 : decode cX11_inside 20 = .ok (.iconst 0, 1) := by decide +kernel
theorem dX11_inside_21 : decode cX11_inside 21 = .ok (.ireturn, 1) := by decide +kernel
theorem dX11_inside_22 : decode cX11_inside 22 = .ok (.aload_n 0, 1) := by decide +kernel
theorem dX11_inside_23 : decode cX11_inside 23 = .ok (.aload 5, 2) := by decide +kernel
theorem dX11_inside_25 : decode cX11_inside 25 = .ok (.iload_n 2, 1) := by decide +kernel
theorem dX11_inside_26 : decode cX11_inside 26 = .ok (.iload_n 3, 1) := by decide +kernel
theorem dX11_inside_27 : decode cX11_inside 27 = .ok (.aload_n 0, 1) := by decide +kernel
theorem dX11_inside_28 : decode cX11_inside 28 = .ok (.getfield 36, 3) := by decide +kernel
theorem dX11_inside_31 : decode cX11_inside 31 = .ok (.invokevirtual 91, 3) := by decide +kernel
theorem dX11_inside_34 : decode cX11_inside 34 = .ok (.aload_n 0, 1) := by decide +kernel
theorem dX11_inside_35 : decode cX11_inside 35 = .ok (.getfield 36, 3) := by decide +kernel
theorem dX11_inside_38 : decode cX11_inside 38 = .ok (.iload 4, 2) := by decide +kernel
theorem dX11_inside_40 : decode cX11_inside 40 = .ok (.iload 4, 2) := by decide +kernel
theorem dX11_inside_42 : decode cX11_inside 42 = .ok (.invokevirtual 95, 3) := by decide +kernel
theorem dX11_inside_45 : decode cX11_inside 45 = .ok (.lconst 0, 1) := by decide +kernel
theorem dX11_inside_46 : decode cX11_inside 46 = .ok (.lcmp, 1) := by decide +kernel
theorem dX11_inside_47 : decode cX11_inside 47 = .ok (.ifCond .le 7, 3) := by decide +kernel
theorem dX11_inside_50 : decode cX11_inside 50 = .ok (.iconst 1, 1) := by decide +kernel
theorem dX11_inside_51 : decode cX11_inside 51 = .ok (.goto 4, 3) := by decide +kernel
theorem dX11_inside_54 : decode cX11_inside 54 = .ok (.iconst 0, 1) := by decide +kernel
theorem dX11_inside_55 : decode cX11_inside 55 = .ok (.ireturn, 1) := by decide +kernel
theorem dX11_top_0 : decode cX11_top 0 = .ok (.aload_n 0, 1) := by decide +kernel
theorem dX11_top_1 : decode cX11_top 1 = .ok (.iload_n 1, 1) := by decide +kernel
theorem dX11_top_2 : decode cX11_top 2 = .ok (.invokevirtual 66, 3) := by decide +kernel
theorem dX11_top_5 : decode cX11_top 5 = .ok (.astore 4, 2) := by decide +kernel
theorem dX11_top_7 : decode cX11_top 7 = .ok (.aload 4, 2) := by decide +kernel
theorem dX11_top_9 : decode cX11_top 9 = .ok (.ifnonnull 5, 3) := by decide +kernel
theorem dX11_top_12 : decode cX11_top 12 = .ok (.iconst (-1), 1) := by decide +kernel
theorem dX11_top_13 : decode cX11_top 13 = .ok (.ireturn, 1) := by decide +kernel
theorem dX11_top_14 : decode cX11_top 14 = .ok (.aload_n 0, 1) := by decide +kernel
theorem dX11_top_15 : decode cX11_top 15 = .ok (.aload 4, 2) := by decide +kernel
theorem dX11_top_17 : decode cX11_top 17 = .ok (.iload_n 2, 1) := by decide +kernel
theorem dX11_top_18 : decode cX11_top 18 = .ok (.iload_n 3, 1) := by decide +kernel
theorem dX11_top_19 : decode cX11_top 19 = .ok (.aload_n 0, 1) := by decide +kernel
theorem dX11_top_20 : decode cX11_top 20 = .ok (.getfield 36, 3) := by decide +kernel
theorem dX11_top_23 : decode cX11_top 23 = .ok (.invokevirtual 91, 3) := by decide +kernel
theorem dX11_top_26 : decode cX11_top 26 = .ok (.aload_n 0, 1) := by decide +kernel
theorem dX11_top_27 : decode cX11_top 27 = .ok (.getfield 36, 3) := by decide +kernel
theorem dX11_top_30 : decode cX11_top 30 = .ok (.invokevirtual 99, 3) := by decide +kernel
theorem dX11_top_33 : decode cX11_top 33 = .ok (.ireturn, 1) := by decide +kernel
theorem dX11_spans_0 : decode cX11_spans 0 = .ok (.aload_n 0, 1) := by decide +kernel
theorem dX11_spans_1 : decode cX11_spans 1 = .ok (.iload_n 1, 1) := by decide +kernel
theorem dX11_spans_2 : decode cX11_spans 2 = .ok (.invokevirtual 66, 3) := by decide +kernel
theorem dX11_spans_5 : decode cX11_spans 5 = .ok (.astore 4, 2) := by decide +kernel
theorem dX11_spans_7 : decode cX11_spans 7 = .ok (.aload 4, 2) := by decide +kernel
theorem dX11_spans_9 : decode cX11_spans 9 = .ok (.ifnonnull 5, 3) := by decide +kernel
theorem dX11_spans_12 : decode cX11_spans 12 = .ok (.iconst (-1), 1) := by decide +kernel
theorem dX11_spans_13 : decode cX11_spans 13 = .ok (.ireturn, 1) := by decide +kernel
theorem dX11_spans_14 : decode cX11_spans 14 = .ok (.aload_n 0, 1) := by decide +kernel
theorem dX11_spans_15 : decode cX11_spans 15 = .ok (.aload 4, 2) := by decide +kernel
theorem dX11_spans_17 : decode cX11_spans 17 = .ok (.iload_n 2, 1) := by decide +kernel
theorem dX11_spans_18 : decode cX11_spans 18 = .ok (.iload_n 3, 1) := by decide +kernel
theorem dX11_spans_19 : decode cX11_spans 19 = .ok (.aload_n 0, 1) := by decide +kernel
theorem dX11_spans_20 : decode cX11_spans 20 = .ok (.getfield 40, 3) := by decide +kernel
theorem dX11_spans_23 : decode cX11_spans 23 = .ok (.invokevirtual 91, 3) := by decide +kernel
theorem dX11_spans_26 : decode cX11_spans 26 = .ok (.aload_n 0, 1) := by decide +kernel
theorem dX11_spans_27 : decode cX11_spans 27 = .ok (.getfield 40, 3) := by decide +kernel
theorem dX11_spans_30 : decode cX11_spans 30 = .ok (.invokevirtual 102, 3) := by decide +kernel
theorem dX11_spans_33 : decode cX11_spans 33 = .ok (.ireturn, 1) := by decide +kernel
theorem dX11_span_0 : decode cX11_span 0 = .ok (.iload_n 2, 1) := by decide +kernel
theorem dX11_span_1 : decode cX11_span 1 = .ok (.ifCond .ne 12, 3) := by decide +kernel
theorem dX11_span_4 : decode cX11_span 4 = .ok (.aload_n 0, 1) := by decide +kernel
theorem dX11_span_5 : decode cX11_span 5 = .ok (.getfield 40, 3) := by decide +kernel
theorem dX11_span_8 : decode cX11_span 8 = .ok (.iload_n 1, 1) := by decide +kernel
theorem dX11_span_9 : decode cX11_span 9 = .ok (.invokevirtual 105, 3) := by decide +kernel
theorem dX11_span_12 : decode cX11_span 12 = .ok (.ireturn, 1) := by decide +kernel
theorem dX11_span_13 : decode cX11_span 13 = .ok (.iload_n 2, 1) := by decide +kernel
theorem dX11_span_14 : decode cX11_span 14 = .ok (.iconst 1, 1) := by decide +kernel
theorem dX11_span_15 : decode cX11_span 15 = .ok (.if_icmp .ne 14, 3) := by decide +kernel
theorem dX11_span_18 : decode cX11_span 18 = .ok (.aload_n 0, 1) := by decide +kernel
theorem dX11_span_19 : decode cX11_span 19 = .ok (.getfield 40, 3) := by decide +kernel
theorem dX11_span_22 : decode cX11_span 22 = .ok (.iload_n 1, 1) := by decide +kernel
theorem dX11_span_23 : decode cX11_span 23 = .ok (.invokevirtual 108, 3) := by decide +kernel
theorem dX11_span_26 : decode cX11_span 26 = .ok (.goto 4, 3) := by decide +kernel
theorem dX11_span_29 : decode cX11_span 29 = .ok (.iconst 0, 1) := by decide +kernel
theorem dX11_span_30 : decode cX11_span 30 = .ok (.ireturn, 1) := by decide +kernel
theorem dX11_within_0 : decode cX11_within 0 = .ok (.aload_n 0, 1) := by decide +kernel
theorem dX11_within_1 : decode cX11_within 1 = .ok (.getfield 40, 3) := by decide +kernel
theorem dX11_within_4 : decode cX11_within 4 = .ok (.iload_n 1, 1) := by decide +kernel
theorem dX11_within_5 : decode cX11_within 5 = .ok (.iload_n 2, 1) := by decide +kernel
theorem dX11_within_6 : decode cX11_within 6 = .ok (.invokevirtual 95, 3) := by decide +kernel
theorem dX11_within_9 : decode cX11_within 9 = .ok (.lreturn, 1) := by decide +kernel
theorem dX11_find_0 : decode cX11_find 0 = .ok (.iload_n 1, 1) := by decide +kernel
theorem dX11_find_1 : decode cX11_find 1 = .ok (.iconst 1, 1) := by decide +kernel
theorem dX11_find_2 : decode cX11_find 2 = .ok (.if_icmp .lt 11, 3) := by decide +kernel
theorem dX11_find_5 : decode cX11_find 5 = .ok (.iload_n 1, 1) := by decide +kernel
theorem dX11_find_6 : decode cX11_find 6 = .ok (.aload_n 0, 1) := by decide +kernel
theorem dX11_find_7 : decode cX11_find 7 = .ok (.getfield 23, 3) := by decide +kernel
theorem dX11_find_10 : decode cX11_find 10 = .ok (.if_icmp .le 7, 3) := by decide +kernel
theorem dX11_find_13 : decode cX11_find 13 = .ok (.aconst_null, 1) := by decide +kernel
theorem dX11_find_14 : decode cX11_find 14 = .ok (.goto 11, 3) := by decide +kernel
theorem dX11_find_17 : decode cX11_find 17 = .ok (.aload_n 0, 1) := by decide +kernel
theorem dX11_find_18 : decode cX11_find 18 = .ok (.getfield 19, 3) := by decide +kernel
theorem dX11_find_21 : decode cX11_find 21 = .ok (.iload_n 1, 1) := by decide +kernel
theorem dX11_find_22 : decode cX11_find 22 = .ok (.iconst 1, 1) := by decide +kernel
theorem dX11_find_23 : decode cX11_find 23 = .ok (.isub, 1) := by decide +kernel
theorem dX11_find_24 : decode cX11_find 24 = .ok (.aaload, 1) := by decide +kernel
theorem dX11_find_25 : decode cX11_find 25 = .ok (.areturn, 1) := by decide +kernel
theorem dX11_isFull_0 : decode cX11_isFull 0 = .ok (.aload_n 0, 1) := by decide +kernel
theorem dX11_isFull_1 : decode cX11_isFull 1 = .ok (.getfield 23, 3) := by decide +kernel
theorem dX11_isFull_4 : decode cX11_isFull 4 = .ok (.bipush 60, 2) := by decide +kernel
theorem dX11_isFull_6 : decode cX11_isFull 6 = .ok (.if_icmp .lt 7, 3) := by decide +kernel
theorem dX11_isFull_9 : decode cX11_isFull 9 = .ok (.iconst 1, 1) := by decide +kernel
theorem dX11_isFull_10 : decode cX11_isFull 10 = .ok (.goto 4, 3) := by decide +kernel
theorem dX11_isFull_13 : decode cX11_isFull 13 = .ok (.iconst 0, 1) := by decide +kernel
theorem dX11_isFull_14 : decode cX11_isFull 14 = .ok (.ireturn, 1) := by decide +kernel
theorem dX11_keep_0 : decode cX11_keep 0 = .ok (.aload_n 1, 1) := by decide +kernel
theorem dX11_keep_1 : decode cX11_keep 1 = .ok (.ifnull 10, 3) := by decide +kernel
theorem dX11_keep_4 : decode cX11_keep 4 = .ok (.aload_n 0, 1) := by decide +kernel
theorem dX11_keep_5 : decode cX11_keep 5 = .ok (.invokevirtual 54, 3) := by decide +kernel
theorem dX11_keep_8 : decode cX11_keep 8 = .ok (.ifCond .eq 5, 3) := by decide +kernel
theorem dX11_keep_11 : decode cX11_keep 11 = .ok (.iconst (-1), 1) := by decide +kernel
theorem dX11_keep_12 : decode cX11_keep 12 = .ok (.ireturn, 1) := by decide +kernel
theorem dX11_keep_13 : decode cX11_keep 13 = .ok (.aload_n 0, 1) := by decide +kernel
theorem dX11_keep_14 : decode cX11_keep 14 = .ok (.getfield 19, 3) := by decide +kernel
theorem dX11_keep_17 : decode cX11_keep 17 = .ok (.aload_n 0, 1) := by decide +kernel
theorem dX11_keep_18 : decode cX11_keep 18 = .ok (.getfield 23, 3) := by decide +kernel
theorem dX11_keep_21 : decode cX11_keep 21 = .ok (.aload_n 1, 1) := by decide +kernel
theorem dX11_keep_22 : decode cX11_keep 22 = .ok (.aastore, 1) := by decide +kernel
theorem dX11_keep_23 : decode cX11_keep 23 = .ok (.aload_n 0, 1) := by decide +kernel
theorem dX11_keep_24 : decode cX11_keep 24 = .ok (.dup, 1) := by decide +kernel
theorem dX11_keep_25 : decode cX11_keep 25 = .ok (.getfield 23, 3) := by decide +kernel
theorem dX11_keep_28 : decode cX11_keep 28 = .ok (.iconst 1, 1) := by decide +kernel
theorem dX11_keep_29 : decode cX11_keep 29 = .ok (.iadd, 1) := by decide +kernel
theorem dX11_keep_30 : decode cX11_keep 30 = .ok (.putfield 23, 3) := by decide +kernel
theorem dX11_keep_33 : decode cX11_keep 33 = .ok (.aload_n 0, 1) := by decide +kernel
theorem dX11_keep_34 : decode cX11_keep 34 = .ok (.getfield 23, 3) := by decide +kernel
theorem dX11_keep_37 : decode cX11_keep 37 = .ok (.ireturn, 1) := by decide +kernel
theorem dX11_useUpSizes_0 : decode cX11_useUpSizes 0 = .ok (.aload_n 0, 1) := by decide +kernel
theorem dX11_useUpSizes_1 : decode cX11_useUpSizes 1 = .ok (.getfield 13, 3) := by decide +kernel
theorem dX11_useUpSizes_4 : decode cX11_useUpSizes 4 = .ok (.istore_n 1, 1) := by decide +kernel
theorem dX11_useUpSizes_5 : decode cX11_useUpSizes 5 = .ok (.aload_n 0, 1) := by decide +kernel
theorem dX11_useUpSizes_6 : decode cX11_useUpSizes 6 = .ok (.iconst 0, 1) := by decide +kernel
theorem dX11_useUpSizes_7 : decode cX11_useUpSizes 7 = .ok (.putfield 13, 3) := by decide +kernel
theorem dX11_useUpSizes_10 : decode cX11_useUpSizes 10 = .ok (.iload_n 1, 1) := by decide +kernel
theorem dX11_useUpSizes_11 : decode cX11_useUpSizes 11 = .ok (.ireturn, 1) := by decide +kernel
theorem dX11_sizesNeeded_0 : decode cX11_sizesNeeded 0 = .ok (.iload_n 0, 1) := by decide +kernel
theorem dX11_sizesNeeded_1 : decode cX11_sizesNeeded 1 = .ok (.tableswitch 38 0 3 #[31, 34, 36, 34], 31) := by decide +kernel
theorem dX11_sizesNeeded_32 : decode cX11_sizesNeeded 32 = .ok (.bipush 6, 2) := by decide +kernel
theorem dX11_sizesNeeded_34 : decode cX11_sizesNeeded 34 = .ok (.ireturn, 1) := by decide +kernel
theorem dX11_sizesNeeded_35 : decode cX11_sizesNeeded 35 = .ok (.iconst 5, 1) := by decide +kernel
theorem dX11_sizesNeeded_36 : decode cX11_sizesNeeded 36 = .ok (.ireturn, 1) := by decide +kernel
theorem dX11_sizesNeeded_37 : decode cX11_sizesNeeded 37 = .ok (.iconst 4, 1) := by decide +kernel
theorem dX11_sizesNeeded_38 : decode cX11_sizesNeeded 38 = .ok (.ireturn, 1) := by decide +kernel
theorem dX11_sizesNeeded_39 : decode cX11_sizesNeeded 39 = .ok (.iconst (-1), 1) := by decide +kernel
theorem dX11_sizesNeeded_40 : decode cX11_sizesNeeded 40 = .ok (.ireturn, 1) := by decide +kernel
theorem dX11_radiusOf_0 : decode cX11_radiusOf 0 = .ok (.iload_n 1, 1) := by decide +kernel
theorem dX11_radiusOf_1 : decode cX11_radiusOf 1 = .ok (.tableswitch 41 1 3 #[27, 34, 27], 27) := by decide +kernel
theorem dX11_radiusOf_28 : decode cX11_radiusOf 28 = .ok (.aload_n 0, 1) := by decide +kernel
theorem dX11_radiusOf_29 : decode cX11_radiusOf 29 = .ok (.getfield 9, 3) := by decide +kernel
theorem dX11_radiusOf_32 : decode cX11_radiusOf 32 = .ok (.iconst 2, 1) := by decide +kernel
theorem dX11_radiusOf_33 : decode cX11_radiusOf 33 = .ok (.iaload, 1) := by decide +kernel
theorem dX11_radiusOf_34 : decode cX11_radiusOf 34 = .ok (.ireturn, 1) := by decide +kernel
theorem dX11_radiusOf_35 : decode cX11_radiusOf 35 = .ok (.aload_n 0, 1) := by decide +kernel
theorem dX11_radiusOf_36 : decode cX11_radiusOf 36 = .ok (.getfield 9, 3) := by decide +kernel
theorem dX11_radiusOf_39 : decode cX11_radiusOf 39 = .ok (.iconst 3, 1) := by decide +kernel
theorem dX11_radiusOf_40 : decode cX11_radiusOf 40 = .ok (.iaload, 1) := by decide +kernel
theorem dX11_radiusOf_41 : decode cX11_radiusOf 41 = .ok (.ireturn, 1) := by decide +kernel
theorem dX11_radiusOf_42 : decode cX11_radiusOf 42 = .ok (.iconst 0, 1) := by decide +kernel
theorem dX11_radiusOf_43 : decode cX11_radiusOf 43 = .ok (.ireturn, 1) := by decide +kernel
theorem dX11_newShape_0 : decode cX11_newShape 0 = .ok (.iload_n 1, 1) := by decide +kernel
theorem dX11_newShape_1 : decode cX11_newShape 1 = .ok (.tableswitch 183 0 3 #[31, 75, 113, 145], 31) := by decide +kernel
theorem dX11_newShape_32 : decode cX11_newShape 32 = .ok (.new 111, 3) := by decide +kernel
theorem dX11_newShape_35 : decode cX11_newShape 35 = .ok (.dup, 1) := by decide +kernel
theorem dX11_newShape_36 : decode cX11_newShape 36 = .ok (.aload_n 0, 1) := by decide +kernel
theorem dX11_newShape_37 : decode cX11_newShape 37 = .ok (.getfield 9, 3) := by decide +kernel
theorem dX11_newShape_40 : decode cX11_newShape 40 = .ok (.iconst 0, 1) := by decide +kernel
theorem dX11_newShape_41 : decode cX11_newShape 41 = .ok (.iaload, 1) := by decide +kernel
theorem dX11_newShape_42 : decode cX11_newShape 42 = .ok (.aload_n 0, 1) := by decide +kernel
theorem dX11_newShape_43 : decode cX11_newShape 43 = .ok (.getfield 9, 3) := by decide +kernel
theorem dX11_newShape_46 : decode cX11_newShape 46 = .ok (.iconst 1, 1) := by decide +kernel
theorem dX11_newShape_47 : decode cX11_newShape 47 = .ok (.iaload, 1) := by decide +kernel
theorem dX11_newShape_48 : decode cX11_newShape 48 = .ok (.aload_n 0, 1) := by decide +kernel
theorem dX11_newShape_49 : decode cX11_newShape 49 = .ok (.getfield 9, 3) := by decide +kernel
theorem dX11_newShape_52 : decode cX11_newShape 52 = .ok (.iconst 2, 1) := by decide +kernel
theorem dX11_newShape_53 : decode cX11_newShape 53 = .ok (.iaload, 1) := by decide +kernel
theorem dX11_newShape_54 : decode cX11_newShape 54 = .ok (.aload_n 0, 1) := by decide +kernel
theorem dX11_newShape_55 : decode cX11_newShape 55 = .ok (.getfield 9, 3) := by decide +kernel
theorem dX11_newShape_58 : decode cX11_newShape 58 = .ok (.iconst 3, 1) := by decide +kernel
theorem dX11_newShape_59 : decode cX11_newShape 59 = .ok (.iaload, 1) := by decide +kernel
theorem dX11_newShape_60 : decode cX11_newShape 60 = .ok (.aload_n 0, 1) := by decide +kernel
theorem dX11_newShape_61 : decode cX11_newShape 61 = .ok (.getfield 9, 3) := by decide +kernel
theorem dX11_newShape_64 : decode cX11_newShape 64 = .ok (.iconst 4, 1) := by decide +kernel
theorem dX11_newShape_65 : decode cX11_newShape 65 = .ok (.iaload, 1) := by decide +kernel
theorem dX11_newShape_66 : decode cX11_newShape 66 = .ok (.aload_n 0, 1) := by decide +kernel
theorem dX11_newShape_67 : decode cX11_newShape 67 = .ok (.getfield 9, 3) := by decide +kernel
theorem dX11_newShape_70 : decode cX11_newShape 70 = .ok (.iconst 5, 1) := by decide +kernel
theorem dX11_newShape_71 : decode cX11_newShape 71 = .ok (.iaload, 1) := by decide +kernel
theorem dX11_newShape_72 : decode cX11_newShape 72 = .ok (.invokespecial 113, 3) := by decide +kernel
theorem dX11_newShape_75 : decode cX11_newShape 75 = .ok (.areturn, 1) := by decide +kernel
theorem dX11_newShape_76 : decode cX11_newShape 76 = .ok (.new 116, 3) := by decide +kernel
theorem dX11_newShape_79 : decode cX11_newShape 79 = .ok (.dup, 1) := by decide +kernel
theorem dX11_newShape_80 : decode cX11_newShape 80 = .ok (.aload_n 0, 1) := by decide +kernel
theorem dX11_newShape_81 : decode cX11_newShape 81 = .ok (.getfield 9, 3) := by decide +kernel
theorem dX11_newShape_84 : decode cX11_newShape 84 = .ok (.iconst 0, 1) := by decide +kernel
theorem dX11_newShape_85 : decode cX11_newShape 85 = .ok (.iaload, 1) := by decide +kernel
theorem dX11_newShape_86 : decode cX11_newShape 86 = .ok (.aload_n 0, 1) := by decide +kernel
theorem dX11_newShape_87 : decode cX11_newShape 87 = .ok (.getfield 9, 3) := by decide +kernel
theorem dX11_newShape_90 : decode cX11_newShape 90 = .ok (.iconst 1, 1) := by decide +kernel
theorem dX11_newShape_91 : decode cX11_newShape 91 = .ok (.iaload, 1) := by decide +kernel
theorem dX11_newShape_92 : decode cX11_newShape 92 = .ok (.aload_n 0, 1) := by decide +kernel
theorem dX11_newShape_93 : decode cX11_newShape 93 = .ok (.getfield 9, 3) := by decide +kernel
theorem dX11_newShape_96 : decode cX11_newShape 96 = .ok (.iconst 2, 1) := by decide +kernel
theorem dX11_newShape_97 : decode cX11_newShape 97 = .ok (.iaload, 1) := by decide +kernel
theorem dX11_newShape_98 : decode cX11_newShape 98 = .ok (.aload_n 0, 1) := by decide +kernel
theorem dX11_newShape_99 : decode cX11_newShape 99 = .ok (.getfield 9, 3) := by decide +kernel
theorem dX11_newShape_102 : decode cX11_newShape 102 = .ok (.iconst 3, 1) := by decide +kernel
theorem dX11_newShape_103 : decode cX11_newShape 103 = .ok (.iaload, 1) := by decide +kernel
theorem dX11_newShape_104 : decode cX11_newShape 104 = .ok (.aload_n 0, 1) := by decide +kernel
theorem dX11_newShape_105 : decode cX11_newShape 105 = .ok (.getfield 9, 3) := by decide +kernel
theorem dX11_newShape_108 : decode cX11_newShape 108 = .ok (.iconst 4, 1) := by decide +kernel
theorem dX11_newShape_109 : decode cX11_newShape 109 = .ok (.iaload, 1) := by decide +kernel
theorem dX11_newShape_110 : decode cX11_newShape 110 = .ok (.invokespecial 118, 3) := by decide +kernel
theorem dX11_newShape_113 : decode cX11_newShape 113 = .ok (.areturn, 1) := by decide +kernel
theorem dX11_newShape_114 : decode cX11_newShape 114 = .ok (.new 121, 3) := by decide +kernel
theorem dX11_newShape_117 : decode cX11_newShape 117 = .ok (.dup, 1) := by decide +kernel
theorem dX11_newShape_118 : decode cX11_newShape 118 = .ok (.aload_n 0, 1) := by decide +kernel
theorem dX11_newShape_119 : decode cX11_newShape 119 = .ok (.getfield 9, 3) := by decide +kernel
theorem dX11_newShape_122 : decode cX11_newShape 122 = .ok (.iconst 0, 1) := by decide +kernel
theorem dX11_newShape_123 : decode cX11_newShape 123 = .ok (.iaload, 1) := by decide +kernel
theorem dX11_newShape_124 : decode cX11_newShape 124 = .ok (.aload_n 0, 1) := by decide +kernel
theorem dX11_newShape_125 : decode cX11_newShape 125 = .ok (.getfield 9, 3) := by decide +kernel
theorem dX11_newShape_128 : decode cX11_newShape 128 = .ok (.iconst 1, 1) := by decide +kernel
theorem dX11_newShape_129 : decode cX11_newShape 129 = .ok (.iaload, 1) := by decide +kernel
theorem dX11_newShape_130 : decode cX11_newShape 130 = .ok (.aload_n 0, 1) := by decide +kernel
theorem dX11_newShape_131 : decode cX11_newShape 131 = .ok (.getfield 9, 3) := by decide +kernel
theorem dX11_newShape_134 : decode cX11_newShape 134 = .ok (.iconst 2, 1) := by decide +kernel
theorem dX11_newShape_135 : decode cX11_newShape 135 = .ok (.iaload, 1) := by decide +kernel
theorem dX11_newShape_136 : decode cX11_newShape 136 = .ok (.aload_n 0, 1) := by decide +kernel
theorem dX11_newShape_137 : decode cX11_newShape 137 = .ok (.getfield 9, 3) := by decide +kernel
theorem dX11_newShape_140 : decode cX11_newShape 140 = .ok (.iconst 3, 1) := by decide +kernel
theorem dX11_newShape_141 : decode cX11_newShape 141 = .ok (.iaload, 1) := by decide +kernel
theorem dX11_newShape_142 : decode cX11_newShape 142 = .ok (.invokespecial 123, 3) := by decide +kernel
theorem dX11_newShape_145 : decode cX11_newShape 145 = .ok (.areturn, 1) := by decide +kernel
theorem dX11_newShape_146 : decode cX11_newShape 146 = .ok (.new 126, 3) := by decide +kernel
theorem dX11_newShape_149 : decode cX11_newShape 149 = .ok (.dup, 1) := by decide +kernel
theorem dX11_newShape_150 : decode cX11_newShape 150 = .ok (.aload_n 0, 1) := by decide +kernel
theorem dX11_newShape_151 : decode cX11_newShape 151 = .ok (.getfield 9, 3) := by decide +kernel
theorem dX11_newShape_154 : decode cX11_newShape 154 = .ok (.iconst 0, 1) := by decide +kernel
theorem dX11_newShape_155 : decode cX11_newShape 155 = .ok (.iaload, 1) := by decide +kernel
theorem dX11_newShape_156 : decode cX11_newShape 156 = .ok (.aload_n 0, 1) := by decide +kernel
theorem dX11_newShape_157 : decode cX11_newShape 157 = .ok (.getfield 9, 3) := by decide +kernel
theorem dX11_newShape_160 : decode cX11_newShape 160 = .ok (.iconst 1, 1) := by decide +kernel
theorem dX11_newShape_161 : decode cX11_newShape 161 = .ok (.iaload, 1) := by decide +kernel
theorem dX11_newShape_162 : decode cX11_newShape 162 = .ok (.aload_n 0, 1) := by decide +kernel
theorem dX11_newShape_163 : decode cX11_newShape 163 = .ok (.getfield 9, 3) := by decide +kernel
theorem dX11_newShape_166 : decode cX11_newShape 166 = .ok (.iconst 2, 1) := by decide +kernel
theorem dX11_newShape_167 : decode cX11_newShape 167 = .ok (.iaload, 1) := by decide +kernel
theorem dX11_newShape_168 : decode cX11_newShape 168 = .ok (.aload_n 0, 1) := by decide +kernel
theorem dX11_newShape_169 : decode cX11_newShape 169 = .ok (.getfield 9, 3) := by decide +kernel
theorem dX11_newShape_172 : decode cX11_newShape 172 = .ok (.iconst 3, 1) := by decide +kernel
theorem dX11_newShape_173 : decode cX11_newShape 173 = .ok (.iaload, 1) := by decide +kernel
theorem dX11_newShape_174 : decode cX11_newShape 174 = .ok (.aload_n 0, 1) := by decide +kernel
theorem dX11_newShape_175 : decode cX11_newShape 175 = .ok (.getfield 9, 3) := by decide +kernel
theorem dX11_newShape_178 : decode cX11_newShape 178 = .ok (.iconst 4, 1) := by decide +kernel
theorem dX11_newShape_179 : decode cX11_newShape 179 = .ok (.iaload, 1) := by decide +kernel
theorem dX11_newShape_180 : decode cX11_newShape 180 = .ok (.invokespecial 128, 3) := by decide +kernel
theorem dX11_newShape_183 : decode cX11_newShape 183 = .ok (.areturn, 1) := by decide +kernel
theorem dX11_newShape_184 : decode cX11_newShape 184 = .ok (.aconst_null, 1) := by decide +kernel
theorem dX11_newShape_185 : decode cX11_newShape 185 = .ok (.areturn, 1) := by decide +kernel
theorem dX11_lookOver_0 : decode cX11_lookOver 0 = .ok (.iload_n 2, 1) := by decide +kernel
theorem dX11_lookOver_1 : decode cX11_lookOver 1 = .ok (.invokestatic 87, 3) := by decide +kernel
theorem dX11_lookOver_4 : decode cX11_lookOver 4 = .ok (.ifCond .ne 10, 3) := by decide +kernel
theorem dX11_lookOver_7 : decode cX11_lookOver 7 = .ok (.iload_n 3, 1) := by decide +kernel
theorem dX11_lookOver_8 : decode cX11_lookOver 8 = .ok (.invokestatic 87, 3) := by decide +kernel
theorem dX11_lookOver_11 : decode cX11_lookOver 11 = .ok (.ifCond .eq 11, 3) := by decide +kernel
theorem dX11_lookOver_14 : decode cX11_lookOver 14 = .ok (.aload 4, 2) := by decide +kernel
theorem dX11_lookOver_16 : decode cX11_lookOver 16 = .ok (.invokevirtual 129, 3) := by decide +kernel
theorem dX11_lookOver_19 : decode cX11_lookOver 19 = .ok (.goto 15, 3) := by decide +kernel
theorem dX11_lookOver_22 : decode cX11_lookOver 22 = .ok (.aload_n 0, 1) := by decide +kernel
theorem dX11_lookOver_23 : decode cX11_lookOver 23 = .ok (.getfield 29, 3) := by decide +kernel
theorem dX11_lookOver_26 : decode cX11_lookOver 26 = .ok (.aload_n 1, 1) := by decide +kernel
theorem dX11_lookOver_27 : decode cX11_lookOver 27 = .ok (.iload_n 2, 1) := by decide +kernel
theorem dX11_lookOver_28 : decode cX11_lookOver 28 = .ok (.iload_n 3, 1) := by decide +kernel
theorem dX11_lookOver_29 : decode cX11_lookOver 29 = .ok (.aload 4, 2) := by decide +kernel
theorem dX11_lookOver_31 : decode cX11_lookOver 31 = .ok (.invokevirtual 132, 3) := by decide +kernel
theorem dX11_lookOver_34 : decode cX11_lookOver 34 = .ok (.return_, 1) := by decide +kernel
theorem dX11_isBeyond_0 : decode cX11_isBeyond 0 = .ok (.iload_n 0, 1) := by decide +kernel
theorem dX11_isBeyond_1 : decode cX11_isBeyond 1 = .ok (.ldc 135, 2) := by decide +kernel
theorem dX11_isBeyond_3 : decode cX11_isBeyond 3 = .ok (.if_icmp .lt 9, 3) := by decide +kernel
theorem dX11_isBeyond_6 : decode cX11_isBeyond 6 = .ok (.iload_n 0, 1) := by decide +kernel
theorem dX11_isBeyond_7 : decode cX11_isBeyond 7 = .ok (.ldc 136, 2) := by decide +kernel
theorem dX11_isBeyond_9 : decode cX11_isBeyond 9 = .ok (.if_icmp .le 7, 3) := by decide +kernel
theorem dX11_isBeyond_12 : decode cX11_isBeyond 12 = .ok (.iconst 1, 1) := by decide +kernel
theorem dX11_isBeyond_13 : decode cX11_isBeyond 13 = .ok (.goto 4, 3) := by decide +kernel
theorem dX11_isBeyond_16 : decode cX11_isBeyond 16 = .ok (.iconst 0, 1) := by decide +kernel
theorem dX11_isBeyond_17 : decode cX11_isBeyond 17 = .ok (.ireturn, 1) := by decide +kernel
theorem dX11_square_0 : decode cX11_square 0 = .ok (.lload_n 0, 1) := by decide +kernel
theorem dX11_square_1 : decode cX11_square 1 = .ok (.lload_n 0, 1) := by decide +kernel
theorem dX11_square_2 : decode cX11_square 2 = .ok (.lmul, 1) := by decide +kernel
theorem dX11_square_3 : decode cX11_square 3 = .ok (.lreturn, 1) := by decide +kernel
theorem dX11_rootBelow_0 : decode cX11_rootBelow 0 = .ok (.iconst 0, 1) := by decide +kernel
theorem dX11_rootBelow_1 : decode cX11_rootBelow 1 = .ok (.istore_n 3, 1) := by decide +kernel
theorem dX11_rootBelow_2 : decode cX11_rootBelow 2 = .ok (.iload_n 2, 1) := by decide +kernel
theorem dX11_rootBelow_3 : decode cX11_rootBelow 3 = .ok (.istore 4, 2) := by decide +kernel
theorem dX11_rootBelow_5 : decode cX11_rootBelow 5 = .ok (.iconst 0, 1) := by decide +kernel
theorem dX11_rootBelow_6 : decode cX11_rootBelow 6 = .ok (.istore 5, 2) := by decide +kernel
theorem dX11_rootBelow_8 : decode cX11_rootBelow 8 = .ok (.iload 5, 2) := by decide +kernel
theorem dX11_rootBelow_10 : decode cX11_rootBelow 10 = .ok (.bipush 32, 2) := by decide +kernel
theorem dX11_rootBelow_12 : decode cX11_rootBelow 12 = .ok (.if_icmp .ge 50, 3) := by decide +kernel
theorem dX11_rootBelow_15 : decode cX11_rootBelow 15 = .ok (.iload_n 3, 1) := by decide +kernel
theorem dX11_rootBelow_16 : decode cX11_rootBelow 16 = .ok (.iload 4, 2) := by decide +kernel
theorem dX11_rootBelow_18 : decode cX11_rootBelow 18 = .ok (.if_icmp .ge 44, 3) := by decide +kernel
theorem dX11_rootBelow_21 : decode cX11_rootBelow 21 = .ok (.iload_n 3, 1) := by decide +kernel
theorem dX11_rootBelow_22 : decode cX11_rootBelow 22 = .ok (.iload 4, 2) := by decide +kernel
theorem dX11_rootBelow_24 : decode cX11_rootBelow 24 = .ok (.iload_n 3, 1) := by decide +kernel
theorem dX11_rootBelow_25 : decode cX11_rootBelow 25 = .ok (.isub, 1) := by decide +kernel
theorem dX11_rootBelow_26 : decode cX11_rootBelow 26 = .ok (.iconst 1, 1) := by decide +kernel
theorem dX11_rootBelow_27 : decode cX11_rootBelow 27 = .ok (.iadd, 1) := by decide +kernel
theorem dX11_rootBelow_28 : decode cX11_rootBelow 28 = .ok (.iconst 2, 1) := by decide +kernel
theorem dX11_rootBelow_29 : decode cX11_rootBelow 29 = .ok (.idiv, 1) := by decide +kernel
theorem dX11_rootBelow_30 : decode cX11_rootBelow 30 = .ok (.iadd, 1) := by decide +kernel
theorem dX11_rootBelow_31 : decode cX11_rootBelow 31 = .ok (.istore 6, 2) := by decide +kernel
theorem dX11_rootBelow_33 : decode cX11_rootBelow 33 = .ok (.iload 6, 2) := by decide +kernel
theorem dX11_rootBelow_35 : decode cX11_rootBelow 35 = .ok (.i2l, 1) := by decide +kernel
theorem dX11_rootBelow_36 : decode cX11_rootBelow 36 = .ok (.invokestatic 137, 3) := by decide +kernel
theorem dX11_rootBelow_39 : decode cX11_rootBelow 39 = .ok (.lload_n 0, 1) := by decide +kernel
theorem dX11_rootBelow_40 : decode cX11_rootBelow 40 = .ok (.lcmp, 1) := by decide +kernel
theorem dX11_rootBelow_41 : decode cX11_rootBelow 41 = .ok (.ifCond .gt 9, 3) := by decide +kernel
theorem dX11_rootBelow_44 : decode cX11_rootBelow 44 = .ok (.iload 6, 2) := by decide +kernel
theorem dX11_rootBelow_46 : decode cX11_rootBelow 46 = .ok (.istore_n 3, 1) := by decide +kernel
theorem dX11_rootBelow_47 : decode cX11_rootBelow 47 = .ok (.goto 9, 3) := by decide +kernel
theorem dX11_rootBelow_50 : decode cX11_rootBelow 50 = .ok (.iload 6, 2) := by decide +kernel
theorem dX11_rootBelow_52 : decode cX11_rootBelow 52 = .ok (.iconst 1, 1) := by decide +kernel
theorem dX11_rootBelow_53 : decode cX11_rootBelow 53 = .ok (.isub, 1) := by decide +kernel
theorem dX11_rootBelow_54 : decode cX11_rootBelow 54 = .ok (.istore 4, 2) := by decide +kernel
theorem dX11_rootBelow_56 : decode cX11_rootBelow 56 = .ok (.iinc 5 1, 3) := by decide +kernel
theorem dX11_rootBelow_59 : decode cX11_rootBelow 59 = .ok (.goto (-51), 3) := by decide +kernel
theorem dX11_rootBelow_62 : decode cX11_rootBelow 62 = .ok (.iload_n 3, 1) := by decide +kernel
theorem dX11_rootBelow_63 : decode cX11_rootBelow 63 = .ok (.ireturn, 1) := by decide +kernel
theorem dX12_init_0 : decode cX12_init 0 = .ok (.aload_n 0, 1) := by decide +kernel
theorem dX12_init_1 : decode cX12_init 1 = .ok (.invokespecial 1, 3) := by decide +kernel
theorem dX12_init_4 : decode cX12_init 4 = .ok (.aload_n 0, 1) := by decide +kernel
theorem dX12_init_5 : decode cX12_init 5 = .ok (.bipush 61, 2) := by decide +kernel
theorem dX12_init_7 : decode cX12_init 7 = .ok (.newarray .int, 2) := by decide +kernel
theorem dX12_init_9 : decode cX12_init 9 = .ok (.putfield 9, 3) := by decide +kernel
theorem dX12_init_12 : decode cX12_init 12 = .ok (.aload_n 0, 1) := by decide +kernel
theorem dX12_init_13 : decode cX12_init 13 = .ok (.sipush 366, 3) := by decide +kernel
theorem dX12_init_16 : decode cX12_init 16 = .ok (.newarray .int, 2) := by decide +kernel
theorem dX12_init_18 : decode cX12_init 18 = .ok (.putfield 13, 3) := by decide +kernel
theorem dX12_init_21 : decode cX12_init 21 = .ok (.aload_n 0, 1) := by decide +kernel
theorem dX12_init_22 : decode cX12_init 22 = .ok (.bipush 61, 2) := by decide +kernel
theorem dX12_init_24 : decode cX12_init 24 = .ok (.newarray .int, 2) := by decide +kernel
theorem dX12_init_26 : decode cX12_init 26 = .ok (.putfield 16, 3) := by decide +kernel
theorem dX12_init_29 : decode cX12_init 29 = .ok (.aload_n 0, 1) := by decide +kernel
theorem dX12_init_30 : decode cX12_init 30 = .ok (.bipush 6, 2) := by decide +kernel
theorem dX12_init_32 : decode cX12_init 32 = .ok (.newarray .int, 2) := by decide +kernel
theorem dX12_init_34 : decode cX12_init 34 = .ok (.putfield 19, 3) := by decide +kernel
theorem dX12_init_37 : decode cX12_init 37 = .ok (.aload_n 0, 1) := by decide +kernel
theorem dX12_init_38 : decode cX12_init 38 = .ok (.sipush 1632, 3) := by decide +kernel
theorem dX12_init_41 : decode cX12_init 41 = .ok (.newarray .long, 2) := by decide +kernel
theorem dX12_init_43 : decode cX12_init 43 = .ok (.putfield 22, 3) := by decide +kernel
theorem dX12_init_46 : decode cX12_init 46 = .ok (.aload_n 0, 1) := by decide +kernel
theorem dX12_init_47 : decode cX12_init 47 = .ok (.sipush 200, 3) := by decide +kernel
theorem dX12_init_50 : decode cX12_init 50 = .ok (.newarray .long, 2) := by decide +kernel
theorem dX12_init_52 : decode cX12_init 52 = .ok (.putfield 26, 3) := by decide +kernel
theorem dX12_init_55 : decode cX12_init 55 = .ok (.aload_n 0, 1) := by decide +kernel
theorem dX12_init_56 : decode cX12_init 56 = .ok (.bipush 101, 2) := by decide +kernel
theorem dX12_init_58 : decode cX12_init 58 = .ok (.newarray .long, 2) := by decide +kernel
theorem dX12_init_60 : decode cX12_init 60 = .ok (.putfield 29, 3) := by decide +kernel
theorem dX12_init_63 : decode cX12_init 63 = .ok (.aload_n 0, 1) := by decide +kernel
theorem dX12_init_64 : decode cX12_init 64 = .ok (.bipush 101, 2) := by decide +kernel
theorem dX12_init_66 : decode cX12_init 66 = .ok (.newarray .long, 2) := by decide +kernel
theorem dX12_init_68 : decode cX12_init 68 = .ok (.putfield 32, 3) := by decide +kernel
theorem dX12_init_71 : decode cX12_init 71 = .ok (.return_, 1) := by decide +kernel
theorem dX12_size_0 : decode cX12_size 0 = .ok (.iload_n 1, 1) := by decide +kernel
theorem dX12_size_1 : decode cX12_size 1 = .ok (.sipush (-5000), 3) := by decide +kernel
theorem dX12_size_4 : decode cX12_size 4 = .ok (.if_icmp .lt 19, 3) := by decide +kernel
theorem dX12_size_7 : decode cX12_size 7 = .ok (.iload_n 1, 1) := by decide +kernel
theorem dX12_size_8 : decode cX12_size 8 = .ok (.sipush 5000, 3) := by decide +kernel
theorem dX12_size_11 : decode cX12_size 11 = .ok (.if_icmp .gt 12, 3) := by decide +kernel
theorem dX12_size_14 : decode cX12_size 14 = .ok (.aload_n 0, 1) := by decide +kernel
theorem dX12_size_15 : decode cX12_size 15 = .ok (.getfield 35, 3) := by decide +kernel
theorem dX12_size_18 : decode cX12_size 18 = .ok (.bipush 6, 2) := by decide +kernel
theorem dX12_size_20 : decode cX12_size 20 = .ok (.if_icmp .ne 5, 3) := by decide +kernel
theorem dX12_size_23 : decode cX12_size 23 = .ok (.iconst (-1), 1) := by decide +kernel
theorem dX12_size_24 : decode cX12_size 24 = .ok (.ireturn, 1) := by decide +kernel
theorem dX12_size_25 : decode cX12_size 25 = .ok (.aload_n 0, 1) := by decide +kernel
theorem dX12_size_26 : decode cX12_size 26 = .ok (.getfield 19, 3) := by decide +kernel
theorem dX12_size_29 : decode cX12_size 29 = .ok (.aload_n 0, 1) := by decide +kernel
theorem dX12_size_30 : decode cX12_size 30 = .ok (.getfield 35, 3) := by decide +kernel
theorem dX12_size_33 : decode cX12_size 33 = .ok (.iload_n 1, 1) := by decide +kernel
end
section
theorem dX12_size_34 : decode cX12_size 34 = .ok (.iastore, 1) := by decide +kernel
theorem dX12_size_35 : decode cX12_size 35 = .ok (.aload_n 0, 1) := by decide +kernel
theorem dX12_size_36 : decode cX12_size 36 = .ok (.dup, 1) := by decide +kernel
theorem dX12_size_37 : decode cX12_size 37 = .ok (.getfield 35, 3) := by decide +kernel
theorem dX12_size_40 : decode cX12_size 40 = .ok (.iconst 1, 1) := by decide +kernel
theorem dX12_size_41 : decode cX12_size 41 = .ok (.iadd, 1) := by decide +kernel
theorem dX12_size_42 : decode cX12_size 42 = .ok (.putfield 35, 3) := by decide +kernel
theorem dX12_size_45 : decode cX12_size 45 = .ok (.aload_n 0, 1) := by decide +kernel
theorem dX12_size_46 : decode cX12_size 46 = .ok (.getfield 35, 3) := by decide +kernel
theorem dX12_size_49 : decode cX12_size 49 = .ok (.ireturn, 1) := by decide +kernel
theorem dX12_isSolid_0 : decode cX12_isSolid 0 = .ok (.iload_n 1, 1) := by decide +kernel
theorem dX12_isSolid_1 : decode cX12_isSolid 1 = .ok (.iconst 1, 1) := by decide +kernel
theorem dX12_isSolid_2 : decode cX12_isSolid 2 = .ok (.if_icmp .lt 15, 3) := by decide +kernel
theorem dX12_isSolid_5 : decode cX12_isSolid 5 = .ok (.iload_n 1, 1) := by decide +kernel
theorem dX12_isSolid_6 : decode cX12_isSolid 6 = .ok (.aload_n 0, 1) := by decide +kernel
theorem dX12_isSolid_7 : decode cX12_isSolid 7 = .ok (.getfield 39, 3) := by decide +kernel
theorem dX12_isSolid_10 : decode cX12_isSolid 10 = .ok (.if_icmp .gt 7, 3) := by decide +kernel
theorem dX12_isSolid_13 : decode cX12_isSolid 13 = .ok (.iconst 1, 1) := by decide +kernel
theorem dX12_isSolid_14 : decode cX12_isSolid 14 = .ok (.goto 4, 3) := by decide +kernel
theorem dX12_isSolid_17 : decode cX12_isSolid 17 = .ok (.iconst 0, 1) := by decide +kernel
theorem dX12_isSolid_18 : decode cX12_isSolid 18 = .ok (.ireturn, 1) := by decide +kernel
theorem dX12_made_0 : decode cX12_made 0 = .ok (.aload_n 0, 1) := by decide +kernel
theorem dX12_made_1 : decode cX12_made 1 = .ok (.dup, 1) := by decide +kernel
theorem dX12_made_2 : decode cX12_made 2 = .ok (.getfield 39, 3) := by decide +kernel
theorem dX12_made_5 : decode cX12_made 5 = .ok (.iconst 1, 1) := by decide +kernel
theorem dX12_made_6 : decode cX12_made 6 = .ok (.iadd, 1) := by decide +kernel
theorem dX12_made_7 : decode cX12_made 7 = .ok (.putfield 39, 3) := by decide +kernel
theorem dX12_made_10 : decode cX12_made 10 = .ok (.aload_n 0, 1) := by decide +kernel
theorem dX12_made_11 : decode cX12_made 11 = .ok (.getfield 9, 3) := by decide +kernel
theorem dX12_made_14 : decode cX12_made 14 = .ok (.aload_n 0, 1) := by decide +kernel
theorem dX12_made_15 : decode cX12_made 15 = .ok (.getfield 39, 3) := by decide +kernel
theorem dX12_made_18 : decode cX12_made 18 = .ok (.iload_n 1, 1) := by decide +kernel
theorem dX12_made_19 : decode cX12_made 19 = .ok (.iastore, 1) := by decide +kernel
theorem dX12_made_20 : decode cX12_made 20 = .ok (.aload_n 0, 1) := by decide +kernel
theorem dX12_made_21 : decode cX12_made 21 = .ok (.getfield 16, 3) := by decide +kernel
theorem dX12_made_24 : decode cX12_made 24 = .ok (.aload_n 0, 1) := by decide +kernel
theorem dX12_made_25 : decode cX12_made 25 = .ok (.getfield 39, 3) := by decide +kernel
theorem dX12_made_28 : decode cX12_made 28 = .ok (.iload_n 2, 1) := by decide +kernel
theorem dX12_made_29 : decode cX12_made 29 = .ok (.iastore, 1) := by decide +kernel
theorem dX12_made_30 : decode cX12_made 30 = .ok (.iconst 0, 1) := by decide +kernel
theorem dX12_made_31 : decode cX12_made 31 = .ok (.istore_n 3, 1) := by decide +kernel
theorem dX12_made_32 : decode cX12_made 32 = .ok (.iload_n 3, 1) := by decide +kernel
theorem dX12_made_33 : decode cX12_made 33 = .ok (.bipush 6, 2) := by decide +kernel
theorem dX12_made_35 : decode cX12_made 35 = .ok (.if_icmp .ge 29, 3) := by decide +kernel
theorem dX12_made_38 : decode cX12_made 38 = .ok (.aload_n 0, 1) := by decide +kernel
theorem dX12_made_39 : decode cX12_made 39 = .ok (.getfield 13, 3) := by decide +kernel
theorem dX12_made_42 : decode cX12_made 42 = .ok (.bipush 6, 2) := by decide +kernel
theorem dX12_made_44 : decode cX12_made 44 = .ok (.aload_n 0, 1) := by decide +kernel
theorem dX12_made_45 : decode cX12_made 45 = .ok (.getfield 39, 3) := by decide +kernel
theorem dX12_made_48 : decode cX12_made 48 = .ok (.imul, 1) := by decide +kernel
theorem dX12_made_49 : decode cX12_made 49 = .ok (.iload_n 3, 1) := by decide +kernel
theorem dX12_made_50 : decode cX12_made 50 = .ok (.iadd, 1) := by decide +kernel
theorem dX12_made_51 : decode cX12_made 51 = .ok (.aload_n 0, 1) := by decide +kernel
theorem dX12_made_52 : decode cX12_made 52 = .ok (.getfield 19, 3) := by decide +kernel
theorem dX12_made_55 : decode cX12_made 55 = .ok (.iload_n 3, 1) := by decide +kernel
theorem dX12_made_56 : decode cX12_made 56 = .ok (.iaload, 1) := by decide +kernel
theorem dX12_made_57 : decode cX12_made 57 = .ok (.iastore, 1) := by decide +kernel
theorem dX12_made_58 : decode cX12_made 58 = .ok (.iinc 3 1, 3) := by decide +kernel
theorem dX12_made_61 : decode cX12_made 61 = .ok (.goto (-29), 3) := by decide +kernel
theorem dX12_made_64 : decode cX12_made 64 = .ok (.aload_n 0, 1) := by decide +kernel
theorem dX12_made_65 : decode cX12_made 65 = .ok (.getfield 39, 3) := by decide +kernel
theorem dX12_made_68 : decode cX12_made 68 = .ok (.ireturn, 1) := by decide +kernel
theorem dX12_number_0 : decode cX12_number 0 = .ok (.aload_n 0, 1) := by decide +kernel
theorem dX12_number_1 : decode cX12_number 1 = .ok (.getfield 13, 3) := by decide +kernel
theorem dX12_number_4 : decode cX12_number 4 = .ok (.bipush 6, 2) := by decide +kernel
theorem dX12_number_6 : decode cX12_number 6 = .ok (.iload_n 1, 1) := by decide +kernel
theorem dX12_number_7 : decode cX12_number 7 = .ok (.imul, 1) := by decide +kernel
theorem dX12_number_8 : decode cX12_number 8 = .ok (.iload_n 2, 1) := by decide +kernel
theorem dX12_number_9 : decode cX12_number 9 = .ok (.iadd, 1) := by decide +kernel
theorem dX12_number_10 : decode cX12_number 10 = .ok (.iaload, 1) := by decide +kernel
theorem dX12_number_11 : decode cX12_number 11 = .ok (.ireturn, 1) := by decide +kernel
theorem dX12_solid_0 : decode cX12_solid 0 = .ok (.aload_n 0, 1) := by decide +kernel
theorem dX12_solid_1 : decode cX12_solid 1 = .ok (.getfield 35, 3) := by decide +kernel
theorem dX12_solid_4 : decode cX12_solid 4 = .ok (.istore_n 2, 1) := by decide +kernel
theorem dX12_solid_5 : decode cX12_solid 5 = .ok (.aload_n 0, 1) := by decide +kernel
theorem dX12_solid_6 : decode cX12_solid 6 = .ok (.iconst 0, 1) := by decide +kernel
theorem dX12_solid_7 : decode cX12_solid 7 = .ok (.putfield 35, 3) := by decide +kernel
theorem dX12_solid_10 : decode cX12_solid 10 = .ok (.iload_n 1, 1) := by decide +kernel
theorem dX12_solid_11 : decode cX12_solid 11 = .ok (.ifCond .ne 8, 3) := by decide +kernel
theorem dX12_solid_14 : decode cX12_solid 14 = .ok (.bipush 6, 2) := by decide +kernel
theorem dX12_solid_16 : decode cX12_solid 16 = .ok (.goto 27, 3) := by decide +kernel
theorem dX12_solid_19 : decode cX12_solid 19 = .ok (.iload_n 1, 1) := by decide +kernel
theorem dX12_solid_20 : decode cX12_solid 20 = .ok (.iconst 1, 1) := by decide +kernel
theorem dX12_solid_21 : decode cX12_solid 21 = .ok (.if_icmp .eq 8, 3) := by decide +kernel
theorem dX12_solid_24 : decode cX12_solid 24 = .ok (.iload_n 1, 1) := by decide +kernel
theorem dX12_solid_25 : decode cX12_solid 25 = .ok (.iconst 3, 1) := by decide +kernel
theorem dX12_solid_26 : decode cX12_solid 26 = .ok (.if_icmp .ne 7, 3) := by decide +kernel
theorem dX12_solid_29 : decode cX12_solid 29 = .ok (.iconst 5, 1) := by decide +kernel
theorem dX12_solid_30 : decode cX12_solid 30 = .ok (.goto 13, 3) := by decide +kernel
theorem dX12_solid_33 : decode cX12_solid 33 = .ok (.iload_n 1, 1) := by decide +kernel
theorem dX12_solid_34 : decode cX12_solid 34 = .ok (.iconst 2, 1) := by decide +kernel
theorem dX12_solid_35 : decode cX12_solid 35 = .ok (.if_icmp .ne 7, 3) := by decide +kernel
theorem dX12_solid_38 : decode cX12_solid 38 = .ok (.iconst 4, 1) := by decide +kernel
theorem dX12_solid_39 : decode cX12_solid 39 = .ok (.goto 4, 3) := by decide +kernel
theorem dX12_solid_42 : decode cX12_solid 42 = .ok (.iconst (-1), 1) := by decide +kernel
theorem dX12_solid_43 : decode cX12_solid 43 = .ok (.istore_n 3, 1) := by decide +kernel
theorem dX12_solid_44 : decode cX12_solid 44 = .ok (.iload_n 2, 1) := by decide +kernel
theorem dX12_solid_45 : decode cX12_solid 45 = .ok (.iload_n 3, 1) := by decide +kernel
theorem dX12_solid_46 : decode cX12_solid 46 = .ok (.if_icmp .eq 5, 3) := by decide +kernel
theorem dX12_solid_49 : decode cX12_solid 49 = .ok (.iconst (-1), 1) := by decide +kernel
theorem dX12_solid_50 : decode cX12_solid 50 = .ok (.ireturn, 1) := by decide +kernel
theorem dX12_solid_51 : decode cX12_solid 51 = .ok (.iload_n 1, 1) := by decide +kernel
theorem dX12_solid_52 : decode cX12_solid 52 = .ok (.ifCond .le 23, 3) := by decide +kernel
theorem dX12_solid_55 : decode cX12_solid 55 = .ok (.aload_n 0, 1) := by decide +kernel
theorem dX12_solid_56 : decode cX12_solid 56 = .ok (.getfield 19, 3) := by decide +kernel
theorem dX12_solid_59 : decode cX12_solid 59 = .ok (.iload_n 1, 1) := by decide +kernel
theorem dX12_solid_60 : decode cX12_solid 60 = .ok (.iconst 2, 1) := by decide +kernel
theorem dX12_solid_61 : decode cX12_solid 61 = .ok (.if_icmp .ne 7, 3) := by decide +kernel
theorem dX12_solid_64 : decode cX12_solid 64 = .ok (.iconst 3, 1) := by decide +kernel
theorem dX12_solid_65 : decode cX12_solid 65 = .ok (.goto 4, 3) := by decide +kernel
theorem dX12_solid_68 : decode cX12_solid 68 = .ok (.iconst 2, 1) := by decide +kernel
theorem dX12_solid_69 : decode cX12_solid 69 = .ok (.iaload, 1) := by decide +kernel
theorem dX12_solid_70 : decode cX12_solid 70 = .ok (.ifCond .ge 5, 3) := by decide +kernel
theorem dX12_solid_73 : decode cX12_solid 73 = .ok (.iconst (-1), 1) := by decide +kernel
theorem dX12_solid_74 : decode cX12_solid 74 = .ok (.ireturn, 1) := by decide +kernel
theorem dX12_solid_75 : decode cX12_solid 75 = .ok (.aload_n 0, 1) := by decide +kernel
theorem dX12_solid_76 : decode cX12_solid 76 = .ok (.getfield 39, 3) := by decide +kernel
theorem dX12_solid_79 : decode cX12_solid 79 = .ok (.bipush 60, 2) := by decide +kernel
theorem dX12_solid_81 : decode cX12_solid 81 = .ok (.if_icmp .ne 8, 3) := by decide +kernel
theorem dX12_solid_84 : decode cX12_solid 84 = .ok (.bipush (-2), 2) := by decide +kernel
theorem dX12_solid_86 : decode cX12_solid 86 = .ok (.goto 9, 3) := by decide +kernel
theorem dX12_solid_89 : decode cX12_solid 89 = .ok (.aload_n 0, 1) := by decide +kernel
theorem dX12_solid_90 : decode cX12_solid 90 = .ok (.iload_n 1, 1) := by decide +kernel
theorem dX12_solid_91 : decode cX12_solid 91 = .ok (.iconst 1, 1) := by decide +kernel
theorem dX12_solid_92 : decode cX12_solid 92 = .ok (.invokevirtual 42, 3) := by decide +kernel
theorem dX12_solid_95 : decode cX12_solid 95 = .ok (.ireturn, 1) := by decide +kernel
theorem dX12_join_0 : decode cX12_join 0 = .ok (.aload_n 0, 1) := by decide +kernel
theorem dX12_join_1 : decode cX12_join 1 = .ok (.iload_n 1, 1) := by decide +kernel
theorem dX12_join_2 : decode cX12_join 2 = .ok (.invokevirtual 46, 3) := by decide +kernel
theorem dX12_join_5 : decode cX12_join 5 = .ok (.ifCond .eq 40, 3) := by decide +kernel
theorem dX12_join_8 : decode cX12_join 8 = .ok (.aload_n 0, 1) := by decide +kernel
theorem dX12_join_9 : decode cX12_join 9 = .ok (.iload_n 2, 1) := by decide +kernel
theorem dX12_join_10 : decode cX12_join 10 = .ok (.invokevirtual 46, 3) := by decide +kernel
theorem dX12_join_13 : decode cX12_join 13 = .ok (.ifCond .eq 32, 3) := by decide +kernel
theorem dX12_join_16 : decode cX12_join 16 = .ok (.iload_n 3, 1) := by decide +kernel
theorem dX12_join_17 : decode cX12_join 17 = .ok (.ifCond .lt 28, 3) := by decide +kernel
theorem dX12_join_20 : decode cX12_join 20 = .ok (.iload_n 3, 1) := by decide +kernel
theorem dX12_join_21 : decode cX12_join 21 = .ok (.iconst 2, 1) := by decide +kernel
theorem dX12_join_22 : decode cX12_join 22 = .ok (.if_icmp .gt 23, 3) := by decide +kernel
theorem dX12_join_25 : decode cX12_join 25 = .ok (.aload_n 0, 1) := by decide +kernel
theorem dX12_join_26 : decode cX12_join 26 = .ok (.getfield 16, 3) := by decide +kernel
theorem dX12_join_29 : decode cX12_join 29 = .ok (.iload_n 1, 1) := by decide +kernel
theorem dX12_join_30 : decode cX12_join 30 = .ok (.iaload, 1) := by decide +kernel
theorem dX12_join_31 : decode cX12_join 31 = .ok (.aload_n 0, 1) := by decide +kernel
theorem dX12_join_32 : decode cX12_join 32 = .ok (.getfield 16, 3) := by decide +kernel
theorem dX12_join_35 : decode cX12_join 35 = .ok (.iload_n 2, 1) := by decide +kernel
theorem dX12_join_36 : decode cX12_join 36 = .ok (.iaload, 1) := by decide +kernel
theorem dX12_join_37 : decode cX12_join 37 = .ok (.iadd, 1) := by decide +kernel
theorem dX12_join_38 : decode cX12_join 38 = .ok (.iconst 1, 1) := by decide +kernel
theorem dX12_join_39 : decode cX12_join 39 = .ok (.iadd, 1) := by decide +kernel
theorem dX12_join_40 : decode cX12_join 40 = .ok (.bipush 100, 2) := by decide +kernel
theorem dX12_join_42 : decode cX12_join 42 = .ok (.if_icmp .le 5, 3) := by decide +kernel
theorem dX12_join_45 : decode cX12_join 45 = .ok (.iconst (-1), 1) := by decide +kernel
theorem dX12_join_46 : decode cX12_join 46 = .ok (.ireturn, 1) := by decide +kernel
theorem dX12_join_47 : decode cX12_join 47 = .ok (.aload_n 0, 1) := by decide +kernel
theorem dX12_join_48 : decode cX12_join 48 = .ok (.getfield 39, 3) := by decide +kernel
theorem dX12_join_51 : decode cX12_join 51 = .ok (.bipush 60, 2) := by decide +kernel
theorem dX12_join_53 : decode cX12_join 53 = .ok (.if_icmp .ne 6, 3) := by decide +kernel
theorem dX12_join_56 : decode cX12_join 56 = .ok (.bipush (-2), 2) := by decide +kernel
theorem dX12_join_58 : decode cX12_join 58 = .ok (.ireturn, 1) := by decide +kernel
theorem dX12_join_59 : decode cX12_join 59 = .ok (.aload_n 0, 1) := by decide +kernel
theorem dX12_join_60 : decode cX12_join 60 = .ok (.iconst 4, 1) := by decide +kernel
theorem dX12_join_61 : decode cX12_join 61 = .ok (.aload_n 0, 1) := by decide +kernel
theorem dX12_join_62 : decode cX12_join 62 = .ok (.getfield 16, 3) := by decide +kernel
theorem dX12_join_65 : decode cX12_join 65 = .ok (.iload_n 1, 1) := by decide +kernel
theorem dX12_join_66 : decode cX12_join 66 = .ok (.iaload, 1) := by decide +kernel
theorem dX12_join_67 : decode cX12_join 67 = .ok (.aload_n 0, 1) := by decide +kernel
theorem dX12_join_68 : decode cX12_join 68 = .ok (.getfield 16, 3) := by decide +kernel
theorem dX12_join_71 : decode cX12_join 71 = .ok (.iload_n 2, 1) := by decide +kernel
theorem dX12_join_72 : decode cX12_join 72 = .ok (.iaload, 1) := by decide +kernel
theorem dX12_join_73 : decode cX12_join 73 = .ok (.iadd, 1) := by decide +kernel
theorem dX12_join_74 : decode cX12_join 74 = .ok (.iconst 1, 1) := by decide +kernel
theorem dX12_join_75 : decode cX12_join 75 = .ok (.iadd, 1) := by decide +kernel
theorem dX12_join_76 : decode cX12_join 76 = .ok (.invokevirtual 42, 3) := by decide +kernel
theorem dX12_join_79 : decode cX12_join 79 = .ok (.istore 4, 2) := by decide +kernel
theorem dX12_join_81 : decode cX12_join 81 = .ok (.aload_n 0, 1) := by decide +kernel
theorem dX12_join_82 : decode cX12_join 82 = .ok (.getfield 13, 3) := by decide +kernel
theorem dX12_join_85 : decode cX12_join 85 = .ok (.bipush 6, 2) := by decide +kernel
theorem dX12_join_87 : decode cX12_join 87 = .ok (.iload 4, 2) := by decide +kernel
theorem dX12_join_89 : decode cX12_join 89 = .ok (.imul, 1) := by decide +kernel
theorem dX12_join_90 : decode cX12_join 90 = .ok (.iload_n 1, 1) := by decide +kernel
theorem dX12_join_91 : decode cX12_join 91 = .ok (.iastore, 1) := by decide +kernel
theorem dX12_join_92 : decode cX12_join 92 = .ok (.aload_n 0, 1) := by decide +kernel
theorem dX12_join_93 : decode cX12_join 93 = .ok (.getfield 13, 3) := by decide +kernel
theorem dX12_join_96 : decode cX12_join 96 = .ok (.bipush 6, 2) := by decide +kernel
theorem dX12_join_98 : decode cX12_join 98 = .ok (.iload 4, 2) := by decide +kernel
theorem dX12_join_100 : decode cX12_join 100 = .ok (.imul, 1) := by decide +kernel
theorem dX12_join_101 : decode cX12_join 101 = .ok (.iconst 1, 1) := by decide +kernel
theorem dX12_join_102 : decode cX12_join 102 = .ok (.iadd, 1) := by decide +kernel
theorem dX12_join_103 : decode cX12_join 103 = .ok (.iload_n 2, 1) := by decide +kernel
theorem dX12_join_104 : decode cX12_join 104 = .ok (.iastore, 1) := by decide +kernel
theorem dX12_join_105 : decode cX12_join 105 = .ok (.aload_n 0, 1) := by decide +kernel
theorem dX12_join_106 : decode cX12_join 106 = .ok (.getfield 13, 3) := by decide +kernel
theorem dX12_join_109 : decode cX12_join 109 = .ok (.bipush 6, 2) := by decide +kernel
theorem dX12_join_111 : decode cX12_join 111 = .ok (.iload 4, 2) := by decide +kernel
theorem dX12_join_113 : decode cX12_join 113 = .ok (.imul, 1) := by decide +kernel
theorem dX12_join_114 : decode cX12_join 114 = .ok (.iconst 2, 1) := by decide +kernel
theorem dX12_join_115 : decode cX12_join 115 = .ok (.iadd, 1) := by decide +kernel
theorem dX12_join_116 : decode cX12_join 116 = .ok (.iload_n 3, 1) := by decide +kernel
theorem dX12_join_117 : decode cX12_join 117 = .ok (.iastore, 1) := by decide +kernel
theorem dX12_join_118 : decode cX12_join 118 = .ok (.iload 4, 2) := by decide +kernel
theorem dX12_join_120 : decode cX12_join 120 = .ok (.ireturn, 1) := by decide +kernel
theorem dX12_moved_0 : decode cX12_moved 0 = .ok (.aload_n 0, 1) := by decide +kernel
theorem dX12_moved_1 : decode cX12_moved 1 = .ok (.getfield 35, 3) := by decide +kernel
theorem dX12_moved_4 : decode cX12_moved 4 = .ok (.istore_n 2, 1) := by decide +kernel
theorem dX12_moved_5 : decode cX12_moved 5 = .ok (.aload_n 0, 1) := by decide +kernel
theorem dX12_moved_6 : decode cX12_moved 6 = .ok (.iconst 0, 1) := by decide +kernel
theorem dX12_moved_7 : decode cX12_moved 7 = .ok (.putfield 35, 3) := by decide +kernel
theorem dX12_moved_10 : decode cX12_moved 10 = .ok (.aload_n 0, 1) := by decide +kernel
theorem dX12_moved_11 : decode cX12_moved 11 = .ok (.iload_n 1, 1) := by decide +kernel
theorem dX12_moved_12 : decode cX12_moved 12 = .ok (.invokevirtual 46, 3) := by decide +kernel
theorem dX12_moved_15 : decode cX12_moved 15 = .ok (.ifCond .eq 19, 3) := by decide +kernel
theorem dX12_moved_18 : decode cX12_moved 18 = .ok (.iload_n 2, 1) := by decide +kernel
theorem dX12_moved_19 : decode cX12_moved 19 = .ok (.iconst 3, 1) := by decide +kernel
theorem dX12_moved_20 : decode cX12_moved 20 = .ok (.if_icmp .ne 14, 3) := by decide +kernel
theorem dX12_moved_23 : decode cX12_moved 23 = .ok (.aload_n 0, 1) := by decide +kernel
theorem dX12_moved_24 : decode cX12_moved 24 = .ok (.getfield 16, 3) := by decide +kernel
theorem dX12_moved_27 : decode cX12_moved 27 = .ok (.iload_n 1, 1) := by decide +kernel
theorem dX12_moved_28 : decode cX12_moved 28 = .ok (.iaload, 1) := by decide +kernel
theorem dX12_moved_29 : decode cX12_moved 29 = .ok (.bipush 100, 2) := by decide +kernel
theorem dX12_moved_31 : decode cX12_moved 31 = .ok (.if_icmp .ne 5, 3) := by decide +kernel
theorem dX12_moved_34 : decode cX12_moved 34 = .ok (.iconst (-1), 1) := by decide +kernel
theorem dX12_moved_35 : decode cX12_moved 35 = .ok (.ireturn, 1) := by decide +kernel
theorem dX12_moved_36 : decode cX12_moved 36 = .ok (.aload_n 0, 1) := by decide +kernel
theorem dX12_moved_37 : decode cX12_moved 37 = .ok (.getfield 39, 3) := by decide +kernel
theorem dX12_moved_40 : decode cX12_moved 40 = .ok (.bipush 60, 2) := by decide +kernel
theorem dX12_moved_42 : decode cX12_moved 42 = .ok (.if_icmp .ne 6, 3) := by decide +kernel
theorem dX12_moved_45 : decode cX12_moved 45 = .ok (.bipush (-2), 2) := by decide +kernel
theorem dX12_moved_47 : decode cX12_moved 47 = .ok (.ireturn, 1) := by decide +kernel
theorem dX12_moved_48 : decode cX12_moved 48 = .ok (.aload_n 0, 1) := by decide +kernel
theorem dX12_moved_49 : decode cX12_moved 49 = .ok (.iconst 5, 1) := by decide +kernel
theorem dX12_moved_50 : decode cX12_moved 50 = .ok (.aload_n 0, 1) := by decide +kernel
theorem dX12_moved_51 : decode cX12_moved 51 = .ok (.getfield 16, 3) := by decide +kernel
theorem dX12_moved_54 : decode cX12_moved 54 = .ok (.iload_n 1, 1) := by decide +kernel
theorem dX12_moved_55 : decode cX12_moved 55 = .ok (.iaload, 1) := by decide +kernel
theorem dX12_moved_56 : decode cX12_moved 56 = .ok (.iconst 1, 1) := by decide +kernel
theorem dX12_moved_57 : decode cX12_moved 57 = .ok (.iadd, 1) := by decide +kernel
theorem dX12_moved_58 : decode cX12_moved 58 = .ok (.invokevirtual 42, 3) := by decide +kernel
theorem dX12_moved_61 : decode cX12_moved 61 = .ok (.istore_n 3, 1) := by decide +kernel
theorem dX12_moved_62 : decode cX12_moved 62 = .ok (.aload_n 0, 1) := by decide +kernel
theorem dX12_moved_63 : decode cX12_moved 63 = .ok (.getfield 13, 3) := by decide +kernel
theorem dX12_moved_66 : decode cX12_moved 66 = .ok (.bipush 6, 2) := by decide +kernel
theorem dX12_moved_68 : decode cX12_moved 68 = .ok (.iload_n 3, 1) := by decide +kernel
theorem dX12_moved_69 : decode cX12_moved 69 = .ok (.imul, 1) := by decide +kernel
theorem dX12_moved_70 : decode cX12_moved 70 = .ok (.iconst 3, 1) := by decide +kernel
theorem dX12_moved_71 : decode cX12_moved 71 = .ok (.iadd, 1) := by decide +kernel
theorem dX12_moved_72 : decode cX12_moved 72 = .ok (.iload_n 1, 1) := by decide +kernel
theorem dX12_moved_73 : decode cX12_moved 73 = .ok (.iastore, 1) := by decide +kernel
theorem dX12_moved_74 : decode cX12_moved 74 = .ok (.iload_n 3, 1) := by decide +kernel
theorem dX12_moved_75 : decode cX12_moved 75 = .ok (.ireturn, 1) := by decide +kernel
theorem dX12_turned_0 : decode cX12_turned 0 = .ok (.aload_n 0, 1) := by decide +kernel
theorem dX12_turned_1 : decode cX12_turned 1 = .ok (.iload_n 1, 1) := by decide +kernel
theorem dX12_turned_2 : decode cX12_turned 2 = .ok (.invokevirtual 46, 3) := by decide +kernel
theorem dX12_turned_5 : decode cX12_turned 5 = .ok (.ifCond .eq 14, 3) := by decide +kernel
theorem dX12_turned_8 : decode cX12_turned 8 = .ok (.aload_n 0, 1) := by decide +kernel
theorem dX12_turned_9 : decode cX12_turned 9 = .ok (.getfield 16, 3) := by decide +kernel
theorem dX12_turned_12 : decode cX12_turned 12 = .ok (.iload_n 1, 1) := by decide +kernel
theorem dX12_turned_13 : decode cX12_turned 13 = .ok (.iaload, 1) := by decide +kernel
theorem dX12_turned_14 : decode cX12_turned 14 = .ok (.bipush 100, 2) := by decide +kernel
theorem dX12_turned_16 : decode cX12_turned 16 = .ok (.if_icmp .ne 5, 3) := by decide +kernel
theorem dX12_turned_19 : decode cX12_turned 19 = .ok (.iconst (-1), 1) := by decide +kernel
theorem dX12_turned_20 : decode cX12_turned 20 = .ok (.ireturn, 1) := by decide +kernel
theorem dX12_turned_21 : decode cX12_turned 21 = .ok (.aload_n 0, 1) := by decide +kernel
theorem dX12_turned_22 : decode cX12_turned 22 = .ok (.getfield 39, 3) := by decide +kernel
theorem dX12_turned_25 : decode cX12_turned 25 = .ok (.bipush 60, 2) := by decide +kernel
theorem dX12_turned_27 : decode cX12_turned 27 = .ok (.if_icmp .ne 6, 3) := by decide +kernel
theorem dX12_turned_30 : decode cX12_turned 30 = .ok (.bipush (-2), 2) := by decide +kernel
theorem dX12_turned_32 : decode cX12_turned 32 = .ok (.ireturn, 1) := by decide +kernel
theorem dX12_turned_33 : decode cX12_turned 33 = .ok (.aload_n 0, 1) := by decide +kernel
theorem dX12_turned_34 : decode cX12_turned 34 = .ok (.bipush 6, 2) := by decide +kernel
theorem dX12_turned_36 : decode cX12_turned 36 = .ok (.aload_n 0, 1) := by decide +kernel
theorem dX12_turned_37 : decode cX12_turned 37 = .ok (.getfield 16, 3) := by decide +kernel
theorem dX12_turned_40 : decode cX12_turned 40 = .ok (.iload_n 1, 1) := by decide +kernel
theorem dX12_turned_41 : decode cX12_turned 41 = .ok (.iaload, 1) := by decide +kernel
theorem dX12_turned_42 : decode cX12_turned 42 = .ok (.iconst 1, 1) := by decide +kernel
theorem dX12_turned_43 : decode cX12_turned 43 = .ok (.iadd, 1) := by decide +kernel
theorem dX12_turned_44 : decode cX12_turned 44 = .ok (.invokevirtual 42, 3) := by decide +kernel
theorem dX12_turned_47 : decode cX12_turned 47 = .ok (.istore_n 2, 1) := by decide +kernel
theorem dX12_turned_48 : decode cX12_turned 48 = .ok (.aload_n 0, 1) := by decide +kernel
theorem dX12_turned_49 : decode cX12_turned 49 = .ok (.getfield 13, 3) := by decide +kernel
theorem dX12_turned_52 : decode cX12_turned 52 = .ok (.bipush 6, 2) := by decide +kernel
theorem dX12_turned_54 : decode cX12_turned 54 = .ok (.iload_n 2, 1) := by decide +kernel
theorem dX12_turned_55 : decode cX12_turned 55 = .ok (.imul, 1) := by decide +kernel
theorem dX12_turned_56 : decode cX12_turned 56 = .ok (.iload_n 1, 1) := by decide +kernel
theorem dX12_turned_57 : decode cX12_turned 57 = .ok (.iastore, 1) := by decide +kernel
theorem dX12_turned_58 : decode cX12_turned 58 = .ok (.iload_n 2, 1) := by decide +kernel
theorem dX12_turned_59 : decode cX12_turned 59 = .ok (.ireturn, 1) := by decide +kernel
theorem dX12_square_0 : decode cX12_square 0 = .ok (.lload_n 0, 1) := by decide +kernel
theorem dX12_square_1 : decode cX12_square 1 = .ok (.lload_n 0, 1) := by decide +kernel
theorem dX12_square_2 : decode cX12_square 2 = .ok (.lmul, 1) := by decide +kernel
theorem dX12_square_3 : decode cX12_square 3 = .ok (.lreturn, 1) := by decide +kernel
theorem dX12_isInKind_0 : decode cX12_isInKind 0 = .ok (.aload_n 0, 1) := by decide +kernel
theorem dX12_isInKind_1 : decode cX12_isInKind 1 = .ok (.getfield 9, 3) := by decide +kernel
theorem dX12_isInKind_4 : decode cX12_isInKind 4 = .ok (.iload_n 1, 1) := by decide +kernel
theorem dX12_isInKind_5 : decode cX12_isInKind 5 = .ok (.iaload, 1) := by decide +kernel
theorem dX12_isInKind_6 : decode cX12_isInKind 6 = .ok (.ifCond .ne 85, 3) := by decide +kernel
theorem dX12_isInKind_9 : decode cX12_isInKind 9 = .ok (.lload_n 2, 1) := by decide +kernel
theorem dX12_isInKind_10 : decode cX12_isInKind 10 = .ok (.aload_n 0, 1) := by decide +kernel
theorem dX12_isInKind_11 : decode cX12_isInKind 11 = .ok (.iload_n 1, 1) := by decide +kernel
theorem dX12_isInKind_12 : decode cX12_isInKind 12 = .ok (.iconst 0, 1) := by decide +kernel
theorem dX12_isInKind_13 : decode cX12_isInKind 13 = .ok (.invokevirtual 50, 3) := by decide +kernel
theorem dX12_isInKind_16 : decode cX12_isInKind 16 = .ok (.i2l, 1) := by decide +kernel
theorem dX12_isInKind_17 : decode cX12_isInKind 17 = .ok (.lcmp, 1) := by decide +kernel
theorem dX12_isInKind_18 : decode cX12_isInKind 18 = .ok (.ifCond .lt 71, 3) := by decide +kernel
theorem dX12_isInKind_21 : decode cX12_isInKind 21 = .ok (.lload 4, 2) := by decide +kernel
theorem dX12_isInKind_23 : decode cX12_isInKind 23 = .ok (.aload_n 0, 1) := by decide +kernel
theorem dX12_isInKind_24 : decode cX12_isInKind 24 = .ok (.iload_n 1, 1) := by decide +kernel
theorem dX12_isInKind_25 : decode cX12_isInKind 25 = .ok (.iconst 1, 1) := by decide +kernel
theorem dX12_isInKind_26 : decode cX12_isInKind 26 = .ok (.invokevirtual 50, 3) := by decide +kernel
theorem dX12_isInKind_29 : decode cX12_isInKind 29 = .ok (.i2l, 1) := by decide +kernel
theorem dX12_isInKind_30 : decode cX12_isInKind 30 = .ok (.lcmp, 1) := by decide +kernel
theorem dX12_isInKind_31 : decode cX12_isInKind 31 = .ok (.ifCond .lt 58, 3) := by decide +kernel
theorem dX12_isInKind_34 : decode cX12_isInKind 34 = .ok (.lload 6, 2) := by decide +kernel
theorem dX12_isInKind_36 : decode cX12_isInKind 36 = .ok (.aload_n 0, 1) := by decide +kernel
theorem dX12_isInKind_37 : decode cX12_isInKind 37 = .ok (.iload_n 1, 1) := by decide +kernel
theorem dX12_isInKind_38 : decode cX12_isInKind 38 = .ok (.iconst 2, 1) := by decide +kernel
theorem dX12_isInKind_39 : decode cX12_isInKind 39 = .ok (.invokevirtual 50, 3) := by decide +kernel
theorem dX12_isInKind_42 : decode cX12_isInKind 42 = .ok (.i2l, 1) := by decide +kernel
theorem dX12_isInKind_43 : decode cX12_isInKind 43 = .ok (.lcmp, 1) := by decide +kernel
theorem dX12_isInKind_44 : decode cX12_isInKind 44 = .ok (.ifCond .lt 45, 3) := by decide +kernel
theorem dX12_isInKind_47 : decode cX12_isInKind 47 = .ok (.lload_n 2, 1) := by decide +kernel
theorem dX12_isInKind_48 : decode cX12_isInKind 48 = .ok (.aload_n 0, 1) := by decide +kernel
theorem dX12_isInKind_49 : decode cX12_isInKind 49 = .ok (.iload_n 1, 1) := by decide +kernel
theorem dX12_isInKind_50 : decode cX12_isInKind 50 = .ok (.iconst 3, 1) := by decide +kernel
theorem dX12_isInKind_51 : decode cX12_isInKind 51 = .ok (.invokevirtual 50, 3) := by decide +kernel
theorem dX12_isInKind_54 : decode cX12_isInKind 54 = .ok (.i2l, 1) := by decide +kernel
theorem dX12_isInKind_55 : decode cX12_isInKind 55 = .ok (.lcmp, 1) := by decide +kernel
theorem dX12_isInKind_56 : decode cX12_isInKind 56 = .ok (.ifCond .ge 33, 3) := by decide +kernel
theorem dX12_isInKind_59 : decode cX12_isInKind 59 = .ok (.lload 4, 2) := by decide +kernel
theorem dX12_isInKind_61 : decode cX12_isInKind 61 = .ok (.aload_n 0, 1) := by decide +kernel
theorem dX12_isInKind_62 : decode cX12_isInKind 62 = .ok (.iload_n 1, 1) := by decide +kernel
theorem dX12_isInKind_63 : decode cX12_isInKind 63 = .ok (.iconst 4, 1) := by decide +kernel
theorem dX12_isInKind_64 : decode cX12_isInKind 64 = .ok (.invokevirtual 50, 3) := by decide +kernel
theorem dX12_isInKind_67 : decode cX12_isInKind 67 = .ok (.i2l, 1) := by decide +kernel
theorem dX12_isInKind_68 : decode cX12_isInKind 68 = .ok (.lcmp, 1) := by decide +kernel
theorem dX12_isInKind_69 : decode cX12_isInKind 69 = .ok (.ifCond .ge 20, 3) := by decide +kernel
theorem dX12_isInKind_72 : decode cX12_isInKind 72 = .ok (.lload 6, 2) := by decide +kernel
theorem dX12_isInKind_74 : decode cX12_isInKind 74 = .ok (.aload_n 0, 1) := by decide +kernel
theorem dX12_isInKind_75 : decode cX12_isInKind 75 = .ok (.iload_n 1, 1) := by decide +kernel
theorem dX12_isInKind_76 : decode cX12_isInKind 76 = .ok (.iconst 5, 1) := by decide +kernel
theorem dX12_isInKind_77 : decode cX12_isInKind 77 = .ok (.invokevirtual 50, 3) := by decide +kernel
theorem dX12_isInKind_80 : decode cX12_isInKind 80 = .ok (.i2l, 1) := by decide +kernel
theorem dX12_isInKind_81 : decode cX12_isInKind 81 = .ok (.lcmp, 1) := by decide +kernel
theorem dX12_isInKind_82 : decode cX12_isInKind 82 = .ok (.ifCond .ge 7, 3) := by decide +kernel
theorem dX12_isInKind_85 : decode cX12_isInKind 85 = .ok (.iconst 1, 1) := by decide +kernel
theorem dX12_isInKind_86 : decode cX12_isInKind 86 = .ok (.goto 4, 3) := by decide +kernel
theorem dX12_isInKind_89 : decode cX12_isInKind 89 = .ok (.iconst 0, 1) := by decide +kernel
theorem dX12_isInKind_90 : decode cX12_isInKind 90 = .ok (.ireturn, 1) := by decide +kernel
theorem dX12_isInKind_91 : decode cX12_isInKind 91 = .ok (.lload_n 2, 1) := by decide +kernel
theorem dX12_isInKind_92 : decode cX12_isInKind 92 = .ok (.aload_n 0, 1) := by decide +kernel
theorem dX12_isInKind_93 : decode cX12_isInKind 93 = .ok (.iload_n 1, 1) := by decide +kernel
theorem dX12_isInKind_94 : decode cX12_isInKind 94 = .ok (.iconst 0, 1) := by decide +kernel
theorem dX12_isInKind_95 : decode cX12_isInKind 95 = .ok (.invokevirtual 50, 3) := by decide +kernel
theorem dX12_isInKind_98 : decode cX12_isInKind 98 = .ok (.i2l, 1) := by decide +kernel
theorem dX12_isInKind_99 : decode cX12_isInKind 99 = .ok (.lsub, 1) := by decide +kernel
theorem dX12_isInKind_100 : decode cX12_isInKind 100 = .ok (.invokestatic 53, 3) := by decide +kernel
theorem dX12_isInKind_103 : decode cX12_isInKind 103 = .ok (.lload 4, 2) := by decide +kernel
theorem dX12_isInKind_105 : decode cX12_isInKind 105 = .ok (.aload_n 0, 1) := by decide +kernel
theorem dX12_isInKind_106 : decode cX12_isInKind 106 = .ok (.iload_n 1, 1) := by decide +kernel
theorem dX12_isInKind_107 : decode cX12_isInKind 107 = .ok (.iconst 1, 1) := by decide +kernel
theorem dX12_isInKind_108 : decode cX12_isInKind 108 = .ok (.invokevirtual 50, 3) := by decide +kernel
theorem dX12_isInKind_111 : decode cX12_isInKind 111 = .ok (.i2l, 1) := by decide +kernel
theorem dX12_isInKind_112 : decode cX12_isInKind 112 = .ok (.lsub, 1) := by decide +kernel
theorem dX12_isInKind_113 : decode cX12_isInKind 113 = .ok (.invokestatic 53, 3) := by decide +kernel
theorem dX12_isInKind_116 : decode cX12_isInKind 116 = .ok (.ladd, 1) := by decide +kernel
theorem dX12_isInKind_117 : decode cX12_isInKind 117 = .ok (.lstore 8, 2) := by decide +kernel
theorem dX12_isInKind_119 : decode cX12_isInKind 119 = .ok (.aload_n 0, 1) := by decide +kernel
theorem dX12_isInKind_120 : decode cX12_isInKind 120 = .ok (.getfield 9, 3) := by decide +kernel
theorem dX12_isInKind_123 : decode cX12_isInKind 123 = .ok (.iload_n 1, 1) := by decide +kernel
theorem dX12_isInKind_124 : decode cX12_isInKind 124 = .ok (.iaload, 1) := by decide +kernel
theorem dX12_isInKind_125 : decode cX12_isInKind 125 = .ok (.iconst 2, 1) := by decide +kernel
theorem dX12_isInKind_126 : decode cX12_isInKind 126 = .ok (.if_icmp .ne 39, 3) := by decide +kernel
theorem dX12_isInKind_129 : decode cX12_isInKind 129 = .ok (.lload 8, 2) := by decide +kernel
theorem dX12_isInKind_131 : decode cX12_isInKind 131 = .ok (.lload 6, 2) := by decide +kernel
theorem dX12_isInKind_133 : decode cX12_isInKind 133 = .ok (.aload_n 0, 1) := by decide +kernel
theorem dX12_isInKind_134 : decode cX12_isInKind 134 = .ok (.iload_n 1, 1) := by decide +kernel
theorem dX12_isInKind_135 : decode cX12_isInKind 135 = .ok (.iconst 2, 1) := by decide +kernel
theorem dX12_isInKind_136 : decode cX12_isInKind 136 = .ok (.invokevirtual 50, 3) := by decide +kernel
theorem dX12_isInKind_139 : decode cX12_isInKind 139 = .ok (.i2l, 1) := by decide +kernel
theorem dX12_isInKind_140 : decode cX12_isInKind 140 = .ok (.lsub, 1) := by decide +kernel
theorem dX12_isInKind_141 : decode cX12_isInKind 141 = .ok (.invokestatic 53, 3) := by decide +kernel
theorem dX12_isInKind_144 : decode cX12_isInKind 144 = .ok (.ladd, 1) := by decide +kernel
theorem dX12_isInKind_145 : decode cX12_isInKind 145 = .ok (.aload_n 0, 1) := by decide +kernel
theorem dX12_isInKind_146 : decode cX12_isInKind 146 = .ok (.iload_n 1, 1) := by decide +kernel
theorem dX12_isInKind_147 : decode cX12_isInKind 147 = .ok (.iconst 3, 1) := by decide +kernel
theorem dX12_isInKind_148 : decode cX12_isInKind 148 = .ok (.invokevirtual 50, 3) := by decide +kernel
theorem dX12_isInKind_151 : decode cX12_isInKind 151 = .ok (.i2l, 1) := by decide +kernel
theorem dX12_isInKind_152 : decode cX12_isInKind 152 = .ok (.invokestatic 53, 3) := by decide +kernel
theorem dX12_isInKind_155 : decode cX12_isInKind 155 = .ok (.lcmp, 1) := by decide +kernel
theorem dX12_isInKind_156 : decode cX12_isInKind 156 = .ok (.ifCond .gt 7, 3) := by decide +kernel
theorem dX12_isInKind_159 : decode cX12_isInKind 159 = .ok (.iconst 1, 1) := by decide +kernel
theorem dX12_isInKind_160 : decode cX12_isInKind 160 = .ok (.goto 4, 3) := by decide +kernel
theorem dX12_isInKind_163 : decode cX12_isInKind 163 = .ok (.iconst 0, 1) := by decide +kernel
theorem dX12_isInKind_164 : decode cX12_isInKind 164 = .ok (.ireturn, 1) := by decide +kernel
theorem dX12_isInKind_165 : decode cX12_isInKind 165 = .ok (.aload_n 0, 1) := by decide +kernel
theorem dX12_isInKind_166 : decode cX12_isInKind 166 = .ok (.iload_n 1, 1) := by decide +kernel
theorem dX12_isInKind_167 : decode cX12_isInKind 167 = .ok (.iconst 2, 1) := by decide +kernel
theorem dX12_isInKind_168 : decode cX12_isInKind 168 = .ok (.invokevirtual 50, 3) := by decide +kernel
theorem dX12_isInKind_171 : decode cX12_isInKind 171 = .ok (.i2l, 1) := by decide +kernel
theorem dX12_isInKind_172 : decode cX12_isInKind 172 = .ok (.lstore 10, 2) := by decide +kernel
theorem dX12_isInKind_174 : decode cX12_isInKind 174 = .ok (.lload 6, 2) := by decide +kernel
theorem dX12_isInKind_176 : decode cX12_isInKind 176 = .ok (.aload_n 0, 1) := by decide +kernel
theorem dX12_isInKind_177 : decode cX12_isInKind 177 = .ok (.iload_n 1, 1) := by decide +kernel
theorem dX12_isInKind_178 : decode cX12_isInKind 178 = .ok (.iconst 3, 1) := by decide +kernel
theorem dX12_isInKind_179 : decode cX12_isInKind 179 = .ok (.invokevirtual 50, 3) := by decide +kernel
theorem dX12_isInKind_182 : decode cX12_isInKind 182 = .ok (.i2l, 1) := by decide +kernel
theorem dX12_isInKind_183 : decode cX12_isInKind 183 = .ok (.lcmp, 1) := by decide +kernel
theorem dX12_isInKind_184 : decode cX12_isInKind 184 = .ok (.ifCond .lt 27, 3) := by decide +kernel
theorem dX12_isInKind_187 : decode cX12_isInKind 187 = .ok (.lload 6, 2) := by decide +kernel
theorem dX12_isInKind_189 : decode cX12_isInKind 189 = .ok (.aload_n 0, 1) := by decide +kernel
theorem dX12_isInKind_190 : decode cX12_isInKind 190 = .ok (.iload_n 1, 1) := by decide +kernel
theorem dX12_isInKind_191 : decode cX12_isInKind 191 = .ok (.iconst 4, 1) := by decide +kernel
theorem dX12_isInKind_192 : decode cX12_isInKind 192 = .ok (.invokevirtual 50, 3) := by decide +kernel
theorem dX12_isInKind_195 : decode cX12_isInKind 195 = .ok (.i2l, 1) := by decide +kernel
theorem dX12_isInKind_196 : decode cX12_isInKind 196 = .ok (.lcmp, 1) := by decide +kernel
theorem dX12_isInKind_197 : decode cX12_isInKind 197 = .ok (.ifCond .ge 14, 3) := by decide +kernel
theorem dX12_isInKind_200 : decode cX12_isInKind 200 = .ok (.lload 8, 2) := by decide +kernel
theorem dX12_isInKind_202 : decode cX12_isInKind 202 = .ok (.lload 10, 2) := by decide +kernel
theorem dX12_isInKind_204 : decode cX12_isInKind 204 = .ok (.lload 10, 2) := by decide +kernel
theorem dX12_isInKind_206 : decode cX12_isInKind 206 = .ok (.lmul, 1) := by decide +kernel
theorem dX12_isInKind_207 : decode cX12_isInKind 207 = .ok (.lcmp, 1) := by decide +kernel
theorem dX12_isInKind_208 : decode cX12_isInKind 208 = .ok (.ifCond .le 5, 3) := by decide +kernel
theorem dX12_isInKind_211 : decode cX12_isInKind 211 = .ok (.iconst 0, 1) := by decide +kernel
theorem dX12_isInKind_212 : decode cX12_isInKind 212 = .ok (.ireturn, 1) := by decide +kernel
theorem dX12_isInKind_213 : decode cX12_isInKind 213 = .ok (.aload_n 0, 1) := by decide +kernel
theorem dX12_isInKind_214 : decode cX12_isInKind 214 = .ok (.getfield 9, 3) := by decide +kernel
theorem dX12_isInKind_217 : decode cX12_isInKind 217 = .ok (.iload_n 1, 1) := by decide +kernel
theorem dX12_isInKind_218 : decode cX12_isInKind 218 = .ok (.iaload, 1) := by decide +kernel
theorem dX12_isInKind_219 : decode cX12_isInKind 219 = .ok (.iconst 1, 1) := by decide +kernel
theorem dX12_isInKind_220 : decode cX12_isInKind 220 = .ok (.if_icmp .eq 46, 3) := by decide +kernel
theorem dX12_isInKind_223 : decode cX12_isInKind 223 = .ok (.lload 8, 2) := by decide +kernel
theorem dX12_isInKind_225 : decode cX12_isInKind 225 = .ok (.aload_n 0, 1) := by decide +kernel
theorem dX12_isInKind_226 : decode cX12_isInKind 226 = .ok (.iload_n 1, 1) := by decide +kernel
theorem dX12_isInKind_227 : decode cX12_isInKind 227 = .ok (.iconst 4, 1) := by decide +kernel
theorem dX12_isInKind_228 : decode cX12_isInKind 228 = .ok (.invokevirtual 50, 3) := by decide +kernel
theorem dX12_isInKind_231 : decode cX12_isInKind 231 = .ok (.aload_n 0, 1) := by decide +kernel
theorem dX12_isInKind_232 : decode cX12_isInKind 232 = .ok (.iload_n 1, 1) := by decide +kernel
theorem dX12_isInKind_233 : decode cX12_isInKind 233 = .ok (.iconst 3, 1) := by decide +kernel
theorem dX12_isInKind_234 : decode cX12_isInKind 234 = .ok (.invokevirtual 50, 3) := by decide +kernel
theorem dX12_isInKind_237 : decode cX12_isInKind 237 = .ok (.isub, 1) := by decide +kernel
theorem dX12_isInKind_238 : decode cX12_isInKind 238 = .ok (.i2l, 1) := by decide +kernel
theorem dX12_isInKind_239 : decode cX12_isInKind 239 = .ok (.invokestatic 53, 3) := by decide +kernel
theorem dX12_isInKind_242 : decode cX12_isInKind 242 = .ok (.lmul, 1) := by decide +kernel
theorem dX12_isInKind_243 : decode cX12_isInKind 243 = .ok (.lload 10, 2) := by decide +kernel
theorem dX12_isInKind_245 : decode cX12_isInKind 245 = .ok (.lload 10, 2) := by decide +kernel
theorem dX12_isInKind_247 : decode cX12_isInKind 247 = .ok (.lmul, 1) := by decide +kernel
theorem dX12_isInKind_248 : decode cX12_isInKind 248 = .ok (.aload_n 0, 1) := by decide +kernel
theorem dX12_isInKind_249 : decode cX12_isInKind 249 = .ok (.iload_n 1, 1) := by decide +kernel
theorem dX12_isInKind_250 : decode cX12_isInKind 250 = .ok (.iconst 4, 1) := by decide +kernel
theorem dX12_isInKind_251 : decode cX12_isInKind 251 = .ok (.invokevirtual 50, 3) := by decide +kernel
theorem dX12_isInKind_254 : decode cX12_isInKind 254 = .ok (.i2l, 1) := by decide +kernel
theorem dX12_isInKind_255 : decode cX12_isInKind 255 = .ok (.lload 6, 2) := by decide +kernel
theorem dX12_isInKind_257 : decode cX12_isInKind 257 = .ok (.lsub, 1) := by decide +kernel
theorem dX12_isInKind_258 : decode cX12_isInKind 258 = .ok (.invokestatic 53, 3) := by decide +kernel
theorem dX12_isInKind_261 : decode cX12_isInKind 261 = .ok (.lmul, 1) := by decide +kernel
theorem dX12_isInKind_262 : decode cX12_isInKind 262 = .ok (.lcmp, 1) := by decide +kernel
theorem dX12_isInKind_263 : decode cX12_isInKind 263 = .ok (.ifCond .gt 7, 3) := by decide +kernel
theorem dX12_isInKind_266 : decode cX12_isInKind 266 = .ok (.iconst 1, 1) := by decide +kernel
theorem dX12_isInKind_267 : decode cX12_isInKind 267 = .ok (.goto 4, 3) := by decide +kernel
theorem dX12_isInKind_270 : decode cX12_isInKind 270 = .ok (.iconst 0, 1) := by decide +kernel
theorem dX12_isInKind_271 : decode cX12_isInKind 271 = .ok (.ireturn, 1) := by decide +kernel
theorem dX12_isIn_0 : decode cX12_isIn 0 = .ok (.aload_n 0, 1) := by decide +kernel
theorem dX12_isIn_1 : decode cX12_isIn 1 = .ok (.getfield 9, 3) := by decide +kernel
theorem dX12_isIn_4 : decode cX12_isIn 4 = .ok (.iload_n 1, 1) := by decide +kernel
theorem dX12_isIn_5 : decode cX12_isIn 5 = .ok (.iaload, 1) := by decide +kernel
theorem dX12_isIn_6 : decode cX12_isIn 6 = .ok (.tableswitch 188 4 6 #[26, 131, 171], 26) := by decide +kernel
theorem dX12_isIn_32 : decode cX12_isIn 32 = .ok (.aload_n 0, 1) := by decide +kernel
theorem dX12_isIn_33 : decode cX12_isIn 33 = .ok (.aload_n 0, 1) := by decide +kernel
theorem dX12_isIn_34 : decode cX12_isIn 34 = .ok (.iload_n 1, 1) := by decide +kernel
theorem dX12_isIn_35 : decode cX12_isIn 35 = .ok (.iconst 0, 1) := by decide +kernel
theorem dX12_isIn_36 : decode cX12_isIn 36 = .ok (.invokevirtual 50, 3) := by decide +kernel
theorem dX12_isIn_39 : decode cX12_isIn 39 = .ok (.lload_n 2, 1) := by decide +kernel
theorem dX12_isIn_40 : decode cX12_isIn 40 = .ok (.lload 4, 2) := by decide +kernel
theorem dX12_isIn_42 : decode cX12_isIn 42 = .ok (.lload 6, 2) := by decide +kernel
theorem dX12_isIn_44 : decode cX12_isIn 44 = .ok (.invokevirtual 57, 3) := by decide +kernel
theorem dX12_isIn_47 : decode cX12_isIn 47 = .ok (.istore 8, 2) := by decide +kernel
theorem dX12_isIn_49 : decode cX12_isIn 49 = .ok (.aload_n 0, 1) := by decide +kernel
theorem dX12_isIn_50 : decode cX12_isIn 50 = .ok (.aload_n 0, 1) := by decide +kernel
theorem dX12_isIn_51 : decode cX12_isIn 51 = .ok (.iload_n 1, 1) := by decide +kernel
theorem dX12_isIn_52 : decode cX12_isIn 52 = .ok (.iconst 1, 1) := by decide +kernel
theorem dX12_isIn_53 : decode cX12_isIn 53 = .ok (.invokevirtual 50, 3) := by decide +kernel
theorem dX12_isIn_56 : decode cX12_isIn 56 = .ok (.lload_n 2, 1) := by decide +kernel
theorem dX12_isIn_57 : decode cX12_isIn 57 = .ok (.lload 4, 2) := by decide +kernel
theorem dX12_isIn_59 : decode cX12_isIn 59 = .ok (.lload 6, 2) := by decide +kernel
theorem dX12_isIn_61 : decode cX12_isIn 61 = .ok (.invokevirtual 57, 3) := by decide +kernel
theorem dX12_isIn_64 : decode cX12_isIn 64 = .ok (.istore 9, 2) := by decide +kernel
theorem dX12_isIn_66 : decode cX12_isIn 66 = .ok (.aload_n 0, 1) := by decide +kernel
theorem dX12_isIn_67 : decode cX12_isIn 67 = .ok (.iload_n 1, 1) := by decide +kernel
theorem dX12_isIn_68 : decode cX12_isIn 68 = .ok (.iconst 2, 1) := by decide +kernel
theorem dX12_isIn_69 : decode cX12_isIn 69 = .ok (.invokevirtual 50, 3) := by decide +kernel
theorem dX12_isIn_72 : decode cX12_isIn 72 = .ok (.ifCond .ne 21, 3) := by decide +kernel
theorem dX12_isIn_75 : decode cX12_isIn 75 = .ok (.iload 8, 2) := by decide +kernel
theorem dX12_isIn_77 : decode cX12_isIn 77 = .ok (.ifCond .ne 8, 3) := by decide +kernel
theorem dX12_isIn_80 : decode cX12_isIn 80 = .ok (.iload 9, 2) := by decide +kernel
theorem dX12_isIn_82 : decode cX12_isIn 82 = .ok (.ifCond .eq 7, 3) := by decide +kernel
theorem dX12_isIn_85 : decode cX12_isIn 85 = .ok (.iconst 1, 1) := by decide +kernel
theorem dX12_isIn_86 : decode cX12_isIn 86 = .ok (.goto 50, 3) := by decide +kernel
theorem dX12_isIn_89 : decode cX12_isIn 89 = .ok (.iconst 0, 1) := by decide +kernel
theorem dX12_isIn_90 : decode cX12_isIn 90 = .ok (.goto 46, 3) := by decide +kernel
theorem dX12_isIn_93 : decode cX12_isIn 93 = .ok (.aload_n 0, 1) := by decide +kernel
theorem dX12_isIn_94 : decode cX12_isIn 94 = .ok (.iload_n 1, 1) := by decide +kernel
theorem dX12_isIn_95 : decode cX12_isIn 95 = .ok (.iconst 2, 1) := by decide +kernel
theorem dX12_isIn_96 : decode cX12_isIn 96 = .ok (.invokevirtual 50, 3) := by decide +kernel
theorem dX12_isIn_99 : decode cX12_isIn 99 = .ok (.iconst 1, 1) := by decide +kernel
theorem dX12_isIn_100 : decode cX12_isIn 100 = .ok (.if_icmp .ne 21, 3) := by decide +kernel
theorem dX12_isIn_103 : decode cX12_isIn 103 = .ok (.iload 8, 2) := by decide +kernel
theorem dX12_isIn_105 : decode cX12_isIn 105 = .ok (.ifCond .eq 12, 3) := by decide +kernel
theorem dX12_isIn_108 : decode cX12_isIn 108 = .ok (.iload 9, 2) := by decide +kernel
theorem dX12_isIn_110 : decode cX12_isIn 110 = .ok (.ifCond .eq 7, 3) := by decide +kernel
theorem dX12_isIn_113 : decode cX12_isIn 113 = .ok (.iconst 1, 1) := by decide +kernel
theorem dX12_isIn_114 : decode cX12_isIn 114 = .ok (.goto 22, 3) := by decide +kernel
theorem dX12_isIn_117 : decode cX12_isIn 117 = .ok (.iconst 0, 1) := by decide +kernel
theorem dX12_isIn_118 : decode cX12_isIn 118 = .ok (.goto 18, 3) := by decide +kernel
theorem dX12_isIn_121 : decode cX12_isIn 121 = .ok (.iload 8, 2) := by decide +kernel
theorem dX12_isIn_123 : decode cX12_isIn 123 = .ok (.ifCond .eq 12, 3) := by decide +kernel
theorem dX12_isIn_126 : decode cX12_isIn 126 = .ok (.iload 9, 2) := by decide +kernel
theorem dX12_isIn_128 : decode cX12_isIn 128 = .ok (.ifCond .ne 7, 3) := by decide +kernel
theorem dX12_isIn_131 : decode cX12_isIn 131 = .ok (.iconst 1, 1) := by decide +kernel
theorem dX12_isIn_132 : decode cX12_isIn 132 = .ok (.goto 4, 3) := by decide +kernel
theorem dX12_isIn_135 : decode cX12_isIn 135 = .ok (.iconst 0, 1) := by decide +kernel
theorem dX12_isIn_136 : decode cX12_isIn 136 = .ok (.ireturn, 1) := by decide +kernel
theorem dX12_isIn_137 : decode cX12_isIn 137 = .ok (.aload_n 0, 1) := by decide +kernel
theorem dX12_isIn_138 : decode cX12_isIn 138 = .ok (.aload_n 0, 1) := by decide +kernel
theorem dX12_isIn_139 : decode cX12_isIn 139 = .ok (.iload_n 1, 1) := by decide +kernel
theorem dX12_isIn_140 : decode cX12_isIn 140 = .ok (.iconst 3, 1) := by decide +kernel
theorem dX12_isIn_141 : decode cX12_isIn 141 = .ok (.invokevirtual 50, 3) := by decide +kernel
theorem dX12_isIn_144 : decode cX12_isIn 144 = .ok (.lload_n 2, 1) := by decide +kernel
theorem dX12_isIn_145 : decode cX12_isIn 145 = .ok (.aload_n 0, 1) := by decide +kernel
theorem dX12_isIn_146 : decode cX12_isIn 146 = .ok (.iload_n 1, 1) := by decide +kernel
theorem dX12_isIn_147 : decode cX12_isIn 147 = .ok (.iconst 0, 1) := by decide +kernel
theorem dX12_isIn_148 : decode cX12_isIn 148 = .ok (.invokevirtual 50, 3) := by decide +kernel
theorem dX12_isIn_151 : decode cX12_isIn 151 = .ok (.i2l, 1) := by decide +kernel
theorem dX12_isIn_152 : decode cX12_isIn 152 = .ok (.lsub, 1) := by decide +kernel
theorem dX12_isIn_153 : decode cX12_isIn 153 = .ok (.lload 4, 2) := by decide +kernel
theorem dX12_isIn_155 : decode cX12_isIn 155 = .ok (.aload_n 0, 1) := by decide +kernel
theorem dX12_isIn_156 : decode cX12_isIn 156 = .ok (.iload_n 1, 1) := by decide +kernel
theorem dX12_isIn_157 : decode cX12_isIn 157 = .ok (.iconst 1, 1) := by decide +kernel
theorem dX12_isIn_158 : decode cX12_isIn 158 = .ok (.invokevirtual 50, 3) := by decide +kernel
theorem dX12_isIn_161 : decode cX12_isIn 161 = .ok (.i2l, 1) := by decide +kernel
theorem dX12_isIn_162 : decode cX12_isIn 162 = .ok (.lsub, 1) := by decide +kernel
theorem dX12_isIn_163 : decode cX12_isIn 163 = .ok (.lload 6, 2) := by decide +kernel
theorem dX12_isIn_165 : decode cX12_isIn 165 = .ok (.aload_n 0, 1) := by decide +kernel
theorem dX12_isIn_166 : decode cX12_isIn 166 = .ok (.iload_n 1, 1) := by decide +kernel
theorem dX12_isIn_167 : decode cX12_isIn 167 = .ok (.iconst 2, 1) := by decide +kernel
theorem dX12_isIn_168 : decode cX12_isIn 168 = .ok (.invokevirtual 50, 3) := by decide +kernel
theorem dX12_isIn_171 : decode cX12_isIn 171 = .ok (.i2l, 1) := by decide +kernel
theorem dX12_isIn_172 : decode cX12_isIn 172 = .ok (.lsub, 1) := by decide +kernel
theorem dX12_isIn_173 : decode cX12_isIn 173 = .ok (.invokevirtual 57, 3) := by decide +kernel
theorem dX12_isIn_176 : decode cX12_isIn 176 = .ok (.ireturn, 1) := by decide +kernel
theorem dX12_isIn_177 : decode cX12_isIn 177 = .ok (.aload_n 0, 1) := by decide +kernel
theorem dX12_isIn_178 : decode cX12_isIn 178 = .ok (.aload_n 0, 1) := by decide +kernel
theorem dX12_isIn_179 : decode cX12_isIn 179 = .ok (.iload_n 1, 1) := by decide +kernel
theorem dX12_isIn_180 : decode cX12_isIn 180 = .ok (.iconst 0, 1) := by decide +kernel
theorem dX12_isIn_181 : decode cX12_isIn 181 = .ok (.invokevirtual 50, 3) := by decide +kernel
theorem dX12_isIn_184 : decode cX12_isIn 184 = .ok (.lload 4, 2) := by decide +kernel
theorem dX12_isIn_186 : decode cX12_isIn 186 = .ok (.lload_n 2, 1) := by decide +kernel
theorem dX12_isIn_187 : decode cX12_isIn 187 = .ok (.lneg, 1) := by decide +kernel
theorem dX12_isIn_188 : decode cX12_isIn 188 = .ok (.lload 6, 2) := by decide +kernel
theorem dX12_isIn_190 : decode cX12_isIn 190 = .ok (.invokevirtual 57, 3) := by decide +kernel
theorem dX12_isIn_193 : decode cX12_isIn 193 = .ok (.ireturn, 1) := by decide +kernel
theorem dX12_isIn_194 : decode cX12_isIn 194 = .ok (.aload_n 0, 1) := by decide +kernel
theorem dX12_isIn_195 : decode cX12_isIn 195 = .ok (.iload_n 1, 1) := by decide +kernel
theorem dX12_isIn_196 : decode cX12_isIn 196 = .ok (.lload_n 2, 1) := by decide +kernel
theorem dX12_isIn_197 : decode cX12_isIn 197 = .ok (.lload 4, 2) := by decide +kernel
theorem dX12_isIn_199 : decode cX12_isIn 199 = .ok (.lload 6, 2) := by decide +kernel
theorem dX12_isIn_201 : decode cX12_isIn 201 = .ok (.invokevirtual 61, 3) := by decide +kernel
theorem dX12_isIn_204 : decode cX12_isIn 204 = .ok (.ireturn, 1) := by decide +kernel
theorem dX12_isNear_0 : decode cX12_isNear 0 = .ok (.iload_n 0, 1) := by decide +kernel
theorem dX12_isNear_1 : decode cX12_isNear 1 = .ok (.ldc 64, 2) := by decide +kernel
theorem dX12_isNear_3 : decode cX12_isNear 3 = .ok (.if_icmp .lt 13, 3) := by decide +kernel
theorem dX12_isNear_6 : decode cX12_isNear 6 = .ok (.iload_n 0, 1) := by decide +kernel
theorem dX12_isNear_7 : decode cX12_isNear 7 = .ok (.ldc 65, 2) := by decide +kernel
theorem dX12_isNear_9 : decode cX12_isNear 9 = .ok (.if_icmp .gt 7, 3) := by decide +kernel
theorem dX12_isNear_12 : decode cX12_isNear 12 = .ok (.iconst 1, 1) := by decide +kernel
theorem dX12_isNear_13 : decode cX12_isNear 13 = .ok (.goto 4, 3) := by decide +kernel
theorem dX12_isNear_16 : decode cX12_isNear 16 = .ok (.iconst 0, 1) := by decide +kernel
theorem dX12_isNear_17 : decode cX12_isNear 17 = .ok (.ireturn, 1) := by decide +kernel
theorem dX12_inside_0 : decode cX12_inside 0 = .ok (.aload_n 0, 1) := by decide +kernel
theorem dX12_inside_1 : decode cX12_inside 1 = .ok (.iload_n 1, 1) := by decide +kernel
theorem dX12_inside_2 : decode cX12_inside 2 = .ok (.invokevirtual 46, 3) := by decide +kernel
theorem dX12_inside_5 : decode cX12_inside 5 = .ok (.ifCond .eq 44, 3) := by decide +kernel
theorem dX12_inside_8 : decode cX12_inside 8 = .ok (.iload_n 2, 1) := by decide +kernel
theorem dX12_inside_9 : decode cX12_inside 9 = .ok (.invokestatic 66, 3) := by decide +kernel
theorem dX12_inside_12 : decode cX12_inside 12 = .ok (.ifCond .eq 37, 3) := by decide +kernel
theorem dX12_inside_15 : decode cX12_inside 15 = .ok (.iload_n 3, 1) := by decide +kernel
theorem dX12_inside_16 : decode cX12_inside 16 = .ok (.invokestatic 66, 3) := by decide +kernel
theorem dX12_inside_19 : decode cX12_inside 19 = .ok (.ifCond .eq 30, 3) := by decide +kernel
theorem dX12_inside_22 : decode cX12_inside 22 = .ok (.iload 4, 2) := by decide +kernel
theorem dX12_inside_24 : decode cX12_inside 24 = .ok (.invokestatic 66, 3) := by decide +kernel
theorem dX12_inside_27 : decode cX12_inside 27 = .ok (.ifCond .eq 22, 3) := by decide +kernel
theorem dX12_inside_30 : decode cX12_inside 30 = .ok (.aload_n 0, 1) := by decide +kernel
theorem dX12_inside_31 : decode cX12_inside 31 = .ok (.iload_n 1, 1) := by decide +kernel
theorem dX12_inside_32 : decode cX12_inside 32 = .ok (.iload_n 2, 1) := by decide +kernel
theorem dX12_inside_33 : decode cX12_inside 33 = .ok (.i2l, 1) := by decide +kernel
theorem dX12_inside_34 : decode cX12_inside 34 = .ok (.iload_n 3, 1) := by decide +kernel
theorem dX12_inside_35 : decode cX12_inside 35 = .ok (.i2l, 1) := by decide +kernel
theorem dX12_inside_36 : decode cX12_inside 36 = .ok (.iload 4, 2) := by decide +kernel
theorem dX12_inside_38 : decode cX12_inside 38 = .ok (.i2l, 1) := by decide +kernel
theorem dX12_inside_39 : decode cX12_inside 39 = .ok (.invokevirtual 57, 3) := by decide +kernel
theorem dX12_inside_42 : decode cX12_inside 42 = .ok (.ifCond .eq 7, 3) := by decide +kernel
theorem dX12_inside_45 : decode cX12_inside 45 = .ok (.iconst 1, 1) := by decide +kernel
theorem dX12_inside_46 : decode cX12_inside 46 = .ok (.goto 4, 3) := by decide +kernel
theorem dX12_inside_49 : decode cX12_inside 49 = .ok (.iconst 0, 1) := by decide +kernel
theorem dX12_inside_50 : decode cX12_inside 50 = .ok (.ireturn, 1) := by decide +kernel
theorem dX12_rise_0 : decode cX12_rise 0 = .ok (.iload 7, 2) := by decide +kernel
theorem dX12_rise_2 : decode cX12_rise 2 = .ok (.bipush 16, 2) := by decide +kernel
theorem dX12_rise_4 : decode cX12_rise 4 = .ok (.imul, 1) := by decide +kernel
theorem dX12_rise_5 : decode cX12_rise 5 = .ok (.istore 8, 2) := by decide +kernel
theorem dX12_rise_7 : decode cX12_rise 7 = .ok (.aload_n 0, 1) := by decide +kernel
theorem dX12_rise_8 : decode cX12_rise 8 = .ok (.getfield 9, 3) := by decide +kernel
theorem dX12_rise_11 : decode cX12_rise 11 = .ok (.iload_n 1, 1) := by decide +kernel
theorem dX12_rise_12 : decode cX12_rise 12 = .ok (.iaload, 1) := by decide +kernel
theorem dX12_rise_13 : decode cX12_rise 13 = .ok (.tableswitch 227 4 6 #[27, 163, 206], 27) := by decide +kernel
theorem dX12_rise_40 : decode cX12_rise 40 = .ok (.aload_n 0, 1) := by decide +kernel
theorem dX12_rise_41 : decode cX12_rise 41 = .ok (.aload_n 0, 1) := by decide +kernel
theorem dX12_rise_42 : decode cX12_rise 42 = .ok (.iload_n 1, 1) := by decide +kernel
theorem dX12_rise_43 : decode cX12_rise 43 = .ok (.iconst 0, 1) := by decide +kernel
theorem dX12_rise_44 : decode cX12_rise 44 = .ok (.invokevirtual 50, 3) := by decide +kernel
theorem dX12_rise_47 : decode cX12_rise 47 = .ok (.lload_n 2, 1) := by decide +kernel
theorem dX12_rise_48 : decode cX12_rise 48 = .ok (.lload 4, 2) := by decide +kernel
theorem dX12_rise_50 : decode cX12_rise 50 = .ok (.iload 6, 2) := by decide +kernel
theorem dX12_rise_52 : decode cX12_rise 52 = .ok (.iload 7, 2) := by decide +kernel
theorem dX12_rise_54 : decode cX12_rise 54 = .ok (.invokevirtual 69, 3) := by decide +kernel
theorem dX12_rise_57 : decode cX12_rise 57 = .ok (.aload_n 0, 1) := by decide +kernel
theorem dX12_rise_58 : decode cX12_rise 58 = .ok (.aload_n 0, 1) := by decide +kernel
theorem dX12_rise_59 : decode cX12_rise 59 = .ok (.iload_n 1, 1) := by decide +kernel
theorem dX12_rise_60 : decode cX12_rise 60 = .ok (.iconst 1, 1) := by decide +kernel
theorem dX12_rise_61 : decode cX12_rise 61 = .ok (.invokevirtual 50, 3) := by decide +kernel
theorem dX12_rise_64 : decode cX12_rise 64 = .ok (.lload_n 2, 1) := by decide +kernel
theorem dX12_rise_65 : decode cX12_rise 65 = .ok (.lload 4, 2) := by decide +kernel
theorem dX12_rise_67 : decode cX12_rise 67 = .ok (.iload 6, 2) := by decide +kernel
theorem dX12_rise_69 : decode cX12_rise 69 = .ok (.iload 7, 2) := by decide +kernel
theorem dX12_rise_71 : decode cX12_rise 71 = .ok (.iconst 1, 1) := by decide +kernel
theorem dX12_rise_72 : decode cX12_rise 72 = .ok (.iadd, 1) := by decide +kernel
theorem dX12_rise_73 : decode cX12_rise 73 = .ok (.invokevirtual 69, 3) := by decide +kernel
theorem dX12_rise_76 : decode cX12_rise 76 = .ok (.iconst 0, 1) := by decide +kernel
theorem dX12_rise_77 : decode cX12_rise 77 = .ok (.istore 9, 2) := by decide +kernel
theorem dX12_rise_79 : decode cX12_rise 79 = .ok (.iload 9, 2) := by decide +kernel
theorem dX12_rise_81 : decode cX12_rise 81 = .ok (.bipush 16, 2) := by decide +kernel
theorem dX12_rise_83 : decode cX12_rise 83 = .ok (.if_icmp .ge 90, 3) := by decide +kernel
theorem dX12_rise_86 : decode cX12_rise 86 = .ok (.aload_n 0, 1) := by decide +kernel
theorem dX12_rise_87 : decode cX12_rise 87 = .ok (.getfield 22, 3) := by decide +kernel
theorem dX12_rise_90 : decode cX12_rise 90 = .ok (.iload 8, 2) := by decide +kernel
theorem dX12_rise_92 : decode cX12_rise 92 = .ok (.iload 9, 2) := by decide +kernel
theorem dX12_rise_94 : decode cX12_rise 94 = .ok (.iadd, 1) := by decide +kernel
theorem dX12_rise_95 : decode cX12_rise 95 = .ok (.laload, 1) := by decide +kernel
theorem dX12_rise_96 : decode cX12_rise 96 = .ok (.lstore 10, 2) := by decide +kernel
theorem dX12_rise_98 : decode cX12_rise 98 = .ok (.aload_n 0, 1) := by decide +kernel
theorem dX12_rise_99 : decode cX12_rise 99 = .ok (.getfield 22, 3) := by decide +kernel
theorem dX12_rise_102 : decode cX12_rise 102 = .ok (.iload 8, 2) := by decide +kernel
theorem dX12_rise_104 : decode cX12_rise 104 = .ok (.bipush 16, 2) := by decide +kernel
theorem dX12_rise_106 : decode cX12_rise 106 = .ok (.iadd, 1) := by decide +kernel
theorem dX12_rise_107 : decode cX12_rise 107 = .ok (.iload 9, 2) := by decide +kernel
theorem dX12_rise_109 : decode cX12_rise 109 = .ok (.iadd, 1) := by decide +kernel
theorem dX12_rise_110 : decode cX12_rise 110 = .ok (.laload, 1) := by decide +kernel
theorem dX12_rise_111 : decode cX12_rise 111 = .ok (.lstore 12, 2) := by decide +kernel
theorem dX12_rise_113 : decode cX12_rise 113 = .ok (.aload_n 0, 1) := by decide +kernel
theorem dX12_rise_114 : decode cX12_rise 114 = .ok (.getfield 22, 3) := by decide +kernel
theorem dX12_rise_117 : decode cX12_rise 117 = .ok (.iload 8, 2) := by decide +kernel
theorem dX12_rise_119 : decode cX12_rise 119 = .ok (.iload 9, 2) := by decide +kernel
theorem dX12_rise_121 : decode cX12_rise 121 = .ok (.iadd, 1) := by decide +kernel
theorem dX12_rise_122 : decode cX12_rise 122 = .ok (.aload_n 0, 1) := by decide +kernel
theorem dX12_rise_123 : decode cX12_rise 123 = .ok (.iload_n 1, 1) := by decide +kernel
theorem dX12_rise_124 : decode cX12_rise 124 = .ok (.iconst 2, 1) := by decide +kernel
theorem dX12_rise_125 : decode cX12_rise 125 = .ok (.invokevirtual 50, 3) := by decide +kernel
theorem dX12_rise_128 : decode cX12_rise 128 = .ok (.ifCond .ne 11, 3) := by decide +kernel
theorem dX12_rise_131 : decode cX12_rise 131 = .ok (.lload 10, 2) := by decide +kernel
theorem dX12_rise_133 : decode cX12_rise 133 = .ok (.lload 12, 2) := by decide +kernel
theorem dX12_rise_135 : decode cX12_rise 135 = .ok (.lor, 1) := by decide +kernel
theorem dX12_rise_136 : decode cX12_rise 136 = .ok (.goto 30, 3) := by decide +kernel
theorem dX12_rise_139 : decode cX12_rise 139 = .ok (.aload_n 0, 1) := by decide +kernel
theorem dX12_rise_140 : decode cX12_rise 140 = .ok (.iload_n 1, 1) := by decide +kernel
theorem dX12_rise_141 : decode cX12_rise 141 = .ok (.iconst 2, 1) := by decide +kernel
theorem dX12_rise_142 : decode cX12_rise 142 = .ok (.invokevirtual 50, 3) := by decide +kernel
theorem dX12_rise_145 : decode cX12_rise 145 = .ok (.iconst 1, 1) := by decide +kernel
theorem dX12_rise_146 : decode cX12_rise 146 = .ok (.if_icmp .ne 11, 3) := by decide +kernel
theorem dX12_rise_149 : decode cX12_rise 149 = .ok (.lload 10, 2) := by decide +kernel
theorem dX12_rise_151 : decode cX12_rise 151 = .ok (.lload 12, 2) := by decide +kernel
theorem dX12_rise_153 : decode cX12_rise 153 = .ok (.land, 1) := by decide +kernel
theorem dX12_rise_154 : decode cX12_rise 154 = .ok (.goto 12, 3) := by decide +kernel
theorem dX12_rise_157 : decode cX12_rise 157 = .ok (.lload 10, 2) := by decide +kernel
theorem dX12_rise_159 : decode cX12_rise 159 = .ok (.lload 12, 2) := by decide +kernel
theorem dX12_rise_161 : decode cX12_rise 161 = .ok (.ldc2_w 73, 3) := by decide +kernel
theorem dX12_rise_164 : decode cX12_rise 164 = .ok (.lxor, 1) := by decide +kernel
theorem dX12_rise_165 : decode cX12_rise 165 = .ok (.land, 1) := by decide +kernel
theorem dX12_rise_166 : decode cX12_rise 166 = .ok (.lastore, 1) := by decide +kernel
theorem dX12_rise_167 : decode cX12_rise 167 = .ok (.iinc 9 1, 3) := by decide +kernel
theorem dX12_rise_170 : decode cX12_rise 170 = .ok (.goto (-91), 3) := by decide +kernel
theorem dX12_rise_173 : decode cX12_rise 173 = .ok (.goto 151, 3) := by decide +kernel
theorem dX12_rise_176 : decode cX12_rise 176 = .ok (.aload_n 0, 1) := by decide +kernel
theorem dX12_rise_177 : decode cX12_rise 177 = .ok (.aload_n 0, 1) := by decide +kernel
theorem dX12_rise_178 : decode cX12_rise 178 = .ok (.iload_n 1, 1) := by decide +kernel
theorem dX12_rise_179 : decode cX12_rise 179 = .ok (.iconst 3, 1) := by decide +kernel
theorem dX12_rise_180 : decode cX12_rise 180 = .ok (.invokevirtual 50, 3) := by decide +kernel
theorem dX12_rise_183 : decode cX12_rise 183 = .ok (.lload_n 2, 1) := by decide +kernel
theorem dX12_rise_184 : decode cX12_rise 184 = .ok (.aload_n 0, 1) := by decide +kernel
theorem dX12_rise_185 : decode cX12_rise 185 = .ok (.iload_n 1, 1) := by decide +kernel
theorem dX12_rise_186 : decode cX12_rise 186 = .ok (.iconst 0, 1) := by decide +kernel
theorem dX12_rise_187 : decode cX12_rise 187 = .ok (.invokevirtual 50, 3) := by decide +kernel
theorem dX12_rise_190 : decode cX12_rise 190 = .ok (.i2l, 1) := by decide +kernel
theorem dX12_rise_191 : decode cX12_rise 191 = .ok (.lsub, 1) := by decide +kernel
theorem dX12_rise_192 : decode cX12_rise 192 = .ok (.lload 4, 2) := by decide +kernel
theorem dX12_rise_194 : decode cX12_rise 194 = .ok (.aload_n 0, 1) := by decide +kernel
theorem dX12_rise_195 : decode cX12_rise 195 = .ok (.iload_n 1, 1) := by decide +kernel
theorem dX12_rise_196 : decode cX12_rise 196 = .ok (.iconst 1, 1) := by decide +kernel
theorem dX12_rise_197 : decode cX12_rise 197 = .ok (.invokevirtual 50, 3) := by decide +kernel
theorem dX12_rise_200 : decode cX12_rise 200 = .ok (.i2l, 1) := by decide +kernel
theorem dX12_rise_201 : decode cX12_rise 201 = .ok (.lsub, 1) := by decide +kernel
theorem dX12_rise_202 : decode cX12_rise 202 = .ok (.iload 6, 2) := by decide +kernel
theorem dX12_rise_204 : decode cX12_rise 204 = .ok (.aload_n 0, 1) := by decide +kernel
theorem dX12_rise_205 : decode cX12_rise 205 = .ok (.iload_n 1, 1) := by decide +kernel
theorem dX12_rise_206 : decode cX12_rise 206 = .ok (.iconst 2, 1) := by decide +kernel
theorem dX12_rise_207 : decode cX12_rise 207 = .ok (.invokevirtual 50, 3) := by decide +kernel
theorem dX12_rise_210 : decode cX12_rise 210 = .ok (.iadd, 1) := by decide +kernel
theorem dX12_rise_211 : decode cX12_rise 211 = .ok (.iload 7, 2) := by decide +kernel
theorem dX12_rise_213 : decode cX12_rise 213 = .ok (.invokevirtual 69, 3) := by decide +kernel
theorem dX12_rise_216 : decode cX12_rise 216 = .ok (.goto 108, 3) := by decide +kernel
theorem dX12_rise_219 : decode cX12_rise 219 = .ok (.aload_n 0, 1) := by decide +kernel
theorem dX12_rise_220 : decode cX12_rise 220 = .ok (.aload_n 0, 1) := by decide +kernel
theorem dX12_rise_221 : decode cX12_rise 221 = .ok (.iload_n 1, 1) := by decide +kernel
theorem dX12_rise_222 : decode cX12_rise 222 = .ok (.iconst 0, 1) := by decide +kernel
theorem dX12_rise_223 : decode cX12_rise 223 = .ok (.invokevirtual 50, 3) := by decide +kernel
theorem dX12_rise_226 : decode cX12_rise 226 = .ok (.lload 4, 2) := by decide +kernel
theorem dX12_rise_228 : decode cX12_rise 228 = .ok (.lload_n 2, 1) := by decide +kernel
theorem dX12_rise_229 : decode cX12_rise 229 = .ok (.lneg, 1) := by decide +kernel
theorem dX12_rise_230 : decode cX12_rise 230 = .ok (.iload 6, 2) := by decide +kernel
theorem dX12_rise_232 : decode cX12_rise 232 = .ok (.iload 7, 2) := by decide +kernel
theorem dX12_rise_234 : decode cX12_rise 234 = .ok (.invokevirtual 69, 3) := by decide +kernel
theorem dX12_rise_237 : decode cX12_rise 237 = .ok (.goto 87, 3) := by decide +kernel
theorem dX12_rise_240 : decode cX12_rise 240 = .ok (.iconst 0, 1) := by decide +kernel
theorem dX12_rise_241 : decode cX12_rise 241 = .ok (.istore 9, 2) := by decide +kernel
theorem dX12_rise_243 : decode cX12_rise 243 = .ok (.iload 9, 2) := by decide +kernel
theorem dX12_rise_245 : decode cX12_rise 245 = .ok (.bipush 16, 2) := by decide +kernel
theorem dX12_rise_247 : decode cX12_rise 247 = .ok (.if_icmp .ge 20, 3) := by decide +kernel
theorem dX12_rise_250 : decode cX12_rise 250 = .ok (.aload_n 0, 1) := by decide +kernel
theorem dX12_rise_251 : decode cX12_rise 251 = .ok (.getfield 22, 3) := by decide +kernel
theorem dX12_rise_254 : decode cX12_rise 254 = .ok (.iload 8, 2) := by decide +kernel
theorem dX12_rise_256 : decode cX12_rise 256 = .ok (.iload 9, 2) := by decide +kernel
theorem dX12_rise_258 : decode cX12_rise 258 = .ok (.iadd, 1) := by decide +kernel
theorem dX12_rise_259 : decode cX12_rise 259 = .ok (.lconst 0, 1) := by decide +kernel
theorem dX12_rise_260 : decode cX12_rise 260 = .ok (.lastore, 1) := by decide +kernel
theorem dX12_rise_261 : decode cX12_rise 261 = .ok (.iinc 9 1, 3) := by decide +kernel
theorem dX12_rise_264 : decode cX12_rise 264 = .ok (.goto (-21), 3) := by decide +kernel
theorem dX12_rise_267 : decode cX12_rise 267 = .ok (.iconst 0, 1) := by decide +kernel
theorem dX12_rise_268 : decode cX12_rise 268 = .ok (.istore 9, 2) := by decide +kernel
theorem dX12_rise_270 : decode cX12_rise 270 = .ok (.iload 9, 2) := by decide +kernel
theorem dX12_rise_272 : decode cX12_rise 272 = .ok (.sipush 1000, 3) := by decide +kernel
theorem dX12_rise_275 : decode cX12_rise 275 = .ok (.if_icmp .ge 49, 3) := by decide +kernel
theorem dX12_rise_278 : decode cX12_rise 278 = .ok (.aload_n 0, 1) := by decide +kernel
theorem dX12_rise_279 : decode cX12_rise 279 = .ok (.iload_n 1, 1) := by decide +kernel
theorem dX12_rise_280 : decode cX12_rise 280 = .ok (.lload_n 2, 1) := by decide +kernel
theorem dX12_rise_281 : decode cX12_rise 281 = .ok (.lload 4, 2) := by decide +kernel
theorem dX12_rise_283 : decode cX12_rise 283 = .ok (.iload 9, 2) := by decide +kernel
theorem dX12_rise_285 : decode cX12_rise 285 = .ok (.iload 6, 2) := by decide +kernel
theorem dX12_rise_287 : decode cX12_rise 287 = .ok (.isub, 1) := by decide +kernel
theorem dX12_rise_288 : decode cX12_rise 288 = .ok (.i2l, 1) := by decide +kernel
theorem dX12_rise_289 : decode cX12_rise 289 = .ok (.invokevirtual 61, 3) := by decide +kernel
theorem dX12_rise_292 : decode cX12_rise 292 = .ok (.ifCond .eq 26, 3) := by decide +kernel
theorem dX12_rise_295 : decode cX12_rise 295 = .ok (.aload_n 0, 1) := by decide +kernel
theorem dX12_rise_296 : decode cX12_rise 296 = .ok (.getfield 22, 3) := by decide +kernel
theorem dX12_rise_299 : decode cX12_rise 299 = .ok (.iload 8, 2) := by decide +kernel
theorem dX12_rise_301 : decode cX12_rise 301 = .ok (.iload 9, 2) := by decide +kernel
theorem dX12_rise_303 : decode cX12_rise 303 = .ok (.bipush 64, 2) := by decide +kernel
theorem dX12_rise_305 : decode cX12_rise 305 = .ok (.idiv, 1) := by decide +kernel
theorem dX12_rise_306 : decode cX12_rise 306 = .ok (.iadd, 1) := by decide +kernel
theorem dX12_rise_307 : decode cX12_rise 307 = .ok (.dup2, 1) := by decide +kernel
theorem dX12_rise_308 : decode cX12_rise 308 = .ok (.laload, 1) := by decide +kernel
theorem dX12_rise_309 : decode cX12_rise 309 = .ok (.lconst 1, 1) := by decide +kernel
theorem dX12_rise_310 : decode cX12_rise 310 = .ok (.iload 9, 2) := by decide +kernel
theorem dX12_rise_312 : decode cX12_rise 312 = .ok (.bipush 64, 2) := by decide +kernel
theorem dX12_rise_314 : decode cX12_rise 314 = .ok (.irem, 1) := by decide +kernel
theorem dX12_rise_315 : decode cX12_rise 315 = .ok (.lshl, 1) := by decide +kernel
theorem dX12_rise_316 : decode cX12_rise 316 = .ok (.lor, 1) := by decide +kernel
theorem dX12_rise_317 : decode cX12_rise 317 = .ok (.lastore, 1) := by decide +kernel
theorem dX12_rise_318 : decode cX12_rise 318 = .ok (.iinc 9 1, 3) := by decide +kernel
theorem dX12_rise_321 : decode cX12_rise 321 = .ok (.goto (-51), 3) := by decide +kernel
theorem dX12_rise_324 : decode cX12_rise 324 = .ok (.return_, 1) := by decide +kernel
theorem dX12_topOf_0 : decode cX12_topOf 0 = .ok (.aload_n 0, 1) := by decide +kernel
theorem dX12_topOf_1 : decode cX12_topOf 1 = .ok (.iload_n 1, 1) := by decide +kernel
theorem dX12_topOf_2 : decode cX12_topOf 2 = .ok (.iload_n 2, 1) := by decide +kernel
theorem dX12_topOf_3 : decode cX12_topOf 3 = .ok (.i2l, 1) := by decide +kernel
theorem dX12_topOf_4 : decode cX12_topOf 4 = .ok (.iload_n 3, 1) := by decide +kernel
theorem dX12_topOf_5 : decode cX12_topOf 5 = .ok (.i2l, 1) := by decide +kernel
theorem dX12_topOf_6 : decode cX12_topOf 6 = .ok (.iconst 0, 1) := by decide +kernel
theorem dX12_topOf_7 : decode cX12_topOf 7 = .ok (.iconst 0, 1) := by decide +kernel
theorem dX12_topOf_8 : decode cX12_topOf 8 = .ok (.invokevirtual 69, 3) := by decide +kernel
theorem dX12_topOf_11 : decode cX12_topOf 11 = .ok (.sipush 999, 3) := by decide +kernel
theorem dX12_topOf_14 : decode cX12_topOf 14 = .ok (.istore 4, 2) := by decide +kernel
theorem dX12_topOf_16 : decode cX12_topOf 16 = .ok (.iload 4, 2) := by decide +kernel
theorem dX12_topOf_18 : decode cX12_topOf 18 = .ok (.ifCond .lt 32, 3) := by decide +kernel
theorem dX12_topOf_21 : decode cX12_topOf 21 = .ok (.aload_n 0, 1) := by decide +kernel
theorem dX12_topOf_22 : decode cX12_topOf 22 = .ok (.getfield 22, 3) := by decide +kernel
theorem dX12_topOf_25 : decode cX12_topOf 25 = .ok (.iload 4, 2) := by decide +kernel
theorem dX12_topOf_27 : decode cX12_topOf 27 = .ok (.bipush 64, 2) := by decide +kernel
theorem dX12_topOf_29 : decode cX12_topOf 29 = .ok (.idiv, 1) := by decide +kernel
theorem dX12_topOf_30 : decode cX12_topOf 30 = .ok (.laload, 1) := by decide +kernel
end
section
theorem dX12_topOf_31 : decode cX12_topOf 31 = .ok (.iload 4, 2) := by decide +kernel
theorem dX12_topOf_33 : decode cX12_topOf 33 = .ok (.bipush 64, 2) := by decide +kernel
theorem dX12_topOf_35 : decode cX12_topOf 35 = .ok (.irem, 1) := by decide +kernel
theorem dX12_topOf_36 : decode cX12_topOf 36 = .ok (.lshr, 1) := by decide +kernel
theorem dX12_topOf_37 : decode cX12_topOf 37 = .ok (.lconst 1, 1) := by decide +kernel
theorem dX12_topOf_38 : decode cX12_topOf 38 = .ok (.land, 1) := by decide +kernel
theorem dX12_topOf_39 : decode cX12_topOf 39 = .ok (.lconst 0, 1) := by decide +kernel
theorem dX12_topOf_40 : decode cX12_topOf 40 = .ok (.lcmp, 1) := by decide +kernel
theorem dX12_topOf_41 : decode cX12_topOf 41 = .ok (.ifCond .ne 9, 3) := by decide +kernel
theorem dX12_topOf_44 : decode cX12_topOf 44 = .ok (.iinc 4 (-1), 3) := by decide +kernel
theorem dX12_topOf_47 : decode cX12_topOf 47 = .ok (.goto (-31), 3) := by decide +kernel
theorem dX12_topOf_50 : decode cX12_topOf 50 = .ok (.iload 4, 2) := by decide +kernel
theorem dX12_topOf_52 : decode cX12_topOf 52 = .ok (.iconst 1, 1) := by decide +kernel
theorem dX12_topOf_53 : decode cX12_topOf 53 = .ok (.iadd, 1) := by decide +kernel
theorem dX12_topOf_54 : decode cX12_topOf 54 = .ok (.ireturn, 1) := by decide +kernel
theorem dX12_top_0 : decode cX12_top 0 = .ok (.aload_n 0, 1) := by decide +kernel
theorem dX12_top_1 : decode cX12_top 1 = .ok (.iload_n 1, 1) := by decide +kernel
theorem dX12_top_2 : decode cX12_top 2 = .ok (.invokevirtual 46, 3) := by decide +kernel
theorem dX12_top_5 : decode cX12_top 5 = .ok (.ifCond .ne 7, 3) := by decide +kernel
theorem dX12_top_8 : decode cX12_top 8 = .ok (.iconst (-1), 1) := by decide +kernel
theorem dX12_top_9 : decode cX12_top 9 = .ok (.goto 28, 3) := by decide +kernel
theorem dX12_top_12 : decode cX12_top 12 = .ok (.iload_n 2, 1) := by decide +kernel
theorem dX12_top_13 : decode cX12_top 13 = .ok (.invokestatic 66, 3) := by decide +kernel
theorem dX12_top_16 : decode cX12_top 16 = .ok (.ifCond .eq 20, 3) := by decide +kernel
theorem dX12_top_19 : decode cX12_top 19 = .ok (.iload_n 3, 1) := by decide +kernel
theorem dX12_top_20 : decode cX12_top 20 = .ok (.invokestatic 66, 3) := by decide +kernel
theorem dX12_top_23 : decode cX12_top 23 = .ok (.ifCond .eq 13, 3) := by decide +kernel
theorem dX12_top_26 : decode cX12_top 26 = .ok (.aload_n 0, 1) := by decide +kernel
theorem dX12_top_27 : decode cX12_top 27 = .ok (.iload_n 1, 1) := by decide +kernel
theorem dX12_top_28 : decode cX12_top 28 = .ok (.iload_n 2, 1) := by decide +kernel
theorem dX12_top_29 : decode cX12_top 29 = .ok (.iload_n 3, 1) := by decide +kernel
theorem dX12_top_30 : decode cX12_top 30 = .ok (.invokevirtual 75, 3) := by decide +kernel
theorem dX12_top_33 : decode cX12_top 33 = .ok (.goto 4, 3) := by decide +kernel
theorem dX12_top_36 : decode cX12_top 36 = .ok (.iconst 0, 1) := by decide +kernel
theorem dX12_top_37 : decode cX12_top 37 = .ok (.ireturn, 1) := by decide +kernel
theorem dX12_weight_0 : decode cX12_weight 0 = .ok (.aload_n 0, 1) := by decide +kernel
theorem dX12_weight_1 : decode cX12_weight 1 = .ok (.iload_n 1, 1) := by decide +kernel
theorem dX12_weight_2 : decode cX12_weight 2 = .ok (.invokevirtual 46, 3) := by decide +kernel
theorem dX12_weight_5 : decode cX12_weight 5 = .ok (.ifCond .eq 12, 3) := by decide +kernel
theorem dX12_weight_8 : decode cX12_weight 8 = .ok (.aload_n 0, 1) := by decide +kernel
theorem dX12_weight_9 : decode cX12_weight 9 = .ok (.getfield 16, 3) := by decide +kernel
theorem dX12_weight_12 : decode cX12_weight 12 = .ok (.iload_n 1, 1) := by decide +kernel
theorem dX12_weight_13 : decode cX12_weight 13 = .ok (.iaload, 1) := by decide +kernel
theorem dX12_weight_14 : decode cX12_weight 14 = .ok (.goto 4, 3) := by decide +kernel
theorem dX12_weight_17 : decode cX12_weight 17 = .ok (.iconst (-1), 1) := by decide +kernel
theorem dX12_weight_18 : decode cX12_weight 18 = .ok (.ireturn, 1) := by decide +kernel
theorem dX12_height_0 : decode cX12_height 0 = .ok (.aload_n 0, 1) := by decide +kernel
theorem dX12_height_1 : decode cX12_height 1 = .ok (.getfield 26, 3) := by decide +kernel
theorem dX12_height_4 : decode cX12_height 4 = .ok (.aload_n 0, 1) := by decide +kernel
theorem dX12_height_5 : decode cX12_height 5 = .ok (.getfield 83, 3) := by decide +kernel
theorem dX12_height_8 : decode cX12_height 8 = .ok (.lload_n 1, 1) := by decide +kernel
theorem dX12_height_9 : decode cX12_height 9 = .ok (.lastore, 1) := by decide +kernel
theorem dX12_height_10 : decode cX12_height 10 = .ok (.aload_n 0, 1) := by decide +kernel
theorem dX12_height_11 : decode cX12_height 11 = .ok (.dup, 1) := by decide +kernel
theorem dX12_height_12 : decode cX12_height 12 = .ok (.getfield 83, 3) := by decide +kernel
theorem dX12_height_15 : decode cX12_height 15 = .ok (.iconst 1, 1) := by decide +kernel
theorem dX12_height_16 : decode cX12_height 16 = .ok (.iadd, 1) := by decide +kernel
theorem dX12_height_17 : decode cX12_height 17 = .ok (.putfield 83, 3) := by decide +kernel
theorem dX12_height_20 : decode cX12_height 20 = .ok (.return_, 1) := by decide +kernel
theorem dX12_last_0 : decode cX12_last 0 = .ok (.lload 6, 2) := by decide +kernel
theorem dX12_last_2 : decode cX12_last 2 = .ok (.lstore 8, 2) := by decide +kernel
theorem dX12_last_4 : decode cX12_last 4 = .ok (.lload 6, 2) := by decide +kernel
theorem dX12_last_6 : decode cX12_last 6 = .ok (.ldc2_w 86, 3) := by decide +kernel
theorem dX12_last_9 : decode cX12_last 9 = .ok (.ladd, 1) := by decide +kernel
theorem dX12_last_10 : decode cX12_last 10 = .ok (.lstore 10, 2) := by decide +kernel
theorem dX12_last_12 : decode cX12_last 12 = .ok (.lload 8, 2) := by decide +kernel
theorem dX12_last_14 : decode cX12_last 14 = .ok (.lload 10, 2) := by decide +kernel
theorem dX12_last_16 : decode cX12_last 16 = .ok (.lcmp, 1) := by decide +kernel
theorem dX12_last_17 : decode cX12_last 17 = .ok (.ifCond .ge 74, 3) := by decide +kernel
theorem dX12_last_20 : decode cX12_last 20 = .ok (.lload 8, 2) := by decide +kernel
theorem dX12_last_22 : decode cX12_last 22 = .ok (.lload 10, 2) := by decide +kernel
theorem dX12_last_24 : decode cX12_last 24 = .ok (.ladd, 1) := by decide +kernel
theorem dX12_last_25 : decode cX12_last 25 = .ok (.lconst 1, 1) := by decide +kernel
theorem dX12_last_26 : decode cX12_last 26 = .ok (.ladd, 1) := by decide +kernel
theorem dX12_last_27 : decode cX12_last 27 = .ok (.ldc2_w 81, 3) := by decide +kernel
theorem dX12_last_30 : decode cX12_last 30 = .ok (.ldiv, 1) := by decide +kernel
theorem dX12_last_31 : decode cX12_last 31 = .ok (.lstore 12, 2) := by decide +kernel
theorem dX12_last_33 : decode cX12_last 33 = .ok (.lload 12, 2) := by decide +kernel
theorem dX12_last_35 : decode cX12_last 35 = .ok (.lconst 0, 1) := by decide +kernel
theorem dX12_last_36 : decode cX12_last 36 = .ok (.lcmp, 1) := by decide +kernel
theorem dX12_last_37 : decode cX12_last 37 = .ok (.ifCond .ge 25, 3) := by decide +kernel
theorem dX12_last_40 : decode cX12_last 40 = .ok (.lload 8, 2) := by decide +kernel
theorem dX12_last_42 : decode cX12_last 42 = .ok (.lload 10, 2) := by decide +kernel
theorem dX12_last_44 : decode cX12_last 44 = .ok (.ladd, 1) := by decide +kernel
theorem dX12_last_45 : decode cX12_last 45 = .ok (.lconst 1, 1) := by decide +kernel
theorem dX12_last_46 : decode cX12_last 46 = .ok (.ladd, 1) := by decide +kernel
theorem dX12_last_47 : decode cX12_last 47 = .ok (.ldc2_w 81, 3) := by decide +kernel
theorem dX12_last_50 : decode cX12_last 50 = .ok (.lrem, 1) := by decide +kernel
theorem dX12_last_51 : decode cX12_last 51 = .ok (.lconst 0, 1) := by decide +kernel
theorem dX12_last_52 : decode cX12_last 52 = .ok (.lcmp, 1) := by decide +kernel
theorem dX12_last_53 : decode cX12_last 53 = .ok (.ifCond .eq 9, 3) := by decide +kernel
theorem dX12_last_56 : decode cX12_last 56 = .ok (.lload 12, 2) := by decide +kernel
theorem dX12_last_58 : decode cX12_last 58 = .ok (.lconst 1, 1) := by decide +kernel
theorem dX12_last_59 : decode cX12_last 59 = .ok (.lsub, 1) := by decide +kernel
theorem dX12_last_60 : decode cX12_last 60 = .ok (.lstore 12, 2) := by decide +kernel
theorem dX12_last_62 : decode cX12_last 62 = .ok (.aload_n 0, 1) := by decide +kernel
theorem dX12_last_63 : decode cX12_last 63 = .ok (.iload_n 1, 1) := by decide +kernel
theorem dX12_last_64 : decode cX12_last 64 = .ok (.lload_n 2, 1) := by decide +kernel
theorem dX12_last_65 : decode cX12_last 65 = .ok (.lload 4, 2) := by decide +kernel
theorem dX12_last_67 : decode cX12_last 67 = .ok (.lload 12, 2) := by decide +kernel
theorem dX12_last_69 : decode cX12_last 69 = .ok (.invokevirtual 61, 3) := by decide +kernel
theorem dX12_last_72 : decode cX12_last 72 = .ok (.ifCond .eq 10, 3) := by decide +kernel
theorem dX12_last_75 : decode cX12_last 75 = .ok (.lload 12, 2) := by decide +kernel
theorem dX12_last_77 : decode cX12_last 77 = .ok (.lstore 8, 2) := by decide +kernel
theorem dX12_last_79 : decode cX12_last 79 = .ok (.goto 9, 3) := by decide +kernel
theorem dX12_last_82 : decode cX12_last 82 = .ok (.lload 12, 2) := by decide +kernel
theorem dX12_last_84 : decode cX12_last 84 = .ok (.lconst 1, 1) := by decide +kernel
theorem dX12_last_85 : decode cX12_last 85 = .ok (.lsub, 1) := by decide +kernel
theorem dX12_last_86 : decode cX12_last 86 = .ok (.lstore 10, 2) := by decide +kernel
theorem dX12_last_88 : decode cX12_last 88 = .ok (.goto (-76), 3) := by decide +kernel
theorem dX12_last_91 : decode cX12_last 91 = .ok (.lload 8, 2) := by decide +kernel
theorem dX12_last_93 : decode cX12_last 93 = .ok (.lreturn, 1) := by decide +kernel
theorem dX12_ends_0 : decode cX12_ends 0 = .ok (.aload_n 0, 1) := by decide +kernel
theorem dX12_ends_1 : decode cX12_ends 1 = .ok (.getfield 9, 3) := by decide +kernel
theorem dX12_ends_4 : decode cX12_ends 4 = .ok (.iload_n 1, 1) := by decide +kernel
theorem dX12_ends_5 : decode cX12_ends 5 = .ok (.iaload, 1) := by decide +kernel
theorem dX12_ends_6 : decode cX12_ends 6 = .ok (.tableswitch 120 4 6 #[26, 59, 101], 26) := by decide +kernel
theorem dX12_ends_32 : decode cX12_ends 32 = .ok (.aload_n 0, 1) := by decide +kernel
theorem dX12_ends_33 : decode cX12_ends 33 = .ok (.aload_n 0, 1) := by decide +kernel
theorem dX12_ends_34 : decode cX12_ends 34 = .ok (.iload_n 1, 1) := by decide +kernel
theorem dX12_ends_35 : decode cX12_ends 35 = .ok (.iconst 0, 1) := by decide +kernel
theorem dX12_ends_36 : decode cX12_ends 36 = .ok (.invokevirtual 50, 3) := by decide +kernel
theorem dX12_ends_39 : decode cX12_ends 39 = .ok (.lload_n 2, 1) := by decide +kernel
theorem dX12_ends_40 : decode cX12_ends 40 = .ok (.lload 4, 2) := by decide +kernel
theorem dX12_ends_42 : decode cX12_ends 42 = .ok (.lload 6, 2) := by decide +kernel
theorem dX12_ends_44 : decode cX12_ends 44 = .ok (.invokevirtual 88, 3) := by decide +kernel
theorem dX12_ends_47 : decode cX12_ends 47 = .ok (.aload_n 0, 1) := by decide +kernel
theorem dX12_ends_48 : decode cX12_ends 48 = .ok (.aload_n 0, 1) := by decide +kernel
theorem dX12_ends_49 : decode cX12_ends 49 = .ok (.iload_n 1, 1) := by decide +kernel
theorem dX12_ends_50 : decode cX12_ends 50 = .ok (.iconst 1, 1) := by decide +kernel
theorem dX12_ends_51 : decode cX12_ends 51 = .ok (.invokevirtual 50, 3) := by decide +kernel
theorem dX12_ends_54 : decode cX12_ends 54 = .ok (.lload_n 2, 1) := by decide +kernel
theorem dX12_ends_55 : decode cX12_ends 55 = .ok (.lload 4, 2) := by decide +kernel
theorem dX12_ends_57 : decode cX12_ends 57 = .ok (.lload 6, 2) := by decide +kernel
theorem dX12_ends_59 : decode cX12_ends 59 = .ok (.invokevirtual 88, 3) := by decide +kernel
theorem dX12_ends_62 : decode cX12_ends 62 = .ok (.goto 176, 3) := by decide +kernel
theorem dX12_ends_65 : decode cX12_ends 65 = .ok (.aload_n 0, 1) := by decide +kernel
theorem dX12_ends_66 : decode cX12_ends 66 = .ok (.aload_n 0, 1) := by decide +kernel
theorem dX12_ends_67 : decode cX12_ends 67 = .ok (.iload_n 1, 1) := by decide +kernel
theorem dX12_ends_68 : decode cX12_ends 68 = .ok (.iconst 3, 1) := by decide +kernel
theorem dX12_ends_69 : decode cX12_ends 69 = .ok (.invokevirtual 50, 3) := by decide +kernel
theorem dX12_ends_72 : decode cX12_ends 72 = .ok (.lload_n 2, 1) := by decide +kernel
theorem dX12_ends_73 : decode cX12_ends 73 = .ok (.aload_n 0, 1) := by decide +kernel
theorem dX12_ends_74 : decode cX12_ends 74 = .ok (.iload_n 1, 1) := by decide +kernel
theorem dX12_ends_75 : decode cX12_ends 75 = .ok (.iconst 0, 1) := by decide +kernel
theorem dX12_ends_76 : decode cX12_ends 76 = .ok (.invokevirtual 50, 3) := by decide +kernel
theorem dX12_ends_79 : decode cX12_ends 79 = .ok (.i2l, 1) := by decide +kernel
theorem dX12_ends_80 : decode cX12_ends 80 = .ok (.lsub, 1) := by decide +kernel
theorem dX12_ends_81 : decode cX12_ends 81 = .ok (.lload 4, 2) := by decide +kernel
theorem dX12_ends_83 : decode cX12_ends 83 = .ok (.aload_n 0, 1) := by decide +kernel
theorem dX12_ends_84 : decode cX12_ends 84 = .ok (.iload_n 1, 1) := by decide +kernel
theorem dX12_ends_85 : decode cX12_ends 85 = .ok (.iconst 1, 1) := by decide +kernel
theorem dX12_ends_86 : decode cX12_ends 86 = .ok (.invokevirtual 50, 3) := by decide +kernel
theorem dX12_ends_89 : decode cX12_ends 89 = .ok (.i2l, 1) := by decide +kernel
theorem dX12_ends_90 : decode cX12_ends 90 = .ok (.lsub, 1) := by decide +kernel
theorem dX12_ends_91 : decode cX12_ends 91 = .ok (.lload 6, 2) := by decide +kernel
theorem dX12_ends_93 : decode cX12_ends 93 = .ok (.aload_n 0, 1) := by decide +kernel
theorem dX12_ends_94 : decode cX12_ends 94 = .ok (.iload_n 1, 1) := by decide +kernel
theorem dX12_ends_95 : decode cX12_ends 95 = .ok (.iconst 2, 1) := by decide +kernel
theorem dX12_ends_96 : decode cX12_ends 96 = .ok (.invokevirtual 50, 3) := by decide +kernel
theorem dX12_ends_99 : decode cX12_ends 99 = .ok (.i2l, 1) := by decide +kernel
theorem dX12_ends_100 : decode cX12_ends 100 = .ok (.ladd, 1) := by decide +kernel
theorem dX12_ends_101 : decode cX12_ends 101 = .ok (.invokevirtual 88, 3) := by decide +kernel
theorem dX12_ends_104 : decode cX12_ends 104 = .ok (.goto 134, 3) := by decide +kernel
theorem dX12_ends_107 : decode cX12_ends 107 = .ok (.aload_n 0, 1) := by decide +kernel
theorem dX12_ends_108 : decode cX12_ends 108 = .ok (.aload_n 0, 1) := by decide +kernel
theorem dX12_ends_109 : decode cX12_ends 109 = .ok (.iload_n 1, 1) := by decide +kernel
theorem dX12_ends_110 : decode cX12_ends 110 = .ok (.iconst 0, 1) := by decide +kernel
theorem dX12_ends_111 : decode cX12_ends 111 = .ok (.invokevirtual 50, 3) := by decide +kernel
theorem dX12_ends_114 : decode cX12_ends 114 = .ok (.lload 4, 2) := by decide +kernel
theorem dX12_ends_116 : decode cX12_ends 116 = .ok (.lload_n 2, 1) := by decide +kernel
theorem dX12_ends_117 : decode cX12_ends 117 = .ok (.lneg, 1) := by decide +kernel
theorem dX12_ends_118 : decode cX12_ends 118 = .ok (.lload 6, 2) := by decide +kernel
theorem dX12_ends_120 : decode cX12_ends 120 = .ok (.invokevirtual 88, 3) := by decide +kernel
theorem dX12_ends_123 : decode cX12_ends 123 = .ok (.goto 115, 3) := by decide +kernel
theorem dX12_ends_126 : decode cX12_ends 126 = .ok (.aload_n 0, 1) := by decide +kernel
theorem dX12_ends_127 : decode cX12_ends 127 = .ok (.getfield 9, 3) := by decide +kernel
theorem dX12_ends_130 : decode cX12_ends 130 = .ok (.iload_n 1, 1) := by decide +kernel
theorem dX12_ends_131 : decode cX12_ends 131 = .ok (.iaload, 1) := by decide +kernel
theorem dX12_ends_132 : decode cX12_ends 132 = .ok (.iconst 1, 1) := by decide +kernel
theorem dX12_ends_133 : decode cX12_ends 133 = .ok (.if_icmp .eq 13, 3) := by decide +kernel
theorem dX12_ends_136 : decode cX12_ends 136 = .ok (.aload_n 0, 1) := by decide +kernel
theorem dX12_ends_137 : decode cX12_ends 137 = .ok (.getfield 9, 3) := by decide +kernel
theorem dX12_ends_140 : decode cX12_ends 140 = .ok (.iload_n 1, 1) := by decide +kernel
theorem dX12_ends_141 : decode cX12_ends 141 = .ok (.iaload, 1) := by decide +kernel
theorem dX12_ends_142 : decode cX12_ends 142 = .ok (.iconst 3, 1) := by decide +kernel
theorem dX12_ends_143 : decode cX12_ends 143 = .ok (.if_icmp .ne 13, 3) := by decide +kernel
theorem dX12_ends_146 : decode cX12_ends 146 = .ok (.aload_n 0, 1) := by decide +kernel
theorem dX12_ends_147 : decode cX12_ends 147 = .ok (.iload_n 1, 1) := by decide +kernel
theorem dX12_ends_148 : decode cX12_ends 148 = .ok (.iconst 3, 1) := by decide +kernel
theorem dX12_ends_149 : decode cX12_ends 149 = .ok (.invokevirtual 50, 3) := by decide +kernel
theorem dX12_ends_152 : decode cX12_ends 152 = .ok (.i2l, 1) := by decide +kernel
theorem dX12_ends_153 : decode cX12_ends 153 = .ok (.goto 10, 3) := by decide +kernel
theorem dX12_ends_156 : decode cX12_ends 156 = .ok (.aload_n 0, 1) := by decide +kernel
theorem dX12_ends_157 : decode cX12_ends 157 = .ok (.iload_n 1, 1) := by decide +kernel
theorem dX12_ends_158 : decode cX12_ends 158 = .ok (.iconst 2, 1) := by decide +kernel
theorem dX12_ends_159 : decode cX12_ends 159 = .ok (.invokevirtual 50, 3) := by decide +kernel
theorem dX12_ends_162 : decode cX12_ends 162 = .ok (.i2l, 1) := by decide +kernel
theorem dX12_ends_163 : decode cX12_ends 163 = .ok (.lstore 8, 2) := by decide +kernel
theorem dX12_ends_165 : decode cX12_ends 165 = .ok (.aload_n 0, 1) := by decide +kernel
theorem dX12_ends_166 : decode cX12_ends 166 = .ok (.iload_n 1, 1) := by decide +kernel
theorem dX12_ends_167 : decode cX12_ends 167 = .ok (.lload_n 2, 1) := by decide +kernel
theorem dX12_ends_168 : decode cX12_ends 168 = .ok (.lload 4, 2) := by decide +kernel
theorem dX12_ends_170 : decode cX12_ends 170 = .ok (.lload 8, 2) := by decide +kernel
theorem dX12_ends_172 : decode cX12_ends 172 = .ok (.invokevirtual 61, 3) := by decide +kernel
theorem dX12_ends_175 : decode cX12_ends 175 = .ok (.ifCond .ne 6, 3) := by decide +kernel
theorem dX12_ends_178 : decode cX12_ends 178 = .ok (.goto 60, 3) := by decide +kernel
theorem dX12_ends_181 : decode cX12_ends 181 = .ok (.aload_n 0, 1) := by decide +kernel
theorem dX12_ends_182 : decode cX12_ends 182 = .ok (.iload_n 1, 1) := by decide +kernel
theorem dX12_ends_183 : decode cX12_ends 183 = .ok (.lload_n 2, 1) := by decide +kernel
theorem dX12_ends_184 : decode cX12_ends 184 = .ok (.lload 4, 2) := by decide +kernel
theorem dX12_ends_186 : decode cX12_ends 186 = .ok (.lload 8, 2) := by decide +kernel
theorem dX12_ends_188 : decode cX12_ends 188 = .ok (.invokevirtual 92, 3) := by decide +kernel
theorem dX12_ends_191 : decode cX12_ends 191 = .ok (.lstore 10, 2) := by decide +kernel
theorem dX12_ends_193 : decode cX12_ends 193 = .ok (.aload_n 0, 1) := by decide +kernel
theorem dX12_ends_194 : decode cX12_ends 194 = .ok (.aload_n 0, 1) := by decide +kernel
theorem dX12_ends_195 : decode cX12_ends 195 = .ok (.getfield 9, 3) := by decide +kernel
theorem dX12_ends_198 : decode cX12_ends 198 = .ok (.iload_n 1, 1) := by decide +kernel
theorem dX12_ends_199 : decode cX12_ends 199 = .ok (.iaload, 1) := by decide +kernel
theorem dX12_ends_200 : decode cX12_ends 200 = .ok (.iconst 2, 1) := by decide +kernel
theorem dX12_ends_201 : decode cX12_ends 201 = .ok (.if_icmp .ne 15, 3) := by decide +kernel
theorem dX12_ends_204 : decode cX12_ends 204 = .ok (.ldc2_w 81, 3) := by decide +kernel
theorem dX12_ends_207 : decode cX12_ends 207 = .ok (.lload 8, 2) := by decide +kernel
theorem dX12_ends_209 : decode cX12_ends 209 = .ok (.lmul, 1) := by decide +kernel
theorem dX12_ends_210 : decode cX12_ends 210 = .ok (.lload 10, 2) := by decide +kernel
theorem dX12_ends_212 : decode cX12_ends 212 = .ok (.lsub, 1) := by decide +kernel
theorem dX12_ends_213 : decode cX12_ends 213 = .ok (.goto 5, 3) := by decide +kernel
theorem dX12_ends_216 : decode cX12_ends 216 = .ok (.lload 8, 2) := by decide +kernel
theorem dX12_ends_218 : decode cX12_ends 218 = .ok (.lload 6, 2) := by decide +kernel
theorem dX12_ends_220 : decode cX12_ends 220 = .ok (.ladd, 1) := by decide +kernel
theorem dX12_ends_221 : decode cX12_ends 221 = .ok (.invokevirtual 96, 3) := by decide +kernel
theorem dX12_ends_224 : decode cX12_ends 224 = .ok (.aload_n 0, 1) := by decide +kernel
theorem dX12_ends_225 : decode cX12_ends 225 = .ok (.lload 10, 2) := by decide +kernel
theorem dX12_ends_227 : decode cX12_ends 227 = .ok (.lconst 1, 1) := by decide +kernel
theorem dX12_ends_228 : decode cX12_ends 228 = .ok (.ladd, 1) := by decide +kernel
theorem dX12_ends_229 : decode cX12_ends 229 = .ok (.lload 6, 2) := by decide +kernel
theorem dX12_ends_231 : decode cX12_ends 231 = .ok (.ladd, 1) := by decide +kernel
theorem dX12_ends_232 : decode cX12_ends 232 = .ok (.invokevirtual 96, 3) := by decide +kernel
theorem dX12_ends_235 : decode cX12_ends 235 = .ok (.goto 3, 3) := by decide +kernel
theorem dX12_ends_238 : decode cX12_ends 238 = .ok (.return_, 1) := by decide +kernel
theorem dX12_sort_0 : decode cX12_sort 0 = .ok (.iconst 1, 1) := by decide +kernel
theorem dX12_sort_1 : decode cX12_sort 1 = .ok (.istore_n 1, 1) := by decide +kernel
theorem dX12_sort_2 : decode cX12_sort 2 = .ok (.iload_n 1, 1) := by decide +kernel
theorem dX12_sort_3 : decode cX12_sort 3 = .ok (.aload_n 0, 1) := by decide +kernel
theorem dX12_sort_4 : decode cX12_sort 4 = .ok (.getfield 83, 3) := by decide +kernel
theorem dX12_sort_7 : decode cX12_sort 7 = .ok (.if_icmp .ge 68, 3) := by decide +kernel
theorem dX12_sort_10 : decode cX12_sort 10 = .ok (.aload_n 0, 1) := by decide +kernel
theorem dX12_sort_11 : decode cX12_sort 11 = .ok (.getfield 26, 3) := by decide +kernel
theorem dX12_sort_14 : decode cX12_sort 14 = .ok (.iload_n 1, 1) := by decide +kernel
theorem dX12_sort_15 : decode cX12_sort 15 = .ok (.laload, 1) := by decide +kernel
theorem dX12_sort_16 : decode cX12_sort 16 = .ok (.lstore_n 2, 1) := by decide +kernel
theorem dX12_sort_17 : decode cX12_sort 17 = .ok (.iload_n 1, 1) := by decide +kernel
theorem dX12_sort_18 : decode cX12_sort 18 = .ok (.istore 4, 2) := by decide +kernel
theorem dX12_sort_20 : decode cX12_sort 20 = .ok (.iload 4, 2) := by decide +kernel
theorem dX12_sort_22 : decode cX12_sort 22 = .ok (.ifCond .le 39, 3) := by decide +kernel
theorem dX12_sort_25 : decode cX12_sort 25 = .ok (.aload_n 0, 1) := by decide +kernel
theorem dX12_sort_26 : decode cX12_sort 26 = .ok (.getfield 26, 3) := by decide +kernel
theorem dX12_sort_29 : decode cX12_sort 29 = .ok (.iload 4, 2) := by decide +kernel
theorem dX12_sort_31 : decode cX12_sort 31 = .ok (.iconst 1, 1) := by decide +kernel
theorem dX12_sort_32 : decode cX12_sort 32 = .ok (.isub, 1) := by decide +kernel
theorem dX12_sort_33 : decode cX12_sort 33 = .ok (.laload, 1) := by decide +kernel
theorem dX12_sort_34 : decode cX12_sort 34 = .ok (.lload_n 2, 1) := by decide +kernel
theorem dX12_sort_35 : decode cX12_sort 35 = .ok (.lcmp, 1) := by decide +kernel
theorem dX12_sort_36 : decode cX12_sort 36 = .ok (.ifCond .le 25, 3) := by decide +kernel
theorem dX12_sort_39 : decode cX12_sort 39 = .ok (.aload_n 0, 1) := by decide +kernel
theorem dX12_sort_40 : decode cX12_sort 40 = .ok (.getfield 26, 3) := by decide +kernel
theorem dX12_sort_43 : decode cX12_sort 43 = .ok (.iload 4, 2) := by decide +kernel
theorem dX12_sort_45 : decode cX12_sort 45 = .ok (.aload_n 0, 1) := by decide +kernel
theorem dX12_sort_46 : decode cX12_sort 46 = .ok (.getfield 26, 3) := by decide +kernel
theorem dX12_sort_49 : decode cX12_sort 49 = .ok (.iload 4, 2) := by decide +kernel
theorem dX12_sort_51 : decode cX12_sort 51 = .ok (.iconst 1, 1) := by decide +kernel
theorem dX12_sort_52 : decode cX12_sort 52 = .ok (.isub, 1) := by decide +kernel
theorem dX12_sort_53 : decode cX12_sort 53 = .ok (.laload, 1) := by decide +kernel
theorem dX12_sort_54 : decode cX12_sort 54 = .ok (.lastore, 1) := by decide +kernel
theorem dX12_sort_55 : decode cX12_sort 55 = .ok (.iinc 4 (-1), 3) := by decide +kernel
theorem dX12_sort_58 : decode cX12_sort 58 = .ok (.goto (-38), 3) := by decide +kernel
theorem dX12_sort_61 : decode cX12_sort 61 = .ok (.aload_n 0, 1) := by decide +kernel
theorem dX12_sort_62 : decode cX12_sort 62 = .ok (.getfield 26, 3) := by decide +kernel
theorem dX12_sort_65 : decode cX12_sort 65 = .ok (.iload 4, 2) := by decide +kernel
theorem dX12_sort_67 : decode cX12_sort 67 = .ok (.lload_n 2, 1) := by decide +kernel
theorem dX12_sort_68 : decode cX12_sort 68 = .ok (.lastore, 1) := by decide +kernel
theorem dX12_sort_69 : decode cX12_sort 69 = .ok (.iinc 1 1, 3) := by decide +kernel
theorem dX12_sort_72 : decode cX12_sort 72 = .ok (.goto (-70), 3) := by decide +kernel
theorem dX12_sort_75 : decode cX12_sort 75 = .ok (.return_, 1) := by decide +kernel
theorem dX12_spans_0 : decode cX12_spans 0 = .ok (.aload_n 0, 1) := by decide +kernel
theorem dX12_spans_1 : decode cX12_spans 1 = .ok (.iload_n 1, 1) := by decide +kernel
theorem dX12_spans_2 : decode cX12_spans 2 = .ok (.invokevirtual 46, 3) := by decide +kernel
theorem dX12_spans_5 : decode cX12_spans 5 = .ok (.ifCond .ne 5, 3) := by decide +kernel
theorem dX12_spans_8 : decode cX12_spans 8 = .ok (.iconst (-1), 1) := by decide +kernel
theorem dX12_spans_9 : decode cX12_spans 9 = .ok (.ireturn, 1) := by decide +kernel
theorem dX12_spans_10 : decode cX12_spans 10 = .ok (.aload_n 0, 1) := by decide +kernel
theorem dX12_spans_11 : decode cX12_spans 11 = .ok (.iconst 0, 1) := by decide +kernel
theorem dX12_spans_12 : decode cX12_spans 12 = .ok (.putfield 100, 3) := by decide +kernel
theorem dX12_spans_15 : decode cX12_spans 15 = .ok (.iload_n 2, 1) := by decide +kernel
theorem dX12_spans_16 : decode cX12_spans 16 = .ok (.invokestatic 66, 3) := by decide +kernel
theorem dX12_spans_19 : decode cX12_spans 19 = .ok (.ifCond .eq 10, 3) := by decide +kernel
theorem dX12_spans_22 : decode cX12_spans 22 = .ok (.iload_n 3, 1) := by decide +kernel
theorem dX12_spans_23 : decode cX12_spans 23 = .ok (.invokestatic 66, 3) := by decide +kernel
theorem dX12_spans_26 : decode cX12_spans 26 = .ok (.ifCond .ne 5, 3) := by decide +kernel
theorem dX12_spans_29 : decode cX12_spans 29 = .ok (.iconst 0, 1) := by decide +kernel
theorem dX12_spans_30 : decode cX12_spans 30 = .ok (.ireturn, 1) := by decide +kernel
theorem dX12_spans_31 : decode cX12_spans 31 = .ok (.aload_n 0, 1) := by decide +kernel
theorem dX12_spans_32 : decode cX12_spans 32 = .ok (.iconst 0, 1) := by decide +kernel
theorem dX12_spans_33 : decode cX12_spans 33 = .ok (.putfield 83, 3) := by decide +kernel
theorem dX12_spans_36 : decode cX12_spans 36 = .ok (.aload_n 0, 1) := by decide +kernel
theorem dX12_spans_37 : decode cX12_spans 37 = .ok (.iload_n 1, 1) := by decide +kernel
theorem dX12_spans_38 : decode cX12_spans 38 = .ok (.iload_n 2, 1) := by decide +kernel
theorem dX12_spans_39 : decode cX12_spans 39 = .ok (.i2l, 1) := by decide +kernel
theorem dX12_spans_40 : decode cX12_spans 40 = .ok (.iload_n 3, 1) := by decide +kernel
theorem dX12_spans_41 : decode cX12_spans 41 = .ok (.i2l, 1) := by decide +kernel
theorem dX12_spans_42 : decode cX12_spans 42 = .ok (.lconst 0, 1) := by decide +kernel
theorem dX12_spans_43 : decode cX12_spans 43 = .ok (.invokevirtual 88, 3) := by decide +kernel
theorem dX12_spans_46 : decode cX12_spans 46 = .ok (.aload_n 0, 1) := by decide +kernel
theorem dX12_spans_47 : decode cX12_spans 47 = .ok (.invokevirtual 103, 3) := by decide +kernel
theorem dX12_spans_50 : decode cX12_spans 50 = .ok (.iconst 0, 1) := by decide +kernel
theorem dX12_spans_51 : decode cX12_spans 51 = .ok (.istore 4, 2) := by decide +kernel
theorem dX12_spans_53 : decode cX12_spans 53 = .ok (.iconst 0, 1) := by decide +kernel
theorem dX12_spans_54 : decode cX12_spans 54 = .ok (.istore 5, 2) := by decide +kernel
theorem dX12_spans_56 : decode cX12_spans 56 = .ok (.iload 5, 2) := by decide +kernel
theorem dX12_spans_58 : decode cX12_spans 58 = .ok (.aload_n 0, 1) := by decide +kernel
theorem dX12_spans_59 : decode cX12_spans 59 = .ok (.getfield 83, 3) := by decide +kernel
theorem dX12_spans_62 : decode cX12_spans 62 = .ok (.if_icmp .ge 95, 3) := by decide +kernel
theorem dX12_spans_65 : decode cX12_spans 65 = .ok (.aload_n 0, 1) := by decide +kernel
theorem dX12_spans_66 : decode cX12_spans 66 = .ok (.iload_n 1, 1) := by decide +kernel
theorem dX12_spans_67 : decode cX12_spans 67 = .ok (.iload_n 2, 1) := by decide +kernel
theorem dX12_spans_68 : decode cX12_spans 68 = .ok (.i2l, 1) := by decide +kernel
theorem dX12_spans_69 : decode cX12_spans 69 = .ok (.iload_n 3, 1) := by decide +kernel
theorem dX12_spans_70 : decode cX12_spans 70 = .ok (.i2l, 1) := by decide +kernel
theorem dX12_spans_71 : decode cX12_spans 71 = .ok (.aload_n 0, 1) := by decide +kernel
theorem dX12_spans_72 : decode cX12_spans 72 = .ok (.getfield 26, 3) := by decide +kernel
theorem dX12_spans_75 : decode cX12_spans 75 = .ok (.iload 5, 2) := by decide +kernel
theorem dX12_spans_77 : decode cX12_spans 77 = .ok (.laload, 1) := by decide +kernel
theorem dX12_spans_78 : decode cX12_spans 78 = .ok (.invokevirtual 57, 3) := by decide +kernel
theorem dX12_spans_81 : decode cX12_spans 81 = .ok (.istore 6, 2) := by decide +kernel
theorem dX12_spans_83 : decode cX12_spans 83 = .ok (.iload 6, 2) := by decide +kernel
theorem dX12_spans_85 : decode cX12_spans 85 = .ok (.ifCond .eq 24, 3) := by decide +kernel
theorem dX12_spans_88 : decode cX12_spans 88 = .ok (.iload 4, 2) := by decide +kernel
theorem dX12_spans_90 : decode cX12_spans 90 = .ok (.ifCond .ne 19, 3) := by decide +kernel
theorem dX12_spans_93 : decode cX12_spans 93 = .ok (.aload_n 0, 1) := by decide +kernel
theorem dX12_spans_94 : decode cX12_spans 94 = .ok (.getfield 29, 3) := by decide +kernel
theorem dX12_spans_97 : decode cX12_spans 97 = .ok (.aload_n 0, 1) := by decide +kernel
theorem dX12_spans_98 : decode cX12_spans 98 = .ok (.getfield 100, 3) := by decide +kernel
theorem dX12_spans_101 : decode cX12_spans 101 = .ok (.aload_n 0, 1) := by decide +kernel
theorem dX12_spans_102 : decode cX12_spans 102 = .ok (.getfield 26, 3) := by decide +kernel
theorem dX12_spans_105 : decode cX12_spans 105 = .ok (.iload 5, 2) := by decide +kernel
theorem dX12_spans_107 : decode cX12_spans 107 = .ok (.laload, 1) := by decide +kernel
theorem dX12_spans_108 : decode cX12_spans 108 = .ok (.lastore, 1) := by decide +kernel
theorem dX12_spans_109 : decode cX12_spans 109 = .ok (.iload 4, 2) := by decide +kernel
theorem dX12_spans_111 : decode cX12_spans 111 = .ok (.ifCond .eq 36, 3) := by decide +kernel
theorem dX12_spans_114 : decode cX12_spans 114 = .ok (.iload 6, 2) := by decide +kernel
theorem dX12_spans_116 : decode cX12_spans 116 = .ok (.ifCond .ne 31, 3) := by decide +kernel
theorem dX12_spans_119 : decode cX12_spans 119 = .ok (.aload_n 0, 1) := by decide +kernel
theorem dX12_spans_120 : decode cX12_spans 120 = .ok (.getfield 32, 3) := by decide +kernel
theorem dX12_spans_123 : decode cX12_spans 123 = .ok (.aload_n 0, 1) := by decide +kernel
theorem dX12_spans_124 : decode cX12_spans 124 = .ok (.getfield 100, 3) := by decide +kernel
theorem dX12_spans_127 : decode cX12_spans 127 = .ok (.aload_n 0, 1) := by decide +kernel
theorem dX12_spans_128 : decode cX12_spans 128 = .ok (.getfield 26, 3) := by decide +kernel
theorem dX12_spans_131 : decode cX12_spans 131 = .ok (.iload 5, 2) := by decide +kernel
theorem dX12_spans_133 : decode cX12_spans 133 = .ok (.laload, 1) := by decide +kernel
theorem dX12_spans_134 : decode cX12_spans 134 = .ok (.lconst 1, 1) := by decide +kernel
theorem dX12_spans_135 : decode cX12_spans 135 = .ok (.lsub, 1) := by decide +kernel
theorem dX12_spans_136 : decode cX12_spans 136 = .ok (.lastore, 1) := by decide +kernel
theorem dX12_spans_137 : decode cX12_spans 137 = .ok (.aload_n 0, 1) := by decide +kernel
theorem dX12_spans_138 : decode cX12_spans 138 = .ok (.dup, 1) := by decide +kernel
theorem dX12_spans_139 : decode cX12_spans 139 = .ok (.getfield 100, 3) := by decide +kernel
theorem dX12_spans_142 : decode cX12_spans 142 = .ok (.iconst 1, 1) := by decide +kernel
theorem dX12_spans_143 : decode cX12_spans 143 = .ok (.iadd, 1) := by decide +kernel
theorem dX12_spans_144 : decode cX12_spans 144 = .ok (.putfield 100, 3) := by decide +kernel
theorem dX12_spans_147 : decode cX12_spans 147 = .ok (.iload 6, 2) := by decide +kernel
theorem dX12_spans_149 : decode cX12_spans 149 = .ok (.istore 4, 2) := by decide +kernel
theorem dX12_spans_151 : decode cX12_spans 151 = .ok (.iinc 5 1, 3) := by decide +kernel
theorem dX12_spans_154 : decode cX12_spans 154 = .ok (.goto (-98), 3) := by decide +kernel
theorem dX12_spans_157 : decode cX12_spans 157 = .ok (.aload_n 0, 1) := by decide +kernel
theorem dX12_spans_158 : decode cX12_spans 158 = .ok (.getfield 100, 3) := by decide +kernel
theorem dX12_spans_161 : decode cX12_spans 161 = .ok (.ireturn, 1) := by decide +kernel
theorem dX12_span_0 : decode cX12_span 0 = .ok (.iload_n 1, 1) := by decide +kernel
theorem dX12_span_1 : decode cX12_span 1 = .ok (.ifCond .lt 20, 3) := by decide +kernel
theorem dX12_span_4 : decode cX12_span 4 = .ok (.iload_n 1, 1) := by decide +kernel
theorem dX12_span_5 : decode cX12_span 5 = .ok (.aload_n 0, 1) := by decide +kernel
theorem dX12_span_6 : decode cX12_span 6 = .ok (.getfield 100, 3) := by decide +kernel
theorem dX12_span_9 : decode cX12_span 9 = .ok (.if_icmp .ge 12, 3) := by decide +kernel
theorem dX12_span_12 : decode cX12_span 12 = .ok (.iload_n 2, 1) := by decide +kernel
theorem dX12_span_13 : decode cX12_span 13 = .ok (.ifCond .lt 8, 3) := by decide +kernel
theorem dX12_span_16 : decode cX12_span 16 = .ok (.iload_n 2, 1) := by decide +kernel
theorem dX12_span_17 : decode cX12_span 17 = .ok (.iconst 1, 1) := by decide +kernel
theorem dX12_span_18 : decode cX12_span 18 = .ok (.if_icmp .le 5, 3) := by decide +kernel
theorem dX12_span_21 : decode cX12_span 21 = .ok (.iconst 0, 1) := by decide +kernel
theorem dX12_span_22 : decode cX12_span 22 = .ok (.ireturn, 1) := by decide +kernel
theorem dX12_span_23 : decode cX12_span 23 = .ok (.iload_n 2, 1) := by decide +kernel
theorem dX12_span_24 : decode cX12_span 24 = .ok (.ifCond .ne 12, 3) := by decide +kernel
theorem dX12_span_27 : decode cX12_span 27 = .ok (.aload_n 0, 1) := by decide +kernel
theorem dX12_span_28 : decode cX12_span 28 = .ok (.getfield 29, 3) := by decide +kernel
theorem dX12_span_31 : decode cX12_span 31 = .ok (.iload_n 1, 1) := by decide +kernel
theorem dX12_span_32 : decode cX12_span 32 = .ok (.laload, 1) := by decide +kernel
theorem dX12_span_33 : decode cX12_span 33 = .ok (.goto 9, 3) := by decide +kernel
theorem dX12_span_36 : decode cX12_span 36 = .ok (.aload_n 0, 1) := by decide +kernel
theorem dX12_span_37 : decode cX12_span 37 = .ok (.getfield 32, 3) := by decide +kernel
theorem dX12_span_40 : decode cX12_span 40 = .ok (.iload_n 1, 1) := by decide +kernel
theorem dX12_span_41 : decode cX12_span 41 = .ok (.laload, 1) := by decide +kernel
theorem dX12_span_42 : decode cX12_span 42 = .ok (.l2i, 1) := by decide +kernel
theorem dX12_span_43 : decode cX12_span 43 = .ok (.ireturn, 1) := by decide +kernel
theorem dX12_within_0 : decode cX12_within 0 = .ok (.lconst 0, 1) := by decide +kernel
theorem dX12_within_1 : decode cX12_within 1 = .ok (.lstore_n 3, 1) := by decide +kernel
theorem dX12_within_2 : decode cX12_within 2 = .ok (.iconst 0, 1) := by decide +kernel
theorem dX12_within_3 : decode cX12_within 3 = .ok (.istore 5, 2) := by decide +kernel
theorem dX12_within_5 : decode cX12_within 5 = .ok (.iload 5, 2) := by decide +kernel
theorem dX12_within_7 : decode cX12_within 7 = .ok (.aload_n 0, 1) := by decide +kernel
theorem dX12_within_8 : decode cX12_within 8 = .ok (.getfield 100, 3) := by decide +kernel
theorem dX12_within_11 : decode cX12_within 11 = .ok (.if_icmp .ge 55, 3) := by decide +kernel
theorem dX12_within_14 : decode cX12_within 14 = .ok (.aload_n 0, 1) := by decide +kernel
theorem dX12_within_15 : decode cX12_within 15 = .ok (.getfield 29, 3) := by decide +kernel
theorem dX12_within_18 : decode cX12_within 18 = .ok (.iload 5, 2) := by decide +kernel
theorem dX12_within_20 : decode cX12_within 20 = .ok (.laload, 1) := by decide +kernel
theorem dX12_within_21 : decode cX12_within 21 = .ok (.iload_n 1, 1) := by decide +kernel
theorem dX12_within_22 : decode cX12_within 22 = .ok (.i2l, 1) := by decide +kernel
theorem dX12_within_23 : decode cX12_within 23 = .ok (.invokestatic 106, 3) := by decide +kernel
theorem dX12_within_26 : decode cX12_within 26 = .ok (.lstore 6, 2) := by decide +kernel
theorem dX12_within_28 : decode cX12_within 28 = .ok (.aload_n 0, 1) := by decide +kernel
theorem dX12_within_29 : decode cX12_within 29 = .ok (.getfield 32, 3) := by decide +kernel
theorem dX12_within_32 : decode cX12_within 32 = .ok (.iload 5, 2) := by decide +kernel
theorem dX12_within_34 : decode cX12_within 34 = .ok (.laload, 1) := by decide +kernel
theorem dX12_within_35 : decode cX12_within 35 = .ok (.iload_n 2, 1) := by decide +kernel
theorem dX12_within_36 : decode cX12_within 36 = .ok (.i2l, 1) := by decide +kernel
theorem dX12_within_37 : decode cX12_within 37 = .ok (.invokestatic 112, 3) := by decide +kernel
theorem dX12_within_40 : decode cX12_within 40 = .ok (.lstore 8, 2) := by decide +kernel
theorem dX12_within_42 : decode cX12_within 42 = .ok (.lload 8, 2) := by decide +kernel
theorem dX12_within_44 : decode cX12_within 44 = .ok (.lload 6, 2) := by decide +kernel
theorem dX12_within_46 : decode cX12_within 46 = .ok (.lcmp, 1) := by decide +kernel
theorem dX12_within_47 : decode cX12_within 47 = .ok (.ifCond .lt 13, 3) := by decide +kernel
theorem dX12_within_50 : decode cX12_within 50 = .ok (.lload_n 3, 1) := by decide +kernel
theorem dX12_within_51 : decode cX12_within 51 = .ok (.lload 8, 2) := by decide +kernel
theorem dX12_within_53 : decode cX12_within 53 = .ok (.lload 6, 2) := by decide +kernel
theorem dX12_within_55 : decode cX12_within 55 = .ok (.lsub, 1) := by decide +kernel
theorem dX12_within_56 : decode cX12_within 56 = .ok (.lconst 1, 1) := by decide +kernel
theorem dX12_within_57 : decode cX12_within 57 = .ok (.ladd, 1) := by decide +kernel
theorem dX12_within_58 : decode cX12_within 58 = .ok (.ladd, 1) := by decide +kernel
theorem dX12_within_59 : decode cX12_within 59 = .ok (.lstore_n 3, 1) := by decide +kernel
theorem dX12_within_60 : decode cX12_within 60 = .ok (.iinc 5 1, 3) := by decide +kernel
theorem dX12_within_63 : decode cX12_within 63 = .ok (.goto (-58), 3) := by decide +kernel
theorem dX12_within_66 : decode cX12_within 66 = .ok (.lload_n 3, 1) := by decide +kernel
theorem dX12_within_67 : decode cX12_within 67 = .ok (.lreturn, 1) := by decide +kernel
theorem dJ9_max_7cf53_0 : decode cJ9_max_7cf53 0 = .ok (.iload_n 0, 1) := by decide +kernel
theorem dJ9_max_7cf53_1 : decode cJ9_max_7cf53 1 = .ok (.iload_n 1, 1) := by decide +kernel
theorem dJ9_max_7cf53_2 : decode cJ9_max_7cf53 2 = .ok (.if_icmp .lt 7, 3) := by decide +kernel
theorem dJ9_max_7cf53_5 : decode cJ9_max_7cf53 5 = .ok (.iload_n 0, 1) := by decide +kernel
theorem dJ9_max_7cf53_6 : decode cJ9_max_7cf53 6 = .ok (.goto 4, 3) := by decide +kernel
theorem dJ9_max_7cf53_9 : decode cJ9_max_7cf53 9 = .ok (.iload_n 1, 1) := by decide +kernel
theorem dJ9_max_7cf53_10 : decode cJ9_max_7cf53 10 = .ok (.ireturn, 1) := by decide +kernel
theorem dJ9_max_f86c9_0 : decode cJ9_max_f86c9 0 = .ok (.lload_n 0, 1) := by decide +kernel
theorem dJ9_max_f86c9_1 : decode cJ9_max_f86c9 1 = .ok (.lload_n 2, 1) := by decide +kernel
theorem dJ9_max_f86c9_2 : decode cJ9_max_f86c9 2 = .ok (.lcmp, 1) := by decide +kernel
theorem dJ9_max_f86c9_3 : decode cJ9_max_f86c9 3 = .ok (.ifCond .lt 7, 3) := by decide +kernel
theorem dJ9_max_f86c9_6 : decode cJ9_max_f86c9 6 = .ok (.lload_n 0, 1) := by decide +kernel
theorem dJ9_max_f86c9_7 : decode cJ9_max_f86c9 7 = .ok (.goto 4, 3) := by decide +kernel
theorem dJ9_max_f86c9_10 : decode cJ9_max_f86c9 10 = .ok (.lload_n 2, 1) := by decide +kernel
theorem dJ9_max_f86c9_11 : decode cJ9_max_f86c9 11 = .ok (.lreturn, 1) := by decide +kernel
theorem dJ9_min_7cf53_0 : decode cJ9_min_7cf53 0 = .ok (.iload_n 0, 1) := by decide +kernel
theorem dJ9_min_7cf53_1 : decode cJ9_min_7cf53 1 = .ok (.iload_n 1, 1) := by decide +kernel
theorem dJ9_min_7cf53_2 : decode cJ9_min_7cf53 2 = .ok (.if_icmp .gt 7, 3) := by decide +kernel
theorem dJ9_min_7cf53_5 : decode cJ9_min_7cf53 5 = .ok (.iload_n 0, 1) := by decide +kernel
theorem dJ9_min_7cf53_6 : decode cJ9_min_7cf53 6 = .ok (.goto 4, 3) := by decide +kernel
theorem dJ9_min_7cf53_9 : decode cJ9_min_7cf53 9 = .ok (.iload_n 1, 1) := by decide +kernel
theorem dJ9_min_7cf53_10 : decode cJ9_min_7cf53 10 = .ok (.ireturn, 1) := by decide +kernel
theorem dJ9_min_f86c9_0 : decode cJ9_min_f86c9 0 = .ok (.lload_n 0, 1) := by decide +kernel
theorem dJ9_min_f86c9_1 : decode cJ9_min_f86c9 1 = .ok (.lload_n 2, 1) := by decide +kernel
theorem dJ9_min_f86c9_2 : decode cJ9_min_f86c9 2 = .ok (.lcmp, 1) := by decide +kernel
theorem dJ9_min_f86c9_3 : decode cJ9_min_f86c9 3 = .ok (.ifCond .gt 7, 3) := by decide +kernel
theorem dJ9_min_f86c9_6 : decode cJ9_min_f86c9 6 = .ok (.lload_n 0, 1) := by decide +kernel
theorem dJ9_min_f86c9_7 : decode cJ9_min_f86c9 7 = .ok (.goto 4, 3) := by decide +kernel
theorem dJ9_min_f86c9_10 : decode cJ9_min_f86c9 10 = .ok (.lload_n 2, 1) := by decide +kernel
theorem dJ9_min_f86c9_11 : decode cJ9_min_f86c9 11 = .ok (.lreturn, 1) := by decide +kernel
theorem dL_law_0 : decode cL_law 0 = .ok (.new 7, 3) := by decide +kernel
theorem dL_law_3 : decode cL_law 3 = .ok (.dup, 1) := by decide +kernel
theorem dL_law_4 : decode cL_law 4 = .ok (.invokespecial 9, 3) := by decide +kernel
theorem dL_law_7 : decode cL_law 7 = .ok (.astore_n 1, 1) := by decide +kernel
theorem dL_law_8 : decode cL_law 8 = .ok (.new 10, 3) := by decide +kernel
theorem dL_law_11 : decode cL_law 11 = .ok (.dup, 1) := by decide +kernel
theorem dL_law_12 : decode cL_law 12 = .ok (.invokespecial 12, 3) := by decide +kernel
theorem dL_law_15 : decode cL_law 15 = .ok (.astore_n 2, 1) := by decide +kernel
theorem dL_law_16 : decode cL_law 16 = .ok (.iconst 0, 1) := by decide +kernel
theorem dL_law_17 : decode cL_law 17 = .ok (.istore_n 3, 1) := by decide +kernel
theorem dL_law_18 : decode cL_law 18 = .ok (.iload_n 3, 1) := by decide +kernel
theorem dL_law_19 : decode cL_law 19 = .ok (.aload_n 0, 1) := by decide +kernel
theorem dL_law_20 : decode cL_law 20 = .ok (.arraylength, 1) := by decide +kernel
theorem dL_law_21 : decode cL_law 21 = .ok (.iconst 5, 1) := by decide +kernel
theorem dL_law_22 : decode cL_law 22 = .ok (.isub, 1) := by decide +kernel
theorem dL_law_23 : decode cL_law 23 = .ok (.if_icmp .gt 439, 3) := by decide +kernel
theorem dL_law_26 : decode cL_law 26 = .ok (.aload_n 0, 1) := by decide +kernel
theorem dL_law_27 : decode cL_law 27 = .ok (.iload_n 3, 1) := by decide +kernel
theorem dL_law_28 : decode cL_law 28 = .ok (.iaload, 1) := by decide +kernel
theorem dL_law_29 : decode cL_law 29 = .ok (.bipush 15, 2) := by decide +kernel
theorem dL_law_31 : decode cL_law 31 = .ok (.iand, 1) := by decide +kernel
theorem dL_law_32 : decode cL_law 32 = .ok (.tableswitch 424 0 10 #[60, 83, 106, 149, 172, 195, 218, 271, 314, 357, 390], 60) := by decide +kernel
theorem dL_law_92 : decode cL_law 92 = .ok (.aload_n 1, 1) := by decide +kernel
theorem dL_law_93 : decode cL_law 93 = .ok (.aload_n 0, 1) := by decide +kernel
theorem dL_law_94 : decode cL_law 94 = .ok (.iload_n 3, 1) := by decide +kernel
theorem dL_law_95 : decode cL_law 95 = .ok (.iconst 1, 1) := by decide +kernel
theorem dL_law_96 : decode cL_law 96 = .ok (.iadd, 1) := by decide +kernel
theorem dL_law_97 : decode cL_law 97 = .ok (.iaload, 1) := by decide +kernel
theorem dL_law_98 : decode cL_law 98 = .ok (.invokevirtual 13, 3) := by decide +kernel
theorem dL_law_101 : decode cL_law 101 = .ok (.aload_n 2, 1) := by decide +kernel
theorem dL_law_102 : decode cL_law 102 = .ok (.aload_n 0, 1) := by decide +kernel
theorem dL_law_103 : decode cL_law 103 = .ok (.iload_n 3, 1) := by decide +kernel
theorem dL_law_104 : decode cL_law 104 = .ok (.iconst 1, 1) := by decide +kernel
theorem dL_law_105 : decode cL_law 105 = .ok (.iadd, 1) := by decide +kernel
theorem dL_law_106 : decode cL_law 106 = .ok (.iaload, 1) := by decide +kernel
theorem dL_law_107 : decode cL_law 107 = .ok (.invokevirtual 17, 3) := by decide +kernel
theorem dL_law_110 : decode cL_law 110 = .ok (.if_icmp .eq 346, 3) := by decide +kernel
theorem dL_law_113 : decode cL_law 113 = .ok (.iconst 0, 1) := by decide +kernel
theorem dL_law_114 : decode cL_law 114 = .ok (.ireturn, 1) := by decide +kernel
theorem dL_law_115 : decode cL_law 115 = .ok (.aload_n 1, 1) := by decide +kernel
theorem dL_law_116 : decode cL_law 116 = .ok (.aload_n 0, 1) := by decide +kernel
theorem dL_law_117 : decode cL_law 117 = .ok (.iload_n 3, 1) := by decide +kernel
theorem dL_law_118 : decode cL_law 118 = .ok (.iconst 1, 1) := by decide +kernel
theorem dL_law_119 : decode cL_law 119 = .ok (.iadd, 1) := by decide +kernel
theorem dL_law_120 : decode cL_law 120 = .ok (.iaload, 1) := by decide +kernel
theorem dL_law_121 : decode cL_law 121 = .ok (.invokevirtual 18, 3) := by decide +kernel
theorem dL_law_124 : decode cL_law 124 = .ok (.aload_n 2, 1) := by decide +kernel
theorem dL_law_125 : decode cL_law 125 = .ok (.aload_n 0, 1) := by decide +kernel
theorem dL_law_126 : decode cL_law 126 = .ok (.iload_n 3, 1) := by decide +kernel
theorem dL_law_127 : decode cL_law 127 = .ok (.iconst 1, 1) := by decide +kernel
theorem dL_law_128 : decode cL_law 128 = .ok (.iadd, 1) := by decide +kernel
theorem dL_law_129 : decode cL_law 129 = .ok (.iaload, 1) := by decide +kernel
theorem dL_law_130 : decode cL_law 130 = .ok (.invokevirtual 21, 3) := by decide +kernel
theorem dL_law_133 : decode cL_law 133 = .ok (.if_icmp .eq 323, 3) := by decide +kernel
theorem dL_law_136 : decode cL_law 136 = .ok (.iconst 0, 1) := by decide +kernel
theorem dL_law_137 : decode cL_law 137 = .ok (.ireturn, 1) := by decide +kernel
theorem dL_law_138 : decode cL_law 138 = .ok (.aload_n 1, 1) := by decide +kernel
theorem dL_law_139 : decode cL_law 139 = .ok (.aload_n 0, 1) := by decide +kernel
theorem dL_law_140 : decode cL_law 140 = .ok (.iload_n 3, 1) := by decide +kernel
theorem dL_law_141 : decode cL_law 141 = .ok (.iconst 1, 1) := by decide +kernel
theorem dL_law_142 : decode cL_law 142 = .ok (.iadd, 1) := by decide +kernel
theorem dL_law_143 : decode cL_law 143 = .ok (.iaload, 1) := by decide +kernel
theorem dL_law_144 : decode cL_law 144 = .ok (.aload_n 0, 1) := by decide +kernel
theorem dL_law_145 : decode cL_law 145 = .ok (.iload_n 3, 1) := by decide +kernel
theorem dL_law_146 : decode cL_law 146 = .ok (.iconst 2, 1) := by decide +kernel
theorem dL_law_147 : decode cL_law 147 = .ok (.iadd, 1) := by decide +kernel
theorem dL_law_148 : decode cL_law 148 = .ok (.iaload, 1) := by decide +kernel
theorem dL_law_149 : decode cL_law 149 = .ok (.aload_n 0, 1) := by decide +kernel
theorem dL_law_150 : decode cL_law 150 = .ok (.iload_n 3, 1) := by decide +kernel
theorem dL_law_151 : decode cL_law 151 = .ok (.iconst 3, 1) := by decide +kernel
theorem dL_law_152 : decode cL_law 152 = .ok (.iadd, 1) := by decide +kernel
theorem dL_law_153 : decode cL_law 153 = .ok (.iaload, 1) := by decide +kernel
theorem dL_law_154 : decode cL_law 154 = .ok (.invokevirtual 22, 3) := by decide +kernel
theorem dL_law_157 : decode cL_law 157 = .ok (.aload_n 2, 1) := by decide +kernel
theorem dL_law_158 : decode cL_law 158 = .ok (.aload_n 0, 1) := by decide +kernel
theorem dL_law_159 : decode cL_law 159 = .ok (.iload_n 3, 1) := by decide +kernel
theorem dL_law_160 : decode cL_law 160 = .ok (.iconst 1, 1) := by decide +kernel
theorem dL_law_161 : decode cL_law 161 = .ok (.iadd, 1) := by decide +kernel
theorem dL_law_162 : decode cL_law 162 = .ok (.iaload, 1) := by decide +kernel
theorem dL_law_163 : decode cL_law 163 = .ok (.aload_n 0, 1) := by decide +kernel
theorem dL_law_164 : decode cL_law 164 = .ok (.iload_n 3, 1) := by decide +kernel
theorem dL_law_165 : decode cL_law 165 = .ok (.iconst 2, 1) := by decide +kernel
theorem dL_law_166 : decode cL_law 166 = .ok (.iadd, 1) := by decide +kernel
theorem dL_law_167 : decode cL_law 167 = .ok (.iaload, 1) := by decide +kernel
theorem dL_law_168 : decode cL_law 168 = .ok (.aload_n 0, 1) := by decide +kernel
theorem dL_law_169 : decode cL_law 169 = .ok (.iload_n 3, 1) := by decide +kernel
theorem dL_law_170 : decode cL_law 170 = .ok (.iconst 3, 1) := by decide +kernel
theorem dL_law_171 : decode cL_law 171 = .ok (.iadd, 1) := by decide +kernel
theorem dL_law_172 : decode cL_law 172 = .ok (.iaload, 1) := by decide +kernel
theorem dL_law_173 : decode cL_law 173 = .ok (.invokevirtual 26, 3) := by decide +kernel
theorem dL_law_176 : decode cL_law 176 = .ok (.if_icmp .eq 280, 3) := by decide +kernel
theorem dL_law_179 : decode cL_law 179 = .ok (.iconst 0, 1) := by decide +kernel
theorem dL_law_180 : decode cL_law 180 = .ok (.ireturn, 1) := by decide +kernel
theorem dL_law_181 : decode cL_law 181 = .ok (.aload_n 1, 1) := by decide +kernel
theorem dL_law_182 : decode cL_law 182 = .ok (.aload_n 0, 1) := by decide +kernel
theorem dL_law_183 : decode cL_law 183 = .ok (.iload_n 3, 1) := by decide +kernel
theorem dL_law_184 : decode cL_law 184 = .ok (.iconst 1, 1) := by decide +kernel
theorem dL_law_185 : decode cL_law 185 = .ok (.iadd, 1) := by decide +kernel
theorem dL_law_186 : decode cL_law 186 = .ok (.iaload, 1) := by decide +kernel
theorem dL_law_187 : decode cL_law 187 = .ok (.invokevirtual 27, 3) := by decide +kernel
theorem dL_law_190 : decode cL_law 190 = .ok (.aload_n 2, 1) := by decide +kernel
theorem dL_law_191 : decode cL_law 191 = .ok (.aload_n 0, 1) := by decide +kernel
theorem dL_law_192 : decode cL_law 192 = .ok (.iload_n 3, 1) := by decide +kernel
theorem dL_law_193 : decode cL_law 193 = .ok (.iconst 1, 1) := by decide +kernel
theorem dL_law_194 : decode cL_law 194 = .ok (.iadd, 1) := by decide +kernel
theorem dL_law_195 : decode cL_law 195 = .ok (.iaload, 1) := by decide +kernel
theorem dL_law_196 : decode cL_law 196 = .ok (.invokevirtual 30, 3) := by decide +kernel
theorem dL_law_199 : decode cL_law 199 = .ok (.if_icmp .eq 257, 3) := by decide +kernel
theorem dL_law_202 : decode cL_law 202 = .ok (.iconst 0, 1) := by decide +kernel
theorem dL_law_203 : decode cL_law 203 = .ok (.ireturn, 1) := by decide +kernel
theorem dL_law_204 : decode cL_law 204 = .ok (.aload_n 1, 1) := by decide +kernel
theorem dL_law_205 : decode cL_law 205 = .ok (.aload_n 0, 1) := by decide +kernel
theorem dL_law_206 : decode cL_law 206 = .ok (.iload_n 3, 1) := by decide +kernel
theorem dL_law_207 : decode cL_law 207 = .ok (.iconst 1, 1) := by decide +kernel
theorem dL_law_208 : decode cL_law 208 = .ok (.iadd, 1) := by decide +kernel
theorem dL_law_209 : decode cL_law 209 = .ok (.iaload, 1) := by decide +kernel
theorem dL_law_210 : decode cL_law 210 = .ok (.invokevirtual 31, 3) := by decide +kernel
theorem dL_law_213 : decode cL_law 213 = .ok (.aload_n 2, 1) := by decide +kernel
theorem dL_law_214 : decode cL_law 214 = .ok (.aload_n 0, 1) := by decide +kernel
theorem dL_law_215 : decode cL_law 215 = .ok (.iload_n 3, 1) := by decide +kernel
theorem dL_law_216 : decode cL_law 216 = .ok (.iconst 1, 1) := by decide +kernel
theorem dL_law_217 : decode cL_law 217 = .ok (.iadd, 1) := by decide +kernel
theorem dL_law_218 : decode cL_law 218 = .ok (.iaload, 1) := by decide +kernel
theorem dL_law_219 : decode cL_law 219 = .ok (.invokevirtual 34, 3) := by decide +kernel
theorem dL_law_222 : decode cL_law 222 = .ok (.if_icmp .eq 234, 3) := by decide +kernel
theorem dL_law_225 : decode cL_law 225 = .ok (.iconst 0, 1) := by decide +kernel
theorem dL_law_226 : decode cL_law 226 = .ok (.ireturn, 1) := by decide +kernel
theorem dL_law_227 : decode cL_law 227 = .ok (.aload_n 1, 1) := by decide +kernel
theorem dL_law_228 : decode cL_law 228 = .ok (.aload_n 0, 1) := by decide +kernel
theorem dL_law_229 : decode cL_law 229 = .ok (.iload_n 3, 1) := by decide +kernel
theorem dL_law_230 : decode cL_law 230 = .ok (.iconst 1, 1) := by decide +kernel
theorem dL_law_231 : decode cL_law 231 = .ok (.iadd, 1) := by decide +kernel
theorem dL_law_232 : decode cL_law 232 = .ok (.iaload, 1) := by decide +kernel
theorem dL_law_233 : decode cL_law 233 = .ok (.invokevirtual 35, 3) := by decide +kernel
theorem dL_law_236 : decode cL_law 236 = .ok (.aload_n 2, 1) := by decide +kernel
theorem dL_law_237 : decode cL_law 237 = .ok (.aload_n 0, 1) := by decide +kernel
theorem dL_law_238 : decode cL_law 238 = .ok (.iload_n 3, 1) := by decide +kernel
theorem dL_law_239 : decode cL_law 239 = .ok (.iconst 1, 1) := by decide +kernel
theorem dL_law_240 : decode cL_law 240 = .ok (.iadd, 1) := by decide +kernel
theorem dL_law_241 : decode cL_law 241 = .ok (.iaload, 1) := by decide +kernel
theorem dL_law_242 : decode cL_law 242 = .ok (.invokevirtual 38, 3) := by decide +kernel
theorem dL_law_245 : decode cL_law 245 = .ok (.if_icmp .eq 211, 3) := by decide +kernel
theorem dL_law_248 : decode cL_law 248 = .ok (.iconst 0, 1) := by decide +kernel
theorem dL_law_249 : decode cL_law 249 = .ok (.ireturn, 1) := by decide +kernel
theorem dL_law_250 : decode cL_law 250 = .ok (.aload_n 1, 1) := by decide +kernel
theorem dL_law_251 : decode cL_law 251 = .ok (.aload_n 0, 1) := by decide +kernel
theorem dL_law_252 : decode cL_law 252 = .ok (.iload_n 3, 1) := by decide +kernel
theorem dL_law_253 : decode cL_law 253 = .ok (.iconst 1, 1) := by decide +kernel
theorem dL_law_254 : decode cL_law 254 = .ok (.iadd, 1) := by decide +kernel
theorem dL_law_255 : decode cL_law 255 = .ok (.iaload, 1) := by decide +kernel
theorem dL_law_256 : decode cL_law 256 = .ok (.aload_n 0, 1) := by decide +kernel
theorem dL_law_257 : decode cL_law 257 = .ok (.iload_n 3, 1) := by decide +kernel
theorem dL_law_258 : decode cL_law 258 = .ok (.iconst 2, 1) := by decide +kernel
theorem dL_law_259 : decode cL_law 259 = .ok (.iadd, 1) := by decide +kernel
theorem dL_law_260 : decode cL_law 260 = .ok (.iaload, 1) := by decide +kernel
theorem dL_law_261 : decode cL_law 261 = .ok (.aload_n 0, 1) := by decide +kernel
theorem dL_law_262 : decode cL_law 262 = .ok (.iload_n 3, 1) := by decide +kernel
theorem dL_law_263 : decode cL_law 263 = .ok (.iconst 3, 1) := by decide +kernel
theorem dL_law_264 : decode cL_law 264 = .ok (.iadd, 1) := by decide +kernel
theorem dL_law_265 : decode cL_law 265 = .ok (.iaload, 1) := by decide +kernel
theorem dL_law_266 : decode cL_law 266 = .ok (.aload_n 0, 1) := by decide +kernel
theorem dL_law_267 : decode cL_law 267 = .ok (.iload_n 3, 1) := by decide +kernel
theorem dL_law_268 : decode cL_law 268 = .ok (.iconst 4, 1) := by decide +kernel
theorem dL_law_269 : decode cL_law 269 = .ok (.iadd, 1) := by decide +kernel
theorem dL_law_270 : decode cL_law 270 = .ok (.iaload, 1) := by decide +kernel
theorem dL_law_271 : decode cL_law 271 = .ok (.invokevirtual 39, 3) := by decide +kernel
theorem dL_law_274 : decode cL_law 274 = .ok (.aload_n 2, 1) := by decide +kernel
theorem dL_law_275 : decode cL_law 275 = .ok (.aload_n 0, 1) := by decide +kernel
theorem dL_law_276 : decode cL_law 276 = .ok (.iload_n 3, 1) := by decide +kernel
theorem dL_law_277 : decode cL_law 277 = .ok (.iconst 1, 1) := by decide +kernel
theorem dL_law_278 : decode cL_law 278 = .ok (.iadd, 1) := by decide +kernel
theorem dL_law_279 : decode cL_law 279 = .ok (.iaload, 1) := by decide +kernel
theorem dL_law_280 : decode cL_law 280 = .ok (.aload_n 0, 1) := by decide +kernel
theorem dL_law_281 : decode cL_law 281 = .ok (.iload_n 3, 1) := by decide +kernel
theorem dL_law_282 : decode cL_law 282 = .ok (.iconst 2, 1) := by decide +kernel
theorem dL_law_283 : decode cL_law 283 = .ok (.iadd, 1) := by decide +kernel
theorem dL_law_284 : decode cL_law 284 = .ok (.iaload, 1) := by decide +kernel
theorem dL_law_285 : decode cL_law 285 = .ok (.aload_n 0, 1) := by decide +kernel
theorem dL_law_286 : decode cL_law 286 = .ok (.iload_n 3, 1) := by decide +kernel
theorem dL_law_287 : decode cL_law 287 = .ok (.iconst 3, 1) := by decide +kernel
theorem dL_law_288 : decode cL_law 288 = .ok (.iadd, 1) := by decide +kernel
theorem dL_law_289 : decode cL_law 289 = .ok (.iaload, 1) := by decide +kernel
theorem dL_law_290 : decode cL_law 290 = .ok (.aload_n 0, 1) := by decide +kernel
theorem dL_law_291 : decode cL_law 291 = .ok (.iload_n 3, 1) := by decide +kernel
theorem dL_law_292 : decode cL_law 292 = .ok (.iconst 4, 1) := by decide +kernel
theorem dL_law_293 : decode cL_law 293 = .ok (.iadd, 1) := by decide +kernel
theorem dL_law_294 : decode cL_law 294 = .ok (.iaload, 1) := by decide +kernel
theorem dL_law_295 : decode cL_law 295 = .ok (.invokevirtual 43, 3) := by decide +kernel
theorem dL_law_298 : decode cL_law 298 = .ok (.if_icmp .eq 158, 3) := by decide +kernel
theorem dL_law_301 : decode cL_law 301 = .ok (.iconst 0, 1) := by decide +kernel
theorem dL_law_302 : decode cL_law 302 = .ok (.ireturn, 1) := by decide +kernel
theorem dL_law_303 : decode cL_law 303 = .ok (.aload_n 1, 1) := by decide +kernel
theorem dL_law_304 : decode cL_law 304 = .ok (.aload_n 0, 1) := by decide +kernel
theorem dL_law_305 : decode cL_law 305 = .ok (.iload_n 3, 1) := by decide +kernel
theorem dL_law_306 : decode cL_law 306 = .ok (.iconst 1, 1) := by decide +kernel
theorem dL_law_307 : decode cL_law 307 = .ok (.iadd, 1) := by decide +kernel
theorem dL_law_308 : decode cL_law 308 = .ok (.iaload, 1) := by decide +kernel
theorem dL_law_309 : decode cL_law 309 = .ok (.aload_n 0, 1) := by decide +kernel
theorem dL_law_310 : decode cL_law 310 = .ok (.iload_n 3, 1) := by decide +kernel
theorem dL_law_311 : decode cL_law 311 = .ok (.iconst 2, 1) := by decide +kernel
theorem dL_law_312 : decode cL_law 312 = .ok (.iadd, 1) := by decide +kernel
theorem dL_law_313 : decode cL_law 313 = .ok (.iaload, 1) := by decide +kernel
theorem dL_law_314 : decode cL_law 314 = .ok (.aload_n 0, 1) := by decide +kernel
theorem dL_law_315 : decode cL_law 315 = .ok (.iload_n 3, 1) := by decide +kernel
theorem dL_law_316 : decode cL_law 316 = .ok (.iconst 3, 1) := by decide +kernel
theorem dL_law_317 : decode cL_law 317 = .ok (.iadd, 1) := by decide +kernel
theorem dL_law_318 : decode cL_law 318 = .ok (.iaload, 1) := by decide +kernel
theorem dL_law_319 : decode cL_law 319 = .ok (.invokevirtual 44, 3) := by decide +kernel
theorem dL_law_322 : decode cL_law 322 = .ok (.aload_n 2, 1) := by decide +kernel
theorem dL_law_323 : decode cL_law 323 = .ok (.aload_n 0, 1) := by decide +kernel
theorem dL_law_324 : decode cL_law 324 = .ok (.iload_n 3, 1) := by decide +kernel
theorem dL_law_325 : decode cL_law 325 = .ok (.iconst 1, 1) := by decide +kernel
theorem dL_law_326 : decode cL_law 326 = .ok (.iadd, 1) := by decide +kernel
theorem dL_law_327 : decode cL_law 327 = .ok (.iaload, 1) := by decide +kernel
theorem dL_law_328 : decode cL_law 328 = .ok (.aload_n 0, 1) := by decide +kernel
theorem dL_law_329 : decode cL_law 329 = .ok (.iload_n 3, 1) := by decide +kernel
theorem dL_law_330 : decode cL_law 330 = .ok (.iconst 2, 1) := by decide +kernel
theorem dL_law_331 : decode cL_law 331 = .ok (.iadd, 1) := by decide +kernel
theorem dL_law_332 : decode cL_law 332 = .ok (.iaload, 1) := by decide +kernel
theorem dL_law_333 : decode cL_law 333 = .ok (.aload_n 0, 1) := by decide +kernel
theorem dL_law_334 : decode cL_law 334 = .ok (.iload_n 3, 1) := by decide +kernel
theorem dL_law_335 : decode cL_law 335 = .ok (.iconst 3, 1) := by decide +kernel
theorem dL_law_336 : decode cL_law 336 = .ok (.iadd, 1) := by decide +kernel
theorem dL_law_337 : decode cL_law 337 = .ok (.iaload, 1) := by decide +kernel
theorem dL_law_338 : decode cL_law 338 = .ok (.invokevirtual 47, 3) := by decide +kernel
theorem dL_law_341 : decode cL_law 341 = .ok (.if_icmp .eq 115, 3) := by decide +kernel
theorem dL_law_344 : decode cL_law 344 = .ok (.iconst 0, 1) := by decide +kernel
theorem dL_law_345 : decode cL_law 345 = .ok (.ireturn, 1) := by decide +kernel
theorem dL_law_346 : decode cL_law 346 = .ok (.aload_n 1, 1) := by decide +kernel
theorem dL_law_347 : decode cL_law 347 = .ok (.aload_n 0, 1) := by decide +kernel
theorem dL_law_348 : decode cL_law 348 = .ok (.iload_n 3, 1) := by decide +kernel
theorem dL_law_349 : decode cL_law 349 = .ok (.iconst 1, 1) := by decide +kernel
theorem dL_law_350 : decode cL_law 350 = .ok (.iadd, 1) := by decide +kernel
theorem dL_law_351 : decode cL_law 351 = .ok (.iaload, 1) := by decide +kernel
theorem dL_law_352 : decode cL_law 352 = .ok (.aload_n 0, 1) := by decide +kernel
theorem dL_law_353 : decode cL_law 353 = .ok (.iload_n 3, 1) := by decide +kernel
theorem dL_law_354 : decode cL_law 354 = .ok (.iconst 2, 1) := by decide +kernel
theorem dL_law_355 : decode cL_law 355 = .ok (.iadd, 1) := by decide +kernel
theorem dL_law_356 : decode cL_law 356 = .ok (.iaload, 1) := by decide +kernel
theorem dL_law_357 : decode cL_law 357 = .ok (.aload_n 0, 1) := by decide +kernel
theorem dL_law_358 : decode cL_law 358 = .ok (.iload_n 3, 1) := by decide +kernel
theorem dL_law_359 : decode cL_law 359 = .ok (.iconst 3, 1) := by decide +kernel
theorem dL_law_360 : decode cL_law 360 = .ok (.iadd, 1) := by decide +kernel
theorem dL_law_361 : decode cL_law 361 = .ok (.iaload, 1) := by decide +kernel
theorem dL_law_362 : decode cL_law 362 = .ok (.invokevirtual 48, 3) := by decide +kernel
theorem dL_law_365 : decode cL_law 365 = .ok (.aload_n 2, 1) := by decide +kernel
theorem dL_law_366 : decode cL_law 366 = .ok (.aload_n 0, 1) := by decide +kernel
theorem dL_law_367 : decode cL_law 367 = .ok (.iload_n 3, 1) := by decide +kernel
theorem dL_law_368 : decode cL_law 368 = .ok (.iconst 1, 1) := by decide +kernel
theorem dL_law_369 : decode cL_law 369 = .ok (.iadd, 1) := by decide +kernel
theorem dL_law_370 : decode cL_law 370 = .ok (.iaload, 1) := by decide +kernel
theorem dL_law_371 : decode cL_law 371 = .ok (.aload_n 0, 1) := by decide +kernel
theorem dL_law_372 : decode cL_law 372 = .ok (.iload_n 3, 1) := by decide +kernel
theorem dL_law_373 : decode cL_law 373 = .ok (.iconst 2, 1) := by decide +kernel
theorem dL_law_374 : decode cL_law 374 = .ok (.iadd, 1) := by decide +kernel
theorem dL_law_375 : decode cL_law 375 = .ok (.iaload, 1) := by decide +kernel
theorem dL_law_376 : decode cL_law 376 = .ok (.aload_n 0, 1) := by decide +kernel
theorem dL_law_377 : decode cL_law 377 = .ok (.iload_n 3, 1) := by decide +kernel
theorem dL_law_378 : decode cL_law 378 = .ok (.iconst 3, 1) := by decide +kernel
theorem dL_law_379 : decode cL_law 379 = .ok (.iadd, 1) := by decide +kernel
theorem dL_law_380 : decode cL_law 380 = .ok (.iaload, 1) := by decide +kernel
theorem dL_law_381 : decode cL_law 381 = .ok (.invokevirtual 51, 3) := by decide +kernel
theorem dL_law_384 : decode cL_law 384 = .ok (.if_icmp .eq 72, 3) := by decide +kernel
theorem dL_law_387 : decode cL_law 387 = .ok (.iconst 0, 1) := by decide +kernel
theorem dL_law_388 : decode cL_law 388 = .ok (.ireturn, 1) := by decide +kernel
theorem dL_law_389 : decode cL_law 389 = .ok (.aload_n 1, 1) := by decide +kernel
theorem dL_law_390 : decode cL_law 390 = .ok (.aload_n 0, 1) := by decide +kernel
theorem dL_law_391 : decode cL_law 391 = .ok (.iload_n 3, 1) := by decide +kernel
theorem dL_law_392 : decode cL_law 392 = .ok (.iconst 1, 1) := by decide +kernel
theorem dL_law_393 : decode cL_law 393 = .ok (.iadd, 1) := by decide +kernel
theorem dL_law_394 : decode cL_law 394 = .ok (.iaload, 1) := by decide +kernel
theorem dL_law_395 : decode cL_law 395 = .ok (.aload_n 0, 1) := by decide +kernel
theorem dL_law_396 : decode cL_law 396 = .ok (.iload_n 3, 1) := by decide +kernel
theorem dL_law_397 : decode cL_law 397 = .ok (.iconst 2, 1) := by decide +kernel
theorem dL_law_398 : decode cL_law 398 = .ok (.iadd, 1) := by decide +kernel
theorem dL_law_399 : decode cL_law 399 = .ok (.iaload, 1) := by decide +kernel
theorem dL_law_400 : decode cL_law 400 = .ok (.invokevirtual 52, 3) := by decide +kernel
theorem dL_law_403 : decode cL_law 403 = .ok (.aload_n 2, 1) := by decide +kernel
theorem dL_law_404 : decode cL_law 404 = .ok (.aload_n 0, 1) := by decide +kernel
theorem dL_law_405 : decode cL_law 405 = .ok (.iload_n 3, 1) := by decide +kernel
theorem dL_law_406 : decode cL_law 406 = .ok (.iconst 1, 1) := by decide +kernel
theorem dL_law_407 : decode cL_law 407 = .ok (.iadd, 1) := by decide +kernel
theorem dL_law_408 : decode cL_law 408 = .ok (.iaload, 1) := by decide +kernel
theorem dL_law_409 : decode cL_law 409 = .ok (.aload_n 0, 1) := by decide +kernel
theorem dL_law_410 : decode cL_law 410 = .ok (.iload_n 3, 1) := by decide +kernel
theorem dL_law_411 : decode cL_law 411 = .ok (.iconst 2, 1) := by decide +kernel
theorem dL_law_412 : decode cL_law 412 = .ok (.iadd, 1) := by decide +kernel
theorem dL_law_413 : decode cL_law 413 = .ok (.iaload, 1) := by decide +kernel
theorem dL_law_414 : decode cL_law 414 = .ok (.invokevirtual 56, 3) := by decide +kernel
theorem dL_law_417 : decode cL_law 417 = .ok (.if_icmp .eq 39, 3) := by decide +kernel
theorem dL_law_420 : decode cL_law 420 = .ok (.iconst 0, 1) := by decide +kernel
theorem dL_law_421 : decode cL_law 421 = .ok (.ireturn, 1) := by decide +kernel
theorem dL_law_422 : decode cL_law 422 = .ok (.aload_n 1, 1) := by decide +kernel
theorem dL_law_423 : decode cL_law 423 = .ok (.aload_n 0, 1) := by decide +kernel
theorem dL_law_424 : decode cL_law 424 = .ok (.iload_n 3, 1) := by decide +kernel
theorem dL_law_425 : decode cL_law 425 = .ok (.iconst 1, 1) := by decide +kernel
theorem dL_law_426 : decode cL_law 426 = .ok (.iadd, 1) := by decide +kernel
theorem dL_law_427 : decode cL_law 427 = .ok (.iaload, 1) := by decide +kernel
theorem dL_law_428 : decode cL_law 428 = .ok (.aload_n 0, 1) := by decide +kernel
theorem dL_law_429 : decode cL_law 429 = .ok (.iload_n 3, 1) := by decide +kernel
theorem dL_law_430 : decode cL_law 430 = .ok (.iconst 2, 1) := by decide +kernel
theorem dL_law_431 : decode cL_law 431 = .ok (.iadd, 1) := by decide +kernel
theorem dL_law_432 : decode cL_law 432 = .ok (.iaload, 1) := by decide +kernel
theorem dL_law_433 : decode cL_law 433 = .ok (.invokevirtual 57, 3) := by decide +kernel
theorem dL_law_436 : decode cL_law 436 = .ok (.aload_n 2, 1) := by decide +kernel
theorem dL_law_437 : decode cL_law 437 = .ok (.aload_n 0, 1) := by decide +kernel
theorem dL_law_438 : decode cL_law 438 = .ok (.iload_n 3, 1) := by decide +kernel
theorem dL_law_439 : decode cL_law 439 = .ok (.iconst 1, 1) := by decide +kernel
theorem dL_law_440 : decode cL_law 440 = .ok (.iadd, 1) := by decide +kernel
theorem dL_law_441 : decode cL_law 441 = .ok (.iaload, 1) := by decide +kernel
theorem dL_law_442 : decode cL_law 442 = .ok (.aload_n 0, 1) := by decide +kernel
theorem dL_law_443 : decode cL_law 443 = .ok (.iload_n 3, 1) := by decide +kernel
theorem dL_law_444 : decode cL_law 444 = .ok (.iconst 2, 1) := by decide +kernel
theorem dL_law_445 : decode cL_law 445 = .ok (.iadd, 1) := by decide +kernel
theorem dL_law_446 : decode cL_law 446 = .ok (.iaload, 1) := by decide +kernel
theorem dL_law_447 : decode cL_law 447 = .ok (.invokevirtual 61, 3) := by decide +kernel
theorem dL_law_450 : decode cL_law 450 = .ok (.lcmp, 1) := by decide +kernel
theorem dL_law_451 : decode cL_law 451 = .ok (.ifCond .eq 5, 3) := by decide +kernel
theorem dL_law_454 : decode cL_law 454 = .ok (.iconst 0, 1) := by decide +kernel
theorem dL_law_455 : decode cL_law 455 = .ok (.ireturn, 1) := by decide +kernel
theorem dL_law_456 : decode cL_law 456 = .ok (.iinc 3 5, 3) := by decide +kernel
theorem dL_law_459 : decode cL_law 459 = .ok (.goto (-441), 3) := by decide +kernel
theorem dL_law_462 : decode cL_law 462 = .ok (.iconst 1, 1) := by decide +kernel
theorem dL_law_463 : decode cL_law 463 = .ok (.ireturn, 1) := by decide +kernel
end
section
/-! the heap as a function: what is known of our own cells -/
abbrev ch_H : Type := Nat → Option va_E
def ch_set (h : ch_H) (a : Nat) (e : va_E) : ch_H := fun b => if b = a then some e else h b
theorem ch_set_self {h : ch_H} {a : Nat} {e : va_E} : ch_set h a e a = some e := if_pos rfl
theorem ch_set_ne {h : ch_H} {a b : Nat} {e : va_E} (q : b ≠ a) : ch_set h a e b = h b := if_neg q
theorem ch_set_set {h : ch_H} {a : Nat} {e e' : va_E} : ch_set (ch_set h a e) a e' = ch_set h a e' := by
  funext b
  by_cases q : b = a
  · subst q; rw [ch_set_self, ch_set_self]
  · rw [ch_set_ne q, ch_set_ne q, ch_set_ne q]
theorem ch_set_same {h : ch_H} {a : Nat} {e : va_E} (q : h a = some e) : ch_set h a e = h := by
  funext b
  by_cases q2 : b = a
  · subst q2; rw [ch_set_self, q]
  · rw [ch_set_ne q2]
theorem ch_set_comm {h : ch_H} {a b : Nat} {e e' : va_E} (q : a ≠ b) : ch_set (ch_set h a e) b e' = ch_set (ch_set h b e') a e := by
  funext d
  by_cases q1 : d = a
  · subst q1; rw [ch_set_ne q, ch_set_self, ch_set_self]
  · by_cases q2 : d = b
    · subst q2; rw [ch_set_self, ch_set_ne q1, ch_set_self]
    · rw [ch_set_ne q2, ch_set_ne q1, ch_set_ne q1, ch_set_ne q2]
/-- class numbers and slots, array vwCl, where our cells begin -/
abbrev ch_E : Type := va_G × List (ClassId × FieldType) × Nat
def ch_M (E : ch_E) (h : ch_H) (hi : Nat) (H : Heap) : Prop := H.size = hi ∧ E.2.2 ≤ hi ∧ ∀ a e, h a = some e → E.2.2 ≤ a ∧ va_at E.1 vwCl (a, e) H
theorem ch_M.put {E : ch_E} {h : ch_H} {hi a : Nat} {e0 e : va_E} {H H1 : Heap} (hM : ch_M E h hi H) (h0 : h a = some e0) (he : va_at E.1 vwCl (a, e) H1) (z : H1.size = H.size) (oq : ∀ q : Nat, q ≠ a → H1[q]? = H[q]?) : ch_M E (ch_set h a e) hi H1 := by
  refine ⟨z.trans hM.1, hM.2.1, fun b eb hb => ?_⟩
  by_cases hba : b = a
  · subst hba
    rw [ch_set_self] at hb
    cases hb
    exact ⟨(hM.2.2 _ _ h0).1, he⟩
  · rw [ch_set_ne hba] at hb
    exact ⟨(hM.2.2 _ _ hb).1, (hM.2.2 _ _ hb).2.kept (oq b hba)⟩
theorem ch_M.new {E : ch_E} {h : ch_H} {hi : Nat} {e : va_E} {H H1 : Heap} (hM : ch_M E h hi H) (he : va_at E.1 vwCl (hi, e) H1) (z : H1.size = hi + 1) (oq : ∀ q : Nat, q < hi → H1[q]? = H[q]?) : ch_M E (ch_set h hi e) (hi + 1) H1 := by
  refine ⟨z, Nat.le_succ_of_le hM.2.1, fun b eb hb => ?_⟩
  by_cases hba : b = hi
  · subst hba
    rw [ch_set_self] at hb
    cases hb
    exact ⟨hM.2.1, he⟩
  · rw [ch_set_ne hba] at hb
    have h2 := (hM.2.2 _ _ hb).2
    exact ⟨(hM.2.2 _ _ hb).1, h2.kept (oq b (by have h3 := h2.lt; rw [hM.1] at h3; exact h3))⟩
theorem ch_M.lt {E : ch_E} {h : ch_H} {hi a : Nat} {e : va_E} {H : Heap} (hM : ch_M E h hi H) (h0 : h a = some e) : a < hi := by
  have h3 := (hM.2.2 _ _ h0).2.lt
  rw [hM.1] at h3
  exact h3
def ch_X (E : ch_E) (M : ch_D) (Xt : State → Array Value → Prop) (p : Program) (s : State) (m : MethodId) (args : Array Value) (meth : Method) (c : Code) : Prop :=
  p.tables.exec = Jvm.exec ∧ c.code = M.2.1 ∧ c.maxLocals = M.2.2.1 ∧ s.vm.findClass M.1.cls = some m.cls ∧ (∀ w ∈ ch_tb, w.before args s = true) ∧ meth.sig.returnType = M.2.2.2 ∧ meth.locks = false ∧ meth.name = M.1.name ∧ va_K E.1 vwCl E.2.1 s ∧ E.2.2 ≤ s.heap.size ∧ ch_N s ∧ Xt s args
/-- from here the machine comes to Z -/
def ch_G (l : Launch) (E : ch_E) (M : ch_D) (Xt : State → Array Value → Prop) (R : Room) (Z : List Frame → Array Value → State → State → Prop) (k n : Nat) (h : ch_H) (hi pc : Nat) (lv : List (Nat × Value)) (st : List Value) : Prop :=
  ∀ (p : Program) (e : Env) (s : State) (m : MethodId) (args : Array Value) (below : List Frame) (meth : Method) (c : Code) (H : Heap) (locs : List Loc) (ls : Array Slot), ch_X E M Xt p s m args meth c → ch_M E h hi H → va_S (fun q : Nat => E.2.2 ≤ q) s.heap H locs → lv_has ls M.2.2.1 lv → W p l e R s m args below meth c H locs k n (Z below args s) (F0 m pc ls st)
def ch_Qc (E : ch_E) (Q : Option Value → ch_H → Nat → Prop) : Array Value → State → Outcome → State → Prop := fun _ st oc t => (∃ (r : Option Value) (h' : ch_H) (hi' : Nat), oc = .returned r ∧ Q r h' hi' ∧ ch_M E h' hi' t.heap) ∧ va_F (fun q : Nat => E.2.2 ≤ q) st t
/-- a method's end -/
def ch_Z (E : ch_E) (mc ms : Nat) (Q : Option Value → ch_H → Nat → Prop) : List Frame → Array Value → State → State → Prop := fun below args s => MQ below (ch_Qc E Q) args s mc ms (fun q : Nat => E.2.2 ≤ q)
def ch_ws (M : ch_D) : List Cond := Cond.code M.1 M.2.1 M.2.2.1 M.2.2.2 :: ch_tb
/-- a method's contract -/
def ch_C (l : Launch) (E : ch_E) (M : ch_D) (rm : Room) (As : List Value) (h : ch_H) (hi : Nat) (Q : Option Value → ch_H → Nat → Prop) : Prop :=
  Met l M.1 (ch_ws M) rm (va_Pc As (fun U => ch_M E h hi U.heap ∧ va_K E.1 vwCl E.2.1 U ∧ ch_N U)) (ch_Qc E Q) rm.cells rm.slots (fun q : Nat => E.2.2 ≤ q)
def ch_T : State → Array Value → Prop := fun _ _ => True

section CORE
variable {l : Launch} {E : ch_E} {M : ch_D} {Xt : State → Array Value → Prop} {R : Room} {Z : List Frame → Array Value → State → State → Prop} {k n : Nat} {h : ch_H} {hi pc : Nat} {lv : List (Nat × Value)} {st : List Value}
theorem ch_Glv {lv' : List (Nat × Value)} (ks : List Nat) (e : lv_pick lv ks = lv') (kk : ch_G l E M Xt R Z k n h hi pc lv' st) : ch_G l E M Xt R Z k n h hi pc lv st := by
  intro p e1 s m args below meth c H locs ls X hM hS hl
  exact kk p e1 s m args below meth c H locs ls X hM hS (lv_sub hl ks e)
theorem ch_Gst {st2 : List Value} (e : st = st2) (kk : ch_G l E M Xt R Z k n h hi pc lv st2) : ch_G l E M Xt R Z k n h hi pc lv st := e ▸ kk
theorem ch_Ghp {h2 : ch_H} (e : h = h2) (kk : ch_G l E M Xt R Z k n h2 hi pc lv st) : ch_G l E M Xt R Z k n h hi pc lv st := e ▸ kk
theorem ch_Gwd {k2 n2 : Nat} (h1 : k ≤ k2) (h2 : n ≤ n2) (kk : ch_G l E M Xt R Z k2 n2 h hi pc lv st) : ch_G l E M Xt R Z k n h hi pc lv st := by
  intro p e s m args below meth c H locs ls X hM hS hl
  exact W.widen h1 h2 (kk p e s m args below meth c H locs ls X hM hS hl)
theorem gx_iadd {x y : Int32} (hd : decode M.2.1 pc = .ok (.iadd, 1)) (kk : ∀ v : Int32, v = x + y → ch_G l E M Xt R Z k n h hi (pc + 1) lv (.int v :: st)) : ch_G l E M Xt R Z k n h hi pc lv (.int y :: .int x :: st) := by
  intro p e s m args below meth c H locs ls X hM hS hl
  exact lv_iadd X.1 X.2.1 hd (kk _ rfl p e s m args below meth c H locs ls X hM hS hl)
theorem gx_isub {x y : Int32} (hd : decode M.2.1 pc = .ok (.isub, 1)) (kk : ∀ v : Int32, v = x - y → ch_G l E M Xt R Z k n h hi (pc + 1) lv (.int v :: st)) : ch_G l E M Xt R Z k n h hi pc lv (.int y :: .int x :: st) := by
  intro p e s m args below meth c H locs ls X hM hS hl
  exact lv_isub X.1 X.2.1 hd (kk _ rfl p e s m args below meth c H locs ls X hM hS hl)
theorem gx_imul {x y : Int32} (hd : decode M.2.1 pc = .ok (.imul, 1)) (kk : ∀ v : Int32, v = x * y → ch_G l E M Xt R Z k n h hi (pc + 1) lv (.int v :: st)) : ch_G l E M Xt R Z k n h hi pc lv (.int y :: .int x :: st) := by
  intro p e s m args below meth c H locs ls X hM hS hl
  exact lv_imul X.1 X.2.1 hd (kk _ rfl p e s m args below meth c H locs ls X hM hS hl)
theorem gx_iand {x y : Int32} (hd : decode M.2.1 pc = .ok (.iand, 1)) (kk : ∀ v : Int32, v = x &&& y → ch_G l E M Xt R Z k n h hi (pc + 1) lv (.int v :: st)) : ch_G l E M Xt R Z k n h hi pc lv (.int y :: .int x :: st) := by
  intro p e s m args below meth c H locs ls X hM hS hl
  exact lv_iand X.1 X.2.1 hd (kk _ rfl p e s m args below meth c H locs ls X hM hS hl)
theorem gx_ior {x y : Int32} (hd : decode M.2.1 pc = .ok (.ior, 1)) (kk : ∀ v : Int32, v = x ||| y → ch_G l E M Xt R Z k n h hi (pc + 1) lv (.int v :: st)) : ch_G l E M Xt R Z k n h hi pc lv (.int y :: .int x :: st) := by
  intro p e s m args below meth c H locs ls X hM hS hl
  exact lv_ior X.1 X.2.1 hd (kk _ rfl p e s m args below meth c H locs ls X hM hS hl)
theorem gx_ixor {x y : Int32} (hd : decode M.2.1 pc = .ok (.ixor, 1)) (kk : ∀ v : Int32, v = x ^^^ y → ch_G l E M Xt R Z k n h hi (pc + 1) lv (.int v :: st)) : ch_G l E M Xt R Z k n h hi pc lv (.int y :: .int x :: st) := by
  intro p e s m args below meth c H locs ls X hM hS hl
  exact lv_ixor X.1 X.2.1 hd (kk _ rfl p e s m args below meth c H locs ls X hM hS hl)
theorem gx_land {x y : Int64} (hd : decode M.2.1 pc = .ok (.land, 1)) (kk : ∀ v : Int64, v = x &&& y → ch_G l E M Xt R Z k n h hi (pc + 1) lv (.long v :: st)) : ch_G l E M Xt R Z k n h hi pc lv (.long y :: .long x :: st) := by
  intro p e s m args below meth c H locs ls X hM hS hl
  exact lv_land X.1 X.2.1 hd (kk _ rfl p e s m args below meth c H locs ls X hM hS hl)
theorem gx_lor {x y : Int64} (hd : decode M.2.1 pc = .ok (.lor, 1)) (kk : ∀ v : Int64, v = x ||| y → ch_G l E M Xt R Z k n h hi (pc + 1) lv (.long v :: st)) : ch_G l E M Xt R Z k n h hi pc lv (.long y :: .long x :: st) := by
  intro p e s m args below meth c H locs ls X hM hS hl
  exact lv_lor X.1 X.2.1 hd (kk _ rfl p e s m args below meth c H locs ls X hM hS hl)
theorem gx_lxor {x y : Int64} (hd : decode M.2.1 pc = .ok (.lxor, 1)) (kk : ∀ v : Int64, v = x ^^^ y → ch_G l E M Xt R Z k n h hi (pc + 1) lv (.long v :: st)) : ch_G l E M Xt R Z k n h hi pc lv (.long y :: .long x :: st) := by
  intro p e s m args below meth c H locs ls X hM hS hl
  exact lv_lxor X.1 X.2.1 hd (kk _ rfl p e s m args below meth c H locs ls X hM hS hl)
theorem gx_ladd {x y : Int64} (hd : decode M.2.1 pc = .ok (.ladd, 1)) (kk : ∀ v : Int64, v = x + y → ch_G l E M Xt R Z k n h hi (pc + 1) lv (.long v :: st)) : ch_G l E M Xt R Z k n h hi pc lv (.long y :: .long x :: st) := by
  intro p e s m args below meth c H locs ls X hM hS hl
  exact lv_ladd X.1 X.2.1 hd (kk _ rfl p e s m args below meth c H locs ls X hM hS hl)
theorem gx_lsub {x y : Int64} (hd : decode M.2.1 pc = .ok (.lsub, 1)) (kk : ∀ v : Int64, v = x - y → ch_G l E M Xt R Z k n h hi (pc + 1) lv (.long v :: st)) : ch_G l E M Xt R Z k n h hi pc lv (.long y :: .long x :: st) := by
  intro p e s m args below meth c H locs ls X hM hS hl
  exact lv_lsub X.1 X.2.1 hd (kk _ rfl p e s m args below meth c H locs ls X hM hS hl)
theorem gx_lmul {x y : Int64} (hd : decode M.2.1 pc = .ok (.lmul, 1)) (kk : ∀ v : Int64, v = x * y → ch_G l E M Xt R Z k n h hi (pc + 1) lv (.long v :: st)) : ch_G l E M Xt R Z k n h hi pc lv (.long y :: .long x :: st) := by
  intro p e s m args below meth c H locs ls X hM hS hl
  exact lv_lmul X.1 X.2.1 hd (kk _ rfl p e s m args below meth c H locs ls X hM hS hl)
theorem gx_idiv {x y : Int32} (hd : decode M.2.1 pc = .ok (.idiv, 1)) (hne : ¬ y = 0) (kk : ∀ v : Int32, v = x / y → ch_G l E M Xt R Z k n h hi (pc + 1) lv (.int v :: st)) : ch_G l E M Xt R Z k n h hi pc lv (.int y :: .int x :: st) := by
  intro p e s m args below meth c H locs ls X hM hS hl
  exact lv_idiv X.1 X.2.1 hd hne (kk _ rfl p e s m args below meth c H locs ls X hM hS hl)
theorem gx_irem {x y : Int32} (hd : decode M.2.1 pc = .ok (.irem, 1)) (hne : ¬ y = 0) (kk : ∀ v : Int32, v = x - x / y * y → ch_G l E M Xt R Z k n h hi (pc + 1) lv (.int v :: st)) : ch_G l E M Xt R Z k n h hi pc lv (.int y :: .int x :: st) := by
  intro p e s m args below meth c H locs ls X hM hS hl
  exact lv_irem X.1 X.2.1 hd hne (kk _ rfl p e s m args below meth c H locs ls X hM hS hl)
theorem gx_ldiv {x y : Int64} (hd : decode M.2.1 pc = .ok (.ldiv, 1)) (hne : ¬ y = 0) (kk : ∀ v : Int64, v = x / y → ch_G l E M Xt R Z k n h hi (pc + 1) lv (.long v :: st)) : ch_G l E M Xt R Z k n h hi pc lv (.long y :: .long x :: st) := by
  intro p e s m args below meth c H locs ls X hM hS hl
  exact lv_ldiv X.1 X.2.1 hd hne (kk _ rfl p e s m args below meth c H locs ls X hM hS hl)
theorem gx_lrem {x y : Int64} (hd : decode M.2.1 pc = .ok (.lrem, 1)) (hne : ¬ y = 0) (kk : ∀ v : Int64, v = x - x / y * y → ch_G l E M Xt R Z k n h hi (pc + 1) lv (.long v :: st)) : ch_G l E M Xt R Z k n h hi pc lv (.long y :: .long x :: st) := by
  intro p e s m args below meth c H locs ls X hM hS hl
  exact lv_lrem X.1 X.2.1 hd hne (kk _ rfl p e s m args below meth c H locs ls X hM hS hl)
theorem gx_ineg {x : Int32} (hd : decode M.2.1 pc = .ok (.ineg, 1)) (kk : ∀ v : Int32, v = -x → ch_G l E M Xt R Z k n h hi (pc + 1) lv (.int v :: st)) : ch_G l E M Xt R Z k n h hi pc lv (.int x :: st) := by
  intro p e s m args below meth c H locs ls X hM hS hl
  exact lv_ineg X.1 X.2.1 hd (kk _ rfl p e s m args below meth c H locs ls X hM hS hl)
theorem gx_lneg {x : Int64} (hd : decode M.2.1 pc = .ok (.lneg, 1)) (kk : ∀ v : Int64, v = -x → ch_G l E M Xt R Z k n h hi (pc + 1) lv (.long v :: st)) : ch_G l E M Xt R Z k n h hi pc lv (.long x :: st) := by
  intro p e s m args below meth c H locs ls X hM hS hl
  exact lv_lneg X.1 X.2.1 hd (kk _ rfl p e s m args below meth c H locs ls X hM hS hl)
theorem gx_i2l {x : Int32} (hd : decode M.2.1 pc = .ok (.i2l, 1)) (kk : ∀ v : Int64, v = x.toInt64 → ch_G l E M Xt R Z k n h hi (pc + 1) lv (.long v :: st)) : ch_G l E M Xt R Z k n h hi pc lv (.int x :: st) := by
  intro p e s m args below meth c H locs ls X hM hS hl
  exact lv_i2l X.1 X.2.1 hd rfl (kk _ rfl p e s m args below meth c H locs ls X hM hS hl)
theorem gx_l2i {x : Int64} (hd : decode M.2.1 pc = .ok (.l2i, 1)) (kk : ∀ v : Int32, v = x.toInt32 → ch_G l E M Xt R Z k n h hi (pc + 1) lv (.int v :: st)) : ch_G l E M Xt R Z k n h hi pc lv (.long x :: st) := by
  intro p e s m args below meth c H locs ls X hM hS hl
  exact lv_l2i X.1 X.2.1 hd rfl (kk _ rfl p e s m args below meth c H locs ls X hM hS hl)
theorem gx_lcmp {x y : Int64} (hd : decode M.2.1 pc = .ok (.lcmp, 1)) (kk : ch_G l E M Xt R Z k n h hi (pc + 1) lv (.int (lg_cmp x y) :: st)) : ch_G l E M Xt R Z k n h hi pc lv (.long y :: .long x :: st) := by
  intro p e s m args below meth c H locs ls X hM hS hl
  exact W.lcmp X.1 X.2.1 hd (kk p e s m args below meth c H locs ls X hM hS hl)
theorem gx_iconst {z : Int} (v : Int32) (hd : decode M.2.1 pc = .ok (.iconst z, 1)) (hv : Int32.ofInt z = v) (kk : ch_G l E M Xt R Z k n h hi (pc + 1) lv (.int v :: st)) : ch_G l E M Xt R Z k n h hi pc lv st := by
  intro p e s m args below meth c H locs ls X hM hS hl
  exact lv_iconst X.1 X.2.1 hd hv (kk p e s m args below meth c H locs ls X hM hS hl)
theorem gx_bipush {z : Int} (v : Int32) (hd : decode M.2.1 pc = .ok (.bipush z, 2)) (hv : (Int8.ofInt z).toInt32 = v) (kk : ch_G l E M Xt R Z k n h hi (pc + 2) lv (.int v :: st)) : ch_G l E M Xt R Z k n h hi pc lv st := by
  intro p e s m args below meth c H locs ls X hM hS hl
  exact lv_bipush X.1 X.2.1 hd hv (kk p e s m args below meth c H locs ls X hM hS hl)
theorem gx_sipush {z : Int} (v : Int32) (hd : decode M.2.1 pc = .ok (.sipush z, 3)) (hv : (Int16.ofInt z).toInt32 = v) (kk : ch_G l E M Xt R Z k n h hi (pc + 3) lv (.int v :: st)) : ch_G l E M Xt R Z k n h hi pc lv st := by
  intro p e s m args below meth c H locs ls X hM hS hl
  exact lv_sipush X.1 X.2.1 hd hv (kk p e s m args below meth c H locs ls X hM hS hl)
theorem gx_lconst {z : Fin 2} (v : Int64) (hd : decode M.2.1 pc = .ok (.lconst z, 1)) (hv : Int64.ofNat (z : Nat) = v) (kk : ch_G l E M Xt R Z k n h hi (pc + 1) lv (.long v :: st)) : ch_G l E M Xt R Z k n h hi pc lv st := by
  intro p e s m args below meth c H locs ls X hM hS hl
  exact lv_lconst X.1 X.2.1 hd hv (kk p e s m args below meth c H locs ls X hM hS hl)
theorem gx_ldc {idx : Nat} (v : Int32) (hc : Cond.constant M.1.cls idx v ∈ ch_tb) (hd : decode M.2.1 pc = .ok (.ldc idx, 2)) (kk : ch_G l E M Xt R Z k n h hi (pc + 2) lv (.int v :: st)) : ch_G l E M Xt R Z k n h hi pc lv st := by
  intro p e s m args below meth c H locs ls X hM hS hl
  exact lv_ldc X.1 X.2.1 X.2.2.2.1 (X.2.2.2.2.1 _ hc) hd (kk p e s m args below meth c H locs ls X hM hS hl)
theorem gx_ldc2 {idx : Nat} (v : Int64) (hc : Cond.constantLong M.1.cls idx v ∈ ch_tb) (hd : decode M.2.1 pc = .ok (.ldc2_w idx, 3)) (kk : ch_G l E M Xt R Z k n h hi (pc + 3) lv (.long v :: st)) : ch_G l E M Xt R Z k n h hi pc lv st := by
  intro p e s m args below meth c H locs ls X hM hS hl
  exact lv_ldc2 X.1 X.2.1 X.2.2.2.1 (X.2.2.2.2.1 _ hc) hd (kk p e s m args below meth c H locs ls X hM hS hl)
theorem gx_null (hd : decode M.2.1 pc = .ok (.aconst_null, 1)) (kk : ch_G l E M Xt R Z k n h hi (pc + 1) lv (.null :: st)) : ch_G l E M Xt R Z k n h hi pc lv st := by
  intro p e s m args below meth c H locs ls X hM hS hl
  exact lv_null X.1 X.2.1 hd (kk p e s m args below meth c H locs ls X hM hS hl)
theorem gx_iload_n {q : Fin 4} {i : Nat} {x : Int32} (j : Nat) (hd : decode M.2.1 pc = .ok (.iload_n q, 1)) (hq : (q : Nat) = i) (hj : lv[j]? = some (i, .int x)) (kk : ch_G l E M Xt R Z k n h hi (pc + 1) lv (.int x :: st)) : ch_G l E M Xt R Z k n h hi pc lv st := by
  intro p e s m args below meth c H locs ls X hM hS hl
  exact lv_iload_n X.1 X.2.1 hd hq (lv_at hl j hj) (kk p e s m args below meth c H locs ls X hM hS hl)
theorem gx_iload {i : Nat} {x : Int32} (j : Nat) (hd : decode M.2.1 pc = .ok (.iload i, 2)) (hj : lv[j]? = some (i, .int x)) (kk : ch_G l E M Xt R Z k n h hi (pc + 2) lv (.int x :: st)) : ch_G l E M Xt R Z k n h hi pc lv st := by
  intro p e s m args below meth c H locs ls X hM hS hl
  exact lv_iload X.1 X.2.1 hd (lv_at hl j hj) (kk p e s m args below meth c H locs ls X hM hS hl)
theorem gx_lload_n {q : Fin 4} {i : Nat} {x : Int64} (j : Nat) (hd : decode M.2.1 pc = .ok (.lload_n q, 1)) (hq : (q : Nat) = i) (hj : lv[j]? = some (i, .long x)) (kk : ch_G l E M Xt R Z k n h hi (pc + 1) lv (.long x :: st)) : ch_G l E M Xt R Z k n h hi pc lv st := by
  intro p e s m args below meth c H locs ls X hM hS hl
  exact lv_lload_n X.1 X.2.1 hd hq (lv_at hl j hj) (kk p e s m args below meth c H locs ls X hM hS hl)
theorem gx_lload {i : Nat} {x : Int64} (j : Nat) (hd : decode M.2.1 pc = .ok (.lload i, 2)) (hj : lv[j]? = some (i, .long x)) (kk : ch_G l E M Xt R Z k n h hi (pc + 2) lv (.long x :: st)) : ch_G l E M Xt R Z k n h hi pc lv st := by
  intro p e s m args below meth c H locs ls X hM hS hl
  exact lv_lload X.1 X.2.1 hd (lv_at hl j hj) (kk p e s m args below meth c H locs ls X hM hS hl)
theorem gx_aload_n {q : Fin 4} {i : Nat} {x : Nat} (j : Nat) (hd : decode M.2.1 pc = .ok (.aload_n q, 1)) (hq : (q : Nat) = i) (hj : lv[j]? = some (i, .ref x)) (kk : ch_G l E M Xt R Z k n h hi (pc + 1) lv (.ref x :: st)) : ch_G l E M Xt R Z k n h hi pc lv st := by
  intro p e s m args below meth c H locs ls X hM hS hl
  exact lv_aload_n X.1 X.2.1 hd hq (lv_at hl j hj) (kk p e s m args below meth c H locs ls X hM hS hl)
theorem gx_aload {i : Nat} {x : Nat} (j : Nat) (hd : decode M.2.1 pc = .ok (.aload i, 2)) (hj : lv[j]? = some (i, .ref x)) (kk : ch_G l E M Xt R Z k n h hi (pc + 2) lv (.ref x :: st)) : ch_G l E M Xt R Z k n h hi pc lv st := by
  intro p e s m args below meth c H locs ls X hM hS hl
  exact lv_aload X.1 X.2.1 hd (lv_at hl j hj) (kk p e s m args below meth c H locs ls X hM hS hl)
theorem gx_aload_nN {q : Fin 4} {i : Nat} (j : Nat) (hd : decode M.2.1 pc = .ok (.aload_n q, 1)) (hq : (q : Nat) = i) (hj : lv[j]? = some (i, .null)) (kk : ch_G l E M Xt R Z k n h hi (pc + 1) lv (.null :: st)) : ch_G l E M Xt R Z k n h hi pc lv st := by
  intro p e s m args below meth c H locs ls X hM hS hl
  exact lv_aload_nN X.1 X.2.1 hd hq (lv_at hl j hj) (kk p e s m args below meth c H locs ls X hM hS hl)
theorem gx_aloadN {i : Nat} (j : Nat) (hd : decode M.2.1 pc = .ok (.aload i, 2)) (hj : lv[j]? = some (i, .null)) (kk : ch_G l E M Xt R Z k n h hi (pc + 2) lv (.null :: st)) : ch_G l E M Xt R Z k n h hi pc lv st := by
  intro p e s m args below meth c H locs ls X hM hS hl
  exact lv_aloadN X.1 X.2.1 hd (lv_at hl j hj) (kk p e s m args below meth c H locs ls X hM hS hl)
theorem gx_istore_n {q0 : Fin 4} {i : Nat} {x : Int32} (lv' : List (Nat × Value)) (hd : decode M.2.1 pc = .ok (.istore_n q0, 1)) (hq : (q0 : Nat) = i) (hn : i < M.2.2.1) (hv : (i, Value.int x) :: lv.filter (fun q => !(q.1 == i) && !(q.1 + 1 == i && q.2.category == 2)) = lv') (kk : ch_G l E M Xt R Z k n h hi (pc + 1) lv' st) : ch_G l E M Xt R Z k n h hi pc lv (.int x :: st) := by
  intro p e s m args below meth c H locs ls X hM hS hl
  exact lv_istore_n X.1 X.2.1 hd hq hl hn hv (fun ls2 hl2 => kk p e s m args below meth c H locs ls2 X hM hS hl2)
theorem gx_istore {i : Nat} {x : Int32} (lv' : List (Nat × Value)) (hd : decode M.2.1 pc = .ok (.istore i, 2)) (hn : i < M.2.2.1) (hv : (i, Value.int x) :: lv.filter (fun q => !(q.1 == i) && !(q.1 + 1 == i && q.2.category == 2)) = lv') (kk : ch_G l E M Xt R Z k n h hi (pc + 2) lv' st) : ch_G l E M Xt R Z k n h hi pc lv (.int x :: st) := by
  intro p e s m args below meth c H locs ls X hM hS hl
  exact lv_istore X.1 X.2.1 hd hl hn hv (fun ls2 hl2 => kk p e s m args below meth c H locs ls2 X hM hS hl2)
theorem gx_lstore_n {q0 : Fin 4} {i : Nat} {x : Int64} (lv' : List (Nat × Value)) (hd : decode M.2.1 pc = .ok (.lstore_n q0, 1)) (hq : (q0 : Nat) = i) (hn : i + 1 < M.2.2.1) (hv : (i, Value.long x) :: lv.filter (fun q => !(q.1 == i) && (!(q.1 == i + 1) && !(q.1 + 1 == i && q.2.category == 2))) = lv') (kk : ch_G l E M Xt R Z k n h hi (pc + 1) lv' st) : ch_G l E M Xt R Z k n h hi pc lv (.long x :: st) := by
  intro p e s m args below meth c H locs ls X hM hS hl
  exact lv_lstore_n X.1 X.2.1 hd hq hl hn hv (fun ls2 hl2 => kk p e s m args below meth c H locs ls2 X hM hS hl2)
theorem gx_lstore {i : Nat} {x : Int64} (lv' : List (Nat × Value)) (hd : decode M.2.1 pc = .ok (.lstore i, 2)) (hn : i + 1 < M.2.2.1) (hv : (i, Value.long x) :: lv.filter (fun q => !(q.1 == i) && (!(q.1 == i + 1) && !(q.1 + 1 == i && q.2.category == 2))) = lv') (kk : ch_G l E M Xt R Z k n h hi (pc + 2) lv' st) : ch_G l E M Xt R Z k n h hi pc lv (.long x :: st) := by
  intro p e s m args below meth c H locs ls X hM hS hl
  exact lv_lstore X.1 X.2.1 hd hl hn hv (fun ls2 hl2 => kk p e s m args below meth c H locs ls2 X hM hS hl2)
theorem gx_astore_n {q0 : Fin 4} {i : Nat} {x : Nat} (lv' : List (Nat × Value)) (hd : decode M.2.1 pc = .ok (.astore_n q0, 1)) (hq : (q0 : Nat) = i) (hn : i < M.2.2.1) (hv : (i, Value.ref x) :: lv.filter (fun q => !(q.1 == i) && !(q.1 + 1 == i && q.2.category == 2)) = lv') (kk : ch_G l E M Xt R Z k n h hi (pc + 1) lv' st) : ch_G l E M Xt R Z k n h hi pc lv (.ref x :: st) := by
  intro p e s m args below meth c H locs ls X hM hS hl
  exact lv_astore_n X.1 X.2.1 hd hq hl hn hv (fun ls2 hl2 => kk p e s m args below meth c H locs ls2 X hM hS hl2)
theorem gx_astore {i : Nat} {x : Nat} (lv' : List (Nat × Value)) (hd : decode M.2.1 pc = .ok (.astore i, 2)) (hn : i < M.2.2.1) (hv : (i, Value.ref x) :: lv.filter (fun q => !(q.1 == i) && !(q.1 + 1 == i && q.2.category == 2)) = lv') (kk : ch_G l E M Xt R Z k n h hi (pc + 2) lv' st) : ch_G l E M Xt R Z k n h hi pc lv (.ref x :: st) := by
  intro p e s m args below meth c H locs ls X hM hS hl
  exact lv_astore X.1 X.2.1 hd hl hn hv (fun ls2 hl2 => kk p e s m args below meth c H locs ls2 X hM hS hl2)
theorem gx_astore_nN {q0 : Fin 4} {i : Nat} (lv' : List (Nat × Value)) (hd : decode M.2.1 pc = .ok (.astore_n q0, 1)) (hq : (q0 : Nat) = i) (hn : i < M.2.2.1) (hv : (i, Value.null) :: lv.filter (fun q => !(q.1 == i) && !(q.1 + 1 == i && q.2.category == 2)) = lv') (kk : ch_G l E M Xt R Z k n h hi (pc + 1) lv' st) : ch_G l E M Xt R Z k n h hi pc lv (.null :: st) := by
  intro p e s m args below meth c H locs ls X hM hS hl
  exact lv_astore_nN X.1 X.2.1 hd hq hl hn hv (fun ls2 hl2 => kk p e s m args below meth c H locs ls2 X hM hS hl2)
theorem gx_astoreN {i : Nat} (lv' : List (Nat × Value)) (hd : decode M.2.1 pc = .ok (.astore i, 2)) (hn : i < M.2.2.1) (hv : (i, Value.null) :: lv.filter (fun q => !(q.1 == i) && !(q.1 + 1 == i && q.2.category == 2)) = lv') (kk : ch_G l E M Xt R Z k n h hi (pc + 2) lv' st) : ch_G l E M Xt R Z k n h hi pc lv (.null :: st) := by
  intro p e s m args below meth c H locs ls X hM hS hl
  exact lv_astoreN X.1 X.2.1 hd hl hn hv (fun ls2 hl2 => kk p e s m args below meth c H locs ls2 X hM hS hl2)
theorem gx_iinc {i : Nat} {z : Int} {x : Int32} (j : Nat) (lv' : Int32 → List (Nat × Value)) (hd : decode M.2.1 pc = .ok (.iinc i z, 3)) (hj : lv[j]? = some (i, .int x)) (hn : i < M.2.2.1) (hv : ∀ v, (i, Value.int v) :: lv.filter (fun q => !(q.1 == i) && !(q.1 + 1 == i && q.2.category == 2)) = lv' v) (kk : ∀ v : Int32, v = x + Int32.ofInt z → ch_G l E M Xt R Z k n h hi (pc + 3) (lv' v) st) : ch_G l E M Xt R Z k n h hi pc lv st := by
  intro p e s m args below meth c H locs ls X hM hS hl
  exact lv_iinc (v := x + Int32.ofInt z) X.1 X.2.1 hd hl hj rfl hn (hv _) (fun ls2 hl2 => kk _ rfl p e s m args below meth c H locs ls2 X hM hS hl2)
theorem gx_dup {v : Value} (hd : decode M.2.1 pc = .ok (.dup, 1)) (hv : v.category = 1) (kk : ch_G l E M Xt R Z k n h hi (pc + 1) lv (v :: v :: st)) : ch_G l E M Xt R Z k n h hi pc lv (v :: st) := by
  intro p e s m args below meth c H locs ls X hM hS hl
  exact lv_dup X.1 X.2.1 hd hv (kk p e s m args below meth c H locs ls X hM hS hl)
theorem gx_pop {v : Value} (hd : decode M.2.1 pc = .ok (.pop, 1)) (hv : v.category = 1) (kk : ch_G l E M Xt R Z k n h hi (pc + 1) lv st) : ch_G l E M Xt R Z k n h hi pc lv (v :: st) := by
  intro p e s m args below meth c H locs ls X hM hS hl
  exact lv_pop X.1 X.2.1 hd hv (kk p e s m args below meth c H locs ls X hM hS hl)
theorem gx_dup_x1 {v u : Value} (hd : decode M.2.1 pc = .ok (.dup_x1, 1)) (hv : v.category = 1) (hu : u.category = 1) (kk : ch_G l E M Xt R Z k n h hi (pc + 1) lv (v :: u :: v :: st)) : ch_G l E M Xt R Z k n h hi pc lv (v :: u :: st) := by
  intro p e s m args below meth c H locs ls X hM hS hl
  exact lv_dup_x1 X.1 X.2.1 hd hv hu (kk p e s m args below meth c H locs ls X hM hS hl)
theorem gx_dup_x2 {v u t : Value} (hd : decode M.2.1 pc = .ok (.dup_x2, 1)) (hv : v.category = 1) (hu : u.category = 1) (ht : t.category = 1) (kk : ch_G l E M Xt R Z k n h hi (pc + 1) lv (v :: u :: t :: v :: st)) : ch_G l E M Xt R Z k n h hi pc lv (v :: u :: t :: st) := by
  intro p e s m args below meth c H locs ls X hM hS hl
  exact lv_dup_x2 X.1 X.2.1 hd hv hu ht (kk p e s m args below meth c H locs ls X hM hS hl)
theorem gx_dup2_11 {v u : Value} (hd : decode M.2.1 pc = .ok (.dup2, 1)) (hv : v.category = 1) (hu : u.category = 1) (kk : ch_G l E M Xt R Z k n h hi (pc + 1) lv (v :: u :: v :: u :: st)) : ch_G l E M Xt R Z k n h hi pc lv (v :: u :: st) := by
  intro p e s m args below meth c H locs ls X hM hS hl
  exact lv_dup2_11 X.1 X.2.1 hd hv hu (kk p e s m args below meth c H locs ls X hM hS hl)
theorem gx_dup2_2 {v : Value} (hd : decode M.2.1 pc = .ok (.dup2, 1)) (hv : v.category = 2) (kk : ch_G l E M Xt R Z k n h hi (pc + 1) lv (v :: v :: st)) : ch_G l E M Xt R Z k n h hi pc lv (v :: st) := by
  intro p e s m args below meth c H locs ls X hM hS hl
  exact lv_dup2_2 X.1 X.2.1 hd hv (kk p e s m args below meth c H locs ls X hM hS hl)
theorem gx_if_eq {x : Int32} {off : Int} (tgt : Nat) (hd : decode M.2.1 pc = .ok (.ifCond .eq off, 3)) (ht : (pc : Int) + off = (tgt : Int)) (kt : x = 0 → ch_G l E M Xt R Z k n h hi tgt lv st) (kf : ¬ x = 0 → ch_G l E M Xt R Z k n h hi (pc + 3) lv st) : ch_G l E M Xt R Z k n h hi pc lv (.int x :: st) := by
  intro p e s m args below meth c H locs ls X hM hS hl
  exact lv_if_eq X.1 X.2.1 hd ht (fun q => kt q p e s m args below meth c H locs ls X hM hS hl) (fun q => kf q p e s m args below meth c H locs ls X hM hS hl)
theorem gx_icmp_eq {x y : Int32} {off : Int} (tgt : Nat) (hd : decode M.2.1 pc = .ok (.if_icmp .eq off, 3)) (ht : (pc : Int) + off = (tgt : Int)) (kt : x = y → ch_G l E M Xt R Z k n h hi tgt lv st) (kf : ¬ x = y → ch_G l E M Xt R Z k n h hi (pc + 3) lv st) : ch_G l E M Xt R Z k n h hi pc lv (.int y :: .int x :: st) := by
  intro p e s m args below meth c H locs ls X hM hS hl
  exact lv_icmp_eq X.1 X.2.1 hd ht (fun q => kt q p e s m args below meth c H locs ls X hM hS hl) (fun q => kf q p e s m args below meth c H locs ls X hM hS hl)
theorem gx_if_ne {x : Int32} {off : Int} (tgt : Nat) (hd : decode M.2.1 pc = .ok (.ifCond .ne off, 3)) (ht : (pc : Int) + off = (tgt : Int)) (kt : ¬ x = 0 → ch_G l E M Xt R Z k n h hi tgt lv st) (kf : x = 0 → ch_G l E M Xt R Z k n h hi (pc + 3) lv st) : ch_G l E M Xt R Z k n h hi pc lv (.int x :: st) := by
  intro p e s m args below meth c H locs ls X hM hS hl
  exact lv_if_ne X.1 X.2.1 hd ht (fun q => kt q p e s m args below meth c H locs ls X hM hS hl) (fun q => kf q p e s m args below meth c H locs ls X hM hS hl)
theorem gx_icmp_ne {x y : Int32} {off : Int} (tgt : Nat) (hd : decode M.2.1 pc = .ok (.if_icmp .ne off, 3)) (ht : (pc : Int) + off = (tgt : Int)) (kt : ¬ x = y → ch_G l E M Xt R Z k n h hi tgt lv st) (kf : x = y → ch_G l E M Xt R Z k n h hi (pc + 3) lv st) : ch_G l E M Xt R Z k n h hi pc lv (.int y :: .int x :: st) := by
  intro p e s m args below meth c H locs ls X hM hS hl
  exact lv_icmp_ne X.1 X.2.1 hd ht (fun q => kt q p e s m args below meth c H locs ls X hM hS hl) (fun q => kf q p e s m args below meth c H locs ls X hM hS hl)
theorem gx_if_lt {x : Int32} {off : Int} (tgt : Nat) (hd : decode M.2.1 pc = .ok (.ifCond .lt off, 3)) (ht : (pc : Int) + off = (tgt : Int)) (kt : x < 0 → ch_G l E M Xt R Z k n h hi tgt lv st) (kf : ¬ x < 0 → ch_G l E M Xt R Z k n h hi (pc + 3) lv st) : ch_G l E M Xt R Z k n h hi pc lv (.int x :: st) := by
  intro p e s m args below meth c H locs ls X hM hS hl
  exact lv_if_lt X.1 X.2.1 hd ht (fun q => kt q p e s m args below meth c H locs ls X hM hS hl) (fun q => kf q p e s m args below meth c H locs ls X hM hS hl)
theorem gx_icmp_lt {x y : Int32} {off : Int} (tgt : Nat) (hd : decode M.2.1 pc = .ok (.if_icmp .lt off, 3)) (ht : (pc : Int) + off = (tgt : Int)) (kt : x < y → ch_G l E M Xt R Z k n h hi tgt lv st) (kf : ¬ x < y → ch_G l E M Xt R Z k n h hi (pc + 3) lv st) : ch_G l E M Xt R Z k n h hi pc lv (.int y :: .int x :: st) := by
  intro p e s m args below meth c H locs ls X hM hS hl
  exact lv_icmp_lt X.1 X.2.1 hd ht (fun q => kt q p e s m args below meth c H locs ls X hM hS hl) (fun q => kf q p e s m args below meth c H locs ls X hM hS hl)
theorem gx_if_ge {x : Int32} {off : Int} (tgt : Nat) (hd : decode M.2.1 pc = .ok (.ifCond .ge off, 3)) (ht : (pc : Int) + off = (tgt : Int)) (kt : 0 ≤ x → ch_G l E M Xt R Z k n h hi tgt lv st) (kf : ¬ 0 ≤ x → ch_G l E M Xt R Z k n h hi (pc + 3) lv st) : ch_G l E M Xt R Z k n h hi pc lv (.int x :: st) := by
  intro p e s m args below meth c H locs ls X hM hS hl
  exact lv_if_ge X.1 X.2.1 hd ht (fun q => kt q p e s m args below meth c H locs ls X hM hS hl) (fun q => kf q p e s m args below meth c H locs ls X hM hS hl)
theorem gx_icmp_ge {x y : Int32} {off : Int} (tgt : Nat) (hd : decode M.2.1 pc = .ok (.if_icmp .ge off, 3)) (ht : (pc : Int) + off = (tgt : Int)) (kt : y ≤ x → ch_G l E M Xt R Z k n h hi tgt lv st) (kf : ¬ y ≤ x → ch_G l E M Xt R Z k n h hi (pc + 3) lv st) : ch_G l E M Xt R Z k n h hi pc lv (.int y :: .int x :: st) := by
  intro p e s m args below meth c H locs ls X hM hS hl
  exact lv_icmp_ge X.1 X.2.1 hd ht (fun q => kt q p e s m args below meth c H locs ls X hM hS hl) (fun q => kf q p e s m args below meth c H locs ls X hM hS hl)
theorem gx_if_gt {x : Int32} {off : Int} (tgt : Nat) (hd : decode M.2.1 pc = .ok (.ifCond .gt off, 3)) (ht : (pc : Int) + off = (tgt : Int)) (kt : 0 < x → ch_G l E M Xt R Z k n h hi tgt lv st) (kf : ¬ 0 < x → ch_G l E M Xt R Z k n h hi (pc + 3) lv st) : ch_G l E M Xt R Z k n h hi pc lv (.int x :: st) := by
  intro p e s m args below meth c H locs ls X hM hS hl
  exact lv_if_gt X.1 X.2.1 hd ht (fun q => kt q p e s m args below meth c H locs ls X hM hS hl) (fun q => kf q p e s m args below meth c H locs ls X hM hS hl)
theorem gx_icmp_gt {x y : Int32} {off : Int} (tgt : Nat) (hd : decode M.2.1 pc = .ok (.if_icmp .gt off, 3)) (ht : (pc : Int) + off = (tgt : Int)) (kt : y < x → ch_G l E M Xt R Z k n h hi tgt lv st) (kf : ¬ y < x → ch_G l E M Xt R Z k n h hi (pc + 3) lv st) : ch_G l E M Xt R Z k n h hi pc lv (.int y :: .int x :: st) := by
  intro p e s m args below meth c H locs ls X hM hS hl
  exact lv_icmp_gt X.1 X.2.1 hd ht (fun q => kt q p e s m args below meth c H locs ls X hM hS hl) (fun q => kf q p e s m args below meth c H locs ls X hM hS hl)
theorem gx_if_le {x : Int32} {off : Int} (tgt : Nat) (hd : decode M.2.1 pc = .ok (.ifCond .le off, 3)) (ht : (pc : Int) + off = (tgt : Int)) (kt : x ≤ 0 → ch_G l E M Xt R Z k n h hi tgt lv st) (kf : ¬ x ≤ 0 → ch_G l E M Xt R Z k n h hi (pc + 3) lv st) : ch_G l E M Xt R Z k n h hi pc lv (.int x :: st) := by
  intro p e s m args below meth c H locs ls X hM hS hl
  exact lv_if_le X.1 X.2.1 hd ht (fun q => kt q p e s m args below meth c H locs ls X hM hS hl) (fun q => kf q p e s m args below meth c H locs ls X hM hS hl)
theorem gx_icmp_le {x y : Int32} {off : Int} (tgt : Nat) (hd : decode M.2.1 pc = .ok (.if_icmp .le off, 3)) (ht : (pc : Int) + off = (tgt : Int)) (kt : x ≤ y → ch_G l E M Xt R Z k n h hi tgt lv st) (kf : ¬ x ≤ y → ch_G l E M Xt R Z k n h hi (pc + 3) lv st) : ch_G l E M Xt R Z k n h hi pc lv (.int y :: .int x :: st) := by
  intro p e s m args below meth c H locs ls X hM hS hl
  exact lv_icmp_le X.1 X.2.1 hd ht (fun q => kt q p e s m args below meth c H locs ls X hM hS hl) (fun q => kf q p e s m args below meth c H locs ls X hM hS hl)
theorem gx_goto {off : Int} (tgt : Nat) (hd : decode M.2.1 pc = .ok (.goto off, 3)) (ht : (pc : Int) + off = (tgt : Int)) (kk : ch_G l E M Xt R Z k n h hi tgt lv st) : ch_G l E M Xt R Z k n h hi pc lv st := by
  intro p e s m args below meth c H locs ls X hM hS hl
  exact lv_goto X.1 X.2.1 hd ht (kk p e s m args below meth c H locs ls X hM hS hl)
theorem gx_ifnull {r : Option Nat} {off : Int} (tgt : Nat) (hd : decode M.2.1 pc = .ok (.ifnull off, 3)) (ht : (pc : Int) + off = (tgt : Int)) (kt : r = none → ch_G l E M Xt R Z k n h hi tgt lv st) (kf : ∀ a, r = some a → ch_G l E M Xt R Z k n h hi (pc + 3) lv st) : ch_G l E M Xt R Z k n h hi pc lv (va_rf r :: st) := by
  intro p e s m args below meth c H locs ls X hM hS hl
  cases r with
  | none => exact lv_ifnullN X.1 X.2.1 hd ht (kt rfl p e s m args below meth c H locs ls X hM hS hl)
  | some a => exact lv_ifnull X.1 X.2.1 hd (kf a rfl p e s m args below meth c H locs ls X hM hS hl)
theorem gx_ifnonnull {r : Option Nat} {off : Int} (tgt : Nat) (hd : decode M.2.1 pc = .ok (.ifnonnull off, 3)) (ht : (pc : Int) + off = (tgt : Int)) (kt : ∀ a, r = some a → ch_G l E M Xt R Z k n h hi tgt lv st) (kf : r = none → ch_G l E M Xt R Z k n h hi (pc + 3) lv st) : ch_G l E M Xt R Z k n h hi pc lv (va_rf r :: st) := by
  intro p e s m args below meth c H locs ls X hM hS hl
  cases r with
  | none => exact lv_ifnonnullN X.1 X.2.1 hd (kf rfl p e s m args below meth c H locs ls X hM hS hl)
  | some a => exact lv_ifnonnull X.1 X.2.1 hd ht (kt a rfl p e s m args below meth c H locs ls X hM hS hl)
theorem gx_lookup {dflt : Int} {ps : Array (Int × Int)} {len : Nat} {x : Int32} {off : Int} (tgt : Nat) (hd : decode M.2.1 pc = .ok (.lookupswitch dflt ps, len)) (hp : (ps.toList.zip (ps.toList.drop 1)).all (fun (a, next) => a.1 < next.1) = true) (ho : Op.lookupswitch.offset ps.toList dflt x.toInt = off) (ht : (pc : Int) + off = (tgt : Int)) (kk : ch_G l E M Xt R Z k n h hi tgt lv st) : ch_G l E M Xt R Z k n h hi pc lv (.int x :: st) := by
  intro p e s m args below meth c H locs ls X hM hS hl
  exact lv_lookup X.1 X.2.1 hd hp ho ht (kk p e s m args below meth c H locs ls X hM hS hl)
theorem gx_tableOut {dflt lo hh : Int} {offs : Array Int} {len : Nat} {x : Int32} (tgt : Nat) (hd : decode M.2.1 pc = .ok (.tableswitch dflt lo hh offs, len)) (hx : x.toInt < lo ∨ hh < x.toInt) (ht : (pc : Int) + dflt = (tgt : Int)) (kk : ch_G l E M Xt R Z k n h hi tgt lv st) : ch_G l E M Xt R Z k n h hi pc lv (.int x :: st) := by
  intro p e s m args below meth c H locs ls X hM hS hl
  exact lv_tableOut X.1 X.2.1 hd hx ht (kk p e s m args below meth c H locs ls X hM hS hl)
theorem gx_tableIn {dflt lo hh : Int} {offs : Array Int} {len : Nat} {x : Int32} {off : Int} (tgt : Nat) (hd : decode M.2.1 pc = .ok (.tableswitch dflt lo hh offs, len)) (h1 : ¬ x.toInt < lo) (h2 : ¬ hh < x.toInt) (ho : offs[(x.toInt - lo).toNat]? = some off) (ht : (pc : Int) + off = (tgt : Int)) (kk : ch_G l E M Xt R Z k n h hi tgt lv st) : ch_G l E M Xt R Z k n h hi pc lv (.int x :: st) := by
  intro p e s m args below meth c H locs ls X hM hS hl
  exact lv_tableIn X.1 X.2.1 hd h1 h2 ho ht (kk p e s m args below meth c H locs ls X hM hS hl)
/-- one of our cells, as a world of one -/
theorem ch_one {E : ch_E} {h : ch_H} {hi a : Nat} {e : va_E} {H : Heap} (hM : ch_M E h hi H) (ha : h a = some e) : va_P E.1 vwCl [(a, e)] H := by
  intro i q hq
  cases i with
  | zero => cases hq; exact (hM.2.2 _ _ ha).2
  | succ i => simp at hq

theorem gx_get {a ci idx f N : Nat} {C : String} {T : u_T} {fs : List Value} {v : Value} (hc : vwCl[ci]? = some (C, T, N)) (hin : ∀ w ∈ u_ws C T N, w ∈ ch_tb) (hf : f < N) (hlink : Cond.fieldLink M.1.cls idx (T f).1 (T f).2.1 (T f).2.2.1 ∈ ch_tb) (hd : decode M.2.1 pc = .ok (.getfield idx, 3)) (ha : h a = some (.inr (ci, fs))) (hv : fs[f]? = some v) (kk : ch_G l E M Xt R Z k n h hi (pc + 3) lv (v :: st)) : ch_G l E M Xt R Z k n h hi pc lv (.ref a :: st) := by
  intro p e s m args below meth c H locs ls X hM hS hl
  exact va_get X.1 X.2.1 X.2.2.2.2.1 hin X.2.2.2.1 X.2.2.2.2.2.2.2.2.1 (ch_one hM ha) 0 rfl hc f hf (X.2.2.2.2.1 _ hlink) (fun _ h9 => h9) hv hd (kk p e s m args below meth c H locs ls X hM hS hl)
theorem gx_put {a ci idx f N : Nat} {C : String} {T : u_T} {fs : List Value} {v : Value} {ty : FieldType} (ty0 : Nat → FieldType) (hc : vwCl[ci]? = some (C, T, N)) (hin : ∀ w ∈ u_ws C T N, w ∈ ch_tb) (hty : ∀ k, k < N → parseFieldDescriptor (T k).2.2.1 = some (ty0 k)) (hnm : ∀ a, a < N → ∀ b, b < N → a ≠ b → (T a).2.1 ≠ (T b).2.1) (hf : f < N) (hlink : Cond.fieldLink M.1.cls idx (T f).1 (T f).2.1 (T f).2.2.1 ∈ ch_tb) (hfin : (T f).2.2.2 = false ∨ ((T f).2.2.2 = true ∧ M.1.name = "<init>" ∧ (T f).1 = M.1.cls)) (hde : parseFieldDescriptor (T f).2.2.1 = some ty) (hn : narrow ty v = v) (hfit : fits ty v = true) (hd : decode M.2.1 pc = .ok (.putfield idx, 3)) (ha : h a = some (.inr (ci, fs))) (hlt : f < fs.length) (kk : ch_G l E M Xt R Z k n (ch_set h a (.inr (ci, fs.set f v))) hi (pc + 3) lv st) : ch_G l E M Xt R Z k n h hi pc lv (v :: .ref a :: st) := by
  intro p e s m args below meth c H locs ls X hM hS hl
  obtain ⟨hx, hb, -, hown, hts, -, -, hname, hK, -, hN, -⟩ := id X
  have hap := va_apart (own := M.1.cls) hts hin ty0 hty hnm hK hc
  obtain ⟨hA, r, h1, cell, q1, q2, q3, q4⟩ := hM.2.2 a _ ha
  have hr' : r = (C, T, N) := Option.some.inj (h1.symm.trans hc)
  subst hr'
  obtain ⟨hSl, hfc, kC, hkC, hkind⟩ := hK.1 ci _ hc
  obtain ⟨cf, kf, fi, fd, hi', hsl⟩ := hSl f hf
  have hst := (u_facts hfc hkC (u_lays hts hin hf) hi').1
  have done : ∀ H' : Heap, H'[a]? = some (cell.setSlot fd.slot v) → H'.size = H.size → (∀ q, q ≠ a → H'[q]? = H[q]?) → W p l e R s m args below meth c H' (locs ++ [⟨a, fd.slot⟩]) k n (Z below args s) (F0 m (pc + 3) ls st) := by
    intro H' e1 e2 e3
    rw [hsl] at e1 ⊢
    exact kk p e s m args below meth c H' _ ls X (hM.put ha ⟨_, hc, t_OB.to (V := updV (vp_V fs) f v) ⟨_, e1, q2, q3, t_set q4 hap hf v⟩ (fun j _ => vp_updV_set hlt v j)⟩ e2 e3) (hS.put e2 e3 hA) hl
  have hlay := hts _ (hin _ (u_in_lay hf))
  unfold u_lay at hlay
  rcases hfin with hfin | ⟨hfin, hin2, hdecl⟩
  · rw [if_neg (by rw [hfin]; decide)] at hlay
    have h6 := u_store hfc hkC hkind hlay hi' hde hn hfit
    exact W.putK hx hb (f := fd) ⟨hown, hts _ hlink, ⟨_, _, _, hi'⟩, hst⟩ (by rw [q2]; exact h6) q1 q3 (by rw [hsl]; exact k2_hasslot (q4 f hf)) rfl rfl hd done
  · rw [if_pos hfin] at hlay
    have hcf : m.cls = cf := by
      obtain ⟨_, _, c', _, _, _, -, -, hf', -, -, -, hown2, -⟩ := Cond.laysFinal_spec hlay
      have e1 : c' = cf := by have := hi'.symm.trans hf'; simp at this; exact this.1.symm
      rw [hdecl] at hown2
      rw [← e1]; exact Option.some.inj (hown.symm.trans hown2)
    have h6 := u_fits hfc hkC hkind (Or.inr hlay) hi' hde hn hfit
    exact W.putFinK hx hb hown (hts _ hlink) hi' hst hcf (hname.trans hin2) (by rw [q2]; exact h6) q1 q3 (by rw [hsl]; exact k2_hasslot (q4 f hf)) rfl rfl hd done
theorem gx_iald {a N : Nat} {cA : ClassId} {g : Nat → Int32} {i : Int32} (t : Nat) (ht : E.2.1[t]? = some (cA, .int)) (hd : decode M.2.1 pc = .ok (.iaload, 1)) (ha : h a = some (.inl (cA, N, .inl g))) (hin : vp_in i N) (kk : ∀ v : Int32, v = g i.toNatClampNeg → ch_G l E M Xt R Z k n h hi (pc + 1) lv (.int v :: st)) : ch_G l E M Xt R Z k n h hi pc lv (.int i :: .ref a :: st) := by
  intro p e s m args below meth c H locs ls X hM hS hl
  exact va_iald X.1 X.2.1 X.2.2.2.2.2.2.2.2.1 (ch_one hM ha) 0 t rfl ht hin hd (kk _ rfl p e s m args below meth c H locs ls X hM hS hl)
theorem gx_aald {a N : Nat} {cA : ClassId} {C : String} {g : Nat → Option Nat} {i : Int32} (t : Nat) (ht : E.2.1[t]? = some (cA, .object C)) (hd : decode M.2.1 pc = .ok (.aaload, 1)) (ha : h a = some (.inl (cA, N, .inr (.inr (.inr (.inr g)))))) (hin : vp_in i N) (kk : ∀ r : Option Nat, r = g i.toNatClampNeg → ch_G l E M Xt R Z k n h hi (pc + 1) lv (va_rf r :: st)) : ch_G l E M Xt R Z k n h hi pc lv (.int i :: .ref a :: st) := by
  intro p e s m args below meth c H locs ls X hM hS hl
  exact va_aldq X.1 X.2.1 X.2.2.2.2.2.2.2.2.1 (ch_one hM ha) 0 t rfl ht hin hd (kk _ rfl p e s m args below meth c H locs ls X hM hS hl)
theorem gx_alen {a : Nat} {cA : ClassId} {x : vp_A} {ty : FieldType} (t : Nat) (v : Int32) (ht : E.2.1[t]? = some (cA, ty)) (hd : decode M.2.1 pc = .ok (.arraylength, 1)) (ha : h a = some (.inl (cA, x))) (hv : Int32.ofNat x.1 = v) (kk : ch_G l E M Xt R Z k n h hi (pc + 1) lv (.int v :: st)) : ch_G l E M Xt R Z k n h hi pc lv (.ref a :: st) := by
  intro p e s m args below meth c H locs ls X hM hS hl
  exact va_alen X.1 X.2.1 X.2.2.2.2.2.2.2.2.1 (ch_one hM ha) 0 t rfl ht hv hd (kk p e s m args below meth c H locs ls X hM hS hl)
theorem gx_iast {a N : Nat} {cA : ClassId} {g : Nat → Int32} {i x : Int32} (t : Nat) (ht : E.2.1[t]? = some (cA, .int)) (hd : decode M.2.1 pc = .ok (.iastore, 1)) (ha : h a = some (.inl (cA, N, .inl g))) (hin : vp_in i N) (kk : ch_G l E M Xt R Z k n (ch_set h a (.inl (cA, N, .inl (upd g i.toNatClampNeg x)))) hi (pc + 1) lv st) : ch_G l E M Xt R Z k n h hi pc lv (.int x :: .int i :: .ref a :: st) := by
  intro p e s m args below meth c H locs ls X hM hS hl
  obtain ⟨hx, hb, -, hown, hts, -, -, hname, hK, -, hN, -⟩ := id X
  obtain ⟨hA, hcell⟩ := hM.2.2 a _ ha
  refine W.iast hx hb hcell ((hK.2 t _ ht).1 N (fun j => .int (g j))) (fun q => by cases q) (by show ¬ (i < 0 ∨ (arrV _ _ _).slots.size ≤ _); rw [arrV_size]; exact hin) rfl rfl hd fun H1 e1 z oq => ?_
  refine kk p e s m args below meth c H1 _ ls X (hM.put ha ?_ z oq) (hS.put z oq hA) hl
  show H1[a]? = some (vp_cell _ _)
  rw [e1]
  rw [vp_cell_i, vp_cell_i, arrV_store]
  congr 2
  funext q
  by_cases hq : q = i.toNatClampNeg
  · subst hq
    simp [updV, upd]
  · simp [updV, upd, hq]
theorem gx_aast {a N v ci : Nat} {cA : ClassId} {r : vw_C} {C : String} {vs : List Value} {g : Nat → Option Nat} {i : Int32} (t : Nat) (ht : E.2.1[t]? = some (cA, .object C)) (hc : vwCl[ci]? = some r) (hca : ∀ U, ch_N U → va_Nw (Cond.castable r.1 C) U) (hd : decode M.2.1 pc = .ok (.aastore, 1)) (ha : h a = some (.inl (cA, N, .inr (.inr (.inr (.inr g)))))) (hv : h v = some (.inr (ci, vs))) (hin : vp_in i N) (kk : ch_G l E M Xt R Z k n (ch_set h a (.inl (cA, N, .inr (.inr (.inr (.inr (va_up g i.toNatClampNeg (some v)))))))) hi (pc + 1) lv st) : ch_G l E M Xt R Z k n h hi pc lv (.ref v :: .int i :: .ref a :: st) := by
  intro p e s m args below meth c H locs ls X hM hS hl
  obtain ⟨hx, hb, -, hown, hts, -, -, hname, hK, -, hN, -⟩ := id X
  obtain ⟨hA, hcell⟩ := hM.2.2 a _ ha
  have hlt : i.toNatClampNeg < N := Nat.not_le.mp fun q => hin (Or.inr q)
  have h0 : ¬ i < 0 := fun q => hin (Or.inl q)
  obtain ⟨-, r', hr', cellV, g1, g2, g3, -⟩ := hM.2.2 v _ hv
  have hcls := (hK.1 ci r hc).2
  obtain ⟨kA, comp, k1, k2, k3, -⟩ := (hK.2 t _ ht).2
  obtain ⟨kE, hkE, -⟩ := Vm.findClass_spec k3
  obtain ⟨c0, t1, f1, f2, f3⟩ := Cond.castable_spec (va_Nw.use (A := args) rfl (hca s hN))
  cases hcls.1.symm.trans f1
  cases k3.symm.trans f2
  obtain ⟨kC, hkC, -⟩ := hcls.2
  refine W.aast hx hb hcell (fun q h => by cases h) (fun h => by cases h) k1 k2 rfl hkE ⟨h0, by show _ < (arrV _ _ _).slots.size; rw [arrV_size]; exact hlt⟩ g1 (fun q h => by rw [g3] at h; cases h) (by rw [g2]; exact hkC) (by rw [g2]; exact f3) rfl rfl hd fun H1 e1 z oq => ?_
  refine kk p e s m args below meth c H1 _ ls X (hM.put ha ?_ z oq) (hS.put z oq hA) hl
  show H1[a]? = some (vp_cell _ _)
  rw [e1]
  rw [vp_cell_q, vp_cell_q, arrV_store]
  congr 2
  funext q
  by_cases hq : q = i.toNatClampNeg
  · subst hq
    simp [updV, va_up, va_rf]
  · simp [updV, va_up, hq]
theorem gx_aastN {a N : Nat} {cA : ClassId} {C : String} {g : Nat → Option Nat} {i : Int32} (t : Nat) (ht : E.2.1[t]? = some (cA, .object C)) (hd : decode M.2.1 pc = .ok (.aastore, 1)) (ha : h a = some (.inl (cA, N, .inr (.inr (.inr (.inr g)))))) (hin : vp_in i N) (kk : ch_G l E M Xt R Z k n (ch_set h a (.inl (cA, N, .inr (.inr (.inr (.inr (va_up g i.toNatClampNeg none))))))) hi (pc + 1) lv st) : ch_G l E M Xt R Z k n h hi pc lv (.null :: .int i :: .ref a :: st) := by
  intro p e s m args below meth c H locs ls X hM hS hl
  obtain ⟨hx, hb, -, hown, hts, -, -, hname, hK, -, hN, -⟩ := id X
  obtain ⟨hA, hcell⟩ := hM.2.2 a _ ha
  refine va_WaastN (C := C) hx hb hcell ((hK.2 t _ ht).1 N (fun j => va_rf (g j))) (fun h => by cases h) (by show ¬ (i < 0 ∨ (arrV _ _ _).slots.size ≤ _); rw [arrV_size]; exact hin) rfl rfl hd fun H1 e1 z oq => ?_
  refine kk p e s m args below meth c H1 _ ls X (hM.put ha ?_ z oq) (hS.put z oq hA) hl
  show H1[a]? = some (vp_cell _ _)
  rw [e1]
  rw [vp_cell_q, vp_cell_q, arrV_store]
  congr 2
  funext q
  by_cases hq : q = i.toNatClampNeg
  · subst hq
    simp [updV, va_up, va_rf]
  · simp [updV, va_up, hq]
theorem gx_new {ci idx N : Nat} {C : String} {T : u_T} {fs : List Value} (ty0 : Nat → FieldType) (hc : vwCl[ci]? = some (C, T, N)) (hin : ∀ w ∈ u_ws C T N, w ∈ ch_tb) (hty : ∀ k, k < N → parseFieldDescriptor (T k).2.2.1 = some (ty0 k)) (hcl : Cond.classLink M.1.cls idx C ∈ ch_tb) (hinst : Cond.instantiable C N ∈ ch_tb) (hini : Cond.initialized C ∈ ch_tb) (hfs : ∀ j, j < N → defaultValue (ty0 j) = vp_V fs j) (hcells : k + 1 ≤ R.cells) (hslots : n + N ≤ R.slots) (hd : decode M.2.1 pc = .ok (.new idx, 3)) (kk : ch_G l E M Xt R Z (k + 1) (n + N) (ch_set h hi (.inr (ci, fs))) (hi + 1) (pc + 3) lv (.ref hi :: st)) : ch_G l E M Xt R Z k n h hi pc lv st := by
  intro p e s m args below meth c H locs ls X hM hS hl
  obtain ⟨hx, hb, -, hown, hts, -, -, hname, hK, hlo, hNw, -⟩ := id X
  have hKn := hK.1 ci _ hc
  refine W.newcK hx hb hown (hts _ hcl) (hts _ hinst) (hts _ hini) rfl hd hcells hslots hKn.2.1 hM.1 fun H1 kC hkC e1 z1 o1 => ?_
  refine kk p e s m args below meth c H1 _ ls X (hM.new ⟨_, hc, (u_born ty0 hts hin hKn hkC e1 hty).to hfs⟩ z1 o1) ⟨?_, fun x h1 h2 => ?_, hS.2.2⟩ hl
  · have := hS.1; have := hM.1; omega
  · have h3 := hS.1
    have h4 := hM.1
    exact (o1 x (by omega)).trans (hS.2.1 x h1 h2)
theorem gx_newi {z : Int32} {N : Nat} {cA : ClassId} (t : Nat) (ht : E.2.1[t]? = some (cA, .int)) (harr : Cond.arrayClass .int ∈ ch_tb) (hd : decode M.2.1 pc = .ok (.newarray .int, 2)) (hn : ¬ z < 0) (hN : z.toNatClampNeg = N) (hbytes : N * componentBytes .int ≤ 536870912) (hcells : k + 1 ≤ R.cells) (hslots : n + N ≤ R.slots) (kk : ch_G l E M Xt R Z (k + 1) (n + N) (ch_set h hi (.inl (cA, N, .inl (fun _ => 0)))) (hi + 1) (pc + 2) lv (.ref hi :: st)) : ch_G l E M Xt R Z k n h hi pc lv (.int z :: st) := by
  intro p e s m args below meth c H locs ls X hM hS hl
  obtain ⟨hx, hb, -, hown, hts, -, -, hname, hK, hlo, hNw, -⟩ := id X
  refine va_newaK hx hb (atype := .int) (hts _ harr) rfl hd rfl hn hN hbytes hcells hslots hM.1 fun H1 cB e1 z1 o1 hAr hNm => ?_
  have hcc : cB = cA := Option.some.inj (hNm.symm.trans (hK.2 t _ ht).2)
  subst hcc
  refine kk p e s m args below meth c H1 _ ls X (hM.new (by show H1[hi]? = some (vp_cell _ _); rw [e1]; rfl) z1 o1) ⟨?_, fun x h1 h2 => ?_, hS.2.2⟩ hl
  · have := hS.1; have := hM.1; omega
  · have h3 := hS.1
    have h4 := hM.1
    exact (o1 x (by omega)).trans (hS.2.1 x h1 h2)
theorem gx_anew {z : Int32} {N idx : Nat} {cA : ClassId} {C : String} (t : Nat) (ht : E.2.1[t]? = some (cA, .object C)) (hcl : Cond.classLink M.1.cls idx C ∈ ch_tb) (hov : ∀ U, ch_N U → va_AO C U) (hd : decode M.2.1 pc = .ok (.anewarray idx, 3)) (hn : ¬ z < 0) (hN : z.toNatClampNeg = N) (hbytes : N * 4 ≤ 536870912) (hcells : k + 1 ≤ R.cells) (hslots : n + N ≤ R.slots) (kk : ch_G l E M Xt R Z (k + 1) (n + N) (ch_set h hi (.inl (cA, N, .inr (.inr (.inr (.inr (fun _ => none))))))) (hi + 1) (pc + 3) lv (.ref hi :: st)) : ch_G l E M Xt R Z k n h hi pc lv (.int z :: st) := by
  intro p e s m args below meth c H locs ls X hM hS hl
  obtain ⟨hx, hb, -, hown, hts, -, -, hname, hK, hlo, hNw, -⟩ := id X
  subst hN
  refine W.anew hx hb hown (hts _ hcl) (va_AO.use (hov s hNw)) rfl hd rfl hn hbytes hcells hslots fun cB kA comp h1 h2 h3 h4 => ?_
  obtain ⟨kA', comp', k1, k2, k3, k4⟩ := (hK.2 t _ ht).2
  have hcc : cB = cA := Option.some.inj (h1.symm.trans k4)
  subst hcc
  rw [arrV_new]
  have hz := hM.1
  have hsz := hS.1
  subst hz
  refine kk p e s m args below meth c _ _ ls X (hM.new (by show (H.push _)[H.size]? = some (vp_cell _ _); rw [vp_cell_q]; simp [va_rf]) (by simp) (fun q hq => by rw [Array.getElem?_push, if_neg (Nat.ne_of_lt hq)])) ⟨?_, fun x h1 h2 => ?_, hS.2.2⟩ hl
  · simp; omega
  · rw [Array.getElem?_push, if_neg (by omega)]; exact hS.2.1 x h1 h2
theorem gx_objInit {a idx : Nat} (hlink : Cond.methodLink M.1.cls idx objectInit ∈ ch_tb) (hinst : Cond.instanceMethod objectInit ∈ ch_tb) (hcode : Cond.code objectInit ⟨#[0xb1]⟩ 1 none ∈ ch_tb) (hd : decode M.2.1 pc = .ok (.invokespecial idx, 3)) (hfr : 1 ≤ R.frames) (hlo : (st.map fun v => v.category).sum + 12 ≤ R.locals) (kk : ch_G l E M Xt R Z k n h hi (pc + 3) lv st) : ch_G l E M Xt R Z k n h hi pc lv (.ref a :: st) := by
  intro p e s m args below meth c H locs ls X hM hS hl
  obtain ⟨hx, hb, hml, hown, hts, -, -, hname, hK, -, hN, -⟩ := id X
  refine W.objInit hx hb hown (hts _ hlink) (hts _ hinst) (hts _ hcode) rfl (by rw [hml]; exact hl.1) rfl hd hfr (by show 2 * 0 + _ + 12 ≤ _; omega) ?_
  exact kk p e s m args below meth c H locs ls X hM hS hl
theorem gx_lshl {x : Int64} {y : Int32} (hd : decode M.2.1 pc = .ok (.lshl, 1)) (kk : ∀ v : Int64, v = x <<< (y.toInt64 &&& 63) → ch_G l E M Xt R Z k n h hi (pc + 1) lv (.long v :: st)) : ch_G l E M Xt R Z k n h hi pc lv (.int y :: .long x :: st) := by
  intro p e s m args below meth c H locs ls X hM hS hl
  exact lv_lshl X.1 X.2.1 hd rfl (kk _ rfl p e s m args below meth c H locs ls X hM hS hl)
theorem gx_lshr {x : Int64} {y : Int32} (hd : decode M.2.1 pc = .ok (.lshr, 1)) (kk : ∀ v : Int64, v = x >>> (y.toInt64 &&& 63) → ch_G l E M Xt R Z k n h hi (pc + 1) lv (.long v :: st)) : ch_G l E M Xt R Z k n h hi pc lv (.int y :: .long x :: st) := by
  intro p e s m args below meth c H locs ls X hM hS hl
  exact lv_lshr X.1 X.2.1 hd rfl (kk _ rfl p e s m args below meth c H locs ls X hM hS hl)
theorem gx_lald {a N : Nat} {cA : ClassId} {g : Nat → Int64} {i : Int32} (t : Nat) (ht : E.2.1[t]? = some (cA, .long)) (hd : decode M.2.1 pc = .ok (.laload, 1)) (ha : h a = some (.inl (cA, N, .inr (.inl g)))) (hin : vp_in i N) (kk : ∀ v : Int64, v = g i.toNatClampNeg → ch_G l E M Xt R Z k n h hi (pc + 1) lv (.long v :: st)) : ch_G l E M Xt R Z k n h hi pc lv (.int i :: .ref a :: st) := by
  intro p e s m args below meth c H locs ls X hM hS hl
  exact va_lald X.1 X.2.1 X.2.2.2.2.2.2.2.2.1 (ch_one hM ha) 0 t rfl ht hin hd (kk _ rfl p e s m args below meth c H locs ls X hM hS hl)
theorem gx_last {a N : Nat} {cA : ClassId} {g : Nat → Int64} {i : Int32} {x : Int64} (t : Nat) (ht : E.2.1[t]? = some (cA, .long)) (hd : decode M.2.1 pc = .ok (.lastore, 1)) (ha : h a = some (.inl (cA, N, .inr (.inl g)))) (hin : vp_in i N) (kk : ch_G l E M Xt R Z k n (ch_set h a (.inl (cA, N, .inr (.inl (vp_updL g i.toNatClampNeg x))))) hi (pc + 1) lv st) : ch_G l E M Xt R Z k n h hi pc lv (.long x :: .int i :: .ref a :: st) := by
  intro p e s m args below meth c H locs ls X hM hS hl
  obtain ⟨hx, hb, -, hown, hts, -, -, hname, hK, -, hN, -⟩ := id X
  obtain ⟨hA, hcell⟩ := hM.2.2 a _ ha
  refine W.last hx hb hcell ((hK.2 t _ ht).1 N (fun j => .long (g j))) (fun q => by cases q) (by show ¬ (i < 0 ∨ (arrV _ _ _).slots.size ≤ _); rw [arrV_size]; exact hin) rfl rfl hd fun H1 e1 z oq => ?_
  refine kk p e s m args below meth c H1 _ ls X (hM.put ha ?_ z oq) (hS.put z oq hA) hl
  show H1[a]? = some (vp_cell _ _)
  rw [e1]
  rw [vp_cell_l, vp_cell_l, arrV_store]
  congr 2
  funext q
  by_cases hq : q = i.toNatClampNeg
  · subst hq
    simp [updV, vp_updL]
  · simp [updV, vp_updL, hq]
theorem gx_newl {z : Int32} {N : Nat} {cA : ClassId} (t : Nat) (ht : E.2.1[t]? = some (cA, .long)) (harr : Cond.arrayClass .long ∈ ch_tb) (hd : decode M.2.1 pc = .ok (.newarray .long, 2)) (hn : ¬ z < 0) (hN : z.toNatClampNeg = N) (hbytes : N * componentBytes .long ≤ 536870912) (hcells : k + 1 ≤ R.cells) (hslots : n + N ≤ R.slots) (kk : ch_G l E M Xt R Z (k + 1) (n + N) (ch_set h hi (.inl (cA, N, .inr (.inl (fun _ => 0))))) (hi + 1) (pc + 2) lv (.ref hi :: st)) : ch_G l E M Xt R Z k n h hi pc lv (.int z :: st) := by
  intro p e s m args below meth c H locs ls X hM hS hl
  obtain ⟨hx, hb, -, hown, hts, -, -, hname, hK, hlo, hNw, -⟩ := id X
  refine va_newaK hx hb (atype := .long) (hts _ harr) rfl hd rfl hn hN hbytes hcells hslots hM.1 fun H1 cB e1 z1 o1 hAr hNm => ?_
  have hcc : cB = cA := Option.some.inj (hNm.symm.trans (hK.2 t _ ht).2)
  subst hcc
  refine kk p e s m args below meth c H1 _ ls X (hM.new (by show H1[hi]? = some (vp_cell _ _); rw [e1]; rfl) z1 o1) ⟨?_, fun x h1 h2 => ?_, hS.2.2⟩ hl
  · have := hS.1; have := hM.1; omega
  · have h3 := hS.1
    have h4 := hM.1
    exact (o1 x (by omega)).trans (hS.2.1 x h1 h2)
theorem gx_mmax {x y : Int32} {idx : Nat} (hlink : Cond.methodLink M.1.cls idx Lib.Math.max.name ∈ ch_tb) (hstat : Cond.static Lib.Math.max.name ∈ ch_tb) (hini : Cond.initialized "java/lang/Math" ∈ ch_tb) (hcode : Cond.code Lib.Math.max.name Lib.Math.max.code 2 (some .int) ∈ ch_tb) (hd : decode M.2.1 pc = .ok (.invokestatic idx, 3)) (hfr : 1 ≤ R.frames) (hlo : (st.map fun v => v.category).sum + 13 ≤ R.locals) (hk : k ≤ R.cells) (hn : n ≤ R.slots) (kk : ∀ v : Int32, v = (if x < y then y else x) → ch_G l E M Xt R Z k n h hi (pc + 3) lv (.int v :: st)) : ch_G l E M Xt R Z k n h hi pc lv (.int y :: .int x :: st) := by
  intro p e s m args below meth c H locs ls X hM hS hl
  obtain ⟨hx, hb, hml, hown, hts, -, -, hname, hK, -, hN, -⟩ := id X
  exact va_mmax hx hb (hml.trans hl.1.symm) hown (hts _ hlink) (hts _ hstat) (hts _ hini) (hts _ hcode) hfr hlo hk hn hd (kk _ rfl p e s m args below meth c H locs ls X hM hS hl)
theorem gx_mmin {x y : Int32} {idx : Nat} (hlink : Cond.methodLink M.1.cls idx Lib.Math.min.name ∈ ch_tb) (hstat : Cond.static Lib.Math.min.name ∈ ch_tb) (hini : Cond.initialized "java/lang/Math" ∈ ch_tb) (hcode : Cond.code Lib.Math.min.name Lib.Math.min.code 2 (some .int) ∈ ch_tb) (hd : decode M.2.1 pc = .ok (.invokestatic idx, 3)) (hfr : 1 ≤ R.frames) (hlo : (st.map fun v => v.category).sum + 13 ≤ R.locals) (hk : k ≤ R.cells) (hn : n ≤ R.slots) (kk : ∀ v : Int32, v = (if y < x then y else x) → ch_G l E M Xt R Z k n h hi (pc + 3) lv (.int v :: st)) : ch_G l E M Xt R Z k n h hi pc lv (.int y :: .int x :: st) := by
  intro p e s m args below meth c H locs ls X hM hS hl
  obtain ⟨hx, hb, hml, hown, hts, -, -, hname, hK, -, hN, -⟩ := id X
  exact va_mmin hx hb (hml.trans hl.1.symm) hown (hts _ hlink) (hts _ hstat) (hts _ hini) (hts _ hcode) hfr hlo hk hn hd (kk _ rfl p e s m args below meth c H locs ls X hM hS hl)
theorem gx_vret {mc ms : Nat} {Q : Option Value → ch_H → Nat → Prop} (hr : M.2.2.2 = none) (hd : decode M.2.1 pc = .ok (.return_, 1)) (hk : k ≤ mc) (hn : n ≤ ms) (hq : Q none h hi) : ch_G l E M Xt R (ch_Z E mc ms Q) k n h hi pc lv [] := by
  intro p e s m args below meth c H locs ls X hM hS hl
  obtain ⟨hx, hb, -, hown, hts, hrt, hlocks, -, hK, -, hN, -⟩ := X
  refine W.widen hk hn ?_
  exact W.vret hx hb (hrt.trans hr) (fun t ht hW => ⟨⟨_, h, hi, rfl, hq, by rw [ht]; exact hM⟩, hS.F ht⟩) hS.2.2 hd hlocks
theorem gx_iret {mc ms : Nat} {Q : Option Value → ch_H → Nat → Prop} {v : Int32} (hr : M.2.2.2 = some .int) (hd : decode M.2.1 pc = .ok (.ireturn, 1)) (hk : k ≤ mc) (hn : n ≤ ms) (hq : Q (some (.int v)) h hi) : ch_G l E M Xt R (ch_Z E mc ms Q) k n h hi pc lv [.int v] := by
  intro p e s m args below meth c H locs ls X hM hS hl
  obtain ⟨hx, hb, -, hown, hts, hrt, hlocks, -, hK, -, hN, -⟩ := X
  refine W.widen hk hn ?_
  exact W.iret hx hb (hrt.trans hr) (fun t ht hW => ⟨⟨_, h, hi, rfl, hq, by rw [ht]; exact hM⟩, hS.F ht⟩) hS.2.2 hd hlocks
theorem gx_zret {mc ms : Nat} {Q : Option Value → ch_H → Nat → Prop} {v : Int32} (hr : M.2.2.2 = some .boolean) (hv : narrow .boolean (.int v) = .int v) (hd : decode M.2.1 pc = .ok (.ireturn, 1)) (hk : k ≤ mc) (hn : n ≤ ms) (hq : Q (some (.int v)) h hi) : ch_G l E M Xt R (ch_Z E mc ms Q) k n h hi pc lv [.int v] := by
  intro p e s m args below meth c H locs ls X hM hS hl
  obtain ⟨hx, hb, -, hown, hts, hrt, hlocks, -, hK, -, hN, -⟩ := X
  refine W.widen hk hn ?_
  exact W.zret hx hb (hrt.trans hr) hv (fun t ht hW => ⟨⟨_, h, hi, rfl, hq, by rw [ht]; exact hM⟩, hS.F ht⟩) hS.2.2 hd hlocks
theorem gx_lret {mc ms : Nat} {Q : Option Value → ch_H → Nat → Prop} {v : Int64} (hr : M.2.2.2 = some .long) (hd : decode M.2.1 pc = .ok (.lreturn, 1)) (hk : k ≤ mc) (hn : n ≤ ms) (hq : Q (some (.long v)) h hi) : ch_G l E M Xt R (ch_Z E mc ms Q) k n h hi pc lv [.long v] := by
  intro p e s m args below meth c H locs ls X hM hS hl
  obtain ⟨hx, hb, -, hown, hts, hrt, hlocks, -, hK, -, hN, -⟩ := X
  refine W.widen hk hn ?_
  exact W.lret hx hb (hrt.trans hr) (fun t ht hW => ⟨⟨_, h, hi, rfl, hq, by rw [ht]; exact hM⟩, hS.F ht⟩) hS.2.2 hd hlocks
theorem gx_aret {mc ms : Nat} {Q : Option Value → ch_H → Nat → Prop} {v : Value} {rt : FieldType} (hr : M.2.2.2 = some rt) (hrt0 : (∃ n, rt = .object n) ∨ ∃ t, rt = .array t) (hv : v = .null ∨ ∃ a, v = .ref a) (hd : decode M.2.1 pc = .ok (.areturn, 1)) (hk : k ≤ mc) (hn : n ≤ ms) (hq : Q (some v) h hi) : ch_G l E M Xt R (ch_Z E mc ms Q) k n h hi pc lv [v] := by
  intro p e s m args below meth c H locs ls X hM hS hl
  obtain ⟨hx, hb, -, hown, hts, hrt, hlocks, -, hK, -, hN, -⟩ := X
  refine W.widen hk hn ?_
  exact W.aret hx hb (hrt.trans hr) hrt0 hv (fun t ht hW => ⟨⟨_, h, hi, rfl, hq, by rw [ht]; exact hM⟩, hS.F ht⟩) hS.2.2 hd hlocks
theorem ch_C.of {rm : Room} {As : List Value} {Q : Option Value → ch_H → Nat → Prop} (hy : plainName M.1.cls = true) (hlen : (lg_sl As).length ≤ M.2.2.1) (body : ch_G l E M ch_T rm (ch_Z E rm.cells rm.slots Q) 0 0 h hi 0 (lv_args 0 As) []) : ch_C l E M rm As h hi Q := by
  refine Met.ofW (cc := M.2.1) (maxL := M.2.2.1) (ret := M.2.2.2) hy rfl ?_
  intro p e s m args below meth c s₁ B hml hv
  obtain ⟨rfl, hM, hK, hN⟩ := hv
  have hts := atoms_spec (ws := ch_ws M) B.pre
  have hl := lv_entry As (n := M.2.2.1) hlen
  rw [lg_entry_eq]
  exact body p e s m _ below meth c s.heap [] _ ⟨B.exec, B.bytes, hml, findClass_of_methodNamed B.named, fun w hw => hts w (List.mem_cons_of_mem _ hw), B.returns, B.notSynchronized, (name_of_methodNamed B.named B.method).1, hK, by rw [hM.1]; exact hM.2.1, hN, trivial⟩ hM va_S.rf hl
theorem gx_run {mc ms : Nat} {a0 : Array Value} {rest : List Value} {Q : Option Value → ch_H → Nat → Prop} (hrun : ∀ (p : Program) (e : Env) (s : State) (m : MethodId) (args : Array Value) (below : List Frame) (meth : Method) (c : Code) (H : Heap) (locs : List Loc) (ls : Array Slot), ch_X E M Xt p s m args meth c → ch_M E h hi H → lv_has ls M.2.2.1 lv → va_Run p l e R s m args below meth c H locs k n mc ms (F0 m pc ls st) rest (ch_Qc E Q a0) (fun q : Nat => E.2.2 ≤ q)) (kk : ∀ (r : Option Value) (h' : ch_H) (hi' : Nat), Q r h' hi' → hi ≤ hi' → ch_G l E M Xt R Z (k + mc) (n + ms) h' hi' (pc + 3) lv (r.toList ++ rest)) : ch_G l E M Xt R Z k n h hi pc lv st := by
  intro p e s m args below meth c H locs ls X hM hS hl
  intro T hT Xs
  obtain ⟨v, st₀, t, T', L, h0, X', hL, e1, e2, ⟨⟨r, h', hi', hv, hq, hM'⟩, hz, hkp⟩, stp⟩ := hrun p e s m args below meth c H locs ls X hM hl T hT Xs
  cases hv
  rw [h0] at hz hkp
  have hlo := hM.2.1
  have hsz := hM.1
  obtain ⟨t2, a1, b1⟩ := kk v h' hi' hq (by rw [← hM.1, ← hM'.1]; exact hz) p e s m args below meth c T'.heap (locs ++ L) ls X (by rw [e1]; exact hM')
    ⟨Nat.le_trans hS.1 (by rw [e1]; exact hz), fun q h1 h2 => by rw [e1, hkp q (Nat.lt_of_lt_of_le h1 hS.1) h2]; exact hS.2.1 q h1 h2, fun q hq => by
      rcases List.mem_append.mp hq with h | h
      · exact hS.2.2 q h
      · exact hL q h⟩ hl T' rfl X'
  exact ⟨t2, stp t2 a1, b1⟩
theorem ch_good {M2 : ch_D} (hc : Cond.code M2.1 M2.2.1 M2.2.2.1 M2.2.2.2 ∈ ch_tb) : GoodIn ch_tb (ch_ws M2) := by
  intro w hw
  rcases List.mem_cons.mp hw with rfl | hw
  · exact ⟨hc, ch_tbG _ hc⟩
  · exact ⟨hw, ch_tbG _ hw⟩
theorem ch_blind {As : List Value} {h : ch_H} {hi : Nat} {E : ch_E} : FrameBlind (va_Pc As (fun U => ch_M E h hi U.heap ∧ va_K E.1 vwCl E.2.1 U ∧ ch_N U)) := by
  intro a U g mk q
  obtain ⟨q0, qM, qK, qN⟩ := q
  exact ⟨q0, qM, va_K.moved (u := U) (U := U.calling g mk a) (Vm.Alike.refl U.vm) qK, ch_N.same rfl qN⟩

theorem gx_callS {M2 : ch_D} {rm : Room} {idx na : Nat} {As rest : List Value} {Q : Option Value → ch_H → Nat → Prop} (C0 : ch_C l E M2 rm As h hi Q) (ok : ch_ok M2 na) (hlink : Cond.methodLink M.1.cls idx M2.1 ∈ ch_tb) (hstat : Cond.static M2.1 ∈ ch_tb) (hd : decode M.2.1 pc = .ok (.invokestatic idx, 3)) (hna : As.length = na) (hst : st = As.reverse ++ rest) (hcat : (rest.map fun v => v.category).sum ≤ 8) (hfr : rm.frames + 1 ≤ R.frames) (hlo : 8 + (M2.2.2.1 + 11) + rm.locals ≤ R.locals) (hk : k + rm.cells ≤ R.cells) (hn : n + rm.slots ≤ R.slots) (kk : ∀ (r : Option Value) (h' : ch_H) (hi' : Nat), Q r h' hi' → hi ≤ hi' → ch_G l E M Xt R Z (k + rm.cells) (n + rm.slots) h' hi' (pc + 3) lv (r.toList ++ rest)) : ch_G l E M Xt R Z k n h hi pc lv st := by
  refine gx_run (a0 := As.toArray) (fun p e s m args below meth c H locs ls X hM hl => ?_) kk
  obtain ⟨hx, hb, hml, hown, hts, -, -, -, hK, -, hN, -⟩ := X
  exact va_runS ⟨hx, hb, hml, hown, hts⟩ C0 ⟨callB_of na hts (ch_good ok.1) rfl rfl rfl (hts _ ok.2.1) (hts _ hlink) ⟨ok.2.2.1.1, ok.2.2.1.2, ok.2.2.2⟩ ⟨hfr, hlo⟩, hts _ hstat⟩ ⟨ch_blind, fun U hU hW => ⟨rfl, by rw [hU]; exact hM, va_K.moved hW.alike hK, ch_N.warm hW hN⟩⟩ rfl hna hl.1 hst (lv_room hcat) hd ⟨hk, hn⟩
theorem gx_callSN {M2 : ch_D} {rm : Room} {host : String} {idx na : Nat} {As rest : List Value} {Q : Option Value → ch_H → Nat → Prop} (C0 : ch_C l E M2 rm As h hi Q) (ok : ch_ok M2 na) (hlink : ∀ U, ch_N U → va_Nw (Cond.methodLinkNest M.1.cls idx M2.1 host) U) (hstat : Cond.static M2.1 ∈ ch_tb) (hd : decode M.2.1 pc = .ok (.invokestatic idx, 3)) (hna : As.length = na) (hst : st = As.reverse ++ rest) (hcat : (rest.map fun v => v.category).sum ≤ 8) (hfr : rm.frames + 1 ≤ R.frames) (hlo : 8 + (M2.2.2.1 + 11) + rm.locals ≤ R.locals) (hk : k + rm.cells ≤ R.cells) (hn : n + rm.slots ≤ R.slots) (kk : ∀ (r : Option Value) (h' : ch_H) (hi' : Nat), Q r h' hi' → hi ≤ hi' → ch_G l E M Xt R Z (k + rm.cells) (n + rm.slots) h' hi' (pc + 3) lv (r.toList ++ rest)) : ch_G l E M Xt R Z k n h hi pc lv st := by
  refine gx_run (a0 := As.toArray) (fun p e s m args below meth c H locs ls X hM hl => ?_) kk
  obtain ⟨hx, hb, hml, hown, hts, -, -, -, hK, -, hN, -⟩ := X
  exact va_runSN ⟨hx, hb, hml, hown, hts⟩ C0 ⟨va_cnB na hts (ch_good ok.1) rfl rfl rfl (hlink s hN) (hts _ ok.2.1) ⟨ok.2.2.1.1, ok.2.2.1.2, ok.2.2.2⟩ ⟨hfr, hlo⟩, hts _ hstat, trivial⟩ ⟨ch_blind, fun U hU hW => ⟨rfl, by rw [hU]; exact hM, va_K.moved hW.alike hK, ch_N.warm hW hN⟩⟩ rfl hna hl.1 hst (lv_room hcat) hd ⟨hk, hn⟩
theorem gx_callV {M2 : ch_D} {rm : Room} {idx na b ci : Nat} {fs : List Value} {r : vw_C} {As rest : List Value} {Q : Option Value → ch_H → Nat → Prop} (C0 : ch_C l E M2 rm (.ref b :: As) h hi Q) (ok : ch_ok M2 na) (hlink : Cond.methodLink M.1.cls idx M2.1 ∈ ch_tb) (hinst : Cond.instanceMethod M2.1 ∈ ch_tb) (hsel : Cond.selects r.1 M2.1 M2.1 ∈ ch_tb) (hd : decode M.2.1 pc = .ok (.invokevirtual idx, 3)) (hc : vwCl[ci]? = some r) (hb0 : h b = some (.inr (ci, fs))) (hna : As.length = na) (hst : st = As.reverse ++ .ref b :: rest) (hcat : (rest.map fun v => v.category).sum ≤ 8) (hfr : rm.frames + 1 ≤ R.frames) (hlo : 8 + (M2.2.2.1 + 11) + rm.locals ≤ R.locals) (hk : k + rm.cells ≤ R.cells) (hn : n + rm.slots ≤ R.slots) (kk : ∀ (r : Option Value) (h' : ch_H) (hi' : Nat), Q r h' hi' → hi ≤ hi' → ch_G l E M Xt R Z (k + rm.cells) (n + rm.slots) h' hi' (pc + 3) lv (r.toList ++ rest)) : ch_G l E M Xt R Z k n h hi pc lv st := by
  refine gx_run (a0 := (Value.ref b :: As).toArray) (fun p e s m args below meth c H locs ls X hM hl => ?_) kk
  obtain ⟨hx, hb, hml, hown, hts, -, -, -, hK, -, hN, -⟩ := X
  exact va_runV (C := r.1) ⟨hx, hb, hml, hown, hts⟩ C0 ⟨callB_of na hts (ch_good ok.1) rfl rfl rfl (hts _ ok.2.1) (hts _ hlink) ⟨ok.2.2.1.1, ok.2.2.1.2, ok.2.2.2⟩ ⟨hfr, hlo⟩, hts _ hinst, hts _ hsel⟩ ⟨ch_blind, va_recv hK (ch_one hM hb0) hc (q0 := 0) rfl, fun U hU hW => ⟨rfl, by rw [hU]; exact hM, va_K.moved hW.alike hK, ch_N.warm hW hN⟩⟩ rfl hna hl.1 hst (lv_room hcat) hd ⟨hk, hn⟩
theorem gx_callI {M2 : ch_D} {rm : Room} {idx na b : Nat} {As rest : List Value} {Q : Option Value → ch_H → Nat → Prop} (C0 : ch_C l E M2 rm (.ref b :: As) h hi Q) (ok : ch_ok M2 na) (hlink : Cond.methodLink M.1.cls idx M2.1 ∈ ch_tb) (hinst : Cond.instanceMethod M2.1 ∈ ch_tb) (hini : M2.1.name = "<init>") (hvoid : M2.2.2.2 = none) (hd : decode M.2.1 pc = .ok (.invokespecial idx, 3)) (hna : As.length = na) (hst : st = As.reverse ++ .ref b :: rest) (hcat : (rest.map fun v => v.category).sum ≤ 8) (hfr : rm.frames + 1 ≤ R.frames) (hlo : 8 + (M2.2.2.1 + 11) + rm.locals ≤ R.locals) (hk : k + rm.cells ≤ R.cells) (hn : n + rm.slots ≤ R.slots) (kk : ∀ (r : Option Value) (h' : ch_H) (hi' : Nat), Q r h' hi' → hi ≤ hi' → ch_G l E M Xt R Z (k + rm.cells) (n + rm.slots) h' hi' (pc + 3) lv (r.toList ++ rest)) : ch_G l E M Xt R Z k n h hi pc lv st := by
  refine gx_run (a0 := (Value.ref b :: As).toArray) (fun p e s m args below meth c H locs ls X hM hl => ?_) kk
  obtain ⟨hx, hb, hml, hown, hts, -, -, -, hK, -, hN, -⟩ := X
  have hB : CallB R s args M.1.cls idx M2.1 M2.2.1 M2.2.2.1 none (ch_ws M2) rm rm.cells rm.slots na := callB_of na hts (ch_good ok.1) (by unfold ch_ws; rw [hvoid]) rfl rfl (hts _ ok.2.1) (hts _ hlink) ⟨ok.2.2.1.1, ok.2.2.1.2, ok.2.2.2⟩ ⟨hfr, hlo⟩
  exact va_runI ⟨hx, hb, hml, hown, hts⟩ C0 ⟨hB, hini, hts _ hinst⟩ ⟨ch_blind, fun U hU hW => ⟨rfl, by rw [hU]; exact hM, va_K.moved hW.alike hK, ch_N.warm hW hN⟩⟩ rfl hna hl.1 hst (lv_room hcat) hd ⟨hk, hn⟩
theorem gx_callA {M2 : ch_D} {x : MethodName} {rm : Room} {idx na b ci : Nat} {fs : List Value} {r : vw_C} {As rest : List Value} {Q : Option Value → ch_H → Nat → Prop} (C0 : ch_C l E M2 rm (.ref b :: As) h hi Q) (ok : ch_ok M2 na) (hlink : Cond.methodLink M.1.cls idx x ∈ ch_tb) (hsame : Cond.sameMethod x.cls x.cls x.name x.desc ∈ ch_tb) (hdecl : ∀ U, ch_N U → va_Nw (Cond.declares x) U) (hinst : Cond.instanceMethod M2.1 ∈ ch_tb) (hsel : Cond.selects r.1 x M2.1 ∈ ch_tb) (hx1 : x.cls ≠ "java/lang/invoke/MethodHandle" ∧ x.cls ≠ "java/lang/invoke/VarHandle" ∧ (parseMethodDescriptor x.desc).map (fun d => d.parameters.length) = some na) (hd : decode M.2.1 pc = .ok (.invokevirtual idx, 3)) (hc : vwCl[ci]? = some r) (hb0 : h b = some (.inr (ci, fs))) (hna : As.length = na) (hst : st = As.reverse ++ .ref b :: rest) (hcat : (rest.map fun v => v.category).sum ≤ 8) (hfr : rm.frames + 1 ≤ R.frames) (hlo : 8 + (M2.2.2.1 + 11) + rm.locals ≤ R.locals) (hk : k + rm.cells ≤ R.cells) (hn : n + rm.slots ≤ R.slots) (kk : ∀ (r : Option Value) (h' : ch_H) (hi' : Nat), Q r h' hi' → hi ≤ hi' → ch_G l E M Xt R Z (k + rm.cells) (n + rm.slots) h' hi' (pc + 3) lv (r.toList ++ rest)) : ch_G l E M Xt R Z k n h hi pc lv st := by
  refine gx_run (a0 := (Value.ref b :: As).toArray) (fun p e s m args below meth c H locs ls X hM hl => ?_) kk
  obtain ⟨hx, hb, hml, hown, hts, -, -, -, hK, -, hN, -⟩ := X
  have hG : GoodIn ch_tb (va_wsU M.1.cls idx r.1 x.cls x M2.1 (ch_ws M2)) := by
    intro w hw
    rcases List.mem_append.mp hw with hw | hw
    · have hm : w ∈ ch_tb := by
        simp only [List.mem_cons, List.not_mem_nil, or_false] at hw
        rcases hw with rfl | rfl | rfl | rfl | rfl
        · exact hlink
        · exact hsame
        · exact hsel
        · exact hinst
        · exact ok.2.1
      exact ⟨hm, ch_tbG _ hm⟩
    · exact ch_good ok.1 w hw
  exact va_runU (C := r.1) (owner := x.cls) ⟨hx, hb, hml, hown, hts⟩ C0 (va_cwA na hts hG rfl rfl rfl (hdecl s hN) hx1 ⟨hfr, hlo⟩) ⟨ch_blind, va_recv hK (ch_one hM hb0) hc (q0 := 0) rfl, fun U hU hW => ⟨rfl, by rw [hU]; exact hM, va_K.moved hW.alike hK, ch_N.warm hW hN⟩⟩ rfl hna hl.1 hst (lv_room hcat) hd ⟨hk, hn⟩
end CORE
end
section
/-! machine numbers by whole numbers: iI z, lI z -/
def iI (z : Int) : Int32 := Int32.ofInt z
def lI (z : Int) : Int64 := Int64.ofInt z
abbrev ir (z : Int) : Prop := -2147483648 ≤ z ∧ z ≤ 2147483647
abbrev lr (z : Int) : Prop := -9223372036854775808 ≤ z ∧ z ≤ 9223372036854775807
def bI (b : Bool) : Int := if b = true then 1 else 0
theorem iI_add (a b : Int) : iI a + iI b = iI (a + b) := (Int32.ofInt_add a b).symm
theorem iI_sub (a b : Int) : iI a - iI b = iI (a - b) := (Int32.ofInt_sub a b).symm
theorem iI_mul (a b : Int) : iI a * iI b = iI (a * b) := (Int32.ofInt_mul a b).symm
theorem iI_neg (a : Int) : -iI a = iI (-a) := (Int32.ofInt_neg a).symm
theorem lI_add (a b : Int) : lI a + lI b = lI (a + b) := (Int64.ofInt_add a b).symm
theorem lI_sub (a b : Int) : lI a - lI b = lI (a - b) := (Int64.ofInt_sub a b).symm
theorem lI_mul (a b : Int) : lI a * lI b = lI (a * b) := (Int64.ofInt_mul a b).symm
theorem lI_neg (a : Int) : -lI a = lI (-a) := (Int64.ofInt_neg a).symm
theorem iI_toInt {a : Int} (h : ir a) : (iI a).toInt = a := Int32.toInt_ofInt_of_le (by have := h.1; omega) (by have := h.2; omega)
theorem lI_toInt {a : Int} (h : lr a) : (lI a).toInt = a := Int64.toInt_ofInt_of_le (by have := h.1; omega) (by have := h.2; omega)
theorem iI_le {a b : Int} (ha : ir a) (hb : ir b) : iI a ≤ iI b ↔ a ≤ b := by rw [Int32.le_iff_toInt_le, iI_toInt ha, iI_toInt hb]
theorem iI_lt {a b : Int} (ha : ir a) (hb : ir b) : iI a < iI b ↔ a < b := by rw [Int32.lt_iff_toInt_lt, iI_toInt ha, iI_toInt hb]
theorem iI_eq {a b : Int} (ha : ir a) (hb : ir b) : iI a = iI b ↔ a = b := by rw [← Int32.toInt_inj, iI_toInt ha, iI_toInt hb]
theorem lI_le {a b : Int} (ha : lr a) (hb : lr b) : lI a ≤ lI b ↔ a ≤ b := by rw [Int64.le_iff_toInt_le, lI_toInt ha, lI_toInt hb]
theorem lI_lt {a b : Int} (ha : lr a) (hb : lr b) : lI a < lI b ↔ a < b := by rw [Int64.lt_iff_toInt_lt, lI_toInt ha, lI_toInt hb]
theorem lI_eq {a b : Int} (ha : lr a) (hb : lr b) : lI a = lI b ↔ a = b := by rw [← Int64.toInt_inj, lI_toInt ha, lI_toInt hb]
theorem iI_of (x : Int32) : ∃ z, ir z ∧ x = iI z := ⟨x.toInt, ⟨by have := x.le_toInt; omega, by have := x.toInt_lt; omega⟩, (Int32.ofInt_toInt x).symm⟩
theorem iI_clamp {a : Int} (h : ir a) : (iI a).toNatClampNeg = a.toNat := by
  unfold Int32.toNatClampNeg
  rw [iI_toInt h]
theorem iI_in {a : Int} {N : Nat} (h0 : 0 ≤ a) (h1 : a < N) (hN : N < 2 ^ 31) : vp_in (iI a) N := by
  rw [vp_in_iff, iI_toInt ⟨by omega, by omega⟩]
  omega
theorem iI_i2l {a : Int} (h : ir a) : (iI a).toInt64 = lI a := by
  apply Int64.toInt_inj.mp
  rw [Int32.toInt_toInt64, iI_toInt h, lI_toInt ⟨by have := h.1; omega, by have := h.2; omega⟩]
theorem lI_l2i (a : Int) : (lI a).toInt32 = iI a := Int64.toInt32_ofInt
theorem iI_0 : (0 : Int32) = iI 0 := rfl
theorem iI_bI {b : Bool} : narrow .boolean (.int (iI (bI b))) = .int (iI (bI b)) := by cases b <;> rfl
theorem ir_bI {b : Bool} : ir (bI b) := by cases b <;> decide
theorem iI_div {a d : Int} (ha : ir a) (hd : ir d) (h0 : 0 ≤ a) (h1 : 0 < d) : iI a / iI d = iI (a / d) := by
  apply Int32.toInt_inj.mp
  have h2 : a / d ≤ a := Int.ediv_le_self d h0
  have h3 : 0 ≤ a / d := Int.ediv_nonneg h0 (Int.le_of_lt h1)
  rw [Int32.toInt_div_of_ne_right _ _ (fun q => by have := congrArg Int32.toInt q; rw [iI_toInt hd] at this; have h9 : (-1 : Int32).toInt = -1 := by decide
                                                   rw [h9] at this; omega), iI_toInt ha, iI_toInt hd, iI_toInt ⟨by omega, by have := ha.2; omega⟩]
  exact Int.tdiv_eq_ediv_of_nonneg h0
theorem lI_tdiv {a d : Int} (ha : lr a) (ha2 : -9000000000000000000 ≤ a ∧ a ≤ 9000000000000000000) (hd : lr d) (h1 : 0 < d) : lI a / lI d = lI (a.tdiv d) := by
  apply Int64.toInt_inj.mp
  have hb : lr (a.tdiv d) := by
    have h3 := Int.natAbs_tdiv_le_natAbs a d
    constructor <;> omega
  rw [Int64.toInt_div_of_ne_right _ _ (fun q => by have := congrArg Int64.toInt q; rw [lI_toInt hd] at this; have h9 : (-1 : Int64).toInt = -1 := by decide
                                                   rw [h9] at this; omega), lI_toInt ha, lI_toInt hd, lI_toInt hb]
/-- cells -/
abbrev aI (cI : ClassId) (N : Nat) (f : Nat → Int) : va_E := .inl (cI, N, .inl (fun j => iI (f j)))
abbrev aL (cL : ClassId) (N : Nat) (f : Nat → Int) : va_E := .inl (cL, N, .inr (.inl (fun j => lI (f j))))
abbrev aR (cR : ClassId) (N : Nat) (g : Nat → Option Nat) : va_E := .inl (cR, N, .inr (.inr (.inr (.inr g))))
abbrev oB (ci : Nat) (fs : List Value) : va_E := .inr (ci, fs)
def updI (f : Nat → Int) (k : Nat) (x : Int) : Nat → Int := fun j => if j = k then x else f j
theorem updI_s {f : Nat → Int} {k : Nat} {x : Int} : updI f k x k = x := if_pos rfl
theorem updI_n {f : Nat → Int} {k j : Nat} {x : Int} (h : j ≠ k) : updI f k x j = f j := if_neg h
theorem updI_pre {ff fg : Nat → Int} {z : Int} (h : ∀ j : Nat, (j : Int) < z → ff j = fg j) (h0 : 0 ≤ z) : ∀ j : Nat, (j : Int) < z + 1 → updI ff z.toNat (fg z.toNat) j = fg j := by
  intro j hj
  by_cases q : j = z.toNat
  · rw [q, updI_s]
  · rw [updI_n q]; exact h j (by omega)
theorem upd_iI (f : Nat → Int) (k : Nat) (x : Int) : upd (fun j => iI (f j)) k (iI x) = fun j => iI (updI f k x j) := by
  funext j
  by_cases h : j = k
  · simp [upd, updI, h]
  · simp [upd, updI, h]
theorem upd_lI (f : Nat → Int) (k : Nat) (x : Int) : vp_updL (fun j => lI (f j)) k (lI x) = fun j => lI (updI f k x j) := by
  funext j
  by_cases h : j = k
  · simp [vp_updL, updI, h]
  · simp [vp_updL, updI, h]
abbrev eE (D : va_G) (cI cL cR : ClassId) (lo : Nat) : ch_E := (D, [(cI, .int), (cL, .long), (cR, .object "SpanSolids$Solid")], lo)
abbrev rM (d c s : Nat) : Room := { frames := d, cells := c, slots := s, locals := 60 * d }
theorem ch_ne {h : ch_H} {a b : Nat} {e e' : va_E} (ha : h a = some e) (hb : h b = some e') (q : e ≠ e') : a ≠ b := fun z => q (by rw [z, hb] at ha; exact (Option.some.inj ha).symm)
/-- what isn't in L stays -/
def ch_fr (L : List Nat) (h h' : ch_H) : Prop := ∀ b, b ∉ L → h' b = h b
theorem ch_fr0 {L : List Nat} {h : ch_H} : ch_fr L h h := fun _ _ => rfl
theorem ch_frS {L : List Nat} {h h' : ch_H} {a : Nat} {e : va_E} (H : ch_fr L h h') (ha : a ∈ L) : ch_fr L h (ch_set h' a e) := fun b hb => by rw [ch_set_ne (fun q => hb (by rw [q]; exact ha))]; exact H b hb
theorem ch_frT {L L' : List Nat} {h h' h'' : ch_H} (H : ch_fr L h h') (H' : ch_fr L' h' h'') (hs : ∀ a, a ∈ L' → a ∈ L) : ch_fr L h h'' := fun b hb => by rw [H' b (fun q => hb (hs b q))]; exact H b hb
theorem ch_frW {L L' : List Nat} {h h' : ch_H} (H : ch_fr L h h') (hs : ∀ a, a ∈ L → a ∈ L') : ch_fr L' h h' := fun b hb => H b (fun q => hb (hs b q))

section INTS
variable {l : Launch} {E : ch_E} {M : ch_D} {Xt : State → Array Value → Prop} {R : Room} {Z : List Frame → Array Value → State → State → Prop} {k n : Nat} {h : ch_H} {hi pc : Nat} {lv : List (Nat × Value)} {st : List Value} {D : va_G} {cI cL cR : ClassId} {lo : Nat}
theorem gy_iadd {a b : Int} (hd : decode M.2.1 pc = .ok (.iadd, 1)) (kk : ch_G l E M Xt R Z k n h hi (pc + 1) lv (.int (iI (a + b)) :: st)) : ch_G l E M Xt R Z k n h hi pc lv (.int (iI b) :: .int (iI a) :: st) := gx_iadd hd (fun v hv => by subst hv; rw [iI_add]; exact kk)
theorem gy_isub {a b : Int} (hd : decode M.2.1 pc = .ok (.isub, 1)) (kk : ch_G l E M Xt R Z k n h hi (pc + 1) lv (.int (iI (a - b)) :: st)) : ch_G l E M Xt R Z k n h hi pc lv (.int (iI b) :: .int (iI a) :: st) := gx_isub hd (fun v hv => by subst hv; rw [iI_sub]; exact kk)
theorem gy_imul {a b : Int} (hd : decode M.2.1 pc = .ok (.imul, 1)) (kk : ch_G l E M Xt R Z k n h hi (pc + 1) lv (.int (iI (a * b)) :: st)) : ch_G l E M Xt R Z k n h hi pc lv (.int (iI b) :: .int (iI a) :: st) := gx_imul hd (fun v hv => by subst hv; rw [iI_mul]; exact kk)
theorem gy_ladd {a b : Int} (hd : decode M.2.1 pc = .ok (.ladd, 1)) (kk : ch_G l E M Xt R Z k n h hi (pc + 1) lv (.long (lI (a + b)) :: st)) : ch_G l E M Xt R Z k n h hi pc lv (.long (lI b) :: .long (lI a) :: st) := gx_ladd hd (fun v hv => by subst hv; rw [lI_add]; exact kk)
theorem gy_lsub {a b : Int} (hd : decode M.2.1 pc = .ok (.lsub, 1)) (kk : ch_G l E M Xt R Z k n h hi (pc + 1) lv (.long (lI (a - b)) :: st)) : ch_G l E M Xt R Z k n h hi pc lv (.long (lI b) :: .long (lI a) :: st) := gx_lsub hd (fun v hv => by subst hv; rw [lI_sub]; exact kk)
theorem gy_lmul {a b : Int} (hd : decode M.2.1 pc = .ok (.lmul, 1)) (kk : ch_G l E M Xt R Z k n h hi (pc + 1) lv (.long (lI (a * b)) :: st)) : ch_G l E M Xt R Z k n h hi pc lv (.long (lI b) :: .long (lI a) :: st) := gx_lmul hd (fun v hv => by subst hv; rw [lI_mul]; exact kk)
theorem gy_ineg {a : Int} (hd : decode M.2.1 pc = .ok (.ineg, 1)) (kk : ch_G l E M Xt R Z k n h hi (pc + 1) lv (.int (iI (-a)) :: st)) : ch_G l E M Xt R Z k n h hi pc lv (.int (iI a) :: st) := gx_ineg hd (fun v hv => by subst hv; rw [iI_neg]; exact kk)
theorem gy_lneg {a : Int} (hd : decode M.2.1 pc = .ok (.lneg, 1)) (kk : ch_G l E M Xt R Z k n h hi (pc + 1) lv (.long (lI (-a)) :: st)) : ch_G l E M Xt R Z k n h hi pc lv (.long (lI a) :: st) := gx_lneg hd (fun v hv => by subst hv; rw [lI_neg]; exact kk)
theorem gy_idiv {a d : Int} (hd : decode M.2.1 pc = .ok (.idiv, 1)) (ha : ir a) (hq : ir d) (h0 : 0 ≤ a) (h1 : 0 < d) (kk : ch_G l E M Xt R Z k n h hi (pc + 1) lv (.int (iI (a / d)) :: st)) : ch_G l E M Xt R Z k n h hi pc lv (.int (iI d) :: .int (iI a) :: st) := gx_idiv hd (fun q => by rw [iI_0, iI_eq hq (by decide)] at q; omega) (fun v hv => by subst hv; rw [iI_div ha hq h0 h1]; exact kk)
theorem gy_irem {a d : Int} (hd : decode M.2.1 pc = .ok (.irem, 1)) (ha : ir a) (hq : ir d) (h0 : 0 ≤ a) (h1 : 0 < d) (kk : ch_G l E M Xt R Z k n h hi (pc + 1) lv (.int (iI (a % d)) :: st)) : ch_G l E M Xt R Z k n h hi pc lv (.int (iI d) :: .int (iI a) :: st) := gx_irem hd (fun q => by rw [iI_0, iI_eq hq (by decide)] at q; omega) (fun v hv => by subst hv; rw [iI_div ha hq h0 h1, iI_mul, iI_sub, Int.mul_comm, ← Int.emod_def]; exact kk)
theorem gy_ldiv {a d : Int} (hd : decode M.2.1 pc = .ok (.ldiv, 1)) (ha : lr a) (ha2 : -9000000000000000000 ≤ a ∧ a ≤ 9000000000000000000) (hq : lr d) (h1 : 0 < d) (kk : ch_G l E M Xt R Z k n h hi (pc + 1) lv (.long (lI (a.tdiv d)) :: st)) : ch_G l E M Xt R Z k n h hi pc lv (.long (lI d) :: .long (lI a) :: st) := gx_ldiv hd (fun q => by rw [show (0 : Int64) = lI 0 from rfl, lI_eq hq (by decide)] at q; omega) (fun v hv => by subst hv; rw [lI_tdiv ha ha2 hq h1]; exact kk)
theorem gy_lrem {a d : Int} (hd : decode M.2.1 pc = .ok (.lrem, 1)) (ha : lr a) (ha2 : -9000000000000000000 ≤ a ∧ a ≤ 9000000000000000000) (hq : lr d) (h1 : 0 < d) (kk : ch_G l E M Xt R Z k n h hi (pc + 1) lv (.long (lI (a - a.tdiv d * d)) :: st)) : ch_G l E M Xt R Z k n h hi pc lv (.long (lI d) :: .long (lI a) :: st) := gx_lrem hd (fun q => by rw [show (0 : Int64) = lI 0 from rfl, lI_eq hq (by decide)] at q; omega) (fun v hv => by subst hv; rw [lI_tdiv ha ha2 hq h1, lI_mul, lI_sub]; exact kk)
theorem gy_i2l {a : Int} (hd : decode M.2.1 pc = .ok (.i2l, 1)) (ha : ir a) (kk : ch_G l E M Xt R Z k n h hi (pc + 1) lv (.long (lI a) :: st)) : ch_G l E M Xt R Z k n h hi pc lv (.int (iI a) :: st) := gx_i2l hd (fun v hv => by subst hv; rw [iI_i2l ha]; exact kk)
theorem gy_l2i {a : Int} (hd : decode M.2.1 pc = .ok (.l2i, 1)) (kk : ch_G l E M Xt R Z k n h hi (pc + 1) lv (.int (iI a) :: st)) : ch_G l E M Xt R Z k n h hi pc lv (.long (lI a) :: st) := gx_l2i hd (fun v hv => by subst hv; rw [lI_l2i]; exact kk)
theorem gy_iinc {i : Nat} {z a : Int} (j : Nat) (lv' : List (Nat × Value)) (hd : decode M.2.1 pc = .ok (.iinc i z, 3)) (hj : lv[j]? = some (i, .int (iI a))) (hn : i < M.2.2.1) (hv : (i, Value.int (iI (a + z))) :: lv.filter (fun q => !(q.1 == i) && !(q.1 + 1 == i && q.2.category == 2)) = lv') (kk : ch_G l E M Xt R Z k n h hi (pc + 3) lv' st) : ch_G l E M Xt R Z k n h hi pc lv st := gx_iinc j (fun v => (i, Value.int v) :: lv.filter (fun q => !(q.1 == i) && !(q.1 + 1 == i && q.2.category == 2))) hd hj hn (fun _ => rfl) (fun v hv2 => by have e : v = iI (a + z) := hv2.trans (iI_add a z); subst e; rw [hv]; exact kk)
theorem gy_if_eq {a : Int} {off : Int} (tgt : Nat) (hd : decode M.2.1 pc = .ok (.ifCond .eq off, 3)) (ht : (pc : Int) + off = (tgt : Int)) (ha : ir a) (kt : a = 0 → ch_G l E M Xt R Z k n h hi tgt lv st) (kf : a ≠ 0 → ch_G l E M Xt R Z k n h hi (pc + 3) lv st) : ch_G l E M Xt R Z k n h hi pc lv (.int (iI a) :: st) := gx_if_eq tgt hd ht (fun q => kt (by have q2 := q; simp only [iI_0, iI_eq ha (by decide : ir 0), iI_le ha (by decide : ir 0), iI_lt ha (by decide : ir 0), iI_le (by decide : ir 0) ha, iI_lt (by decide : ir 0) ha, ne_eq] at q2; first | exact q2 | omega)) (fun q => kf (by have q2 := q; simp only [iI_0, iI_eq ha (by decide : ir 0), iI_le ha (by decide : ir 0), iI_lt ha (by decide : ir 0), iI_le (by decide : ir 0) ha, iI_lt (by decide : ir 0) ha, ne_eq] at q2; first | exact q2 | omega))
theorem gy_icmp_eq {a b : Int} {off : Int} (tgt : Nat) (hd : decode M.2.1 pc = .ok (.if_icmp .eq off, 3)) (ht : (pc : Int) + off = (tgt : Int)) (ha : ir a) (hb : ir b) (kt : a = b → ch_G l E M Xt R Z k n h hi tgt lv st) (kf : a ≠ b → ch_G l E M Xt R Z k n h hi (pc + 3) lv st) : ch_G l E M Xt R Z k n h hi pc lv (.int (iI b) :: .int (iI a) :: st) := gx_icmp_eq tgt hd ht (fun q => kt (by have q2 := q; simp only [iI_eq ha hb, iI_le ha hb, iI_lt ha hb, iI_le hb ha, iI_lt hb ha, ne_eq] at q2; first | exact q2 | omega)) (fun q => kf (by have q2 := q; simp only [iI_eq ha hb, iI_le ha hb, iI_lt ha hb, iI_le hb ha, iI_lt hb ha, ne_eq] at q2; first | exact q2 | omega))
theorem gy_if_ne {a : Int} {off : Int} (tgt : Nat) (hd : decode M.2.1 pc = .ok (.ifCond .ne off, 3)) (ht : (pc : Int) + off = (tgt : Int)) (ha : ir a) (kt : a ≠ 0 → ch_G l E M Xt R Z k n h hi tgt lv st) (kf : a = 0 → ch_G l E M Xt R Z k n h hi (pc + 3) lv st) : ch_G l E M Xt R Z k n h hi pc lv (.int (iI a) :: st) := gx_if_ne tgt hd ht (fun q => kt (by have q2 := q; simp only [iI_0, iI_eq ha (by decide : ir 0), iI_le ha (by decide : ir 0), iI_lt ha (by decide : ir 0), iI_le (by decide : ir 0) ha, iI_lt (by decide : ir 0) ha, ne_eq] at q2; first | exact q2 | omega)) (fun q => kf (by have q2 := q; simp only [iI_0, iI_eq ha (by decide : ir 0), iI_le ha (by decide : ir 0), iI_lt ha (by decide : ir 0), iI_le (by decide : ir 0) ha, iI_lt (by decide : ir 0) ha, ne_eq] at q2; first | exact q2 | omega))
theorem gy_icmp_ne {a b : Int} {off : Int} (tgt : Nat) (hd : decode M.2.1 pc = .ok (.if_icmp .ne off, 3)) (ht : (pc : Int) + off = (tgt : Int)) (ha : ir a) (hb : ir b) (kt : a ≠ b → ch_G l E M Xt R Z k n h hi tgt lv st) (kf : a = b → ch_G l E M Xt R Z k n h hi (pc + 3) lv st) : ch_G l E M Xt R Z k n h hi pc lv (.int (iI b) :: .int (iI a) :: st) := gx_icmp_ne tgt hd ht (fun q => kt (by have q2 := q; simp only [iI_eq ha hb, iI_le ha hb, iI_lt ha hb, iI_le hb ha, iI_lt hb ha, ne_eq] at q2; first | exact q2 | omega)) (fun q => kf (by have q2 := q; simp only [iI_eq ha hb, iI_le ha hb, iI_lt ha hb, iI_le hb ha, iI_lt hb ha, ne_eq] at q2; first | exact q2 | omega))
theorem gy_if_lt {a : Int} {off : Int} (tgt : Nat) (hd : decode M.2.1 pc = .ok (.ifCond .lt off, 3)) (ht : (pc : Int) + off = (tgt : Int)) (ha : ir a) (kt : a < 0 → ch_G l E M Xt R Z k n h hi tgt lv st) (kf : 0 ≤ a → ch_G l E M Xt R Z k n h hi (pc + 3) lv st) : ch_G l E M Xt R Z k n h hi pc lv (.int (iI a) :: st) := gx_if_lt tgt hd ht (fun q => kt (by have q2 := q; simp only [iI_0, iI_eq ha (by decide : ir 0), iI_le ha (by decide : ir 0), iI_lt ha (by decide : ir 0), iI_le (by decide : ir 0) ha, iI_lt (by decide : ir 0) ha, ne_eq] at q2; first | exact q2 | omega)) (fun q => kf (by have q2 := q; simp only [iI_0, iI_eq ha (by decide : ir 0), iI_le ha (by decide : ir 0), iI_lt ha (by decide : ir 0), iI_le (by decide : ir 0) ha, iI_lt (by decide : ir 0) ha, ne_eq] at q2; first | exact q2 | omega))
theorem gy_icmp_lt {a b : Int} {off : Int} (tgt : Nat) (hd : decode M.2.1 pc = .ok (.if_icmp .lt off, 3)) (ht : (pc : Int) + off = (tgt : Int)) (ha : ir a) (hb : ir b) (kt : a < b → ch_G l E M Xt R Z k n h hi tgt lv st) (kf : b ≤ a → ch_G l E M Xt R Z k n h hi (pc + 3) lv st) : ch_G l E M Xt R Z k n h hi pc lv (.int (iI b) :: .int (iI a) :: st) := gx_icmp_lt tgt hd ht (fun q => kt (by have q2 := q; simp only [iI_eq ha hb, iI_le ha hb, iI_lt ha hb, iI_le hb ha, iI_lt hb ha, ne_eq] at q2; first | exact q2 | omega)) (fun q => kf (by have q2 := q; simp only [iI_eq ha hb, iI_le ha hb, iI_lt ha hb, iI_le hb ha, iI_lt hb ha, ne_eq] at q2; first | exact q2 | omega))
theorem gy_if_ge {a : Int} {off : Int} (tgt : Nat) (hd : decode M.2.1 pc = .ok (.ifCond .ge off, 3)) (ht : (pc : Int) + off = (tgt : Int)) (ha : ir a) (kt : 0 ≤ a → ch_G l E M Xt R Z k n h hi tgt lv st) (kf : a < 0 → ch_G l E M Xt R Z k n h hi (pc + 3) lv st) : ch_G l E M Xt R Z k n h hi pc lv (.int (iI a) :: st) := gx_if_ge tgt hd ht (fun q => kt (by have q2 := q; simp only [iI_0, iI_eq ha (by decide : ir 0), iI_le ha (by decide : ir 0), iI_lt ha (by decide : ir 0), iI_le (by decide : ir 0) ha, iI_lt (by decide : ir 0) ha, ne_eq] at q2; first | exact q2 | omega)) (fun q => kf (by have q2 := q; simp only [iI_0, iI_eq ha (by decide : ir 0), iI_le ha (by decide : ir 0), iI_lt ha (by decide : ir 0), iI_le (by decide : ir 0) ha, iI_lt (by decide : ir 0) ha, ne_eq] at q2; first | exact q2 | omega))
theorem gy_icmp_ge {a b : Int} {off : Int} (tgt : Nat) (hd : decode M.2.1 pc = .ok (.if_icmp .ge off, 3)) (ht : (pc : Int) + off = (tgt : Int)) (ha : ir a) (hb : ir b) (kt : b ≤ a → ch_G l E M Xt R Z k n h hi tgt lv st) (kf : a < b → ch_G l E M Xt R Z k n h hi (pc + 3) lv st) : ch_G l E M Xt R Z k n h hi pc lv (.int (iI b) :: .int (iI a) :: st) := gx_icmp_ge tgt hd ht (fun q => kt (by have q2 := q; simp only [iI_eq ha hb, iI_le ha hb, iI_lt ha hb, iI_le hb ha, iI_lt hb ha, ne_eq] at q2; first | exact q2 | omega)) (fun q => kf (by have q2 := q; simp only [iI_eq ha hb, iI_le ha hb, iI_lt ha hb, iI_le hb ha, iI_lt hb ha, ne_eq] at q2; first | exact q2 | omega))
theorem gy_if_gt {a : Int} {off : Int} (tgt : Nat) (hd : decode M.2.1 pc = .ok (.ifCond .gt off, 3)) (ht : (pc : Int) + off = (tgt : Int)) (ha : ir a) (kt : 0 < a → ch_G l E M Xt R Z k n h hi tgt lv st) (kf : a ≤ 0 → ch_G l E M Xt R Z k n h hi (pc + 3) lv st) : ch_G l E M Xt R Z k n h hi pc lv (.int (iI a) :: st) := gx_if_gt tgt hd ht (fun q => kt (by have q2 := q; simp only [iI_0, iI_eq ha (by decide : ir 0), iI_le ha (by decide : ir 0), iI_lt ha (by decide : ir 0), iI_le (by decide : ir 0) ha, iI_lt (by decide : ir 0) ha, ne_eq] at q2; first | exact q2 | omega)) (fun q => kf (by have q2 := q; simp only [iI_0, iI_eq ha (by decide : ir 0), iI_le ha (by decide : ir 0), iI_lt ha (by decide : ir 0), iI_le (by decide : ir 0) ha, iI_lt (by decide : ir 0) ha, ne_eq] at q2; first | exact q2 | omega))
theorem gy_icmp_gt {a b : Int} {off : Int} (tgt : Nat) (hd : decode M.2.1 pc = .ok (.if_icmp .gt off, 3)) (ht : (pc : Int) + off = (tgt : Int)) (ha : ir a) (hb : ir b) (kt : b < a → ch_G l E M Xt R Z k n h hi tgt lv st) (kf : a ≤ b → ch_G l E M Xt R Z k n h hi (pc + 3) lv st) : ch_G l E M Xt R Z k n h hi pc lv (.int (iI b) :: .int (iI a) :: st) := gx_icmp_gt tgt hd ht (fun q => kt (by have q2 := q; simp only [iI_eq ha hb, iI_le ha hb, iI_lt ha hb, iI_le hb ha, iI_lt hb ha, ne_eq] at q2; first | exact q2 | omega)) (fun q => kf (by have q2 := q; simp only [iI_eq ha hb, iI_le ha hb, iI_lt ha hb, iI_le hb ha, iI_lt hb ha, ne_eq] at q2; first | exact q2 | omega))
theorem gy_if_le {a : Int} {off : Int} (tgt : Nat) (hd : decode M.2.1 pc = .ok (.ifCond .le off, 3)) (ht : (pc : Int) + off = (tgt : Int)) (ha : ir a) (kt : a ≤ 0 → ch_G l E M Xt R Z k n h hi tgt lv st) (kf : 0 < a → ch_G l E M Xt R Z k n h hi (pc + 3) lv st) : ch_G l E M Xt R Z k n h hi pc lv (.int (iI a) :: st) := gx_if_le tgt hd ht (fun q => kt (by have q2 := q; simp only [iI_0, iI_eq ha (by decide : ir 0), iI_le ha (by decide : ir 0), iI_lt ha (by decide : ir 0), iI_le (by decide : ir 0) ha, iI_lt (by decide : ir 0) ha, ne_eq] at q2; first | exact q2 | omega)) (fun q => kf (by have q2 := q; simp only [iI_0, iI_eq ha (by decide : ir 0), iI_le ha (by decide : ir 0), iI_lt ha (by decide : ir 0), iI_le (by decide : ir 0) ha, iI_lt (by decide : ir 0) ha, ne_eq] at q2; first | exact q2 | omega))
theorem gy_icmp_le {a b : Int} {off : Int} (tgt : Nat) (hd : decode M.2.1 pc = .ok (.if_icmp .le off, 3)) (ht : (pc : Int) + off = (tgt : Int)) (ha : ir a) (hb : ir b) (kt : a ≤ b → ch_G l E M Xt R Z k n h hi tgt lv st) (kf : b < a → ch_G l E M Xt R Z k n h hi (pc + 3) lv st) : ch_G l E M Xt R Z k n h hi pc lv (.int (iI b) :: .int (iI a) :: st) := gx_icmp_le tgt hd ht (fun q => kt (by have q2 := q; simp only [iI_eq ha hb, iI_le ha hb, iI_lt ha hb, iI_le hb ha, iI_lt hb ha, ne_eq] at q2; first | exact q2 | omega)) (fun q => kf (by have q2 := q; simp only [iI_eq ha hb, iI_le ha hb, iI_lt ha hb, iI_le hb ha, iI_lt hb ha, ne_eq] at q2; first | exact q2 | omega))
theorem lg_cmpI {a b : Int} (ha : lr a) (hb : lr b) : ∃ z : Int, ir z ∧ lg_cmp (lI a) (lI b) = iI z ∧ (z = 0 ↔ a = b) ∧ (z < 0 ↔ a < b) := by
  unfold lg_cmp
  by_cases h1 : b < a
  · refine ⟨1, by decide, ?_, by omega, by omega⟩
    rw [if_pos (show lI a > lI b from (lI_lt hb ha).mpr h1)]; rfl
  · rw [if_neg (show ¬ lI a > lI b from fun q => h1 ((lI_lt hb ha).mp q))]
    by_cases h2 : a = b
    · refine ⟨0, by decide, ?_, by omega, by omega⟩
      rw [if_pos (by rw [h2])]; rfl
    · refine ⟨-1, by decide, ?_, by omega, by omega⟩
      rw [if_neg (fun q => h2 ((lI_eq ha hb).mp q))]; rfl
theorem gy_lcmp_eq {a b : Int} {off : Int} (tgt : Nat) (hd1 : decode M.2.1 pc = .ok (.lcmp, 1)) (hd : decode M.2.1 (pc + 1) = .ok (.ifCond .eq off, 3)) (ht : ((pc + 1 : Nat) : Int) + off = (tgt : Int)) (ha : lr a) (hb : lr b) (kt : a = b → ch_G l E M Xt R Z k n h hi tgt lv st) (kf : a ≠ b → ch_G l E M Xt R Z k n h hi (pc + 4) lv st) : ch_G l E M Xt R Z k n h hi pc lv (.long (lI b) :: .long (lI a) :: st) := by
  obtain ⟨z, hz, e, h0, h1⟩ := lg_cmpI ha hb
  refine gx_lcmp hd1 ?_
  rw [e]
  exact gy_if_eq tgt hd ht hz (fun q => kt (by omega)) (fun q => kf (by omega))
theorem gy_lcmp_ne {a b : Int} {off : Int} (tgt : Nat) (hd1 : decode M.2.1 pc = .ok (.lcmp, 1)) (hd : decode M.2.1 (pc + 1) = .ok (.ifCond .ne off, 3)) (ht : ((pc + 1 : Nat) : Int) + off = (tgt : Int)) (ha : lr a) (hb : lr b) (kt : a ≠ b → ch_G l E M Xt R Z k n h hi tgt lv st) (kf : a = b → ch_G l E M Xt R Z k n h hi (pc + 4) lv st) : ch_G l E M Xt R Z k n h hi pc lv (.long (lI b) :: .long (lI a) :: st) := by
  obtain ⟨z, hz, e, h0, h1⟩ := lg_cmpI ha hb
  refine gx_lcmp hd1 ?_
  rw [e]
  exact gy_if_ne tgt hd ht hz (fun q => kt (by omega)) (fun q => kf (by omega))
theorem gy_lcmp_lt {a b : Int} {off : Int} (tgt : Nat) (hd1 : decode M.2.1 pc = .ok (.lcmp, 1)) (hd : decode M.2.1 (pc + 1) = .ok (.ifCond .lt off, 3)) (ht : ((pc + 1 : Nat) : Int) + off = (tgt : Int)) (ha : lr a) (hb : lr b) (kt : a < b → ch_G l E M Xt R Z k n h hi tgt lv st) (kf : b ≤ a → ch_G l E M Xt R Z k n h hi (pc + 4) lv st) : ch_G l E M Xt R Z k n h hi pc lv (.long (lI b) :: .long (lI a) :: st) := by
  obtain ⟨z, hz, e, h0, h1⟩ := lg_cmpI ha hb
  refine gx_lcmp hd1 ?_
  rw [e]
  exact gy_if_lt tgt hd ht hz (fun q => kt (by omega)) (fun q => kf (by omega))
theorem gy_lcmp_ge {a b : Int} {off : Int} (tgt : Nat) (hd1 : decode M.2.1 pc = .ok (.lcmp, 1)) (hd : decode M.2.1 (pc + 1) = .ok (.ifCond .ge off, 3)) (ht : ((pc + 1 : Nat) : Int) + off = (tgt : Int)) (ha : lr a) (hb : lr b) (kt : b ≤ a → ch_G l E M Xt R Z k n h hi tgt lv st) (kf : a < b → ch_G l E M Xt R Z k n h hi (pc + 4) lv st) : ch_G l E M Xt R Z k n h hi pc lv (.long (lI b) :: .long (lI a) :: st) := by
  obtain ⟨z, hz, e, h0, h1⟩ := lg_cmpI ha hb
  refine gx_lcmp hd1 ?_
  rw [e]
  exact gy_if_ge tgt hd ht hz (fun q => kt (by omega)) (fun q => kf (by omega))
theorem gy_lcmp_gt {a b : Int} {off : Int} (tgt : Nat) (hd1 : decode M.2.1 pc = .ok (.lcmp, 1)) (hd : decode M.2.1 (pc + 1) = .ok (.ifCond .gt off, 3)) (ht : ((pc + 1 : Nat) : Int) + off = (tgt : Int)) (ha : lr a) (hb : lr b) (kt : b < a → ch_G l E M Xt R Z k n h hi tgt lv st) (kf : a ≤ b → ch_G l E M Xt R Z k n h hi (pc + 4) lv st) : ch_G l E M Xt R Z k n h hi pc lv (.long (lI b) :: .long (lI a) :: st) := by
  obtain ⟨z, hz, e, h0, h1⟩ := lg_cmpI ha hb
  refine gx_lcmp hd1 ?_
  rw [e]
  exact gy_if_gt tgt hd ht hz (fun q => kt (by omega)) (fun q => kf (by omega))
theorem gy_lcmp_le {a b : Int} {off : Int} (tgt : Nat) (hd1 : decode M.2.1 pc = .ok (.lcmp, 1)) (hd : decode M.2.1 (pc + 1) = .ok (.ifCond .le off, 3)) (ht : ((pc + 1 : Nat) : Int) + off = (tgt : Int)) (ha : lr a) (hb : lr b) (kt : a ≤ b → ch_G l E M Xt R Z k n h hi tgt lv st) (kf : b < a → ch_G l E M Xt R Z k n h hi (pc + 4) lv st) : ch_G l E M Xt R Z k n h hi pc lv (.long (lI b) :: .long (lI a) :: st) := by
  obtain ⟨z, hz, e, h0, h1⟩ := lg_cmpI ha hb
  refine gx_lcmp hd1 ?_
  rw [e]
  exact gy_if_le tgt hd ht hz (fun q => kt (by omega)) (fun q => kf (by omega))
theorem gy_iald {a N : Nat} {f : Nat → Int} {z : Int} (hd : decode M.2.1 pc = .ok (.iaload, 1)) (ha : h a = some (aI cI N f)) (h0 : 0 ≤ z) (h1 : z < N) (hN : N < 2 ^ 31) (kk : ch_G l (eE D cI cL cR lo) M Xt R Z k n h hi (pc + 1) lv (.int (iI (f z.toNat)) :: st)) : ch_G l (eE D cI cL cR lo) M Xt R Z k n h hi pc lv (.int (iI z) :: .ref a :: st) := gx_iald 0 rfl hd ha (iI_in h0 h1 hN) (fun v hv => by rw [iI_clamp ⟨by omega, by omega⟩] at hv; subst hv; exact kk)
theorem gy_lald {a N : Nat} {f : Nat → Int} {z : Int} (hd : decode M.2.1 pc = .ok (.laload, 1)) (ha : h a = some (aL cL N f)) (h0 : 0 ≤ z) (h1 : z < N) (hN : N < 2 ^ 31) (kk : ch_G l (eE D cI cL cR lo) M Xt R Z k n h hi (pc + 1) lv (.long (lI (f z.toNat)) :: st)) : ch_G l (eE D cI cL cR lo) M Xt R Z k n h hi pc lv (.int (iI z) :: .ref a :: st) := gx_lald 1 rfl hd ha (iI_in h0 h1 hN) (fun v hv => by rw [iI_clamp ⟨by omega, by omega⟩] at hv; subst hv; exact kk)
theorem gy_aald {a N : Nat} {g : Nat → Option Nat} {z : Int} (hd : decode M.2.1 pc = .ok (.aaload, 1)) (ha : h a = some (aR cR N g)) (h0 : 0 ≤ z) (h1 : z < N) (hN : N < 2 ^ 31) (kk : ch_G l (eE D cI cL cR lo) M Xt R Z k n h hi (pc + 1) lv (va_rf (g z.toNat) :: st)) : ch_G l (eE D cI cL cR lo) M Xt R Z k n h hi pc lv (.int (iI z) :: .ref a :: st) := gx_aald 2 rfl hd ha (iI_in h0 h1 hN) (fun v hv => by rw [iI_clamp ⟨by omega, by omega⟩] at hv; subst hv; exact kk)
theorem gy_iast {a N : Nat} {f : Nat → Int} {z x : Int} (hd : decode M.2.1 pc = .ok (.iastore, 1)) (ha : h a = some (aI cI N f)) (h0 : 0 ≤ z) (h1 : z < N) (hN : N < 2 ^ 31) (kk : ∀ h2, h2 = ch_set h a (aI cI N (updI f z.toNat x)) → ch_G l (eE D cI cL cR lo) M Xt R Z k n h2 hi (pc + 1) lv st) : ch_G l (eE D cI cL cR lo) M Xt R Z k n h hi pc lv (.int (iI x) :: .int (iI z) :: .ref a :: st) := gx_iast 0 rfl hd ha (iI_in h0 h1 hN) (by rw [iI_clamp ⟨by omega, by omega⟩, upd_iI]; exact kk _ rfl)
theorem gy_last {a N : Nat} {f : Nat → Int} {z x : Int} (hd : decode M.2.1 pc = .ok (.lastore, 1)) (ha : h a = some (aL cL N f)) (h0 : 0 ≤ z) (h1 : z < N) (hN : N < 2 ^ 31) (kk : ∀ h2, h2 = ch_set h a (aL cL N (updI f z.toNat x)) → ch_G l (eE D cI cL cR lo) M Xt R Z k n h2 hi (pc + 1) lv st) : ch_G l (eE D cI cL cR lo) M Xt R Z k n h hi pc lv (.long (lI x) :: .int (iI z) :: .ref a :: st) := gx_last 1 rfl hd ha (iI_in h0 h1 hN) (by rw [iI_clamp ⟨by omega, by omega⟩, upd_lI]; exact kk _ rfl)
theorem gy_aast {a N v ci : Nat} {r : vw_C} {vs : List Value} {g : Nat → Option Nat} {z : Int} (hc : vwCl[ci]? = some r) (hca : ∀ U, ch_N U → va_Nw (Cond.castable r.1 "SpanSolids$Solid") U) (hd : decode M.2.1 pc = .ok (.aastore, 1)) (ha : h a = some (aR cR N g)) (hv : h v = some (.inr (ci, vs))) (h0 : 0 ≤ z) (h1 : z < N) (hN : N < 2 ^ 31) (kk : ∀ h2, h2 = ch_set h a (aR cR N (va_up g z.toNat (some v))) → ch_G l (eE D cI cL cR lo) M Xt R Z k n h2 hi (pc + 1) lv st) : ch_G l (eE D cI cL cR lo) M Xt R Z k n h hi pc lv (.ref v :: .int (iI z) :: .ref a :: st) := gx_aast 2 rfl hc hca hd ha hv (iI_in h0 h1 hN) (by rw [iI_clamp ⟨by omega, by omega⟩]; exact kk _ rfl)
theorem gy_aastN {a N : Nat} {g : Nat → Option Nat} {z : Int} (hd : decode M.2.1 pc = .ok (.aastore, 1)) (ha : h a = some (aR cR N g)) (h0 : 0 ≤ z) (h1 : z < N) (hN : N < 2 ^ 31) (kk : ∀ h2, h2 = ch_set h a (aR cR N (va_up g z.toNat none)) → ch_G l (eE D cI cL cR lo) M Xt R Z k n h2 hi (pc + 1) lv st) : ch_G l (eE D cI cL cR lo) M Xt R Z k n h hi pc lv (.null :: .int (iI z) :: .ref a :: st) := gx_aastN 2 rfl hd ha (iI_in h0 h1 hN) (by rw [iI_clamp ⟨by omega, by omega⟩]; exact kk _ rfl)
theorem gy_put {a ci idx f N : Nat} {C : String} {T : u_T} {fs fs2 : List Value} {v : Value} {ty : FieldType} (ty0 : Nat → FieldType) (hc : vwCl[ci]? = some (C, T, N)) (hin : ∀ w ∈ u_ws C T N, w ∈ ch_tb) (hty : ∀ k, k < N → parseFieldDescriptor (T k).2.2.1 = some (ty0 k)) (hnm : ∀ a, a < N → ∀ b, b < N → a ≠ b → (T a).2.1 ≠ (T b).2.1) (hf : f < N) (hlink : Cond.fieldLink M.1.cls idx (T f).1 (T f).2.1 (T f).2.2.1 ∈ ch_tb) (hfin : (T f).2.2.2 = false ∨ ((T f).2.2.2 = true ∧ M.1.name = "<init>" ∧ (T f).1 = M.1.cls)) (hde : parseFieldDescriptor (T f).2.2.1 = some ty) (hn : narrow ty v = v) (hfit : fits ty v = true) (hd : decode M.2.1 pc = .ok (.putfield idx, 3)) (ha : h a = some (.inr (ci, fs))) (hlt : f < fs.length) (hs : fs.set f v = fs2) (kk : ∀ h2, h2 = ch_set h a (.inr (ci, fs2)) → ch_G l E M Xt R Z k n h2 hi (pc + 3) lv st) : ch_G l E M Xt R Z k n h hi pc lv (v :: .ref a :: st) := gx_put ty0 hc hin hty hnm hf hlink hfin hde hn hfit hd ha hlt (by rw [hs]; exact kk _ rfl)
theorem gy_new {ci idx N : Nat} {C : String} {T : u_T} (fs : List Value) (ty0 : Nat → FieldType) (hc : vwCl[ci]? = some (C, T, N)) (hin : ∀ w ∈ u_ws C T N, w ∈ ch_tb) (hty : ∀ k, k < N → parseFieldDescriptor (T k).2.2.1 = some (ty0 k)) (hcl : Cond.classLink M.1.cls idx C ∈ ch_tb) (hinst : Cond.instantiable C N ∈ ch_tb) (hini : Cond.initialized C ∈ ch_tb) (hfs : ∀ j, j < N → defaultValue (ty0 j) = vp_V fs j) (hcells : k + 1 ≤ R.cells) (hslots : n + N ≤ R.slots) (hd : decode M.2.1 pc = .ok (.new idx, 3)) (kk : ∀ h2, h2 = ch_set h hi (.inr (ci, fs)) → ch_G l E M Xt R Z (k + 1) (n + N) h2 (hi + 1) (pc + 3) lv (.ref hi :: st)) : ch_G l E M Xt R Z k n h hi pc lv st := gx_new ty0 hc hin hty hcl hinst hini hfs hcells hslots hd (kk _ rfl)
theorem gy_newi {z : Int} (N : Nat) (harr : Cond.arrayClass .int ∈ ch_tb) (hd : decode M.2.1 pc = .ok (.newarray .int, 2)) (hz : z = (N : Int)) (hN : N < 100000) (hcells : k + 1 ≤ R.cells) (hslots : n + N ≤ R.slots) (kk : ∀ h2, h2 = ch_set h hi (aI cI N (fun _ => 0)) → ch_G l (eE D cI cL cR lo) M Xt R Z (k + 1) (n + N) h2 (hi + 1) (pc + 2) lv (.ref hi :: st)) : ch_G l (eE D cI cL cR lo) M Xt R Z k n h hi pc lv (.int (iI z) :: st) := by
  subst hz
  have hr : ir (N : Int) := ⟨by omega, by omega⟩
  exact gx_newi 0 rfl harr hd (fun q => by rw [iI_0, iI_lt hr (by decide)] at q; omega) (by rw [iI_clamp hr]; rfl) (by show N * 4 ≤ _; omega) hcells hslots (kk _ rfl)
theorem gy_newl {z : Int} (N : Nat) (harr : Cond.arrayClass .long ∈ ch_tb) (hd : decode M.2.1 pc = .ok (.newarray .long, 2)) (hz : z = (N : Int)) (hN : N < 100000) (hcells : k + 1 ≤ R.cells) (hslots : n + N ≤ R.slots) (kk : ∀ h2, h2 = ch_set h hi (aL cL N (fun _ => 0)) → ch_G l (eE D cI cL cR lo) M Xt R Z (k + 1) (n + N) h2 (hi + 1) (pc + 2) lv (.ref hi :: st)) : ch_G l (eE D cI cL cR lo) M Xt R Z k n h hi pc lv (.int (iI z) :: st) := by
  subst hz
  have hr : ir (N : Int) := ⟨by omega, by omega⟩
  exact gx_newl 1 rfl harr hd (fun q => by rw [iI_0, iI_lt hr (by decide)] at q; omega) (by rw [iI_clamp hr]; rfl) (by show N * 8 ≤ _; omega) hcells hslots (kk _ rfl)
theorem gy_anew {z : Int} {idx : Nat} (N : Nat) (hcl : Cond.classLink M.1.cls idx "SpanSolids$Solid" ∈ ch_tb) (hov : ∀ U, ch_N U → va_AO "SpanSolids$Solid" U) (hd : decode M.2.1 pc = .ok (.anewarray idx, 3)) (hz : z = (N : Int)) (hN : N < 100000) (hcells : k + 1 ≤ R.cells) (hslots : n + N ≤ R.slots) (kk : ∀ h2, h2 = ch_set h hi (aR cR N (fun _ => none)) → ch_G l (eE D cI cL cR lo) M Xt R Z (k + 1) (n + N) h2 (hi + 1) (pc + 3) lv (.ref hi :: st)) : ch_G l (eE D cI cL cR lo) M Xt R Z k n h hi pc lv (.int (iI z) :: st) := by
  subst hz
  have hr : ir (N : Int) := ⟨by omega, by omega⟩
  exact gx_anew 2 rfl hcl hov hd (fun q => by rw [iI_0, iI_lt hr (by decide)] at q; omega) (by rw [iI_clamp hr]; rfl) (by omega) hcells hslots (kk _ rfl)
theorem gy_mmax {a b : Int} {idx : Nat} (hlink : Cond.methodLink M.1.cls idx Lib.Math.max.name ∈ ch_tb) (hstat : Cond.static Lib.Math.max.name ∈ ch_tb) (hini : Cond.initialized "java/lang/Math" ∈ ch_tb) (hcode : Cond.code Lib.Math.max.name Lib.Math.max.code 2 (some .int) ∈ ch_tb) (hd : decode M.2.1 pc = .ok (.invokestatic idx, 3)) (hfr : 1 ≤ R.frames) (hlo : (st.map fun v => v.category).sum + 13 ≤ R.locals) (hk : k ≤ R.cells) (hn : n ≤ R.slots) (ha : ir a) (hb : ir b) (kk : ch_G l E M Xt R Z k n h hi (pc + 3) lv (.int (iI (max a b)) :: st)) : ch_G l E M Xt R Z k n h hi pc lv (.int (iI b) :: .int (iI a) :: st) := gx_mmax hlink hstat hini hcode hd hfr hlo hk hn (fun v hv => by
  have e : v = iI (max a b) := by
    rw [hv]
    by_cases q : a < b
    · simp only [iI_lt ha hb, q, if_true]; rw [Int.max_eq_right (by omega)]
    · simp only [iI_lt ha hb, q, if_false]; rw [Int.max_eq_left (by omega)]
  subst e
  exact kk)
theorem gy_mmin {a b : Int} {idx : Nat} (hlink : Cond.methodLink M.1.cls idx Lib.Math.min.name ∈ ch_tb) (hstat : Cond.static Lib.Math.min.name ∈ ch_tb) (hini : Cond.initialized "java/lang/Math" ∈ ch_tb) (hcode : Cond.code Lib.Math.min.name Lib.Math.min.code 2 (some .int) ∈ ch_tb) (hd : decode M.2.1 pc = .ok (.invokestatic idx, 3)) (hfr : 1 ≤ R.frames) (hlo : (st.map fun v => v.category).sum + 13 ≤ R.locals) (hk : k ≤ R.cells) (hn : n ≤ R.slots) (ha : ir a) (hb : ir b) (kk : ch_G l E M Xt R Z k n h hi (pc + 3) lv (.int (iI (min a b)) :: st)) : ch_G l E M Xt R Z k n h hi pc lv (.int (iI b) :: .int (iI a) :: st) := gx_mmin hlink hstat hini hcode hd hfr hlo hk hn (fun v hv => by
  have e : v = iI (min a b) := by
    rw [hv]
    by_cases q : b < a
    · simp only [iI_lt hb ha, q, if_true]; rw [Int.min_eq_right (by omega)]
    · simp only [iI_lt hb ha, q, if_false]; rw [Int.min_eq_left (by omega)]
  subst e
  exact kk)
theorem gx_ifnullA {a : Nat} {off : Int} (hd : decode M.2.1 pc = .ok (.ifnull off, 3)) (kk : ch_G l E M Xt R Z k n h hi (pc + 3) lv st) : ch_G l E M Xt R Z k n h hi pc lv (.ref a :: st) := fun p e s m args below meth c H locs ls X hM hS hl => lv_ifnull X.1 X.2.1 hd (kk p e s m args below meth c H locs ls X hM hS hl)
theorem gx_ifnullZ {off : Int} (tgt : Nat) (hd : decode M.2.1 pc = .ok (.ifnull off, 3)) (ht : (pc : Int) + off = (tgt : Int)) (kk : ch_G l E M Xt R Z k n h hi tgt lv st) : ch_G l E M Xt R Z k n h hi pc lv (.null :: st) := fun p e s m args below meth c H locs ls X hM hS hl => lv_ifnullN X.1 X.2.1 hd ht (kk p e s m args below meth c H locs ls X hM hS hl)
theorem gx_ifnonnullA {a : Nat} {off : Int} (tgt : Nat) (hd : decode M.2.1 pc = .ok (.ifnonnull off, 3)) (ht : (pc : Int) + off = (tgt : Int)) (kk : ch_G l E M Xt R Z k n h hi tgt lv st) : ch_G l E M Xt R Z k n h hi pc lv (.ref a :: st) := fun p e s m args below meth c H locs ls X hM hS hl => lv_ifnonnull X.1 X.2.1 hd ht (kk p e s m args below meth c H locs ls X hM hS hl)
theorem gx_ifnonnullZ {off : Int} (hd : decode M.2.1 pc = .ok (.ifnonnull off, 3)) (kk : ch_G l E M Xt R Z k n h hi (pc + 3) lv st) : ch_G l E M Xt R Z k n h hi pc lv (.null :: st) := fun p e s m args below meth c H locs ls X hM hS hl => lv_ifnonnullN X.1 X.2.1 hd (kk p e s m args below meth c H locs ls X hM hS hl)
theorem ch_Ghl {lv2 : List (Nat × Value)} {st2 : List Value} (e1 : lv = lv2) (e2 : st = st2) (kk : ch_G l E M Xt R Z k n h hi pc lv2 st2) : ch_G l E M Xt R Z k n h hi pc lv st := by
  subst e1; subst e2; exact kk
theorem ch_rfv {r : Option Nat} : va_rf r = .null ∨ ∃ a, va_rf r = .ref a := by
  cases r with
  | none => exact Or.inl rfl
  | some a => exact Or.inr ⟨a, rfl⟩
theorem gy_tin {a dflt lo0 hh : Int} {offs : Array Int} {len : Nat} {off : Int} (z : Int) (e : a = z) (tgt : Nat) (hd : decode M.2.1 pc = .ok (.tableswitch dflt lo0 hh offs, len)) (hz : ir z) (h1 : ¬ z < lo0) (h2 : ¬ hh < z) (ho : offs[(z - lo0).toNat]? = some off) (ht : (pc : Int) + off = (tgt : Int)) (kk : ch_G l E M Xt R Z k n h hi tgt lv st) : ch_G l E M Xt R Z k n h hi pc lv (.int (iI a) :: st) := by
  subst e
  exact gx_tableIn tgt hd (by rw [iI_toInt hz]; exact h1) (by rw [iI_toInt hz]; exact h2) (by rw [iI_toInt hz]; exact ho) ht kk
theorem gy_tout {a dflt lo0 hh : Int} {offs : Array Int} {len : Nat} (tgt : Nat) (hd : decode M.2.1 pc = .ok (.tableswitch dflt lo0 hh offs, len)) (hz : ir a) (h1 : a < lo0 ∨ hh < a) (ht : (pc : Int) + dflt = (tgt : Int)) (kk : ch_G l E M Xt R Z k n h hi tgt lv st) : ch_G l E M Xt R Z k n h hi pc lv (.int (iI a) :: st) := gx_tableOut tgt hd (by rw [iI_toInt hz]; exact h1) ht kk
theorem gy_lsw {a dflt : Int} {ps : Array (Int × Int)} {len : Nat} {off : Int} (tgt : Nat) (hd : decode M.2.1 pc = .ok (.lookupswitch dflt ps, len)) (hz : ir a) (hp : (ps.toList.zip (ps.toList.drop 1)).all (fun (a, next) => a.1 < next.1) = true) (ho : Op.lookupswitch.offset ps.toList dflt a = off) (ht : (pc : Int) + off = (tgt : Int)) (kk : ch_G l E M Xt R Z k n h hi tgt lv st) : ch_G l E M Xt R Z k n h hi pc lv (.int (iI a) :: st) := gx_lookup tgt hd hp (by rw [iI_toInt hz]; exact ho) ht kk
end INTS
end
section
section
set_option maxHeartbeats 4000000 in
set_option maxRecDepth 100000 in
theorem c_X7_clear (l : Launch) (D : va_G) (cI cL cR : ClassId) (lo : Nat) (h : ch_H) (hi : Nat) (r e : Nat) (n : Int) (hr : h r = some (.inr (7, [.ref e, .int (iI n)]))) : ch_C l (eE D cI cL cR lo) M_X7_clear (rM 0 0 0) [.ref r] h hi (fun r0 h2 hi2 => r0 = none ∧ h2 = ch_set h r (.inr (7, [.ref e, .int (iI 0)])) ∧ hi = hi2) := by
  refine ch_C.of rfl (Nat.le_of_ble_eq_true rfl) ?_
  refine gx_aload_n 0 dX7_clear_0 rfl rfl ?_
  refine gx_iconst (iI 0) dX7_clear_1 rfl ?_
  refine gy_put (ci := 7) (f := 1) (C := RX7) (T := TX7) (N := 2) (ty := .int) (fs2 := [.ref e, .int (iI 0)]) tyX7 rfl inX7 tyX7_ok nmX7 (by decide) mw_1_84 (Or.inl rfl) (by decide +kernel) rfl rfl dX7_clear_2 hr (by simp) rfl (fun h1 eh1 => ?_)
  have k2 : h1 r = some (.inr (7, [.ref e, .int (iI 0)])) := by rw [eh1]; exact ch_set_self
  refine gx_vret rfl dX7_clear_5 (by first | exact Nat.le_of_ble_eq_true rfl | (simp only [rM]; omega)) (by first | exact Nat.le_of_ble_eq_true rfl | (simp only [rM]; omega)) ?_
  exact ⟨rfl, eh1, rfl⟩
set_option maxHeartbeats 4000000 in
set_option maxRecDepth 100000 in
theorem c_X7_runCount (l : Launch) (D : va_G) (cI cL cR : ClassId) (lo : Nat) (h : ch_H) (hi : Nat) (r e : Nat) (n : Int) (hr : h r = some (.inr (7, [.ref e, .int (iI n)]))) (hn : 0 ≤ n ∧ n ≤ 100) : ch_C l (eE D cI cL cR lo) M_X7_runCount (rM 0 0 0) [.ref r] h hi (fun r0 h2 hi2 => r0 = some (.int (iI (n / 2))) ∧ h = h2 ∧ hi = hi2) := by
  refine ch_C.of rfl (Nat.le_of_ble_eq_true rfl) ?_
  refine gx_aload_n 0 dX7_runCount_0 rfl rfl ?_
  refine gx_get (ci := 7) (f := 1) (C := RX7) (T := TX7) (N := 2) rfl inX7 (by decide) mw_1_84 dX7_runCount_1 hr rfl ?_
  refine gx_iconst (iI 2) dX7_runCount_4 rfl ?_
  refine gy_idiv dX7_runCount_5 (by constructor <;> omega) (by decide) (by omega) (by decide) ?_
  refine gx_iret rfl dX7_runCount_6 (by first | exact Nat.le_of_ble_eq_true rfl | (simp only [rM]; omega)) (by first | exact Nat.le_of_ble_eq_true rfl | (simp only [rM]; omega)) ?_
  exact ⟨rfl, rfl, rfl⟩
/-- what firstOf and lastOf answer -/
def ruF (f : Nat → Int) (n k : Int) : Int := if 0 ≤ k ∧ k < n / 2 then f (2 * k).toNat else 0
def ruL (f : Nat → Int) (n k : Int) : Int := if 0 ≤ k ∧ k < n / 2 then f (2 * k + 1).toNat - 1 else 0
theorem ruF_in {f : Nat → Int} {n k : Int} (h0 : 0 ≤ k) (h1 : k < n / 2) : ruF f n k = f (2 * k.toNat) := by
  unfold ruF
  rw [if_pos ⟨h0, h1⟩]
  congr 1
  omega
theorem ruL_in {f : Nat → Int} {n k : Int} (h0 : 0 ≤ k) (h1 : k < n / 2) : ruL f n k = f (2 * k.toNat + 1) - 1 := by
  unfold ruL
  rw [if_pos ⟨h0, h1⟩]
  congr 2
  omega
/-- how many of a .. b the first k runs hold -/
def cntR (f : Nat → Int) (a b : Int) : Nat → Int
  | 0 => 0
  | k + 1 => cntR f a b k + (if max a (f (2 * k)) ≤ min b (f (2 * k + 1) - 1) then min b (f (2 * k + 1) - 1) - max a (f (2 * k)) + 1 else 0)
/-- the top of the first k runs -/
def agR (f : Nat → Int) : Nat → Int
  | 0 => 0
  | k + 1 => if 0 ≤ min 999 (f (2 * k + 1) - 1) ∧ f (2 * k) ≤ min 999 (f (2 * k + 1) - 1) then min 999 (f (2 * k + 1) - 1) + 1 else agR f k
set_option maxHeartbeats 4000000 in
set_option maxRecDepth 100000 in
theorem c_X7_firstOf (l : Launch) (D : va_G) (cI cL cR : ClassId) (lo : Nat) (h : ch_H) (hi : Nat) (r e : Nat) (n : Int) (f : Nat → Int) (hr : h r = some (.inr (7, [.ref e, .int (iI n)]))) (he : h e = some (aI cI 100 f)) (hn : 0 ≤ n ∧ n ≤ 100) (z : Int) (hz : ir z) : ch_C l (eE D cI cL cR lo) M_X7_firstOf (rM 1 0 0) [.ref r, .int (iI z)] h hi (fun r0 h2 hi2 => r0 = some (.int (iI (ruF f n z))) ∧ h = h2 ∧ hi = hi2) := by
  refine ch_C.of rfl (Nat.le_of_ble_eq_true rfl) ?_
  refine gx_iload_n 1 dX7_firstOf_0 rfl rfl ?_
  refine gy_if_lt 12 dX7_firstOf_1 (by decide) (by constructor <;> omega) (fun c1 => ?_) (fun c1 => ?_)
  · refine gx_iconst (iI 0) dX7_firstOf_12 rfl ?_
    refine gx_goto 24 dX7_firstOf_13 (by decide) ?_
    refine gx_iret rfl dX7_firstOf_24 (by first | exact Nat.le_of_ble_eq_true rfl | (simp only [rM]; omega)) (by first | exact Nat.le_of_ble_eq_true rfl | (simp only [rM]; omega)) ?_
    exact ⟨by unfold ruF; rw [if_neg (by omega)], rfl, rfl⟩
  · refine gx_iload_n 1 dX7_firstOf_4 rfl rfl ?_
    refine gx_aload_n 0 dX7_firstOf_5 rfl rfl ?_
    refine gx_callV (ci := 7) (c_X7_runCount l D cI cL cR lo h hi r e n hr hn) ok_X7_runCount mw_2_197 mw_2_198 mw_2_199 dX7_firstOf_6 rfl hr rfl rfl (Nat.le_of_ble_eq_true rfl) (by first | exact Nat.le_of_ble_eq_true rfl | (simp only [rM]; omega)) (by first | exact Nat.le_of_ble_eq_true rfl | (simp only [rM]; omega)) (by first | exact Nat.le_of_ble_eq_true rfl | (simp only [rM]; omega)) (by first | exact Nat.le_of_ble_eq_true rfl | (simp only [rM]; omega)) (fun r1 h2 u3 q4 g5 => ?_)
    obtain ⟨rfl, rfl, rfl⟩ := q4
    refine ch_Gst (st2 := [.int (iI (n / 2)), .int (iI z)]) rfl ?_
    refine gy_icmp_lt 16 dX7_firstOf_9 (by decide) (by constructor <;> omega) (by constructor <;> omega) (fun c9 => ?_) (fun c9 => ?_)
    · refine gx_aload_n 0 dX7_firstOf_16 rfl rfl ?_
      refine gx_get (ci := 7) (f := 0) (C := RX7) (T := TX7) (N := 2) rfl inX7 (by decide) mw_1_83 dX7_firstOf_17 hr rfl ?_
      refine gx_iconst (iI 2) dX7_firstOf_20 rfl ?_
      refine gx_iload_n 1 dX7_firstOf_21 rfl rfl ?_
      refine gy_imul dX7_firstOf_22 ?_
      refine gy_iald dX7_firstOf_23 he (by omega) (by omega) (by decide) ?_
      refine gx_iret rfl dX7_firstOf_24 (by first | exact Nat.le_of_ble_eq_true rfl | (simp only [rM]; omega)) (by first | exact Nat.le_of_ble_eq_true rfl | (simp only [rM]; omega)) ?_
      exact ⟨by unfold ruF; rw [if_pos ⟨by omega, by omega⟩], rfl, rfl⟩
    · refine gx_iconst (iI 0) dX7_firstOf_12 rfl ?_
      refine gx_goto 24 dX7_firstOf_13 (by decide) ?_
      refine gx_iret rfl dX7_firstOf_24 (by first | exact Nat.le_of_ble_eq_true rfl | (simp only [rM]; omega)) (by first | exact Nat.le_of_ble_eq_true rfl | (simp only [rM]; omega)) ?_
      exact ⟨by unfold ruF; rw [if_neg (by omega)], rfl, rfl⟩
set_option maxHeartbeats 4000000 in
set_option maxRecDepth 100000 in
theorem c_X7_lastOf (l : Launch) (D : va_G) (cI cL cR : ClassId) (lo : Nat) (h : ch_H) (hi : Nat) (r e : Nat) (n : Int) (f : Nat → Int) (hr : h r = some (.inr (7, [.ref e, .int (iI n)]))) (he : h e = some (aI cI 100 f)) (hn : 0 ≤ n ∧ n ≤ 100) (z : Int) (hz : ir z) : ch_C l (eE D cI cL cR lo) M_X7_lastOf (rM 1 0 0) [.ref r, .int (iI z)] h hi (fun r0 h2 hi2 => r0 = some (.int (iI (ruL f n z))) ∧ h = h2 ∧ hi = hi2) := by
  refine ch_C.of rfl (Nat.le_of_ble_eq_true rfl) ?_
  refine gx_iload_n 1 dX7_lastOf_0 rfl rfl ?_
  refine gy_if_lt 12 dX7_lastOf_1 (by decide) (by constructor <;> omega) (fun c1 => ?_) (fun c1 => ?_)
  · refine gx_iconst (iI 0) dX7_lastOf_12 rfl ?_
    refine gx_goto 28 dX7_lastOf_13 (by decide) ?_
    refine gx_iret rfl dX7_lastOf_28 (by first | exact Nat.le_of_ble_eq_true rfl | (simp only [rM]; omega)) (by first | exact Nat.le_of_ble_eq_true rfl | (simp only [rM]; omega)) ?_
    exact ⟨by unfold ruL; rw [if_neg (by omega)], rfl, rfl⟩
  · refine gx_iload_n 1 dX7_lastOf_4 rfl rfl ?_
    refine gx_aload_n 0 dX7_lastOf_5 rfl rfl ?_
    refine gx_callV (ci := 7) (c_X7_runCount l D cI cL cR lo h hi r e n hr hn) ok_X7_runCount mw_2_197 mw_2_198 mw_2_199 dX7_lastOf_6 rfl hr rfl rfl (Nat.le_of_ble_eq_true rfl) (by first | exact Nat.le_of_ble_eq_true rfl | (simp only [rM]; omega)) (by first | exact Nat.le_of_ble_eq_true rfl | (simp only [rM]; omega)) (by first | exact Nat.le_of_ble_eq_true rfl | (simp only [rM]; omega)) (by first | exact Nat.le_of_ble_eq_true rfl | (simp only [rM]; omega)) (fun r1 h2 u3 q4 g5 => ?_)
    obtain ⟨rfl, rfl, rfl⟩ := q4
    refine ch_Gst (st2 := [.int (iI (n / 2)), .int (iI z)]) rfl ?_
    refine gy_icmp_lt 16 dX7_lastOf_9 (by decide) (by constructor <;> omega) (by constructor <;> omega) (fun c9 => ?_) (fun c9 => ?_)
    · refine gx_aload_n 0 dX7_lastOf_16 rfl rfl ?_
      refine gx_get (ci := 7) (f := 0) (C := RX7) (T := TX7) (N := 2) rfl inX7 (by decide) mw_1_83 dX7_lastOf_17 hr rfl ?_
      refine gx_iconst (iI 2) dX7_lastOf_20 rfl ?_
      refine gx_iload_n 1 dX7_lastOf_21 rfl rfl ?_
      refine gy_imul dX7_lastOf_22 ?_
      refine gx_iconst (iI 1) dX7_lastOf_23 rfl ?_
      refine gy_iadd dX7_lastOf_24 ?_
      refine gy_iald dX7_lastOf_25 he (by omega) (by omega) (by decide) ?_
      refine gx_iconst (iI 1) dX7_lastOf_26 rfl ?_
      refine gy_isub dX7_lastOf_27 ?_
      refine gx_iret rfl dX7_lastOf_28 (by first | exact Nat.le_of_ble_eq_true rfl | (simp only [rM]; omega)) (by first | exact Nat.le_of_ble_eq_true rfl | (simp only [rM]; omega)) ?_
      exact ⟨by unfold ruL; rw [if_pos ⟨by omega, by omega⟩], rfl, rfl⟩
    · refine gx_iconst (iI 0) dX7_lastOf_12 rfl ?_
      refine gx_goto 28 dX7_lastOf_13 (by decide) ?_
      refine gx_iret rfl dX7_lastOf_28 (by first | exact Nat.le_of_ble_eq_true rfl | (simp only [rM]; omega)) (by first | exact Nat.le_of_ble_eq_true rfl | (simp only [rM]; omega)) ?_
      exact ⟨by unfold ruL; rw [if_neg (by omega)], rfl, rfl⟩
set_option maxHeartbeats 4000000 in
set_option maxRecDepth 100000 in
theorem c_X7_countFrom (l : Launch) (D : va_G) (cI cL cR : ClassId) (lo : Nat) (h : ch_H) (hi : Nat) (r e : Nat) (n : Int) (f : Nat → Int) (hr : h r = some (.inr (7, [.ref e, .int (iI n)]))) (he : h e = some (aI cI 100 f)) (hn : 0 ≤ n ∧ n ≤ 100) (hf : ∀ j : Nat, (j : Int) < n → -1000000 ≤ f j ∧ f j ≤ 1000000) (a b : Int) (ha : ir a) (hb : ir b) : ch_C l (eE D cI cL cR lo) M_X7_countFrom (rM 2 0 0) [.ref r, .int (iI a), .int (iI b)] h hi (fun r0 h2 hi2 => r0 = some (.long (lI (cntR f a b (n / 2).toNat))) ∧ h = h2 ∧ hi = hi2) := by
  refine ch_C.of rfl (Nat.le_of_ble_eq_true rfl) ?_
  have loop : ∀ (m : Nat) (z acc : Int), (0 ≤ z) → (z ≤ n / 2) → (n / 2 + 1 ≤ z + m) → (acc = cntR f a b z.toNat) → ch_G l (eE D cI cL cR lo) M_X7_countFrom ch_T (rM 2 0 0) (ch_Z (eE D cI cL cR lo) 0 0 (fun r0 h2 hi2 => r0 = some (.long (lI (cntR f a b (n / 2).toNat))) ∧ h = h2 ∧ hi = hi2)) 0 0 h hi 5 [(0, .ref r), (1, .int (iI a)), (2, .int (iI b)), (3, .long (lI acc)), (5, .int (iI z))] [] := by
    intro m
    induction m with
    | zero => intro z acc hz0 hz1 hm hacc; exfalso; omega
    | succ m ih =>
      intro z acc hz0 hz1 hm hacc
      refine gx_iload 4 dX7_countFrom_5 rfl ?_
      refine gx_aload_n 0 dX7_countFrom_7 rfl rfl ?_
      refine gx_callV (ci := 7) (c_X7_runCount l D cI cL cR lo h hi r e n hr hn) ok_X7_runCount mw_2_197 mw_2_198 mw_2_199 dX7_countFrom_8 rfl hr rfl rfl (Nat.le_of_ble_eq_true rfl) (by first | exact Nat.le_of_ble_eq_true rfl | (simp only [rM]; omega)) (by first | exact Nat.le_of_ble_eq_true rfl | (simp only [rM]; omega)) (by first | exact Nat.le_of_ble_eq_true rfl | (simp only [rM]; omega)) (by first | exact Nat.le_of_ble_eq_true rfl | (simp only [rM]; omega)) (fun r1 h2 u3 q4 g5 => ?_)
      obtain ⟨rfl, rfl, rfl⟩ := q4
      refine ch_Gst (st2 := [.int (iI (n / 2)), .int (iI z)]) rfl ?_
      refine gy_icmp_ge 64 dX7_countFrom_11 (by decide) (by constructor <;> omega) (by constructor <;> omega) (fun c11 => ?_) (fun c11 => ?_)
      · refine gx_lload_n 3 dX7_countFrom_64 rfl rfl ?_
        refine gx_lret rfl dX7_countFrom_65 (by first | exact Nat.le_of_ble_eq_true rfl | (simp only [rM]; omega)) (by first | exact Nat.le_of_ble_eq_true rfl | (simp only [rM]; omega)) ?_
        exact ⟨by rw [hacc, show z.toNat = (n / 2).toNat by omega], rfl, rfl⟩
      · have hfa := hf (2 * z.toNat) (by omega)
        have hfb := hf (2 * z.toNat + 1) (by omega)
        refine gx_iload_n 1 dX7_countFrom_14 rfl rfl ?_
        refine gx_aload_n 0 dX7_countFrom_15 rfl rfl ?_
        refine gx_iload 4 dX7_countFrom_16 rfl ?_
        refine gx_callV (ci := 7) (c_X7_firstOf l D cI cL cR lo h hi r e n f hr he hn z (by constructor <;> omega)) ok_X7_firstOf mw_2_201 mw_2_202 mw_2_203 dX7_countFrom_18 rfl hr rfl rfl (Nat.le_of_ble_eq_true rfl) (by first | exact Nat.le_of_ble_eq_true rfl | (simp only [rM]; omega)) (by first | exact Nat.le_of_ble_eq_true rfl | (simp only [rM]; omega)) (by first | exact Nat.le_of_ble_eq_true rfl | (simp only [rM]; omega)) (by first | exact Nat.le_of_ble_eq_true rfl | (simp only [rM]; omega)) (fun r6 h7 u8 q9 g10 => ?_)
        obtain ⟨rfl, rfl, rfl⟩ := q9
        refine ch_Gst (st2 := [.int (iI (ruF f n z)), .int (iI a)]) rfl ?_
        refine ch_Gst (st2 := [.int (iI (f (2 * z.toNat))), .int (iI a)]) (by rw [ruF_in (by omega) (by omega)]) ?_
        refine gy_mmax mw_2_205 mw_2_206 mw_1_14 mw_2_207 dX7_countFrom_21 (by decide) (Nat.le_of_ble_eq_true rfl) (by first | exact Nat.le_of_ble_eq_true rfl | (simp only [rM]; omega)) (by first | exact Nat.le_of_ble_eq_true rfl | (simp only [rM]; omega)) (by constructor <;> omega) (by constructor <;> omega) ?_
        refine gy_i2l dX7_countFrom_24 (by constructor <;> omega) ?_
        refine gx_lstore [(6, .long (lI (max a (f (2 * z.toNat))))), (0, .ref r), (1, .int (iI a)), (2, .int (iI b)), (3, .long (lI acc)), (5, .int (iI z))] dX7_countFrom_25 (by decide) rfl ?_
        refine gx_iload_n 3 dX7_countFrom_27 rfl rfl ?_
        refine gx_aload_n 1 dX7_countFrom_28 rfl rfl ?_
        refine gx_iload 5 dX7_countFrom_29 rfl ?_
        refine gx_callV (ci := 7) (c_X7_lastOf l D cI cL cR lo h hi r e n f hr he hn z (by constructor <;> omega)) ok_X7_lastOf mw_2_208 mw_2_209 mw_2_210 dX7_countFrom_31 rfl hr rfl rfl (Nat.le_of_ble_eq_true rfl) (by first | exact Nat.le_of_ble_eq_true rfl | (simp only [rM]; omega)) (by first | exact Nat.le_of_ble_eq_true rfl | (simp only [rM]; omega)) (by first | exact Nat.le_of_ble_eq_true rfl | (simp only [rM]; omega)) (by first | exact Nat.le_of_ble_eq_true rfl | (simp only [rM]; omega)) (fun r11 h12 u13 q14 g15 => ?_)
        obtain ⟨rfl, rfl, rfl⟩ := q14
        refine ch_Gst (st2 := [.int (iI (ruL f n z)), .int (iI b)]) rfl ?_
        refine ch_Gst (st2 := [.int (iI (f (2 * z.toNat + 1) - 1)), .int (iI b)]) (by rw [ruL_in (by omega) (by omega)]) ?_
        refine gy_mmin mw_2_190 mw_2_191 mw_1_14 mw_2_192 dX7_countFrom_34 (by decide) (Nat.le_of_ble_eq_true rfl) (by first | exact Nat.le_of_ble_eq_true rfl | (simp only [rM]; omega)) (by first | exact Nat.le_of_ble_eq_true rfl | (simp only [rM]; omega)) (by constructor <;> omega) (by constructor <;> omega) ?_
        refine gy_i2l dX7_countFrom_37 (by constructor <;> omega) ?_
        refine gx_lstore [(8, .long (lI (min b (f (2 * z.toNat + 1) - 1)))), (6, .long (lI (max a (f (2 * z.toNat))))), (0, .ref r), (1, .int (iI a)), (2, .int (iI b)), (3, .long (lI acc)), (5, .int (iI z))] dX7_countFrom_38 (by decide) rfl ?_
        refine gx_lload 1 dX7_countFrom_40 rfl ?_
        refine gx_lload 0 dX7_countFrom_42 rfl ?_
        refine gy_lcmp_gt 58 dX7_countFrom_44 dX7_countFrom_45 (by decide) (by constructor <;> omega) (by constructor <;> omega) (fun c44 => ?_) (fun c44 => ?_)
        · refine gy_iinc 6 [(5, .int (iI (z + 1))), (8, .long (lI (min b (f (2 * z.toNat + 1) - 1)))), (6, .long (lI (max a (f (2 * z.toNat))))), (0, .ref r), (1, .int (iI a)), (2, .int (iI b)), (3, .long (lI acc))] dX7_countFrom_58 rfl (by decide) rfl ?_
          refine gx_goto 5 dX7_countFrom_61 (by decide) ?_
          refine ch_Glv (lv' := [(0, .ref r), (1, .int (iI a)), (2, .int (iI b)), (3, .long (lI acc)), (5, .int (iI (z + 1)))]) [3, 4, 5, 6, 0] rfl ?_
          exact ih _ _ (by omega) (by omega) (by omega) (by rw [show (z + 1).toNat = z.toNat + 1 by omega, cntR, ← hacc]; rw [if_neg (by omega)]; omega)
        · refine gx_lload_n 5 dX7_countFrom_48 rfl rfl ?_
          refine gx_lload 0 dX7_countFrom_49 rfl ?_
          refine gx_lload 1 dX7_countFrom_51 rfl ?_
          refine gy_lsub dX7_countFrom_53 ?_
          refine gx_lconst (lI 1) dX7_countFrom_54 rfl ?_
          refine gy_ladd dX7_countFrom_55 ?_
          refine gy_ladd dX7_countFrom_56 ?_
          refine gx_lstore_n [(3, .long (lI (acc + (((min b (f (2 * z.toNat + 1) - 1)) - (max a (f (2 * z.toNat)))) + 1)))), (8, .long (lI (min b (f (2 * z.toNat + 1) - 1)))), (6, .long (lI (max a (f (2 * z.toNat))))), (0, .ref r), (1, .int (iI a)), (2, .int (iI b)), (5, .int (iI z))] dX7_countFrom_57 rfl (by decide) rfl ?_
          refine gy_iinc 6 [(5, .int (iI (z + 1))), (3, .long (lI (acc + (((min b (f (2 * z.toNat + 1) - 1)) - (max a (f (2 * z.toNat)))) + 1)))), (8, .long (lI (min b (f (2 * z.toNat + 1) - 1)))), (6, .long (lI (max a (f (2 * z.toNat))))), (0, .ref r), (1, .int (iI a)), (2, .int (iI b))] dX7_countFrom_58 rfl (by decide) rfl ?_
          refine gx_goto 5 dX7_countFrom_61 (by decide) ?_
          refine ch_Glv (lv' := [(0, .ref r), (1, .int (iI a)), (2, .int (iI b)), (3, .long (lI (acc + (((min b (f (2 * z.toNat + 1) - 1)) - (max a (f (2 * z.toNat)))) + 1)))), (5, .int (iI (z + 1)))]) [4, 5, 6, 1, 0] rfl ?_
          exact ih _ _ (by omega) (by omega) (by omega) (by rw [show (z + 1).toNat = z.toNat + 1 by omega, cntR, ← hacc]; rw [if_pos (by omega)])
  refine gx_lconst (lI 0) dX7_countFrom_0 rfl ?_
  refine gx_lstore_n [(3, .long (lI 0)), (0, .ref r), (1, .int (iI a)), (2, .int (iI b))] dX7_countFrom_1 rfl (by decide) rfl ?_
  refine gx_iconst (iI 0) dX7_countFrom_2 rfl ?_
  refine gx_istore [(5, .int (iI 0)), (3, .long (lI 0)), (0, .ref r), (1, .int (iI a)), (2, .int (iI b))] dX7_countFrom_3 (by decide) rfl ?_
  refine ch_Glv (lv' := [(0, .ref r), (1, .int (iI a)), (2, .int (iI b)), (3, .long (lI 0)), (5, .int (iI 0))]) [2, 3, 4, 1, 0] rfl ?_
  exact loop 60 0 0 (by omega) (by omega) (by omega) rfl
set_option maxHeartbeats 4000000 in
set_option maxRecDepth 100000 in
theorem c_X7_afterGreatest (l : Launch) (D : va_G) (cI cL cR : ClassId) (lo : Nat) (h : ch_H) (hi : Nat) (r e : Nat) (n : Int) (f : Nat → Int) (hr : h r = some (.inr (7, [.ref e, .int (iI n)]))) (he : h e = some (aI cI 100 f)) (hn : 0 ≤ n ∧ n ≤ 100) (hf : ∀ j : Nat, (j : Int) < n → -1000000 ≤ f j ∧ f j ≤ 1000000) : ch_C l (eE D cI cL cR lo) M_X7_afterGreatest (rM 2 0 0) [.ref r] h hi (fun r0 h2 hi2 => r0 = some (.int (iI (agR f (n / 2).toNat))) ∧ h = h2 ∧ hi = hi2) := by
  refine ch_C.of rfl (Nat.le_of_ble_eq_true rfl) ?_
  have loop : ∀ (m : Nat) (z acc : Int), (0 ≤ z) → (z ≤ n / 2) → (n / 2 + 1 ≤ z + m) → (acc = agR f z.toNat) → ch_G l (eE D cI cL cR lo) M_X7_afterGreatest ch_T (rM 2 0 0) (ch_Z (eE D cI cL cR lo) 0 0 (fun r0 h2 hi2 => r0 = some (.int (iI (agR f (n / 2).toNat))) ∧ h = h2 ∧ hi = hi2)) 0 0 h hi 4 [(0, .ref r), (1, .int (iI acc)), (2, .int (iI z))] [] := by
    intro m
    induction m with
    | zero => intro z acc hz0 hz1 hm hacc; exfalso; omega
    | succ m ih =>
      intro z acc hz0 hz1 hm hacc
      refine gx_iload_n 2 dX7_afterGreatest_4 rfl rfl ?_
      refine gx_aload_n 0 dX7_afterGreatest_5 rfl rfl ?_
      refine gx_callV (ci := 7) (c_X7_runCount l D cI cL cR lo h hi r e n hr hn) ok_X7_runCount mw_2_197 mw_2_198 mw_2_199 dX7_afterGreatest_6 rfl hr rfl rfl (Nat.le_of_ble_eq_true rfl) (by first | exact Nat.le_of_ble_eq_true rfl | (simp only [rM]; omega)) (by first | exact Nat.le_of_ble_eq_true rfl | (simp only [rM]; omega)) (by first | exact Nat.le_of_ble_eq_true rfl | (simp only [rM]; omega)) (by first | exact Nat.le_of_ble_eq_true rfl | (simp only [rM]; omega)) (fun r1 h2 u3 q4 g5 => ?_)
      obtain ⟨rfl, rfl, rfl⟩ := q4
      refine ch_Gst (st2 := [.int (iI (n / 2)), .int (iI z)]) rfl ?_
      refine gy_icmp_ge 47 dX7_afterGreatest_9 (by decide) (by constructor <;> omega) (by constructor <;> omega) (fun c9 => ?_) (fun c9 => ?_)
      · refine gx_iload_n 1 dX7_afterGreatest_47 rfl rfl ?_
        refine gx_iret rfl dX7_afterGreatest_48 (by first | exact Nat.le_of_ble_eq_true rfl | (simp only [rM]; omega)) (by first | exact Nat.le_of_ble_eq_true rfl | (simp only [rM]; omega)) ?_
        exact ⟨by rw [hacc, show z.toNat = (n / 2).toNat by omega], rfl, rfl⟩
      · have hfa := hf (2 * z.toNat) (by omega)
        have hfb := hf (2 * z.toNat + 1) (by omega)
        refine gx_sipush (iI 999) dX7_afterGreatest_12 (by decide) ?_
        refine gx_aload_n 0 dX7_afterGreatest_15 rfl rfl ?_
        refine gx_iload_n 2 dX7_afterGreatest_16 rfl rfl ?_
        refine gx_callV (ci := 7) (c_X7_lastOf l D cI cL cR lo h hi r e n f hr he hn z (by constructor <;> omega)) ok_X7_lastOf mw_2_208 mw_2_209 mw_2_210 dX7_afterGreatest_17 rfl hr rfl rfl (Nat.le_of_ble_eq_true rfl) (by first | exact Nat.le_of_ble_eq_true rfl | (simp only [rM]; omega)) (by first | exact Nat.le_of_ble_eq_true rfl | (simp only [rM]; omega)) (by first | exact Nat.le_of_ble_eq_true rfl | (simp only [rM]; omega)) (by first | exact Nat.le_of_ble_eq_true rfl | (simp only [rM]; omega)) (fun r6 h7 u8 q9 g10 => ?_)
        obtain ⟨rfl, rfl, rfl⟩ := q9
        refine ch_Gst (st2 := [.int (iI (ruL f n z)), .int (iI 999)]) rfl ?_
        refine ch_Gst (st2 := [.int (iI (f (2 * z.toNat + 1) - 1)), .int (iI 999)]) (by rw [ruL_in (by omega) (by omega)]) ?_
        refine gy_mmin mw_2_190 mw_2_191 mw_1_14 mw_2_192 dX7_afterGreatest_20 (by decide) (Nat.le_of_ble_eq_true rfl) (by first | exact Nat.le_of_ble_eq_true rfl | (simp only [rM]; omega)) (by first | exact Nat.le_of_ble_eq_true rfl | (simp only [rM]; omega)) (by decide) (by constructor <;> omega) ?_
        refine gx_istore_n [(3, .int (iI (min 999 (f (2 * z.toNat + 1) - 1)))), (0, .ref r), (1, .int (iI acc)), (2, .int (iI z))] dX7_afterGreatest_23 rfl (by decide) rfl ?_
        refine gx_iload_n 0 dX7_afterGreatest_24 rfl rfl ?_
        refine gy_if_lt 41 dX7_afterGreatest_25 (by decide) (by constructor <;> omega) (fun c25 => ?_) (fun c25 => ?_)
        · refine gy_iinc 3 [(2, .int (iI (z + 1))), (3, .int (iI (min 999 (f (2 * z.toNat + 1) - 1)))), (0, .ref r), (1, .int (iI acc))] dX7_afterGreatest_41 rfl (by decide) rfl ?_
          refine gx_goto 4 dX7_afterGreatest_44 (by decide) ?_
          refine ch_Glv (lv' := [(0, .ref r), (1, .int (iI acc)), (2, .int (iI (z + 1)))]) [2, 3, 0] rfl ?_
          exact ih _ _ (by omega) (by omega) (by omega) (by rw [show (z + 1).toNat = z.toNat + 1 by omega, agR, if_neg (by omega), ← hacc])
        · refine gx_iload_n 0 dX7_afterGreatest_28 rfl rfl ?_
          refine gx_aload_n 1 dX7_afterGreatest_29 rfl rfl ?_
          refine gx_iload_n 3 dX7_afterGreatest_30 rfl rfl ?_
          refine gx_callV (ci := 7) (c_X7_firstOf l D cI cL cR lo h hi r e n f hr he hn z (by constructor <;> omega)) ok_X7_firstOf mw_2_201 mw_2_202 mw_2_203 dX7_afterGreatest_31 rfl hr rfl rfl (Nat.le_of_ble_eq_true rfl) (by first | exact Nat.le_of_ble_eq_true rfl | (simp only [rM]; omega)) (by first | exact Nat.le_of_ble_eq_true rfl | (simp only [rM]; omega)) (by first | exact Nat.le_of_ble_eq_true rfl | (simp only [rM]; omega)) (by first | exact Nat.le_of_ble_eq_true rfl | (simp only [rM]; omega)) (fun r11 h12 u13 q14 g15 => ?_)
          obtain ⟨rfl, rfl, rfl⟩ := q14
          refine ch_Gst (st2 := [.int (iI (ruF f n z)), .int (iI (min 999 (f (2 * z.toNat + 1) - 1)))]) rfl ?_
          refine ch_Gst (st2 := [.int (iI (f (2 * z.toNat))), .int (iI (min 999 (f (2 * z.toNat + 1) - 1)))]) (by rw [ruF_in (by omega) (by omega)]) ?_
          refine gy_icmp_lt 41 dX7_afterGreatest_34 (by decide) (by constructor <;> omega) (by constructor <;> omega) (fun c34 => ?_) (fun c34 => ?_)
          · refine gy_iinc 3 [(2, .int (iI (z + 1))), (3, .int (iI (min 999 (f (2 * z.toNat + 1) - 1)))), (0, .ref r), (1, .int (iI acc))] dX7_afterGreatest_41 rfl (by decide) rfl ?_
            refine gx_goto 4 dX7_afterGreatest_44 (by decide) ?_
            refine ch_Glv (lv' := [(0, .ref r), (1, .int (iI acc)), (2, .int (iI (z + 1)))]) [2, 3, 0] rfl ?_
            exact ih _ _ (by omega) (by omega) (by omega) (by rw [show (z + 1).toNat = z.toNat + 1 by omega, agR, if_neg (by omega), ← hacc])
          · refine gx_iload_n 0 dX7_afterGreatest_37 rfl rfl ?_
            refine gx_iconst (iI 1) dX7_afterGreatest_38 rfl ?_
            refine gy_iadd dX7_afterGreatest_39 ?_
            refine gx_istore_n [(1, .int (iI ((min 999 (f (2 * z.toNat + 1) - 1)) + 1))), (3, .int (iI (min 999 (f (2 * z.toNat + 1) - 1)))), (0, .ref r), (2, .int (iI z))] dX7_afterGreatest_40 rfl (by decide) rfl ?_
            refine gy_iinc 3 [(2, .int (iI (z + 1))), (1, .int (iI ((min 999 (f (2 * z.toNat + 1) - 1)) + 1))), (3, .int (iI (min 999 (f (2 * z.toNat + 1) - 1)))), (0, .ref r)] dX7_afterGreatest_41 rfl (by decide) rfl ?_
            refine gx_goto 4 dX7_afterGreatest_44 (by decide) ?_
            refine ch_Glv (lv' := [(0, .ref r), (1, .int (iI ((min 999 (f (2 * z.toNat + 1) - 1)) + 1))), (2, .int (iI (z + 1)))]) [3, 1, 0] rfl ?_
            exact ih _ _ (by omega) (by omega) (by omega) (by rw [show (z + 1).toNat = z.toNat + 1 by omega, agR, if_pos (by omega)])
  refine gx_iconst (iI 0) dX7_afterGreatest_0 rfl ?_
  refine gx_istore_n [(1, .int (iI 0)), (0, .ref r)] dX7_afterGreatest_1 rfl (by decide) rfl ?_
  refine gx_iconst (iI 0) dX7_afterGreatest_2 rfl ?_
  refine gx_istore_n [(2, .int (iI 0)), (1, .int (iI 0)), (0, .ref r)] dX7_afterGreatest_3 rfl (by decide) rfl ?_
  refine ch_Glv (lv' := [(0, .ref r), (1, .int (iI 0)), (2, .int (iI 0))]) [2, 1, 0] rfl ?_
  exact loop 60 0 0 (by omega) (by omega) (by omega) rfl
set_option maxHeartbeats 4000000 in
set_option maxRecDepth 100000 in
theorem c_X7_copyFrom (l : Launch) (D : va_G) (cI cL cR : ClassId) (lo : Nat) (h : ch_H) (hi : Nat) (r e : Nat) (n : Int) (f : Nat → Int) (hr : h r = some (.inr (7, [.ref e, .int (iI n)]))) (he : h e = some (aI cI 100 f)) (g : Nat) (fg : Nat → Int) (hg : h g = some (aI cI 100 fg)) (cn : Int) (hcn : 0 ≤ cn ∧ cn ≤ 100) (heg : e ≠ g) : ch_C l (eE D cI cL cR lo) M_X7_copyFrom (rM 1 0 0) [.ref r, .ref g, .int (iI cn)] h hi (fun r0 h2 hi2 => r0 = none ∧ (∃ f2, h2 = ch_set (ch_set h r (.inr (7, [.ref e, .int (iI cn)]))) e (aI cI 100 f2) ∧ ∀ j : Nat, (j : Int) < cn → f2 j = fg j) ∧ hi = hi2) := by
  refine ch_C.of rfl (Nat.le_of_ble_eq_true rfl) ?_
  have loop : ∀ (m : Nat) (z : Int) (hh : ch_H) (ff : Nat → Int), (0 ≤ z) → (z ≤ cn) → (cn + 1 ≤ z + m) → (hh r = some (.inr (7, [.ref e, .int (iI cn)]))) → (hh e = some (aI cI 100 ff)) → (hh g = some (aI cI 100 fg)) → (hh = ch_set (ch_set h r (.inr (7, [.ref e, .int (iI cn)]))) e (aI cI 100 ff)) → (∀ j : Nat, (j : Int) < z → ff j = fg j) → ch_G l (eE D cI cL cR lo) M_X7_copyFrom ch_T (rM 1 0 0) (ch_Z (eE D cI cL cR lo) 0 0 (fun r0 h2 hi2 => r0 = none ∧ (∃ f2, h2 = ch_set (ch_set h r (.inr (7, [.ref e, .int (iI cn)]))) e (aI cI 100 f2) ∧ ∀ j : Nat, (j : Int) < cn → f2 j = fg j) ∧ hi = hi2)) 0 0 hh hi 17 [(0, .ref r), (1, .ref g), (3, .int (iI z))] [] := by
    intro m
    induction m with
    | zero => intro z hh ff hz0 hz1 hm kr ke kg hh2 hff; exfalso; omega
    | succ m ih =>
      intro z hh ff hz0 hz1 hm kr ke kg hh2 hff
      refine gx_iload_n 2 dX7_copyFrom_17 rfl rfl ?_
      refine gx_aload_n 0 dX7_copyFrom_18 rfl rfl ?_
      refine gx_get (ci := 7) (f := 1) (C := RX7) (T := TX7) (N := 2) rfl inX7 (by decide) mw_1_84 dX7_copyFrom_19 kr rfl ?_
      refine gy_icmp_ge 40 dX7_copyFrom_22 (by decide) (by constructor <;> omega) (by constructor <;> omega) (fun c22 => ?_) (fun c22 => ?_)
      · refine gx_vret rfl dX7_copyFrom_40 (by first | exact Nat.le_of_ble_eq_true rfl | (simp only [rM]; omega)) (by first | exact Nat.le_of_ble_eq_true rfl | (simp only [rM]; omega)) ?_
        exact ⟨rfl, ⟨ff, hh2, fun j hj => hff j (by omega)⟩, rfl⟩
      · refine gx_aload_n 0 dX7_copyFrom_25 rfl rfl ?_
        refine gx_get (ci := 7) (f := 0) (C := RX7) (T := TX7) (N := 2) rfl inX7 (by decide) mw_1_83 dX7_copyFrom_26 kr rfl ?_
        refine gx_iload_n 2 dX7_copyFrom_29 rfl rfl ?_
        refine gx_aload_n 1 dX7_copyFrom_30 rfl rfl ?_
        refine gx_iload_n 2 dX7_copyFrom_31 rfl rfl ?_
        refine gy_iald dX7_copyFrom_32 kg (by omega) (by omega) (by decide) ?_
        refine gy_iast dX7_copyFrom_33 ke (by omega) (by omega) (by decide) (fun h1 eh1 => ?_)
        have k2 : h1 r = some (.inr (7, [.ref e, .int (iI cn)])) := by rw [eh1, ch_set_ne (ch_ne kr ke (by intro q; cases q))]; exact kr
        have k3 : h1 g = some (aI cI 100 fg) := by rw [eh1, ch_set_ne (Ne.symm heg)]; exact kg
        have k4 : h1 e = some (aI cI 100 (updI ff z.toNat (fg z.toNat))) := by rw [eh1]; exact ch_set_self
        refine gy_iinc 2 [(3, .int (iI (z + 1))), (0, .ref r), (1, .ref g)] dX7_copyFrom_34 rfl (by decide) rfl ?_
        refine gx_goto 17 dX7_copyFrom_37 (by decide) ?_
        refine ch_Glv (lv' := [(0, .ref r), (1, .ref g), (3, .int (iI (z + 1)))]) [1, 2, 0] rfl ?_
        exact ih _ _ _ (by omega) (by omega) (by omega) k2 k4 k3 (by rw [eh1, hh2, ch_set_set]) (updI_pre hff hz0)
  refine gx_aload_n 0 dX7_copyFrom_0 rfl rfl ?_
  refine gx_iload_n 2 dX7_copyFrom_1 rfl rfl ?_
  refine gx_aload_n 1 dX7_copyFrom_2 rfl rfl ?_
  refine gx_alen 0 (iI 100) rfl dX7_copyFrom_3 hg rfl ?_
  refine gx_bipush (iI 100) dX7_copyFrom_4 (by decide) ?_
  refine gy_mmin mw_2_190 mw_2_191 mw_1_14 mw_2_192 dX7_copyFrom_6 (by decide) (Nat.le_of_ble_eq_true rfl) (by first | exact Nat.le_of_ble_eq_true rfl | (simp only [rM]; omega)) (by first | exact Nat.le_of_ble_eq_true rfl | (simp only [rM]; omega)) (by decide) (by decide) ?_
  refine gy_mmin mw_2_190 mw_2_191 mw_1_14 mw_2_192 dX7_copyFrom_9 (by decide) (Nat.le_of_ble_eq_true rfl) (by first | exact Nat.le_of_ble_eq_true rfl | (simp only [rM]; omega)) (by first | exact Nat.le_of_ble_eq_true rfl | (simp only [rM]; omega)) (by constructor <;> omega) (by constructor <;> omega) ?_
  refine ch_Gst (st2 := [.int (iI cn), .ref r]) (by rw [show min cn (min 100 100) = cn by omega]) ?_
  refine gy_put (ci := 7) (f := 1) (C := RX7) (T := TX7) (N := 2) (ty := .int) (fs2 := [.ref e, .int (iI cn)]) tyX7 rfl inX7 tyX7_ok nmX7 (by decide) mw_1_84 (Or.inl rfl) (by decide +kernel) rfl rfl dX7_copyFrom_12 hr (by simp) rfl (fun h1 eh1 => ?_)
  have k2 : h1 e = some (aI cI 100 f) := by rw [eh1, ch_set_ne (ch_ne he hr (by intro q; cases q))]; exact he
  have k3 : h1 g = some (aI cI 100 fg) := by rw [eh1, ch_set_ne (ch_ne hg hr (by intro q; cases q))]; exact hg
  have k4 : h1 r = some (.inr (7, [.ref e, .int (iI cn)])) := by rw [eh1]; exact ch_set_self
  refine gx_iconst (iI 0) dX7_copyFrom_15 rfl ?_
  refine gx_istore_n [(3, .int (iI 0)), (0, .ref r), (1, .ref g), (2, .int (iI cn))] dX7_copyFrom_16 rfl (by decide) rfl ?_
  refine ch_Glv (lv' := [(0, .ref r), (1, .ref g), (3, .int (iI 0))]) [1, 2, 0] rfl ?_
  exact loop 120 0 _ f (by omega) (by omega) (by omega) k4 k2 k3 (by rw [eh1]; exact (ch_set_same (by rw [← eh1]; exact k2)).symm) (fun j hj => by omega)
end
end
section
section
set_option maxHeartbeats 4000000 in
set_option maxRecDepth 100000 in
theorem c_X7_init (l : Launch) (D : va_G) (cI cL cR : ClassId) (lo : Nat) (h : ch_H) (hi : Nat) (r : Nat) (hlt : r < hi) (hr : h r = some (.inr (7, [.null, .int (iI 0)]))) : ch_C l (eE D cI cL cR lo) M_X7_init (rM 1 1 100) [.ref r] h hi (fun r0 h2 hi2 => r0 = none ∧ h2 = ch_set (ch_set h hi (aI cI 100 (fun _ => 0))) r (.inr (7, [.ref hi, .int (iI 0)])) ∧ hi + 1 = hi2) := by
  refine ch_C.of rfl (Nat.le_of_ble_eq_true rfl) ?_
  refine gx_aload_n 0 dX7_init_0 rfl rfl ?_
  refine gx_objInit mw_1_82 mw_1_21 mw_1_22 dX7_init_1 (by decide) (Nat.le_of_ble_eq_true rfl) ?_
  refine gx_aload_n 0 dX7_init_4 rfl rfl ?_
  refine gx_bipush (iI 100) dX7_init_5 (by decide) ?_
  refine gy_newi 100 mw_1_54 dX7_init_7 rfl (by decide) (by first | exact Nat.le_of_ble_eq_true rfl | (simp only [rM]; omega)) (by first | exact Nat.le_of_ble_eq_true rfl | (simp only [rM]; omega)) (fun h1 eh1 => ?_)
  have k2 : h1 r = some (.inr (7, [.null, .int (iI 0)])) := by rw [eh1, ch_set_ne (by first | assumption | omega)]; exact hr
  have k3 : h1 hi = some (aI cI 100 (fun _ => 0)) := by rw [eh1]; exact ch_set_self
  refine gy_put (ci := 7) (f := 0) (C := RX7) (T := TX7) (N := 2) (ty := .array (.int)) (fs2 := [.ref hi, .int (iI 0)]) tyX7 rfl inX7 tyX7_ok nmX7 (by decide) mw_1_83 (Or.inr ⟨rfl, rfl, rfl⟩) (by decide +kernel) rfl rfl dX7_init_9 k2 (by simp) rfl (fun h4 eh4 => ?_)
  have k5 : h4 hi = some (aI cI 100 (fun _ => 0)) := by rw [eh4, ch_set_ne (ch_ne k3 k2 (by intro q; cases q))]; exact k3
  have k6 : h4 r = some (.inr (7, [.ref hi, .int (iI 0)])) := by rw [eh4]; exact ch_set_self
  refine gx_aload_n 0 dX7_init_12 rfl rfl ?_
  refine gx_iconst (iI 0) dX7_init_13 rfl ?_
  refine gy_put (ci := 7) (f := 1) (C := RX7) (T := TX7) (N := 2) (ty := .int) (fs2 := [.ref hi, .int (iI 0)]) tyX7 rfl inX7 tyX7_ok nmX7 (by decide) mw_1_84 (Or.inl rfl) (by decide +kernel) rfl rfl dX7_init_14 k6 (by simp) rfl (fun h7 eh7 => ?_)
  have k8 : h7 hi = some (aI cI 100 (fun _ => 0)) := by rw [eh7, ch_set_ne (ch_ne k5 k6 (by intro q; cases q))]; exact k5
  have k9 : h7 r = some (.inr (7, [.ref hi, .int (iI 0)])) := by rw [eh7]; exact ch_set_self
  refine gx_vret rfl dX7_init_17 (by first | exact Nat.le_of_ble_eq_true rfl | (simp only [rM]; omega)) (by first | exact Nat.le_of_ble_eq_true rfl | (simp only [rM]; omega)) ?_
  exact ⟨rfl, by rw [eh7, eh4, eh1]; simp only [ch_set_set], rfl⟩
set_option maxHeartbeats 4000000 in
set_option maxRecDepth 100000 in
theorem c_X3_init (l : Launch) (D : va_G) (cI cL cR : ClassId) (lo : Nat) (h : ch_H) (hi : Nat) (F : Nat) (hlt : F < hi) (hF : h F = some (.inr (3, [.null, .null, .null, .int (iI 0), .int (iI 0)]))) : ch_C l (eE D cI cL cR lo) M_X3_init (rM 1 3 250) [.ref F] h hi (fun r0 h2 hi2 => r0 = none ∧ h2 F = some (.inr (3, [.ref hi, .ref (hi + 1), .ref (hi + 1 + 1), .int (iI 0), .int (iI 0)])) ∧ h2 hi = some (aI cI 100 (fun _ => 0)) ∧ h2 (hi + 1) = some (aI cI 50 (fun _ => 0)) ∧ h2 (hi + 1 + 1) = some (aI cI 100 (fun _ => 0)) ∧ ch_fr [F, hi, hi + 1, hi + 1 + 1] h h2 ∧ hi + 1 + 1 + 1 = hi2) := by
  refine ch_C.of rfl (Nat.le_of_ble_eq_true rfl) ?_
  refine gx_aload_n 0 dX3_init_0 rfl rfl ?_
  refine gx_objInit mw_1_37 mw_1_21 mw_1_22 dX3_init_1 (by decide) (Nat.le_of_ble_eq_true rfl) ?_
  refine gx_aload_n 0 dX3_init_4 rfl rfl ?_
  refine gx_bipush (iI 100) dX3_init_5 (by decide) ?_
  refine gy_newi 100 mw_1_54 dX3_init_7 rfl (by decide) (by first | exact Nat.le_of_ble_eq_true rfl | (simp only [rM]; omega)) (by first | exact Nat.le_of_ble_eq_true rfl | (simp only [rM]; omega)) (fun h1 eh1 => ?_)
  have k2 : h1 F = some (.inr (3, [.null, .null, .null, .int (iI 0), .int (iI 0)])) := by rw [eh1, ch_set_ne (by first | assumption | omega)]; exact hF
  have k3 : h1 hi = some (aI cI 100 (fun _ => 0)) := by rw [eh1]; exact ch_set_self
  refine gy_put (ci := 3) (f := 0) (C := RX3) (T := TX3) (N := 5) (ty := .array (.int)) (fs2 := [.ref hi, .null, .null, .int (iI 0), .int (iI 0)]) tyX3 rfl inX3 tyX3_ok nmX3 (by decide) mw_1_38 (Or.inr ⟨rfl, rfl, rfl⟩) (by decide +kernel) rfl rfl dX3_init_9 k2 (by simp) rfl (fun h4 eh4 => ?_)
  have k5 : h4 hi = some (aI cI 100 (fun _ => 0)) := by rw [eh4, ch_set_ne (ch_ne k3 k2 (by intro q; cases q))]; exact k3
  have k6 : h4 F = some (.inr (3, [.ref hi, .null, .null, .int (iI 0), .int (iI 0)])) := by rw [eh4]; exact ch_set_self
  refine gx_aload_n 0 dX3_init_12 rfl rfl ?_
  refine gx_bipush (iI 50) dX3_init_13 (by decide) ?_
  refine gy_newi 50 mw_1_54 dX3_init_15 rfl (by decide) (by first | exact Nat.le_of_ble_eq_true rfl | (simp only [rM]; omega)) (by first | exact Nat.le_of_ble_eq_true rfl | (simp only [rM]; omega)) (fun h7 eh7 => ?_)
  have k8 : h7 hi = some (aI cI 100 (fun _ => 0)) := by rw [eh7, ch_set_ne (by first | assumption | omega)]; exact k5
  have k9 : h7 F = some (.inr (3, [.ref hi, .null, .null, .int (iI 0), .int (iI 0)])) := by rw [eh7, ch_set_ne (by first | assumption | omega)]; exact k6
  have k10 : h7 (hi + 1) = some (aI cI 50 (fun _ => 0)) := by rw [eh7]; exact ch_set_self
  refine gy_put (ci := 3) (f := 1) (C := RX3) (T := TX3) (N := 5) (ty := .array (.int)) (fs2 := [.ref hi, .ref (hi + 1), .null, .int (iI 0), .int (iI 0)]) tyX3 rfl inX3 tyX3_ok nmX3 (by decide) mw_1_39 (Or.inr ⟨rfl, rfl, rfl⟩) (by decide +kernel) rfl rfl dX3_init_17 k9 (by simp) rfl (fun h11 eh11 => ?_)
  have k12 : h11 hi = some (aI cI 100 (fun _ => 0)) := by rw [eh11, ch_set_ne (ch_ne k8 k9 (by intro q; cases q))]; exact k8
  have k13 : h11 (hi + 1) = some (aI cI 50 (fun _ => 0)) := by rw [eh11, ch_set_ne (ch_ne k10 k9 (by intro q; cases q))]; exact k10
  have k14 : h11 F = some (.inr (3, [.ref hi, .ref (hi + 1), .null, .int (iI 0), .int (iI 0)])) := by rw [eh11]; exact ch_set_self
  refine gx_aload_n 0 dX3_init_20 rfl rfl ?_
  refine gx_bipush (iI 100) dX3_init_21 (by decide) ?_
  refine gy_newi 100 mw_1_54 dX3_init_23 rfl (by decide) (by first | exact Nat.le_of_ble_eq_true rfl | (simp only [rM]; omega)) (by first | exact Nat.le_of_ble_eq_true rfl | (simp only [rM]; omega)) (fun h15 eh15 => ?_)
  have k16 : h15 hi = some (aI cI 100 (fun _ => 0)) := by rw [eh15, ch_set_ne (by first | assumption | omega)]; exact k12
  have k17 : h15 (hi + 1) = some (aI cI 50 (fun _ => 0)) := by rw [eh15, ch_set_ne (by first | assumption | omega)]; exact k13
  have k18 : h15 F = some (.inr (3, [.ref hi, .ref (hi + 1), .null, .int (iI 0), .int (iI 0)])) := by rw [eh15, ch_set_ne (by first | assumption | omega)]; exact k14
  have k19 : h15 (hi + 1 + 1) = some (aI cI 100 (fun _ => 0)) := by rw [eh15]; exact ch_set_self
  refine gy_put (ci := 3) (f := 2) (C := RX3) (T := TX3) (N := 5) (ty := .array (.int)) (fs2 := [.ref hi, .ref (hi + 1), .ref (hi + 1 + 1), .int (iI 0), .int (iI 0)]) tyX3 rfl inX3 tyX3_ok nmX3 (by decide) mw_1_40 (Or.inr ⟨rfl, rfl, rfl⟩) (by decide +kernel) rfl rfl dX3_init_25 k18 (by simp) rfl (fun h20 eh20 => ?_)
  have k21 : h20 hi = some (aI cI 100 (fun _ => 0)) := by rw [eh20, ch_set_ne (ch_ne k16 k18 (by intro q; cases q))]; exact k16
  have k22 : h20 (hi + 1) = some (aI cI 50 (fun _ => 0)) := by rw [eh20, ch_set_ne (ch_ne k17 k18 (by intro q; cases q))]; exact k17
  have k23 : h20 (hi + 1 + 1) = some (aI cI 100 (fun _ => 0)) := by rw [eh20, ch_set_ne (ch_ne k19 k18 (by intro q; cases q))]; exact k19
  have k24 : h20 F = some (.inr (3, [.ref hi, .ref (hi + 1), .ref (hi + 1 + 1), .int (iI 0), .int (iI 0)])) := by rw [eh20]; exact ch_set_self
  refine gx_aload_n 0 dX3_init_28 rfl rfl ?_
  refine gx_iconst (iI 0) dX3_init_29 rfl ?_
  refine gy_put (ci := 3) (f := 3) (C := RX3) (T := TX3) (N := 5) (ty := .int) (fs2 := [.ref hi, .ref (hi + 1), .ref (hi + 1 + 1), .int (iI 0), .int (iI 0)]) tyX3 rfl inX3 tyX3_ok nmX3 (by decide) mw_1_41 (Or.inl rfl) (by decide +kernel) rfl rfl dX3_init_30 k24 (by simp) rfl (fun h25 eh25 => ?_)
  have k26 : h25 hi = some (aI cI 100 (fun _ => 0)) := by rw [eh25, ch_set_ne (ch_ne k21 k24 (by intro q; cases q))]; exact k21
  have k27 : h25 (hi + 1) = some (aI cI 50 (fun _ => 0)) := by rw [eh25, ch_set_ne (ch_ne k22 k24 (by intro q; cases q))]; exact k22
  have k28 : h25 (hi + 1 + 1) = some (aI cI 100 (fun _ => 0)) := by rw [eh25, ch_set_ne (ch_ne k23 k24 (by intro q; cases q))]; exact k23
  have k29 : h25 F = some (.inr (3, [.ref hi, .ref (hi + 1), .ref (hi + 1 + 1), .int (iI 0), .int (iI 0)])) := by rw [eh25]; exact ch_set_self
  refine gx_aload_n 0 dX3_init_33 rfl rfl ?_
  refine gx_iconst (iI 0) dX3_init_34 rfl ?_
  refine gy_put (ci := 3) (f := 4) (C := RX3) (T := TX3) (N := 5) (ty := .int) (fs2 := [.ref hi, .ref (hi + 1), .ref (hi + 1 + 1), .int (iI 0), .int (iI 0)]) tyX3 rfl inX3 tyX3_ok nmX3 (by decide) mw_1_42 (Or.inl rfl) (by decide +kernel) rfl rfl dX3_init_35 k29 (by simp) rfl (fun h30 eh30 => ?_)
  have k31 : h30 hi = some (aI cI 100 (fun _ => 0)) := by rw [eh30, ch_set_ne (ch_ne k26 k29 (by intro q; cases q))]; exact k26
  have k32 : h30 (hi + 1) = some (aI cI 50 (fun _ => 0)) := by rw [eh30, ch_set_ne (ch_ne k27 k29 (by intro q; cases q))]; exact k27
  have k33 : h30 (hi + 1 + 1) = some (aI cI 100 (fun _ => 0)) := by rw [eh30, ch_set_ne (ch_ne k28 k29 (by intro q; cases q))]; exact k28
  have k34 : h30 F = some (.inr (3, [.ref hi, .ref (hi + 1), .ref (hi + 1 + 1), .int (iI 0), .int (iI 0)])) := by rw [eh30]; exact ch_set_self
  refine gx_vret rfl dX3_init_38 (by first | exact Nat.le_of_ble_eq_true rfl | (simp only [rM]; omega)) (by first | exact Nat.le_of_ble_eq_true rfl | (simp only [rM]; omega)) ?_
  exact ⟨rfl, k34, k31, k32, k33, (by rw [eh30]; exact ch_frS (by rw [eh25]; exact ch_frS (by rw [eh20]; exact ch_frS (by rw [eh15]; exact ch_frS (by rw [eh11]; exact ch_frS (by rw [eh7]; exact ch_frS (by rw [eh4]; exact ch_frS (by rw [eh1]; exact ch_frS ch_fr0 (by simp)) (by simp)) (by simp)) (by simp)) (by simp)) (by simp)) (by simp)) (by simp)), rfl⟩
set_option maxHeartbeats 4000000 in
set_option maxRecDepth 100000 in
theorem c_X3_clear (l : Launch) (D : va_G) (cI cL cR : ClassId) (lo : Nat) (h : ch_H) (hi : Nat) (F e s m : Nat) (ec sc : Int) (hF : h F = some (.inr (3, [.ref e, .ref s, .ref m, .int (iI ec), .int (iI sc)]))) : ch_C l (eE D cI cL cR lo) M_X3_clear (rM 0 0 0) [.ref F] h hi (fun r0 h2 hi2 => r0 = none ∧ h2 = ch_set h F (.inr (3, [.ref e, .ref s, .ref m, .int (iI 0), .int (iI 0)])) ∧ hi = hi2) := by
  refine ch_C.of rfl (Nat.le_of_ble_eq_true rfl) ?_
  refine gx_aload_n 0 dX3_clear_0 rfl rfl ?_
  refine gx_iconst (iI 0) dX3_clear_1 rfl ?_
  refine gy_put (ci := 3) (f := 3) (C := RX3) (T := TX3) (N := 5) (ty := .int) (fs2 := [.ref e, .ref s, .ref m, .int (iI 0), .int (iI sc)]) tyX3 rfl inX3 tyX3_ok nmX3 (by decide) mw_1_41 (Or.inl rfl) (by decide +kernel) rfl rfl dX3_clear_2 hF (by simp) rfl (fun h1 eh1 => ?_)
  have k2 : h1 F = some (.inr (3, [.ref e, .ref s, .ref m, .int (iI 0), .int (iI sc)])) := by rw [eh1]; exact ch_set_self
  refine gx_aload_n 0 dX3_clear_5 rfl rfl ?_
  refine gx_iconst (iI 0) dX3_clear_6 rfl ?_
  refine gy_put (ci := 3) (f := 4) (C := RX3) (T := TX3) (N := 5) (ty := .int) (fs2 := [.ref e, .ref s, .ref m, .int (iI 0), .int (iI 0)]) tyX3 rfl inX3 tyX3_ok nmX3 (by decide) mw_1_42 (Or.inl rfl) (by decide +kernel) rfl rfl dX3_clear_7 k2 (by simp) rfl (fun h3 eh3 => ?_)
  have k4 : h3 F = some (.inr (3, [.ref e, .ref s, .ref m, .int (iI 0), .int (iI 0)])) := by rw [eh3]; exact ch_set_self
  refine gx_vret rfl dX3_clear_10 (by first | exact Nat.le_of_ble_eq_true rfl | (simp only [rM]; omega)) (by first | exact Nat.le_of_ble_eq_true rfl | (simp only [rM]; omega)) ?_
  exact ⟨rfl, by rw [eh3, eh1, ch_set_set], rfl⟩
set_option maxHeartbeats 4000000 in
set_option maxRecDepth 100000 in
theorem c_X3_add (l : Launch) (D : va_G) (cI cL cR : ClassId) (lo : Nat) (h : ch_H) (hi : Nat) (F e s m : Nat) (ec sc : Int) (fe fs fm : Nat → Int) (hF : h F = some (.inr (3, [.ref e, .ref s, .ref m, .int (iI ec), .int (iI sc)]))) (he : h e = some (aI cI 100 fe)) (hs : h s = some (aI cI 50 fs)) (hm : h m = some (aI cI 100 fm)) (nes : e ≠ s) (nem : e ≠ m) (nsm : s ≠ m) (h1 : 0 ≤ sc ∧ sc < 50) (h2 : 0 ≤ ec ∧ ec + 2 ≤ 100) (a b : Int) (ha : ir a) (hb : ir b) : ch_C l (eE D cI cL cR lo) M_X3_add (rM 0 0 0) [.ref F, .int (iI a), .int (iI b)] h hi (fun r0 h2 hi2 => r0 = none ∧ h2 F = some (.inr (3, [.ref e, .ref s, .ref m, .int (iI (if a < b then ec + 2 else ec)), .int (iI (sc + 1))])) ∧ h2 e = some (aI cI 100 (if a < b then updI (updI fe ec.toNat a) (ec + 1).toNat b else fe)) ∧ h2 s = some (aI cI 50 (updI fs sc.toNat ec)) ∧ h2 m = some (aI cI 100 fm) ∧ ch_fr [F, e, s] h h2 ∧ hi = hi2) := by
  refine ch_C.of rfl (Nat.le_of_ble_eq_true rfl) ?_
  refine gx_aload_n 0 dX3_add_0 rfl rfl ?_
  refine gx_get (ci := 3) (f := 4) (C := RX3) (T := TX3) (N := 5) rfl inX3 (by decide) mw_1_42 dX3_add_1 hF rfl ?_
  refine gx_bipush (iI 50) dX3_add_4 (by decide) ?_
  refine gy_icmp_ge 20 dX3_add_6 (by decide) (by constructor <;> omega) (by decide) (fun c6 => absurd c6 (by omega)) (fun c6 => ?_)
  refine gx_aload_n 0 dX3_add_9 rfl rfl ?_
  refine gx_get (ci := 3) (f := 3) (C := RX3) (T := TX3) (N := 5) rfl inX3 (by decide) mw_1_41 dX3_add_10 hF rfl ?_
  refine gx_iconst (iI 2) dX3_add_13 rfl ?_
  refine gy_iadd dX3_add_14 ?_
  refine gx_bipush (iI 100) dX3_add_15 (by decide) ?_
  refine gy_icmp_le 21 dX3_add_17 (by decide) (by constructor <;> omega) (by decide) (fun c17 => ?_) (fun c17 => absurd c17 (by omega))
  refine gx_aload_n 0 dX3_add_21 rfl rfl ?_
  refine gx_get (ci := 3) (f := 1) (C := RX3) (T := TX3) (N := 5) rfl inX3 (by decide) mw_1_39 dX3_add_22 hF rfl ?_
  refine gx_aload_n 0 dX3_add_25 rfl rfl ?_
  refine gx_get (ci := 3) (f := 4) (C := RX3) (T := TX3) (N := 5) rfl inX3 (by decide) mw_1_42 dX3_add_26 hF rfl ?_
  refine gx_aload_n 0 dX3_add_29 rfl rfl ?_
  refine gx_get (ci := 3) (f := 3) (C := RX3) (T := TX3) (N := 5) rfl inX3 (by decide) mw_1_41 dX3_add_30 hF rfl ?_
  refine gy_iast dX3_add_33 hs (by omega) (by omega) (by decide) (fun h1 eh1 => ?_)
  have k2 : h1 F = some (.inr (3, [.ref e, .ref s, .ref m, .int (iI ec), .int (iI sc)])) := by rw [eh1, ch_set_ne (ch_ne hF hs (by intro q; cases q))]; exact hF
  have k3 : h1 e = some (aI cI 100 fe) := by rw [eh1, ch_set_ne (nes)]; exact he
  have k4 : h1 m = some (aI cI 100 fm) := by rw [eh1, ch_set_ne (Ne.symm nsm)]; exact hm
  have k5 : h1 s = some (aI cI 50 (updI fs sc.toNat ec)) := by rw [eh1]; exact ch_set_self
  refine gx_aload_n 0 dX3_add_34 rfl rfl ?_
  refine gx_dup dX3_add_35 rfl ?_
  refine gx_get (ci := 3) (f := 4) (C := RX3) (T := TX3) (N := 5) rfl inX3 (by decide) mw_1_42 dX3_add_36 k2 rfl ?_
  refine gx_iconst (iI 1) dX3_add_39 rfl ?_
  refine gy_iadd dX3_add_40 ?_
  refine gy_put (ci := 3) (f := 4) (C := RX3) (T := TX3) (N := 5) (ty := .int) (fs2 := [.ref e, .ref s, .ref m, .int (iI ec), .int (iI (sc + 1))]) tyX3 rfl inX3 tyX3_ok nmX3 (by decide) mw_1_42 (Or.inl rfl) (by decide +kernel) rfl rfl dX3_add_41 k2 (by simp) rfl (fun h6 eh6 => ?_)
  have k7 : h6 e = some (aI cI 100 fe) := by rw [eh6, ch_set_ne (ch_ne k3 k2 (by intro q; cases q))]; exact k3
  have k8 : h6 m = some (aI cI 100 fm) := by rw [eh6, ch_set_ne (ch_ne k4 k2 (by intro q; cases q))]; exact k4
  have k9 : h6 s = some (aI cI 50 (updI fs sc.toNat ec)) := by rw [eh6, ch_set_ne (ch_ne k5 k2 (by intro q; cases q))]; exact k5
  have k10 : h6 F = some (.inr (3, [.ref e, .ref s, .ref m, .int (iI ec), .int (iI (sc + 1))])) := by rw [eh6]; exact ch_set_self
  refine gx_iload_n 1 dX3_add_44 rfl rfl ?_
  refine gx_iload_n 2 dX3_add_45 rfl rfl ?_
  refine gy_icmp_ge 81 dX3_add_46 (by decide) (by constructor <;> omega) (by constructor <;> omega) (fun c46 => ?_) (fun c46 => ?_)
  · refine gx_vret rfl dX3_add_81 (by first | exact Nat.le_of_ble_eq_true rfl | (simp only [rM]; omega)) (by first | exact Nat.le_of_ble_eq_true rfl | (simp only [rM]; omega)) ?_
    exact ⟨rfl, by rw [if_neg (by omega)]; exact k10, by rw [if_neg (by omega)]; exact k7, k9, k8, (by rw [eh6]; exact ch_frS (by rw [eh1]; exact ch_frS ch_fr0 (by simp)) (by simp)), rfl⟩
  · refine gx_aload_n 0 dX3_add_49 rfl rfl ?_
    refine gx_get (ci := 3) (f := 0) (C := RX3) (T := TX3) (N := 5) rfl inX3 (by decide) mw_1_38 dX3_add_50 k10 rfl ?_
    refine gx_aload_n 0 dX3_add_53 rfl rfl ?_
    refine gx_get (ci := 3) (f := 3) (C := RX3) (T := TX3) (N := 5) rfl inX3 (by decide) mw_1_41 dX3_add_54 k10 rfl ?_
    refine gx_iload_n 1 dX3_add_57 rfl rfl ?_
    refine gy_iast dX3_add_58 k7 (by omega) (by omega) (by decide) (fun h11 eh11 => ?_)
    have k12 : h11 m = some (aI cI 100 fm) := by rw [eh11, ch_set_ne (Ne.symm nem)]; exact k8
    have k13 : h11 s = some (aI cI 50 (updI fs sc.toNat ec)) := by rw [eh11, ch_set_ne (Ne.symm nes)]; exact k9
    have k14 : h11 F = some (.inr (3, [.ref e, .ref s, .ref m, .int (iI ec), .int (iI (sc + 1))])) := by rw [eh11, ch_set_ne (ch_ne k10 k7 (by intro q; cases q))]; exact k10
    have k15 : h11 e = some (aI cI 100 (updI fe ec.toNat a)) := by rw [eh11]; exact ch_set_self
    refine gx_aload_n 0 dX3_add_59 rfl rfl ?_
    refine gx_get (ci := 3) (f := 0) (C := RX3) (T := TX3) (N := 5) rfl inX3 (by decide) mw_1_38 dX3_add_60 k14 rfl ?_
    refine gx_aload_n 0 dX3_add_63 rfl rfl ?_
    refine gx_get (ci := 3) (f := 3) (C := RX3) (T := TX3) (N := 5) rfl inX3 (by decide) mw_1_41 dX3_add_64 k14 rfl ?_
    refine gx_iconst (iI 1) dX3_add_67 rfl ?_
    refine gy_iadd dX3_add_68 ?_
    refine gx_iload_n 2 dX3_add_69 rfl rfl ?_
    refine gy_iast dX3_add_70 k15 (by omega) (by omega) (by decide) (fun h16 eh16 => ?_)
    have k17 : h16 m = some (aI cI 100 fm) := by rw [eh16, ch_set_ne (Ne.symm nem)]; exact k12
    have k18 : h16 s = some (aI cI 50 (updI fs sc.toNat ec)) := by rw [eh16, ch_set_ne (Ne.symm nes)]; exact k13
    have k19 : h16 F = some (.inr (3, [.ref e, .ref s, .ref m, .int (iI ec), .int (iI (sc + 1))])) := by rw [eh16, ch_set_ne (ch_ne k14 k15 (by intro q; cases q))]; exact k14
    have k20 : h16 e = some (aI cI 100 (updI (updI fe ec.toNat a) (ec + 1).toNat b)) := by rw [eh16]; exact ch_set_self
    refine gx_aload_n 0 dX3_add_71 rfl rfl ?_
    refine gx_dup dX3_add_72 rfl ?_
    refine gx_get (ci := 3) (f := 3) (C := RX3) (T := TX3) (N := 5) rfl inX3 (by decide) mw_1_41 dX3_add_73 k19 rfl ?_
    refine gx_iconst (iI 2) dX3_add_76 rfl ?_
    refine gy_iadd dX3_add_77 ?_
    refine gy_put (ci := 3) (f := 3) (C := RX3) (T := TX3) (N := 5) (ty := .int) (fs2 := [.ref e, .ref s, .ref m, .int (iI (ec + 2)), .int (iI (sc + 1))]) tyX3 rfl inX3 tyX3_ok nmX3 (by decide) mw_1_41 (Or.inl rfl) (by decide +kernel) rfl rfl dX3_add_78 k19 (by simp) rfl (fun h21 eh21 => ?_)
    have k22 : h21 m = some (aI cI 100 fm) := by rw [eh21, ch_set_ne (ch_ne k17 k19 (by intro q; cases q))]; exact k17
    have k23 : h21 s = some (aI cI 50 (updI fs sc.toNat ec)) := by rw [eh21, ch_set_ne (ch_ne k18 k19 (by intro q; cases q))]; exact k18
    have k24 : h21 e = some (aI cI 100 (updI (updI fe ec.toNat a) (ec + 1).toNat b)) := by rw [eh21, ch_set_ne (ch_ne k20 k19 (by intro q; cases q))]; exact k20
    have k25 : h21 F = some (.inr (3, [.ref e, .ref s, .ref m, .int (iI (ec + 2)), .int (iI (sc + 1))])) := by rw [eh21]; exact ch_set_self
    refine gx_vret rfl dX3_add_81 (by first | exact Nat.le_of_ble_eq_true rfl | (simp only [rM]; omega)) (by first | exact Nat.le_of_ble_eq_true rfl | (simp only [rM]; omega)) ?_
    exact ⟨rfl, by rw [if_pos c46]; exact k25, by rw [if_pos c46]; exact k24, k23, k22, (by rw [eh21]; exact ch_frS (by rw [eh16]; exact ch_frS (by rw [eh11]; exact ch_frS (by rw [eh6]; exact ch_frS (by rw [eh1]; exact ch_frS ch_fr0 (by simp)) (by simp)) (by simp)) (by simp)) (by simp)), rfl⟩
/-- the next edge of two rows -/
def nxE (fe : Nat → Int) (mid ec a b : Int) : Int := if mid ≤ a then (if b < ec then fe b.toNat else 0) else if b < ec ∧ fe b.toNat < fe a.toNat then fe b.toNat else fe a.toNat
def jnB (how : Int) (p q : Bool) : Bool := if how = 0 then p || q else if how = 1 then p && q else p && !q
/-- how mix goes on: the edges that it still notes -/
def mxS (fe : Nat → Int) (mid ec how : Int) : Nat → Int → Int → Bool → Bool → Bool → List Int
  | 0, _, _, _, _, _ => []
  | k + 1, a, b, p, q, j =>
    if a < mid ∨ b < ec then
      (if jnB how (if a < mid ∧ fe a.toNat = nxE fe mid ec a b then !p else p) (if b < ec ∧ fe b.toNat = nxE fe mid ec a b then !q else q) = j
        then mxS fe mid ec how k (if a < mid ∧ fe a.toNat = nxE fe mid ec a b then a + 1 else a) (if b < ec ∧ fe b.toNat = nxE fe mid ec a b then b + 1 else b) (if a < mid ∧ fe a.toNat = nxE fe mid ec a b then !p else p) (if b < ec ∧ fe b.toNat = nxE fe mid ec a b then !q else q) j
        else nxE fe mid ec a b :: mxS fe mid ec how k (if a < mid ∧ fe a.toNat = nxE fe mid ec a b then a + 1 else a) (if b < ec ∧ fe b.toNat = nxE fe mid ec a b then b + 1 else b) (if a < mid ∧ fe a.toNat = nxE fe mid ec a b then !p else p) (if b < ec ∧ fe b.toNat = nxE fe mid ec a b then !q else q) (!j))
    else []
theorem nxE_in {fe : Nat → Int} {mid ec a b : Int} (hfe : ∀ j, -1000000 ≤ fe j ∧ fe j ≤ 1000000) : -1000000 ≤ nxE fe mid ec a b ∧ nxE fe mid ec a b ≤ 1000000 := by
  unfold nxE
  have h1 := hfe a.toNat
  have h2 := hfe b.toNat
  split
  · split
    · exact h2
    · omega
  · split
    · exact h2
    · exact h1
theorem bI_1 {b : Bool} (h : bI b ≠ 0) : b = true := by cases b <;> simp_all [bI]
theorem bI_0 {b : Bool} (h : bI b = 0) : b = false := by cases b <;> simp_all [bI]
theorem bI_e {a b : Bool} (h : bI a = bI b) : a = b := by cases a <;> cases b <;> simp_all [bI]
theorem bI_n {a b : Bool} (h : bI a ≠ bI b) : a = !b := by cases a <;> cases b <;> simp_all [bI]
set_option maxHeartbeats 4000000 in
set_option maxRecDepth 100000 in
theorem c_X3_nextEdge (l : Launch) (D : va_G) (cI cL cR : ClassId) (lo : Nat) (h : ch_H) (hi : Nat) (F e s m : Nat) (ec sc : Int) (fe fs fm : Nat → Int) (hF : h F = some (.inr (3, [.ref e, .ref s, .ref m, .int (iI ec), .int (iI sc)]))) (he : h e = some (aI cI 100 fe)) (hs : h s = some (aI cI 50 fs)) (hm : h m = some (aI cI 100 fm)) (nes : e ≠ s) (nem : e ≠ m) (nsm : s ≠ m) (hfe : ∀ j, -1000000 ≤ fe j ∧ fe j ≤ 1000000) (a mid b : Int) (ha : 0 ≤ a ∧ a ≤ 100) (hmid : 0 ≤ mid ∧ mid ≤ 100) (hb : 0 ≤ b ∧ b ≤ 100) (hec : 0 ≤ ec ∧ ec ≤ 100) : ch_C l (eE D cI cL cR lo) M_X3_nextEdge (rM 0 0 0) [.ref F, .int (iI a), .int (iI mid), .int (iI b)] h hi (fun r0 h2 hi2 => r0 = some (.int (iI (nxE fe mid ec a b))) ∧ h = h2 ∧ hi = hi2) := by
  refine ch_C.of rfl (Nat.le_of_ble_eq_true rfl) ?_
  have ha2 := hfe a.toNat
  have hb2 := hfe b.toNat
  refine gx_iload_n 1 dX3_nextEdge_0 rfl rfl ?_
  refine gx_iload_n 2 dX3_nextEdge_1 rfl rfl ?_
  refine gy_icmp_lt 24 dX3_nextEdge_2 (by decide) (by constructor <;> omega) (by constructor <;> omega) (fun c2 => ?_) (fun c2 => ?_)
  · refine gx_iload_n 3 dX3_nextEdge_24 rfl rfl ?_
    refine gx_aload_n 0 dX3_nextEdge_25 rfl rfl ?_
    refine gx_get (ci := 3) (f := 3) (C := RX3) (T := TX3) (N := 5) rfl inX3 (by decide) mw_1_41 dX3_nextEdge_26 hF rfl ?_
    refine gy_icmp_ge 56 dX3_nextEdge_29 (by decide) (by constructor <;> omega) (by constructor <;> omega) (fun c29 => ?_) (fun c29 => ?_)
    · refine gx_aload_n 0 dX3_nextEdge_56 rfl rfl ?_
      refine gx_get (ci := 3) (f := 0) (C := RX3) (T := TX3) (N := 5) rfl inX3 (by decide) mw_1_38 dX3_nextEdge_57 hF rfl ?_
      refine gx_iload_n 1 dX3_nextEdge_60 rfl rfl ?_
      refine gy_iald dX3_nextEdge_61 he (by omega) (by omega) (by decide) ?_
      refine gx_iret rfl dX3_nextEdge_62 (by first | exact Nat.le_of_ble_eq_true rfl | (simp only [rM]; omega)) (by first | exact Nat.le_of_ble_eq_true rfl | (simp only [rM]; omega)) ?_
      exact ⟨by unfold nxE; rw [if_neg (by omega), if_neg (by omega)], rfl, rfl⟩
    · refine gx_aload_n 0 dX3_nextEdge_32 rfl rfl ?_
      refine gx_get (ci := 3) (f := 0) (C := RX3) (T := TX3) (N := 5) rfl inX3 (by decide) mw_1_38 dX3_nextEdge_33 hF rfl ?_
      refine gx_iload_n 3 dX3_nextEdge_36 rfl rfl ?_
      refine gy_iald dX3_nextEdge_37 he (by omega) (by omega) (by decide) ?_
      refine gx_aload_n 0 dX3_nextEdge_38 rfl rfl ?_
      refine gx_get (ci := 3) (f := 0) (C := RX3) (T := TX3) (N := 5) rfl inX3 (by decide) mw_1_38 dX3_nextEdge_39 hF rfl ?_
      refine gx_iload_n 1 dX3_nextEdge_42 rfl rfl ?_
      refine gy_iald dX3_nextEdge_43 he (by omega) (by omega) (by decide) ?_
      refine gy_icmp_ge 56 dX3_nextEdge_44 (by decide) (by constructor <;> omega) (by constructor <;> omega) (fun c44 => ?_) (fun c44 => ?_)
      · refine gx_aload_n 0 dX3_nextEdge_56 rfl rfl ?_
        refine gx_get (ci := 3) (f := 0) (C := RX3) (T := TX3) (N := 5) rfl inX3 (by decide) mw_1_38 dX3_nextEdge_57 hF rfl ?_
        refine gx_iload_n 1 dX3_nextEdge_60 rfl rfl ?_
        refine gy_iald dX3_nextEdge_61 he (by omega) (by omega) (by decide) ?_
        refine gx_iret rfl dX3_nextEdge_62 (by first | exact Nat.le_of_ble_eq_true rfl | (simp only [rM]; omega)) (by first | exact Nat.le_of_ble_eq_true rfl | (simp only [rM]; omega)) ?_
        exact ⟨by unfold nxE; rw [if_neg (by omega), if_neg (by omega)], rfl, rfl⟩
      · refine gx_aload_n 0 dX3_nextEdge_47 rfl rfl ?_
        refine gx_get (ci := 3) (f := 0) (C := RX3) (T := TX3) (N := 5) rfl inX3 (by decide) mw_1_38 dX3_nextEdge_48 hF rfl ?_
        refine gx_iload_n 3 dX3_nextEdge_51 rfl rfl ?_
        refine gy_iald dX3_nextEdge_52 he (by omega) (by omega) (by decide) ?_
        refine gx_goto 62 dX3_nextEdge_53 (by decide) ?_
        refine gx_iret rfl dX3_nextEdge_62 (by first | exact Nat.le_of_ble_eq_true rfl | (simp only [rM]; omega)) (by first | exact Nat.le_of_ble_eq_true rfl | (simp only [rM]; omega)) ?_
        exact ⟨by unfold nxE; rw [if_neg (by omega), if_pos ⟨by omega, by omega⟩], rfl, rfl⟩
  · refine gx_iload_n 3 dX3_nextEdge_5 rfl rfl ?_
    refine gx_aload_n 0 dX3_nextEdge_6 rfl rfl ?_
    refine gx_get (ci := 3) (f := 3) (C := RX3) (T := TX3) (N := 5) rfl inX3 (by decide) mw_1_41 dX3_nextEdge_7 hF rfl ?_
    refine gy_icmp_ge 22 dX3_nextEdge_10 (by decide) (by constructor <;> omega) (by constructor <;> omega) (fun c10 => ?_) (fun c10 => ?_)
    · refine gx_iconst (iI 0) dX3_nextEdge_22 rfl ?_
      refine gx_iret rfl dX3_nextEdge_23 (by first | exact Nat.le_of_ble_eq_true rfl | (simp only [rM]; omega)) (by first | exact Nat.le_of_ble_eq_true rfl | (simp only [rM]; omega)) ?_
      exact ⟨by unfold nxE; rw [if_pos (by omega), if_neg (by omega)], rfl, rfl⟩
    · refine gx_aload_n 0 dX3_nextEdge_13 rfl rfl ?_
      refine gx_get (ci := 3) (f := 0) (C := RX3) (T := TX3) (N := 5) rfl inX3 (by decide) mw_1_38 dX3_nextEdge_14 hF rfl ?_
      refine gx_iload_n 3 dX3_nextEdge_17 rfl rfl ?_
      refine gy_iald dX3_nextEdge_18 he (by omega) (by omega) (by decide) ?_
      refine gx_goto 23 dX3_nextEdge_19 (by decide) ?_
      refine gx_iret rfl dX3_nextEdge_23 (by first | exact Nat.le_of_ble_eq_true rfl | (simp only [rM]; omega)) (by first | exact Nat.le_of_ble_eq_true rfl | (simp only [rM]; omega)) ?_
      exact ⟨by unfold nxE; rw [if_pos (by omega), if_pos (by omega)], rfl, rfl⟩
set_option maxHeartbeats 4000000 in
set_option maxRecDepth 100000 in
theorem c_X3_isJoined (l : Launch) (D : va_G) (cI cL cR : ClassId) (lo : Nat) (h : ch_H) (hi : Nat) (p q : Bool) (how : Int) (hh : ir how) : ch_C l (eE D cI cL cR lo) M_X3_isJoined (rM 0 0 0) [.int (iI (bI p)), .int (iI (bI q)), .int (iI how)] h hi (fun r0 h2 hi2 => r0 = some (.int (iI (bI (jnB how p q)))) ∧ h = h2 ∧ hi = hi2) := by
  refine ch_C.of rfl (Nat.le_of_ble_eq_true rfl) ?_
  refine gx_iload_n 2 dX3_isJoined_0 rfl rfl ?_
  by_cases w1_0 : how = 0
  · refine gy_lsw (off := 27) 28 dX3_isJoined_1 (by constructor <;> omega) (by decide) (by rw [w1_0]; rfl) (by decide) ?_
    refine gx_iload_n 0 dX3_isJoined_28 rfl rfl ?_
    refine gy_if_ne 36 dX3_isJoined_29 (by decide) ir_bI (fun c29 => ?_) (fun c29 => ?_)
    · refine gx_iconst (iI 1) dX3_isJoined_36 rfl ?_
      refine gx_goto 41 dX3_isJoined_37 (by decide) ?_
      refine gx_zret rfl rfl dX3_isJoined_41 (by first | exact Nat.le_of_ble_eq_true rfl | (simp only [rM]; omega)) (by first | exact Nat.le_of_ble_eq_true rfl | (simp only [rM]; omega)) ?_
      refine ⟨?_, rfl, rfl⟩
      unfold jnB
      rw [if_pos w1_0]
      cases p <;> cases q <;> first | rfl | (exfalso; revert c29; decide)
    · refine gx_iload_n 1 dX3_isJoined_32 rfl rfl ?_
      refine gy_if_eq 40 dX3_isJoined_33 (by decide) ir_bI (fun c33 => ?_) (fun c33 => ?_)
      · refine gx_iconst (iI 0) dX3_isJoined_40 rfl ?_
        refine gx_zret rfl rfl dX3_isJoined_41 (by first | exact Nat.le_of_ble_eq_true rfl | (simp only [rM]; omega)) (by first | exact Nat.le_of_ble_eq_true rfl | (simp only [rM]; omega)) ?_
        refine ⟨?_, rfl, rfl⟩
        unfold jnB
        rw [if_pos w1_0]
        cases p <;> cases q <;> first | rfl | (exfalso; revert c29 c33; decide)
      · refine gx_iconst (iI 1) dX3_isJoined_36 rfl ?_
        refine gx_goto 41 dX3_isJoined_37 (by decide) ?_
        refine gx_zret rfl rfl dX3_isJoined_41 (by first | exact Nat.le_of_ble_eq_true rfl | (simp only [rM]; omega)) (by first | exact Nat.le_of_ble_eq_true rfl | (simp only [rM]; omega)) ?_
        refine ⟨?_, rfl, rfl⟩
        unfold jnB
        rw [if_pos w1_0]
        cases p <;> cases q <;> first | rfl | (exfalso; revert c29 c33; decide)
  · skip
    by_cases w1_1 : how = 1
    · refine gy_lsw (off := 41) 42 dX3_isJoined_1 (by constructor <;> omega) (by decide) (by rw [w1_1]; rfl) (by decide) ?_
      refine gx_iload_n 0 dX3_isJoined_42 rfl rfl ?_
      refine gy_if_eq 54 dX3_isJoined_43 (by decide) ir_bI (fun c43 => ?_) (fun c43 => ?_)
      · refine gx_iconst (iI 0) dX3_isJoined_54 rfl ?_
        refine gx_zret rfl rfl dX3_isJoined_55 (by first | exact Nat.le_of_ble_eq_true rfl | (simp only [rM]; omega)) (by first | exact Nat.le_of_ble_eq_true rfl | (simp only [rM]; omega)) ?_
        refine ⟨?_, rfl, rfl⟩
        unfold jnB
        rw [if_neg w1_0, if_pos w1_1]
        cases p <;> cases q <;> first | rfl | (exfalso; revert c43; decide)
      · refine gx_iload_n 1 dX3_isJoined_46 rfl rfl ?_
        refine gy_if_eq 54 dX3_isJoined_47 (by decide) ir_bI (fun c47 => ?_) (fun c47 => ?_)
        · refine gx_iconst (iI 0) dX3_isJoined_54 rfl ?_
          refine gx_zret rfl rfl dX3_isJoined_55 (by first | exact Nat.le_of_ble_eq_true rfl | (simp only [rM]; omega)) (by first | exact Nat.le_of_ble_eq_true rfl | (simp only [rM]; omega)) ?_
          refine ⟨?_, rfl, rfl⟩
          unfold jnB
          rw [if_neg w1_0, if_pos w1_1]
          cases p <;> cases q <;> first | rfl | (exfalso; revert c43 c47; decide)
        · refine gx_iconst (iI 1) dX3_isJoined_50 rfl ?_
          refine gx_goto 55 dX3_isJoined_51 (by decide) ?_
          refine gx_zret rfl rfl dX3_isJoined_55 (by first | exact Nat.le_of_ble_eq_true rfl | (simp only [rM]; omega)) (by first | exact Nat.le_of_ble_eq_true rfl | (simp only [rM]; omega)) ?_
          refine ⟨?_, rfl, rfl⟩
          unfold jnB
          rw [if_neg w1_0, if_pos w1_1]
          cases p <;> cases q <;> first | rfl | (exfalso; revert c43 c47; decide)
    · skip
      refine gy_lsw (off := 55) 56 dX3_isJoined_1 (by constructor <;> omega) (by decide) (by simp only [Op.lookupswitch.offset_cons]; rw [if_neg (by omega), if_neg (by omega)]; rfl) (by decide) ?_
      refine gx_iload_n 0 dX3_isJoined_56 rfl rfl ?_
      refine gy_if_eq 68 dX3_isJoined_57 (by decide) ir_bI (fun c57 => ?_) (fun c57 => ?_)
      · refine gx_iconst (iI 0) dX3_isJoined_68 rfl ?_
        refine gx_zret rfl rfl dX3_isJoined_69 (by first | exact Nat.le_of_ble_eq_true rfl | (simp only [rM]; omega)) (by first | exact Nat.le_of_ble_eq_true rfl | (simp only [rM]; omega)) ?_
        refine ⟨?_, rfl, rfl⟩
        unfold jnB
        rw [if_neg w1_0, if_neg w1_1]
        cases p <;> cases q <;> first | rfl | (exfalso; revert c57; decide)
      · refine gx_iload_n 1 dX3_isJoined_60 rfl rfl ?_
        refine gy_if_ne 68 dX3_isJoined_61 (by decide) ir_bI (fun c61 => ?_) (fun c61 => ?_)
        · refine gx_iconst (iI 0) dX3_isJoined_68 rfl ?_
          refine gx_zret rfl rfl dX3_isJoined_69 (by first | exact Nat.le_of_ble_eq_true rfl | (simp only [rM]; omega)) (by first | exact Nat.le_of_ble_eq_true rfl | (simp only [rM]; omega)) ?_
          refine ⟨?_, rfl, rfl⟩
          unfold jnB
          rw [if_neg w1_0, if_neg w1_1]
          cases p <;> cases q <;> first | rfl | (exfalso; revert c57 c61; decide)
        · refine gx_iconst (iI 1) dX3_isJoined_64 rfl ?_
          refine gx_goto 69 dX3_isJoined_65 (by decide) ?_
          refine gx_zret rfl rfl dX3_isJoined_69 (by first | exact Nat.le_of_ble_eq_true rfl | (simp only [rM]; omega)) (by first | exact Nat.le_of_ble_eq_true rfl | (simp only [rM]; omega)) ?_
          refine ⟨?_, rfl, rfl⟩
          unfold jnB
          rw [if_neg w1_0, if_neg w1_1]
          cases p <;> cases q <;> first | rfl | (exfalso; revert c57 c61; decide)
end
end
section
section
theorem mx_len {o : List Int} {x : Int} : ((o.length : Int) + 1) = ((o ++ [x]).length : Int) := by simp
theorem mx_app {o : List Int} {x : Int} {ff : Nat → Int} (ho : ∀ i, i < o.length → o[i]? = some (ff i)) : ∀ i, i < (o ++ [x]).length → (o ++ [x])[i]? = some (updI ff (o.length : Int).toNat x i) := by
  intro i hi
  rw [Int.toNat_natCast]
  by_cases q : i = o.length
  · subst q; rw [updI_s]; simp
  · rw [updI_n q, List.getElem?_append_left (by simp at hi; omega)]
    exact ho i (by simp at hi; omega)
set_option maxHeartbeats 4000000 in
set_option maxRecDepth 100000 in
theorem c_X3_mix (l : Launch) (D : va_G) (cI cL cR : ClassId) (lo : Nat) (h : ch_H) (hi : Nat) (F e s m : Nat) (ec sc : Int) (fe fs fm : Nat → Int) (hF : h F = some (.inr (3, [.ref e, .ref s, .ref m, .int (iI ec), .int (iI sc)]))) (he : h e = some (aI cI 100 fe)) (hs : h s = some (aI cI 50 fs)) (hm : h m = some (aI cI 100 fm)) (nes : e ≠ s) (nem : e ≠ m) (nsm : s ≠ m) (hfe : ∀ j, -1000000 ≤ fe j ∧ fe j ≤ 1000000) (start mid how : Int) (hst : 0 ≤ start ∧ start ≤ mid) (hmid : mid ≤ ec) (hec : ec ≤ 100) (hh : ir how) (O : List Int) (hO : mxS fe mid ec how 100 start mid false false false = O) : ch_C l (eE D cI cL cR lo) M_X3_mix (rM 1 0 0) [.ref F, .int (iI start), .int (iI mid), .int (iI how)] h hi (fun r0 h2 hi2 => r0 = some (.int (iI (O.length : Int))) ∧ (∃ fm2, h2 = ch_set h m (aI cI 100 fm2) ∧ O.length ≤ 100 ∧ ∀ i, i < O.length → O[i]? = some (fm2 i)) ∧ hi = hi2) := by
  refine ch_C.of rfl (Nat.le_of_ble_eq_true rfl) ?_
  have loop : ∀ (m2 : Nat) (a b z : Int) (p q j : Bool) (o : List Int) (hh2 : ch_H) (ff : Nat → Int), (0 ≤ a) → (a ≤ mid) → (mid ≤ b) → (b ≤ ec) → (0 ≤ z) → (z ≤ 100) → (101 ≤ z + m2) → (o ++ mxS fe mid ec how (100 - z).toNat a b p q j = O) → ((o.length : Int) ≤ z) → (hh2 F = some (.inr (3, [.ref e, .ref s, .ref m, .int (iI ec), .int (iI sc)]))) → (hh2 e = some (aI cI 100 fe)) → (hh2 s = some (aI cI 50 fs)) → (hh2 m = some (aI cI 100 ff)) → (hh2 = ch_set h m (aI cI 100 ff)) → (∀ i, i < o.length → o[i]? = some (ff i)) → ch_G l (eE D cI cL cR lo) M_X3_mix ch_T (rM 1 0 0) (ch_Z (eE D cI cL cR lo) 0 0 (fun r0 h2 hi2 => r0 = some (.int (iI (O.length : Int))) ∧ (∃ fm2, h2 = ch_set h m (aI cI 100 fm2) ∧ O.length ≤ 100 ∧ ∀ i, i < O.length → O[i]? = some (fm2 i)) ∧ hi = hi2)) 0 0 hh2 hi 21 [(0, .ref F), (2, .int (iI mid)), (3, .int (iI how)), (4, .int (iI a)), (5, .int (iI b)), (6, .int (iI (o.length : Int))), (7, .int (iI (bI p))), (8, .int (iI (bI q))), (9, .int (iI (bI j))), (10, .int (iI z))] [] := by
    intro m2
    induction m2 with
    | zero => intro a b z p q j o hh2 ff ha0 ha1 hb0 hb1 hz0 hz1 hzm heq hol kF ke ks km e2 ho; exfalso; omega
    | succ m2 ih =>
      intro a b z p q j o hh2 ff ha0 ha1 hb0 hb1 hz0 hz1 hzm heq hol kF ke ks km e2 ho
      have hza := nxE_in (mid := mid) (ec := ec) (a := a) (b := b) hfe
      have hfa := hfe a.toNat
      have hfb := hfe b.toNat
      have J160 : z < 100 → (a < mid ∨ b < ec) → ∀ (a2 b2 : Int) (p2 q2 j2 : Bool) (o2 : List Int) (hh3 : ch_H) (ff2 : Nat → Int), a2 = (if a < mid ∧ fe a.toNat = nxE fe mid ec a b then a + 1 else a) → b2 = (if b < ec ∧ fe b.toNat = nxE fe mid ec a b then b + 1 else b) → o2 ++ mxS fe mid ec how (100 - (z + 1)).toNat a2 b2 p2 q2 j2 = O → o2.length ≤ z + 1 → (hh3 F = some (.inr (3, [.ref e, .ref s, .ref m, .int (iI ec), .int (iI sc)]))) → (hh3 e = some (aI cI 100 fe)) → (hh3 s = some (aI cI 50 fs)) → (hh3 m = some (aI cI 100 ff2)) → (hh3 = ch_set h m (aI cI 100 ff2)) → (∀ i, i < o2.length → o2[i]? = some (ff2 i)) → ch_G l (eE D cI cL cR lo) M_X3_mix ch_T (rM 1 0 0) (ch_Z (eE D cI cL cR lo) 0 0 (fun r0 h2 hi2 => r0 = some (.int (iI (O.length : Int))) ∧ (∃ fm2, h2 = ch_set h m (aI cI 100 fm2) ∧ O.length ≤ 100 ∧ ∀ i, i < O.length → O[i]? = some (fm2 i)) ∧ hi = hi2)) 0 0 hh3 hi 160 [(0, .ref F), (2, .int (iI mid)), (3, .int (iI how)), (4, .int (iI a2)), (5, .int (iI b2)), (6, .int (iI (o2.length : Int))), (7, .int (iI (bI p2))), (8, .int (iI (bI q2))), (9, .int (iI (bI j2))), (10, .int (iI z)), (11, .int (iI (nxE fe mid ec a b)))] [] := by
        intro hz9 hc a2 b2 p2 q2 j2 o2 hh3 ff2 ea eb eo hol kF3 ke3 ks3 km3 e3 ho3
        have ha2 : 0 ≤ a2 ∧ a2 ≤ mid := by rw [ea]; split <;> omega
        have hb2 : mid ≤ b2 ∧ b2 ≤ ec := by rw [eb]; split <;> omega
        refine gy_iinc 9 [(10, .int (iI (z + 1))), (0, .ref F), (2, .int (iI mid)), (3, .int (iI how)), (4, .int (iI a2)), (5, .int (iI b2)), (6, .int (iI (o2.length : Int))), (7, .int (iI (bI p2))), (8, .int (iI (bI q2))), (9, .int (iI (bI j2))), (11, .int (iI (nxE fe mid ec a b)))] dX3_mix_160 rfl (by decide) rfl ?_
        refine gx_goto 21 dX3_mix_163 (by decide) ?_
        refine ch_Glv (lv' := [(0, .ref F), (2, .int (iI mid)), (3, .int (iI how)), (4, .int (iI a2)), (5, .int (iI b2)), (6, .int (iI (o2.length : Int))), (7, .int (iI (bI p2))), (8, .int (iI (bI q2))), (9, .int (iI (bI j2))), (10, .int (iI (z + 1)))]) [1, 2, 3, 4, 5, 6, 7, 8, 9, 0] rfl ?_
        exact ih _ _ _ _ _ _ _ _ _ (by omega) (by omega) (by omega) (by omega) (by omega) (by omega) (by omega) eo (by omega) kF3 ke3 ks3 km3 e3 ho3
      have J123 : z < 100 → (a < mid ∨ b < ec) → ∀ (a2 b2 : Int) (p2 q2 : Bool), a2 = (if a < mid ∧ fe a.toNat = nxE fe mid ec a b then a + 1 else a) → b2 = (if b < ec ∧ fe b.toNat = nxE fe mid ec a b then b + 1 else b) → p2 = (if a < mid ∧ fe a.toNat = nxE fe mid ec a b then !p else p) → q2 = (if b < ec ∧ fe b.toNat = nxE fe mid ec a b then !q else q) → ch_G l (eE D cI cL cR lo) M_X3_mix ch_T (rM 1 0 0) (ch_Z (eE D cI cL cR lo) 0 0 (fun r0 h2 hi2 => r0 = some (.int (iI (O.length : Int))) ∧ (∃ fm2, h2 = ch_set h m (aI cI 100 fm2) ∧ O.length ≤ 100 ∧ ∀ i, i < O.length → O[i]? = some (fm2 i)) ∧ hi = hi2)) 0 0 hh2 hi 123 [(0, .ref F), (2, .int (iI mid)), (3, .int (iI how)), (4, .int (iI a2)), (5, .int (iI b2)), (6, .int (iI (o.length : Int))), (7, .int (iI (bI p2))), (8, .int (iI (bI q2))), (9, .int (iI (bI j))), (10, .int (iI z)), (11, .int (iI (nxE fe mid ec a b)))] [] := by
        intro hz9 hc a2 b2 p2 q2 ea eb ep eq
        have hun := heq
        rw [show (100 - z).toNat = (100 - (z + 1)).toNat + 1 by omega, mxS, if_pos hc, ← ea, ← eb, ← ep, ← eq] at hun
        refine gx_iload 6 dX3_mix_123 rfl ?_
        refine gx_iload 7 dX3_mix_125 rfl ?_
        refine gx_iload_n 2 dX3_mix_127 rfl rfl ?_
        refine gx_callS (c_X3_isJoined l D cI cL cR lo hh2 hi p2 q2 how (by constructor <;> omega)) ok_X3_isJoined mw_2_117 mw_2_118 dX3_mix_128 rfl rfl (Nat.le_of_ble_eq_true rfl) (by first | exact Nat.le_of_ble_eq_true rfl | (simp only [rM]; omega)) (by first | exact Nat.le_of_ble_eq_true rfl | (simp only [rM]; omega)) (by first | exact Nat.le_of_ble_eq_true rfl | (simp only [rM]; omega)) (by first | exact Nat.le_of_ble_eq_true rfl | (simp only [rM]; omega)) (fun ry1 hy2 uy3 qy4 gy5 => ?_)
        obtain ⟨rfl, rfl, rfl⟩ := qy4
        refine ch_Gst (st2 := [.int (iI (bI (jnB how p2 q2)))]) rfl ?_
        refine gx_iload 8 dX3_mix_131 rfl ?_
        refine gy_icmp_eq 160 dX3_mix_133 (by decide) ir_bI ir_bI (fun c133 => ?_) (fun c133 => ?_)
        · refine ch_Glv (lv' := [(0, .ref F), (2, .int (iI mid)), (3, .int (iI how)), (4, .int (iI a2)), (5, .int (iI b2)), (6, .int (iI (o.length : Int))), (7, .int (iI (bI p2))), (8, .int (iI (bI q2))), (9, .int (iI (bI j))), (10, .int (iI z)), (11, .int (iI (nxE fe mid ec a b)))]) [0, 1, 2, 3, 4, 5, 6, 7, 8, 9, 10] rfl ?_
          exact J160 hz9 hc a2 b2 p2 q2 j o hh2 ff ea eb (by rw [if_pos (bI_e c133)] at hun; exact hun) (by omega) kF ke ks km e2 ho
        · refine gx_iload 8 dX3_mix_136 rfl ?_
          refine gy_if_ne 145 dX3_mix_138 (by decide) ir_bI (fun c138 => ?_) (fun c138 => ?_)
          · refine gx_iconst (iI 0) dX3_mix_145 rfl ?_
            refine gx_istore [(9, .int (iI 0)), (0, .ref F), (2, .int (iI mid)), (3, .int (iI how)), (4, .int (iI a2)), (5, .int (iI b2)), (6, .int (iI (o.length : Int))), (7, .int (iI (bI p2))), (8, .int (iI (bI q2))), (10, .int (iI z)), (11, .int (iI (nxE fe mid ec a b)))] dX3_mix_146 (by decide) rfl ?_
            refine gx_aload_n 1 dX3_mix_148 rfl rfl ?_
            refine gx_get (ci := 3) (f := 2) (C := RX3) (T := TX3) (N := 5) rfl inX3 (by decide) mw_1_40 dX3_mix_149 kF rfl ?_
            refine gx_iload 6 dX3_mix_152 rfl ?_
            refine gx_iload 10 dX3_mix_154 rfl ?_
            refine gy_iast dX3_mix_156 km (by omega) (by omega) (by decide) (fun hy6 ehy6 => ?_)
            have ky7 : hy6 F = some (.inr (3, [.ref e, .ref s, .ref m, .int (iI ec), .int (iI sc)])) := by rw [ehy6, ch_set_ne (ch_ne kF km (by intro q; cases q))]; exact kF
            have ky8 : hy6 e = some (aI cI 100 fe) := by rw [ehy6, ch_set_ne (nem)]; exact ke
            have ky9 : hy6 s = some (aI cI 50 fs) := by rw [ehy6, ch_set_ne (nsm)]; exact ks
            have ky10 : hy6 m = some (aI cI 100 (updI ff (o.length : Int).toNat (nxE fe mid ec a b))) := by rw [ehy6]; exact ch_set_self
            refine gy_iinc 6 [(6, .int (iI ((o.length : Int) + 1))), (9, .int (iI 0)), (0, .ref F), (2, .int (iI mid)), (3, .int (iI how)), (4, .int (iI a2)), (5, .int (iI b2)), (7, .int (iI (bI p2))), (8, .int (iI (bI q2))), (10, .int (iI z)), (11, .int (iI (nxE fe mid ec a b)))] dX3_mix_157 rfl (by decide) rfl ?_
            refine ch_Ghl (lv2 := [(6, .int (iI ((o ++ [nxE fe mid ec a b]).length : Int))), (9, .int (iI (bI false))), (0, .ref F), (2, .int (iI mid)), (3, .int (iI how)), (4, .int (iI a2)), (5, .int (iI b2)), (7, .int (iI (bI p2))), (8, .int (iI (bI q2))), (10, .int (iI z)), (11, .int (iI (nxE fe mid ec a b)))]) (st2 := []) (by rw [mx_len]; rfl) rfl ?_
            refine ch_Glv (lv' := [(0, .ref F), (2, .int (iI mid)), (3, .int (iI how)), (4, .int (iI a2)), (5, .int (iI b2)), (6, .int (iI ((o ++ [nxE fe mid ec a b]).length : Int))), (7, .int (iI (bI p2))), (8, .int (iI (bI q2))), (9, .int (iI (bI false))), (10, .int (iI z)), (11, .int (iI (nxE fe mid ec a b)))]) [2, 3, 4, 5, 6, 0, 7, 8, 1, 9, 10] rfl ?_
            exact J160 hz9 hc a2 b2 p2 q2 false (o ++ [nxE fe mid ec a b]) _ _ ea eb (by rw [if_neg (fun q9 => c133 (by rw [q9]))] at hun; rw [List.append_assoc, ← hun, show j = true from bI_1 c138]; rfl) (by rw [List.length_append]; simp only [List.length_cons, List.length_nil]; omega) ky7 ky8 ky9 ky10 (by rw [ehy6, e2, ch_set_set]) (mx_app ho)
          · refine gx_iconst (iI 1) dX3_mix_141 rfl ?_
            refine gx_goto 146 dX3_mix_142 (by decide) ?_
            refine gx_istore [(9, .int (iI 1)), (0, .ref F), (2, .int (iI mid)), (3, .int (iI how)), (4, .int (iI a2)), (5, .int (iI b2)), (6, .int (iI (o.length : Int))), (7, .int (iI (bI p2))), (8, .int (iI (bI q2))), (10, .int (iI z)), (11, .int (iI (nxE fe mid ec a b)))] dX3_mix_146 (by decide) rfl ?_
            refine gx_aload_n 1 dX3_mix_148 rfl rfl ?_
            refine gx_get (ci := 3) (f := 2) (C := RX3) (T := TX3) (N := 5) rfl inX3 (by decide) mw_1_40 dX3_mix_149 kF rfl ?_
            refine gx_iload 6 dX3_mix_152 rfl ?_
            refine gx_iload 10 dX3_mix_154 rfl ?_
            refine gy_iast dX3_mix_156 km (by omega) (by omega) (by decide) (fun hy11 ehy11 => ?_)
            have ky12 : hy11 F = some (.inr (3, [.ref e, .ref s, .ref m, .int (iI ec), .int (iI sc)])) := by rw [ehy11, ch_set_ne (ch_ne kF km (by intro q; cases q))]; exact kF
            have ky13 : hy11 e = some (aI cI 100 fe) := by rw [ehy11, ch_set_ne (nem)]; exact ke
            have ky14 : hy11 s = some (aI cI 50 fs) := by rw [ehy11, ch_set_ne (nsm)]; exact ks
            have ky15 : hy11 m = some (aI cI 100 (updI ff (o.length : Int).toNat (nxE fe mid ec a b))) := by rw [ehy11]; exact ch_set_self
            refine gy_iinc 6 [(6, .int (iI ((o.length : Int) + 1))), (9, .int (iI 1)), (0, .ref F), (2, .int (iI mid)), (3, .int (iI how)), (4, .int (iI a2)), (5, .int (iI b2)), (7, .int (iI (bI p2))), (8, .int (iI (bI q2))), (10, .int (iI z)), (11, .int (iI (nxE fe mid ec a b)))] dX3_mix_157 rfl (by decide) rfl ?_
            refine ch_Ghl (lv2 := [(6, .int (iI ((o ++ [nxE fe mid ec a b]).length : Int))), (9, .int (iI (bI true))), (0, .ref F), (2, .int (iI mid)), (3, .int (iI how)), (4, .int (iI a2)), (5, .int (iI b2)), (7, .int (iI (bI p2))), (8, .int (iI (bI q2))), (10, .int (iI z)), (11, .int (iI (nxE fe mid ec a b)))]) (st2 := []) (by rw [mx_len]; rfl) rfl ?_
            refine ch_Glv (lv' := [(0, .ref F), (2, .int (iI mid)), (3, .int (iI how)), (4, .int (iI a2)), (5, .int (iI b2)), (6, .int (iI ((o ++ [nxE fe mid ec a b]).length : Int))), (7, .int (iI (bI p2))), (8, .int (iI (bI q2))), (9, .int (iI (bI true))), (10, .int (iI z)), (11, .int (iI (nxE fe mid ec a b)))]) [2, 3, 4, 5, 6, 0, 7, 8, 1, 9, 10] rfl ?_
            exact J160 hz9 hc a2 b2 p2 q2 true (o ++ [nxE fe mid ec a b]) _ _ ea eb (by rw [if_neg (fun q9 => c133 (by rw [q9]))] at hun; rw [List.append_assoc, ← hun, show j = false from bI_0 c138]; rfl) (by rw [List.length_append]; simp only [List.length_cons, List.length_nil]; omega) ky12 ky13 ky14 ky15 (by rw [ehy11, e2, ch_set_set]) (mx_app ho)
      have J87 : z < 100 → (a < mid ∨ b < ec) → ∀ (a2 : Int) (p2 : Bool), a2 = (if a < mid ∧ fe a.toNat = nxE fe mid ec a b then a + 1 else a) → p2 = (if a < mid ∧ fe a.toNat = nxE fe mid ec a b then !p else p) → ch_G l (eE D cI cL cR lo) M_X3_mix ch_T (rM 1 0 0) (ch_Z (eE D cI cL cR lo) 0 0 (fun r0 h2 hi2 => r0 = some (.int (iI (O.length : Int))) ∧ (∃ fm2, h2 = ch_set h m (aI cI 100 fm2) ∧ O.length ≤ 100 ∧ ∀ i, i < O.length → O[i]? = some (fm2 i)) ∧ hi = hi2)) 0 0 hh2 hi 87 [(0, .ref F), (2, .int (iI mid)), (3, .int (iI how)), (4, .int (iI a2)), (5, .int (iI b)), (6, .int (iI (o.length : Int))), (7, .int (iI (bI p2))), (8, .int (iI (bI q))), (9, .int (iI (bI j))), (10, .int (iI z)), (11, .int (iI (nxE fe mid ec a b)))] [] := by
        intro hz9 hc a2 p2 ea ep
        refine gx_iload 4 dX3_mix_87 rfl ?_
        refine gx_aload_n 0 dX3_mix_89 rfl rfl ?_
        refine gx_get (ci := 3) (f := 3) (C := RX3) (T := TX3) (N := 5) rfl inX3 (by decide) mw_1_41 dX3_mix_90 kF rfl ?_
        refine gy_icmp_ge 123 dX3_mix_93 (by decide) (by constructor <;> omega) (by constructor <;> omega) (fun c93 => ?_) (fun c93 => ?_)
        · refine ch_Glv (lv' := [(0, .ref F), (2, .int (iI mid)), (3, .int (iI how)), (4, .int (iI a2)), (5, .int (iI b)), (6, .int (iI (o.length : Int))), (7, .int (iI (bI p2))), (8, .int (iI (bI q))), (9, .int (iI (bI j))), (10, .int (iI z)), (11, .int (iI (nxE fe mid ec a b)))]) [0, 1, 2, 3, 4, 5, 6, 7, 8, 9, 10] rfl ?_
          exact J123 hz9 hc a2 b p2 q ea (by rw [if_neg (by omega)]) ep (by rw [if_neg (by omega)])
        · refine gx_aload_n 0 dX3_mix_96 rfl rfl ?_
          refine gx_get (ci := 3) (f := 0) (C := RX3) (T := TX3) (N := 5) rfl inX3 (by decide) mw_1_38 dX3_mix_97 kF rfl ?_
          refine gx_iload 4 dX3_mix_100 rfl ?_
          refine gy_iald dX3_mix_102 ke (by omega) (by omega) (by decide) ?_
          refine gx_iload 10 dX3_mix_103 rfl ?_
          refine gy_icmp_ne 123 dX3_mix_105 (by decide) (by constructor <;> omega) (by constructor <;> omega) (fun c105 => ?_) (fun c105 => ?_)
          · refine ch_Glv (lv' := [(0, .ref F), (2, .int (iI mid)), (3, .int (iI how)), (4, .int (iI a2)), (5, .int (iI b)), (6, .int (iI (o.length : Int))), (7, .int (iI (bI p2))), (8, .int (iI (bI q))), (9, .int (iI (bI j))), (10, .int (iI z)), (11, .int (iI (nxE fe mid ec a b)))]) [0, 1, 2, 3, 4, 5, 6, 7, 8, 9, 10] rfl ?_
            exact J123 hz9 hc a2 b p2 q ea (by rw [if_neg (by omega)]) ep (by rw [if_neg (by omega)])
          · refine gx_iload 7 dX3_mix_108 rfl ?_
            refine gy_if_ne 117 dX3_mix_110 (by decide) ir_bI (fun c110 => ?_) (fun c110 => ?_)
            · refine gx_iconst (iI 0) dX3_mix_117 rfl ?_
              refine gx_istore [(8, .int (iI 0)), (0, .ref F), (2, .int (iI mid)), (3, .int (iI how)), (4, .int (iI a2)), (5, .int (iI b)), (6, .int (iI (o.length : Int))), (7, .int (iI (bI p2))), (9, .int (iI (bI j))), (10, .int (iI z)), (11, .int (iI (nxE fe mid ec a b)))] dX3_mix_118 (by decide) rfl ?_
              refine gy_iinc 5 [(5, .int (iI (b + 1))), (8, .int (iI 0)), (0, .ref F), (2, .int (iI mid)), (3, .int (iI how)), (4, .int (iI a2)), (6, .int (iI (o.length : Int))), (7, .int (iI (bI p2))), (9, .int (iI (bI j))), (10, .int (iI z)), (11, .int (iI (nxE fe mid ec a b)))] dX3_mix_120 rfl (by decide) rfl ?_
              refine ch_Glv (lv' := [(0, .ref F), (2, .int (iI mid)), (3, .int (iI how)), (4, .int (iI a2)), (5, .int (iI (b + 1))), (6, .int (iI (o.length : Int))), (7, .int (iI (bI p2))), (8, .int (iI (bI false))), (9, .int (iI (bI j))), (10, .int (iI z)), (11, .int (iI (nxE fe mid ec a b)))]) [2, 3, 4, 5, 0, 6, 7, 1, 8, 9, 10] rfl ?_
              exact J123 hz9 hc a2 (b + 1) p2 false ea (by rw [if_pos ⟨by omega, by omega⟩]) ep (by rw [if_pos ⟨by omega, by omega⟩, show q = true from bI_1 c110]; rfl)
            · refine gx_iconst (iI 1) dX3_mix_113 rfl ?_
              refine gx_goto 118 dX3_mix_114 (by decide) ?_
              refine gx_istore [(8, .int (iI 1)), (0, .ref F), (2, .int (iI mid)), (3, .int (iI how)), (4, .int (iI a2)), (5, .int (iI b)), (6, .int (iI (o.length : Int))), (7, .int (iI (bI p2))), (9, .int (iI (bI j))), (10, .int (iI z)), (11, .int (iI (nxE fe mid ec a b)))] dX3_mix_118 (by decide) rfl ?_
              refine gy_iinc 5 [(5, .int (iI (b + 1))), (8, .int (iI 1)), (0, .ref F), (2, .int (iI mid)), (3, .int (iI how)), (4, .int (iI a2)), (6, .int (iI (o.length : Int))), (7, .int (iI (bI p2))), (9, .int (iI (bI j))), (10, .int (iI z)), (11, .int (iI (nxE fe mid ec a b)))] dX3_mix_120 rfl (by decide) rfl ?_
              refine ch_Glv (lv' := [(0, .ref F), (2, .int (iI mid)), (3, .int (iI how)), (4, .int (iI a2)), (5, .int (iI (b + 1))), (6, .int (iI (o.length : Int))), (7, .int (iI (bI p2))), (8, .int (iI (bI true))), (9, .int (iI (bI j))), (10, .int (iI z)), (11, .int (iI (nxE fe mid ec a b)))]) [2, 3, 4, 5, 0, 6, 7, 1, 8, 9, 10] rfl ?_
              exact J123 hz9 hc a2 (b + 1) p2 true ea (by rw [if_pos ⟨by omega, by omega⟩]) ep (by rw [if_pos ⟨by omega, by omega⟩, show q = false from bI_0 c110]; rfl)
      have hfin : (100 ≤ z ∨ ¬ (a < mid ∨ b < ec)) → O = o := by
        intro hc
        rw [← heq]
        by_cases h9 : z < 100
        · rw [show (100 - z).toNat = (100 - (z + 1)).toNat + 1 by omega, mxS, if_neg (by omega), List.append_nil]
        · rw [show (100 - z).toNat = 0 by omega, mxS, List.append_nil]
      refine gx_iload 9 dX3_mix_21 rfl ?_
      refine gx_bipush (iI 100) dX3_mix_23 (by decide) ?_
      refine gy_icmp_ge 166 dX3_mix_25 (by decide) (by constructor <;> omega) (by decide) (fun c25 => ?_) (fun c25 => ?_)
      · refine gx_iload 5 dX3_mix_166 rfl ?_
        refine gx_iret rfl dX3_mix_168 (by first | exact Nat.le_of_ble_eq_true rfl | (simp only [rM]; omega)) (by first | exact Nat.le_of_ble_eq_true rfl | (simp only [rM]; omega)) ?_
        exact ⟨by rw [hfin (by omega)], ⟨ff, e2, by rw [hfin (by omega)]; omega, by rw [hfin (by omega)]; exact ho⟩, rfl⟩
      · refine gx_iload 3 dX3_mix_28 rfl ?_
        refine gx_iload_n 1 dX3_mix_30 rfl rfl ?_
        refine gy_icmp_lt 43 dX3_mix_31 (by decide) (by constructor <;> omega) (by constructor <;> omega) (fun c31 => ?_) (fun c31 => ?_)
        · refine gx_aload_n 0 dX3_mix_43 rfl rfl ?_
          refine gx_iload 3 dX3_mix_44 rfl ?_
          refine gx_iload_n 1 dX3_mix_46 rfl rfl ?_
          refine gx_iload 4 dX3_mix_47 rfl ?_
          refine gx_callV (ci := 3) (c_X3_nextEdge l D cI cL cR lo hh2 hi F e s m ec sc fe fs ff kF ke ks km nes nem nsm hfe a mid b (by omega) (by omega) (by omega) (by omega)) ok_X3_nextEdge mw_2_113 mw_2_115 mw_p_9 dX3_mix_49 rfl kF rfl rfl (Nat.le_of_ble_eq_true rfl) (by first | exact Nat.le_of_ble_eq_true rfl | (simp only [rM]; omega)) (by first | exact Nat.le_of_ble_eq_true rfl | (simp only [rM]; omega)) (by first | exact Nat.le_of_ble_eq_true rfl | (simp only [rM]; omega)) (by first | exact Nat.le_of_ble_eq_true rfl | (simp only [rM]; omega)) (fun r1 h2 u3 q4 g5 => ?_)
          obtain ⟨rfl, rfl, rfl⟩ := q4
          refine ch_Gst (st2 := [.int (iI (nxE fe mid ec a b))]) rfl ?_
          refine gx_istore [(11, .int (iI (nxE fe mid ec a b))), (0, .ref F), (2, .int (iI mid)), (3, .int (iI how)), (4, .int (iI a)), (5, .int (iI b)), (6, .int (iI (o.length : Int))), (7, .int (iI (bI p))), (8, .int (iI (bI q))), (9, .int (iI (bI j))), (10, .int (iI z))] dX3_mix_52 (by decide) rfl ?_
          refine gx_iload 4 dX3_mix_54 rfl ?_
          refine gx_iload_n 2 dX3_mix_56 rfl rfl ?_
          refine gy_icmp_ge 87 dX3_mix_57 (by decide) (by constructor <;> omega) (by constructor <;> omega) (fun c57 => ?_) (fun c57 => ?_)
          · refine ch_Glv (lv' := [(0, .ref F), (2, .int (iI mid)), (3, .int (iI how)), (4, .int (iI a)), (5, .int (iI b)), (6, .int (iI (o.length : Int))), (7, .int (iI (bI p))), (8, .int (iI (bI q))), (9, .int (iI (bI j))), (10, .int (iI z)), (11, .int (iI (nxE fe mid ec a b)))]) [1, 2, 3, 4, 5, 6, 7, 8, 9, 10, 0] rfl ?_
            exact J87 (by omega) (by omega) a p (by rw [if_neg (by omega)]) (by rw [if_neg (by omega)])
          · refine gx_aload_n 1 dX3_mix_60 rfl rfl ?_
            refine gx_get (ci := 3) (f := 0) (C := RX3) (T := TX3) (N := 5) rfl inX3 (by decide) mw_1_38 dX3_mix_61 kF rfl ?_
            refine gx_iload 4 dX3_mix_64 rfl ?_
            refine gy_iald dX3_mix_66 ke (by omega) (by omega) (by decide) ?_
            refine gx_iload 0 dX3_mix_67 rfl ?_
            refine gy_icmp_ne 87 dX3_mix_69 (by decide) (by constructor <;> omega) (by constructor <;> omega) (fun c69 => ?_) (fun c69 => ?_)
            · refine ch_Glv (lv' := [(0, .ref F), (2, .int (iI mid)), (3, .int (iI how)), (4, .int (iI a)), (5, .int (iI b)), (6, .int (iI (o.length : Int))), (7, .int (iI (bI p))), (8, .int (iI (bI q))), (9, .int (iI (bI j))), (10, .int (iI z)), (11, .int (iI (nxE fe mid ec a b)))]) [1, 2, 3, 4, 5, 6, 7, 8, 9, 10, 0] rfl ?_
              exact J87 (by omega) (by omega) a p (by rw [if_neg (by omega)]) (by rw [if_neg (by omega)])
            · refine gx_iload 7 dX3_mix_72 rfl ?_
              refine gy_if_ne 81 dX3_mix_74 (by decide) ir_bI (fun c74 => ?_) (fun c74 => ?_)
              · refine gx_iconst (iI 0) dX3_mix_81 rfl ?_
                refine gx_istore [(7, .int (iI 0)), (11, .int (iI (nxE fe mid ec a b))), (0, .ref F), (2, .int (iI mid)), (3, .int (iI how)), (4, .int (iI a)), (5, .int (iI b)), (6, .int (iI (o.length : Int))), (8, .int (iI (bI q))), (9, .int (iI (bI j))), (10, .int (iI z))] dX3_mix_82 (by decide) rfl ?_
                refine gy_iinc 5 [(4, .int (iI (a + 1))), (7, .int (iI 0)), (11, .int (iI (nxE fe mid ec a b))), (0, .ref F), (2, .int (iI mid)), (3, .int (iI how)), (5, .int (iI b)), (6, .int (iI (o.length : Int))), (8, .int (iI (bI q))), (9, .int (iI (bI j))), (10, .int (iI z))] dX3_mix_84 rfl (by decide) rfl ?_
                refine ch_Glv (lv' := [(0, .ref F), (2, .int (iI mid)), (3, .int (iI how)), (4, .int (iI (a + 1))), (5, .int (iI b)), (6, .int (iI (o.length : Int))), (7, .int (iI (bI false))), (8, .int (iI (bI q))), (9, .int (iI (bI j))), (10, .int (iI z)), (11, .int (iI (nxE fe mid ec a b)))]) [3, 4, 5, 0, 6, 7, 1, 8, 9, 10, 2] rfl ?_
                exact J87 (by omega) (by omega) (a + 1) false (by rw [if_pos ⟨by omega, by omega⟩]) (by rw [if_pos ⟨by omega, by omega⟩, show p = true from bI_1 c74]; rfl)
              · refine gx_iconst (iI 1) dX3_mix_77 rfl ?_
                refine gx_goto 82 dX3_mix_78 (by decide) ?_
                refine gx_istore [(7, .int (iI 1)), (11, .int (iI (nxE fe mid ec a b))), (0, .ref F), (2, .int (iI mid)), (3, .int (iI how)), (4, .int (iI a)), (5, .int (iI b)), (6, .int (iI (o.length : Int))), (8, .int (iI (bI q))), (9, .int (iI (bI j))), (10, .int (iI z))] dX3_mix_82 (by decide) rfl ?_
                refine gy_iinc 5 [(4, .int (iI (a + 1))), (7, .int (iI 1)), (11, .int (iI (nxE fe mid ec a b))), (0, .ref F), (2, .int (iI mid)), (3, .int (iI how)), (5, .int (iI b)), (6, .int (iI (o.length : Int))), (8, .int (iI (bI q))), (9, .int (iI (bI j))), (10, .int (iI z))] dX3_mix_84 rfl (by decide) rfl ?_
                refine ch_Glv (lv' := [(0, .ref F), (2, .int (iI mid)), (3, .int (iI how)), (4, .int (iI (a + 1))), (5, .int (iI b)), (6, .int (iI (o.length : Int))), (7, .int (iI (bI true))), (8, .int (iI (bI q))), (9, .int (iI (bI j))), (10, .int (iI z)), (11, .int (iI (nxE fe mid ec a b)))]) [3, 4, 5, 0, 6, 7, 1, 8, 9, 10, 2] rfl ?_
                exact J87 (by omega) (by omega) (a + 1) true (by rw [if_pos ⟨by omega, by omega⟩]) (by rw [if_pos ⟨by omega, by omega⟩, show p = false from bI_0 c74]; rfl)
        · refine gx_iload 4 dX3_mix_34 rfl ?_
          refine gx_aload_n 0 dX3_mix_36 rfl rfl ?_
          refine gx_get (ci := 3) (f := 3) (C := RX3) (T := TX3) (N := 5) rfl inX3 (by decide) mw_1_41 dX3_mix_37 kF rfl ?_
          refine gy_icmp_ge 166 dX3_mix_40 (by decide) (by constructor <;> omega) (by constructor <;> omega) (fun c40 => ?_) (fun c40 => ?_)
          · refine gx_iload 5 dX3_mix_166 rfl ?_
            refine gx_iret rfl dX3_mix_168 (by first | exact Nat.le_of_ble_eq_true rfl | (simp only [rM]; omega)) (by first | exact Nat.le_of_ble_eq_true rfl | (simp only [rM]; omega)) ?_
            exact ⟨by rw [hfin (by omega)], ⟨ff, e2, by rw [hfin (by omega)]; omega, by rw [hfin (by omega)]; exact ho⟩, rfl⟩
          · refine gx_aload_n 0 dX3_mix_43 rfl rfl ?_
            refine gx_iload 3 dX3_mix_44 rfl ?_
            refine gx_iload_n 1 dX3_mix_46 rfl rfl ?_
            refine gx_iload 4 dX3_mix_47 rfl ?_
            refine gx_callV (ci := 3) (c_X3_nextEdge l D cI cL cR lo hh2 hi F e s m ec sc fe fs ff kF ke ks km nes nem nsm hfe a mid b (by omega) (by omega) (by omega) (by omega)) ok_X3_nextEdge mw_2_113 mw_2_115 mw_p_9 dX3_mix_49 rfl kF rfl rfl (Nat.le_of_ble_eq_true rfl) (by first | exact Nat.le_of_ble_eq_true rfl | (simp only [rM]; omega)) (by first | exact Nat.le_of_ble_eq_true rfl | (simp only [rM]; omega)) (by first | exact Nat.le_of_ble_eq_true rfl | (simp only [rM]; omega)) (by first | exact Nat.le_of_ble_eq_true rfl | (simp only [rM]; omega)) (fun r6 h7 u8 q9 g10 => ?_)
            obtain ⟨rfl, rfl, rfl⟩ := q9
            refine ch_Gst (st2 := [.int (iI (nxE fe mid ec a b))]) rfl ?_
            refine gx_istore [(11, .int (iI (nxE fe mid ec a b))), (0, .ref F), (2, .int (iI mid)), (3, .int (iI how)), (4, .int (iI a)), (5, .int (iI b)), (6, .int (iI (o.length : Int))), (7, .int (iI (bI p))), (8, .int (iI (bI q))), (9, .int (iI (bI j))), (10, .int (iI z))] dX3_mix_52 (by decide) rfl ?_
            refine gx_iload 4 dX3_mix_54 rfl ?_
            refine gx_iload_n 2 dX3_mix_56 rfl rfl ?_
            refine gy_icmp_ge 87 dX3_mix_57 (by decide) (by constructor <;> omega) (by constructor <;> omega) (fun c57 => ?_) (fun c57 => ?_)
            · refine ch_Glv (lv' := [(0, .ref F), (2, .int (iI mid)), (3, .int (iI how)), (4, .int (iI a)), (5, .int (iI b)), (6, .int (iI (o.length : Int))), (7, .int (iI (bI p))), (8, .int (iI (bI q))), (9, .int (iI (bI j))), (10, .int (iI z)), (11, .int (iI (nxE fe mid ec a b)))]) [1, 2, 3, 4, 5, 6, 7, 8, 9, 10, 0] rfl ?_
              exact J87 (by omega) (by omega) a p (by rw [if_neg (by omega)]) (by rw [if_neg (by omega)])
            · refine gx_aload_n 1 dX3_mix_60 rfl rfl ?_
              refine gx_get (ci := 3) (f := 0) (C := RX3) (T := TX3) (N := 5) rfl inX3 (by decide) mw_1_38 dX3_mix_61 kF rfl ?_
              refine gx_iload 4 dX3_mix_64 rfl ?_
              refine gy_iald dX3_mix_66 ke (by omega) (by omega) (by decide) ?_
              refine gx_iload 0 dX3_mix_67 rfl ?_
              refine gy_icmp_ne 87 dX3_mix_69 (by decide) (by constructor <;> omega) (by constructor <;> omega) (fun c69 => ?_) (fun c69 => ?_)
              · refine ch_Glv (lv' := [(0, .ref F), (2, .int (iI mid)), (3, .int (iI how)), (4, .int (iI a)), (5, .int (iI b)), (6, .int (iI (o.length : Int))), (7, .int (iI (bI p))), (8, .int (iI (bI q))), (9, .int (iI (bI j))), (10, .int (iI z)), (11, .int (iI (nxE fe mid ec a b)))]) [1, 2, 3, 4, 5, 6, 7, 8, 9, 10, 0] rfl ?_
                exact J87 (by omega) (by omega) a p (by rw [if_neg (by omega)]) (by rw [if_neg (by omega)])
              · refine gx_iload 7 dX3_mix_72 rfl ?_
                refine gy_if_ne 81 dX3_mix_74 (by decide) ir_bI (fun c74 => ?_) (fun c74 => ?_)
                · refine gx_iconst (iI 0) dX3_mix_81 rfl ?_
                  refine gx_istore [(7, .int (iI 0)), (11, .int (iI (nxE fe mid ec a b))), (0, .ref F), (2, .int (iI mid)), (3, .int (iI how)), (4, .int (iI a)), (5, .int (iI b)), (6, .int (iI (o.length : Int))), (8, .int (iI (bI q))), (9, .int (iI (bI j))), (10, .int (iI z))] dX3_mix_82 (by decide) rfl ?_
                  refine gy_iinc 5 [(4, .int (iI (a + 1))), (7, .int (iI 0)), (11, .int (iI (nxE fe mid ec a b))), (0, .ref F), (2, .int (iI mid)), (3, .int (iI how)), (5, .int (iI b)), (6, .int (iI (o.length : Int))), (8, .int (iI (bI q))), (9, .int (iI (bI j))), (10, .int (iI z))] dX3_mix_84 rfl (by decide) rfl ?_
                  refine ch_Glv (lv' := [(0, .ref F), (2, .int (iI mid)), (3, .int (iI how)), (4, .int (iI (a + 1))), (5, .int (iI b)), (6, .int (iI (o.length : Int))), (7, .int (iI (bI false))), (8, .int (iI (bI q))), (9, .int (iI (bI j))), (10, .int (iI z)), (11, .int (iI (nxE fe mid ec a b)))]) [3, 4, 5, 0, 6, 7, 1, 8, 9, 10, 2] rfl ?_
                  exact J87 (by omega) (by omega) (a + 1) false (by rw [if_pos ⟨by omega, by omega⟩]) (by rw [if_pos ⟨by omega, by omega⟩, show p = true from bI_1 c74]; rfl)
                · refine gx_iconst (iI 1) dX3_mix_77 rfl ?_
                  refine gx_goto 82 dX3_mix_78 (by decide) ?_
                  refine gx_istore [(7, .int (iI 1)), (11, .int (iI (nxE fe mid ec a b))), (0, .ref F), (2, .int (iI mid)), (3, .int (iI how)), (4, .int (iI a)), (5, .int (iI b)), (6, .int (iI (o.length : Int))), (8, .int (iI (bI q))), (9, .int (iI (bI j))), (10, .int (iI z))] dX3_mix_82 (by decide) rfl ?_
                  refine gy_iinc 5 [(4, .int (iI (a + 1))), (7, .int (iI 1)), (11, .int (iI (nxE fe mid ec a b))), (0, .ref F), (2, .int (iI mid)), (3, .int (iI how)), (5, .int (iI b)), (6, .int (iI (o.length : Int))), (8, .int (iI (bI q))), (9, .int (iI (bI j))), (10, .int (iI z))] dX3_mix_84 rfl (by decide) rfl ?_
                  refine ch_Glv (lv' := [(0, .ref F), (2, .int (iI mid)), (3, .int (iI how)), (4, .int (iI (a + 1))), (5, .int (iI b)), (6, .int (iI (o.length : Int))), (7, .int (iI (bI true))), (8, .int (iI (bI q))), (9, .int (iI (bI j))), (10, .int (iI z)), (11, .int (iI (nxE fe mid ec a b)))]) [3, 4, 5, 0, 6, 7, 1, 8, 9, 10, 2] rfl ?_
                  exact J87 (by omega) (by omega) (a + 1) true (by rw [if_pos ⟨by omega, by omega⟩]) (by rw [if_pos ⟨by omega, by omega⟩, show p = false from bI_0 c74]; rfl)
  refine gx_iload_n 1 dX3_mix_0 rfl rfl ?_
  refine gx_istore [(4, .int (iI start)), (0, .ref F), (1, .int (iI start)), (2, .int (iI mid)), (3, .int (iI how))] dX3_mix_1 (by decide) rfl ?_
  refine gx_iload_n 3 dX3_mix_3 rfl rfl ?_
  refine gx_istore [(5, .int (iI mid)), (4, .int (iI start)), (0, .ref F), (1, .int (iI start)), (2, .int (iI mid)), (3, .int (iI how))] dX3_mix_4 (by decide) rfl ?_
  refine gx_iconst (iI 0) dX3_mix_6 rfl ?_
  refine gx_istore [(6, .int (iI 0)), (5, .int (iI mid)), (4, .int (iI start)), (0, .ref F), (1, .int (iI start)), (2, .int (iI mid)), (3, .int (iI how))] dX3_mix_7 (by decide) rfl ?_
  refine gx_iconst (iI 0) dX3_mix_9 rfl ?_
  refine gx_istore [(7, .int (iI 0)), (6, .int (iI 0)), (5, .int (iI mid)), (4, .int (iI start)), (0, .ref F), (1, .int (iI start)), (2, .int (iI mid)), (3, .int (iI how))] dX3_mix_10 (by decide) rfl ?_
  refine gx_iconst (iI 0) dX3_mix_12 rfl ?_
  refine gx_istore [(8, .int (iI 0)), (7, .int (iI 0)), (6, .int (iI 0)), (5, .int (iI mid)), (4, .int (iI start)), (0, .ref F), (1, .int (iI start)), (2, .int (iI mid)), (3, .int (iI how))] dX3_mix_13 (by decide) rfl ?_
  refine gx_iconst (iI 0) dX3_mix_15 rfl ?_
  refine gx_istore [(9, .int (iI 0)), (8, .int (iI 0)), (7, .int (iI 0)), (6, .int (iI 0)), (5, .int (iI mid)), (4, .int (iI start)), (0, .ref F), (1, .int (iI start)), (2, .int (iI mid)), (3, .int (iI how))] dX3_mix_16 (by decide) rfl ?_
  refine gx_iconst (iI 0) dX3_mix_18 rfl ?_
  refine gx_istore [(10, .int (iI 0)), (9, .int (iI 0)), (8, .int (iI 0)), (7, .int (iI 0)), (6, .int (iI 0)), (5, .int (iI mid)), (4, .int (iI start)), (0, .ref F), (1, .int (iI start)), (2, .int (iI mid)), (3, .int (iI how))] dX3_mix_19 (by decide) rfl ?_
  refine ch_Glv (lv' := [(0, .ref F), (2, .int (iI mid)), (3, .int (iI how)), (4, .int (iI start)), (5, .int (iI mid)), (6, .int (iI 0)), (7, .int (iI 0)), (8, .int (iI 0)), (9, .int (iI 0)), (10, .int (iI 0))]) [7, 9, 10, 6, 5, 4, 3, 2, 1, 0] rfl ?_
  exact loop 101 start mid 0 false false false [] h fm (by omega) (by omega) (by omega) (by omega) (by omega) (by omega) (by omega) hO (by simp) hF he hs hm (ch_set_same hm).symm (fun i hi => absurd hi (by simp))
end
end
section
section
theorem mxS_in {fe : Nat → Int} {mid ec how : Int} (hfe : ∀ j, -1000000 ≤ fe j ∧ fe j ≤ 1000000) : ∀ (k : Nat) (a b : Int) (p q j : Bool) (x : Int), x ∈ mxS fe mid ec how k a b p q j → -1000000 ≤ x ∧ x ≤ 1000000 := by
  intro k
  induction k with
  | zero => intro a b p q j x hx; rw [mxS] at hx; exact absurd hx (by simp)
  | succ k ih =>
    intro a b p q j x hx
    rw [mxS] at hx
    by_cases hc : a < mid ∨ b < ec
    · rw [if_pos hc] at hx
      generalize (if a < mid ∧ fe a.toNat = nxE fe mid ec a b then !p else p) = p2 at hx
      generalize (if b < ec ∧ fe b.toNat = nxE fe mid ec a b then !q else q) = q2 at hx
      generalize (if a < mid ∧ fe a.toNat = nxE fe mid ec a b then a + 1 else a) = a2 at hx
      generalize (if b < ec ∧ fe b.toNat = nxE fe mid ec a b then b + 1 else b) = b2 at hx
      by_cases hj : jnB how p2 q2 = j
      · rw [if_pos hj] at hx
        exact ih _ _ _ _ _ _ hx
      · rw [if_neg hj] at hx
        rcases List.mem_cons.mp hx with rfl | hx
        · exact nxE_in hfe
        · exact ih _ _ _ _ _ _ hx
    · rw [if_neg hc] at hx
      exact absurd hx (by simp)
theorem jn_cp {O : List Int} {ff fm2 : Nat → Int} {start : Int} {z : Int} (h0 : 0 ≤ start) (hz : 0 ≤ z) (hz1 : z < (O.length : Int)) (hfm : ∀ i, i < O.length → O[i]? = some (fm2 i)) (h : ∀ i : Nat, (i : Int) < z → O[i]? = some (ff (start.toNat + i))) : ∀ i : Nat, (i : Int) < z + 1 → O[i]? = some (updI ff (start + z).toNat (fm2 z.toNat) (start.toNat + i)) := by
  intro i hi
  by_cases q : i = z.toNat
  · rw [q, show start.toNat + z.toNat = (start + z).toNat by omega, updI_s]
    exact hfm _ (by omega)
  · rw [updI_n (by omega)]
    exact h i (by omega)
theorem jn_bd {ff : Nat → Int} {k : Nat} {x : Int} (hff : ∀ j, -1000000 ≤ ff j ∧ ff j ≤ 1000000) (hx : -1000000 ≤ x ∧ x ≤ 1000000) : ∀ j, -1000000 ≤ updI ff k x j ∧ updI ff k x j ≤ 1000000 := by
  intro j
  by_cases q : j = k
  · rw [q, updI_s]; exact hx
  · rw [updI_n q]; exact hff j
set_option maxHeartbeats 4000000 in
set_option maxRecDepth 100000 in
theorem c_X3_joinNewest (l : Launch) (D : va_G) (cI cL cR : ClassId) (lo : Nat) (h : ch_H) (hi : Nat) (F e s m : Nat) (ec sc : Int) (fe fs fm : Nat → Int) (hF : h F = some (.inr (3, [.ref e, .ref s, .ref m, .int (iI ec), .int (iI sc)]))) (he : h e = some (aI cI 100 fe)) (hs : h s = some (aI cI 50 fs)) (hm : h m = some (aI cI 100 fm)) (nes : e ≠ s) (nem : e ≠ m) (nsm : s ≠ m) (hfe : ∀ j, -1000000 ≤ fe j ∧ fe j ≤ 1000000) (start mid how : Int) (hsc : 2 ≤ sc ∧ sc ≤ 50) (e1 : fs (sc - 2).toNat = start) (e2 : fs (sc - 1).toNat = mid) (hst : 0 ≤ start ∧ start ≤ mid) (hmid : mid ≤ ec) (hec : ec ≤ 100) (hh : ir how) (O : List Int) (hO : mxS fe mid ec how 100 start mid false false false = O) (hOl : start + O.length ≤ 100) : ch_C l (eE D cI cL cR lo) M_X3_joinNewest (rM 2 0 0) [.ref F, .int (iI how)] h hi (fun r0 h2 hi2 => r0 = none ∧ (∃ fe2 fm2, h2 F = some (.inr (3, [.ref e, .ref s, .ref m, .int (iI (start + O.length)), .int (iI (sc - 1))])) ∧ h2 e = some (aI cI 100 fe2) ∧ h2 s = some (aI cI 50 fs) ∧ h2 m = some (aI cI 100 fm2) ∧ (∀ j : Nat, (j : Int) < start → fe2 j = fe j) ∧ (∀ i, i < O.length → O[i]? = some (fe2 (start.toNat + i))) ∧ ∀ j, -1000000 ≤ fe2 j ∧ fe2 j ≤ 1000000) ∧ ch_fr [F, e, m] h h2 ∧ hi = hi2) := by
  refine ch_C.of rfl (Nat.le_of_ble_eq_true rfl) ?_
  refine gx_aload_n 0 dX3_joinNewest_0 rfl rfl ?_
  refine gx_get (ci := 3) (f := 4) (C := RX3) (T := TX3) (N := 5) rfl inX3 (by decide) mw_1_42 dX3_joinNewest_1 hF rfl ?_
  refine gx_iconst (iI 2) dX3_joinNewest_4 rfl ?_
  refine gy_icmp_ge 9 dX3_joinNewest_5 (by decide) (by constructor <;> omega) (by decide) (fun c5 => ?_) (fun c5 => absurd c5 (by omega))
  refine gx_aload_n 0 dX3_joinNewest_9 rfl rfl ?_
  refine gx_get (ci := 3) (f := 1) (C := RX3) (T := TX3) (N := 5) rfl inX3 (by decide) mw_1_39 dX3_joinNewest_10 hF rfl ?_
  refine gx_aload_n 0 dX3_joinNewest_13 rfl rfl ?_
  refine gx_get (ci := 3) (f := 4) (C := RX3) (T := TX3) (N := 5) rfl inX3 (by decide) mw_1_42 dX3_joinNewest_14 hF rfl ?_
  refine gx_iconst (iI 2) dX3_joinNewest_17 rfl ?_
  refine gy_isub dX3_joinNewest_18 ?_
  refine gy_iald dX3_joinNewest_19 hs (by omega) (by omega) (by decide) ?_
  refine ch_Gst (st2 := [.int (iI start)]) (by rw [e1]; try rfl) ?_
  refine gx_istore_n [(2, .int (iI start)), (0, .ref F), (1, .int (iI how))] dX3_joinNewest_20 rfl (by decide) rfl ?_
  refine gx_aload_n 1 dX3_joinNewest_21 rfl rfl ?_
  refine gx_iload_n 0 dX3_joinNewest_22 rfl rfl ?_
  refine gx_aload_n 1 dX3_joinNewest_23 rfl rfl ?_
  refine gx_get (ci := 3) (f := 1) (C := RX3) (T := TX3) (N := 5) rfl inX3 (by decide) mw_1_39 dX3_joinNewest_24 hF rfl ?_
  refine gx_aload_n 1 dX3_joinNewest_27 rfl rfl ?_
  refine gx_get (ci := 3) (f := 4) (C := RX3) (T := TX3) (N := 5) rfl inX3 (by decide) mw_1_42 dX3_joinNewest_28 hF rfl ?_
  refine gx_iconst (iI 1) dX3_joinNewest_31 rfl ?_
  refine gy_isub dX3_joinNewest_32 ?_
  refine gy_iald dX3_joinNewest_33 hs (by omega) (by omega) (by decide) ?_
  refine ch_Gst (st2 := [.int (iI mid), .int (iI start), .ref F]) (by rw [e2]; try rfl) ?_
  refine gx_iload_n 2 dX3_joinNewest_34 rfl rfl ?_
  refine gx_callV (ci := 3) (c_X3_mix l D cI cL cR lo h hi F e s m ec sc fe fs fm hF he hs hm nes nem nsm hfe start mid how hst hmid hec hh O hO) ok_X3_mix mw_2_109 mw_2_111 mw_p_8 dX3_joinNewest_35 rfl hF rfl rfl (Nat.le_of_ble_eq_true rfl) (by first | exact Nat.le_of_ble_eq_true rfl | (simp only [rM]; omega)) (by first | exact Nat.le_of_ble_eq_true rfl | (simp only [rM]; omega)) (by first | exact Nat.le_of_ble_eq_true rfl | (simp only [rM]; omega)) (by first | exact Nat.le_of_ble_eq_true rfl | (simp only [rM]; omega)) (fun r1 h2 u3 q4 g5 => ?_)
  obtain ⟨rfl, ⟨fm2, eh, hOl2, hfm⟩, rfl⟩ := q4
  have k6 : h2 F = some (.inr (3, [.ref e, .ref s, .ref m, .int (iI ec), .int (iI sc)])) := by rw [eh, ch_set_ne (ch_ne hF hm (by intro q; cases q))]; exact hF
  have k7 : h2 e = some (aI cI 100 fe) := by rw [eh, ch_set_ne (nem)]; exact he
  have k8 : h2 s = some (aI cI 50 fs) := by rw [eh, ch_set_ne (nsm)]; exact hs
  have k9 : h2 m = some (aI cI 100 fm2) := by rw [eh]; exact ch_set_self
  refine ch_Gst (st2 := [.int (iI (O.length : Int))]) rfl ?_
  refine gx_istore_n [(3, .int (iI (O.length : Int))), (2, .int (iI start)), (0, .ref F), (1, .int (iI how))] dX3_joinNewest_38 rfl (by decide) rfl ?_
  refine gx_iconst (iI 0) dX3_joinNewest_39 rfl ?_
  refine gx_istore [(4, .int (iI 0)), (3, .int (iI (O.length : Int))), (2, .int (iI start)), (0, .ref F), (1, .int (iI how))] dX3_joinNewest_40 (by decide) rfl ?_
  refine ch_Glv (lv' := [(0, .ref F), (2, .int (iI start)), (3, .int (iI (O.length : Int))), (4, .int (iI 0))]) [3, 2, 1, 0] rfl ?_
  have hbm : ∀ i, i < O.length → -1000000 ≤ fm2 i ∧ fm2 i ≤ 1000000 := fun i hi => mxS_in hfe 100 start mid false false false (fm2 i) (by rw [hO]; exact List.mem_of_getElem? (hfm i hi))
  have loop : ∀ (m2 : Nat) (z : Int) (hh2 : ch_H) (ff : Nat → Int), (0 ≤ z) → (z ≤ O.length) → (101 ≤ z + m2) → (hh2 F = some (.inr (3, [.ref e, .ref s, .ref m, .int (iI ec), .int (iI sc)]))) → (hh2 e = some (aI cI 100 ff)) → (hh2 s = some (aI cI 50 fs)) → (hh2 m = some (aI cI 100 fm2)) → (ch_fr [F, e, m] h hh2) → (∀ j : Nat, (j : Int) < start → ff j = fe j) → (∀ i : Nat, (i : Int) < z → O[i]? = some (ff (start.toNat + i))) → (∀ j, -1000000 ≤ ff j ∧ ff j ≤ 1000000) → ch_G l (eE D cI cL cR lo) M_X3_joinNewest ch_T (rM 2 0 0) (ch_Z (eE D cI cL cR lo) 0 0 (fun r0 h2 hi2 => r0 = none ∧ (∃ fe2 fm2, h2 F = some (.inr (3, [.ref e, .ref s, .ref m, .int (iI (start + O.length)), .int (iI (sc - 1))])) ∧ h2 e = some (aI cI 100 fe2) ∧ h2 s = some (aI cI 50 fs) ∧ h2 m = some (aI cI 100 fm2) ∧ (∀ j : Nat, (j : Int) < start → fe2 j = fe j) ∧ (∀ i, i < O.length → O[i]? = some (fe2 (start.toNat + i))) ∧ ∀ j, -1000000 ≤ fe2 j ∧ fe2 j ≤ 1000000) ∧ ch_fr [F, e, m] h h2 ∧ hi = hi2)) 0 0 hh2 hi 42 [(0, .ref F), (2, .int (iI start)), (3, .int (iI (O.length : Int))), (4, .int (iI z))] [] := by
    intro m2
    induction m2 with
    | zero => intro z hh2 ff hz0 hz1 hzm kF ke ks km hfr hl1 hl2 hl3; exfalso; omega
    | succ m2 ih =>
      intro z hh2 ff hz0 hz1 hzm kF ke ks km hfr hl1 hl2 hl3
      refine gx_iload 3 dX3_joinNewest_42 rfl ?_
      refine gx_iload_n 2 dX3_joinNewest_44 rfl rfl ?_
      refine gy_icmp_ge 79 dX3_joinNewest_45 (by decide) (by constructor <;> omega) (by constructor <;> omega) (fun c45 => ?_) (fun c45 => ?_)
      · refine gx_aload_n 0 dX3_joinNewest_79 rfl rfl ?_
        refine gx_iload_n 1 dX3_joinNewest_80 rfl rfl ?_
        refine gx_iload_n 2 dX3_joinNewest_81 rfl rfl ?_
        refine gy_iadd dX3_joinNewest_82 ?_
        refine gy_put (ci := 3) (f := 3) (C := RX3) (T := TX3) (N := 5) (ty := .int) (fs2 := [.ref e, .ref s, .ref m, .int (iI (start + (O.length : Int))), .int (iI sc)]) tyX3 rfl inX3 tyX3_ok nmX3 (by decide) mw_1_41 (Or.inl rfl) (by decide +kernel) rfl rfl dX3_joinNewest_83 kF (by simp) rfl (fun h1 eh1 => ?_)
        have k2 : h1 e = some (aI cI 100 ff) := by rw [eh1, ch_set_ne (ch_ne ke kF (by intro q; cases q))]; exact ke
        have k3 : h1 s = some (aI cI 50 fs) := by rw [eh1, ch_set_ne (ch_ne ks kF (by intro q; cases q))]; exact ks
        have k4 : h1 m = some (aI cI 100 fm2) := by rw [eh1, ch_set_ne (ch_ne km kF (by intro q; cases q))]; exact km
        have k5 : h1 F = some (.inr (3, [.ref e, .ref s, .ref m, .int (iI (start + (O.length : Int))), .int (iI sc)])) := by rw [eh1]; exact ch_set_self
        refine gx_aload_n 0 dX3_joinNewest_86 rfl rfl ?_
        refine gx_dup dX3_joinNewest_87 rfl ?_
        refine gx_get (ci := 3) (f := 4) (C := RX3) (T := TX3) (N := 5) rfl inX3 (by decide) mw_1_42 dX3_joinNewest_88 k5 rfl ?_
        refine gx_iconst (iI 1) dX3_joinNewest_91 rfl ?_
        refine gy_isub dX3_joinNewest_92 ?_
        refine gy_put (ci := 3) (f := 4) (C := RX3) (T := TX3) (N := 5) (ty := .int) (fs2 := [.ref e, .ref s, .ref m, .int (iI (start + (O.length : Int))), .int (iI (sc - 1))]) tyX3 rfl inX3 tyX3_ok nmX3 (by decide) mw_1_42 (Or.inl rfl) (by decide +kernel) rfl rfl dX3_joinNewest_93 k5 (by simp) rfl (fun h6 eh6 => ?_)
        have k7 : h6 e = some (aI cI 100 ff) := by rw [eh6, ch_set_ne (ch_ne k2 k5 (by intro q; cases q))]; exact k2
        have k8 : h6 s = some (aI cI 50 fs) := by rw [eh6, ch_set_ne (ch_ne k3 k5 (by intro q; cases q))]; exact k3
        have k9 : h6 m = some (aI cI 100 fm2) := by rw [eh6, ch_set_ne (ch_ne k4 k5 (by intro q; cases q))]; exact k4
        have k10 : h6 F = some (.inr (3, [.ref e, .ref s, .ref m, .int (iI (start + (O.length : Int))), .int (iI (sc - 1))])) := by rw [eh6]; exact ch_set_self
        refine gx_vret rfl dX3_joinNewest_96 (by first | exact Nat.le_of_ble_eq_true rfl | (simp only [rM]; omega)) (by first | exact Nat.le_of_ble_eq_true rfl | (simp only [rM]; omega)) ?_
        exact ⟨rfl, ⟨ff, fm2, k10, k7, k8, k9, hl1, fun i hi => hl2 i (by omega), hl3⟩, ch_frT (L := [F, e, m]) (L' := [F, e, m]) hfr (by rw [eh6]; exact ch_frS (by rw [eh1]; exact ch_frS ch_fr0 (by simp)) (by simp)) (fun _ q => q), rfl⟩
      · refine gx_iload_n 1 dX3_joinNewest_48 rfl rfl ?_
        refine gx_iload 3 dX3_joinNewest_49 rfl ?_
        refine gy_iadd dX3_joinNewest_51 ?_
        refine gx_bipush (iI 100) dX3_joinNewest_52 (by decide) ?_
        refine gy_icmp_ge 79 dX3_joinNewest_54 (by decide) (by constructor <;> omega) (by decide) (fun c54 => absurd c54 (by omega)) (fun c54 => ?_)
        refine gx_aload_n 0 dX3_joinNewest_57 rfl rfl ?_
        refine gx_get (ci := 3) (f := 0) (C := RX3) (T := TX3) (N := 5) rfl inX3 (by decide) mw_1_38 dX3_joinNewest_58 kF rfl ?_
        refine gx_iload_n 1 dX3_joinNewest_61 rfl rfl ?_
        refine gx_iload 3 dX3_joinNewest_62 rfl ?_
        refine gy_iadd dX3_joinNewest_64 ?_
        refine gx_aload_n 0 dX3_joinNewest_65 rfl rfl ?_
        refine gx_get (ci := 3) (f := 2) (C := RX3) (T := TX3) (N := 5) rfl inX3 (by decide) mw_1_40 dX3_joinNewest_66 kF rfl ?_
        refine gx_iload 3 dX3_joinNewest_69 rfl ?_
        refine gy_iald dX3_joinNewest_71 km (by omega) (by omega) (by decide) ?_
        refine gy_iast dX3_joinNewest_72 ke (by omega) (by omega) (by decide) (fun h11 eh11 => ?_)
        have k12 : h11 F = some (.inr (3, [.ref e, .ref s, .ref m, .int (iI ec), .int (iI sc)])) := by rw [eh11, ch_set_ne (ch_ne kF ke (by intro q; cases q))]; exact kF
        have k13 : h11 s = some (aI cI 50 fs) := by rw [eh11, ch_set_ne (Ne.symm nes)]; exact ks
        have k14 : h11 m = some (aI cI 100 fm2) := by rw [eh11, ch_set_ne (Ne.symm nem)]; exact km
        have k15 : h11 e = some (aI cI 100 (updI ff (start + z).toNat (fm2 z.toNat))) := by rw [eh11]; exact ch_set_self
        refine gy_iinc 3 [(4, .int (iI (z + 1))), (0, .ref F), (2, .int (iI start)), (3, .int (iI (O.length : Int)))] dX3_joinNewest_73 rfl (by decide) rfl ?_
        refine gx_goto 42 dX3_joinNewest_76 (by decide) ?_
        refine ch_Glv (lv' := [(0, .ref F), (2, .int (iI start)), (3, .int (iI (O.length : Int))), (4, .int (iI (z + 1)))]) [1, 2, 3, 0] rfl ?_
        exact ih _ _ _ (by omega) (by omega) (by omega) k12 k15 k13 k14 (by rw [eh11]; exact ch_frS hfr (by simp)) (fun j hj => by rw [updI_n (by omega)]; exact hl1 j hj) (jn_cp hst.1 hz0 (by omega) hfm hl2) (jn_bd hl3 (hbm _ (by omega)))
  exact loop 101 0 _ fe (by omega) (by omega) (by omega) k6 k7 k8 k9 (by rw [eh]; exact ch_frS ch_fr0 (by simp)) (fun j _ => rfl) (fun i hi => by omega) hfe
set_option maxHeartbeats 4000000 in
set_option maxRecDepth 100000 in
theorem c_X3_copyTo (l : Launch) (D : va_G) (cI cL cR : ClassId) (lo : Nat) (h : ch_H) (hi : Nat) (F e s m : Nat) (ec sc : Int) (fe fs fm : Nat → Int) (hF : h F = some (.inr (3, [.ref e, .ref s, .ref m, .int (iI ec), .int (iI sc)]))) (he : h e = some (aI cI 100 fe)) (hs : h s = some (aI cI 50 fs)) (hm : h m = some (aI cI 100 fm)) (nes : e ≠ s) (nem : e ≠ m) (nsm : s ≠ m) (r g : Nat) (n : Int) (f : Nat → Int) (hr : h r = some (.inr (7, [.ref g, .int (iI n)]))) (hg : h g = some (aI cI 100 f)) (nge : g ≠ e) (hec : 0 ≤ ec ∧ ec ≤ 100) : ch_C l (eE D cI cL cR lo) M_X3_copyTo (rM 2 0 0) [.ref F, .ref r] h hi (fun r0 h2 hi2 => r0 = none ∧ (∃ f2, h2 = ch_set (ch_set h r (.inr (7, [.ref g, .int (iI ec)]))) g (aI cI 100 f2) ∧ ∀ j : Nat, (j : Int) < ec → f2 j = fe j) ∧ hi = hi2) := by
  refine ch_C.of rfl (Nat.le_of_ble_eq_true rfl) ?_
  refine gx_aload_n 1 dX3_copyTo_0 rfl rfl ?_
  refine gx_aload_n 0 dX3_copyTo_1 rfl rfl ?_
  refine gx_get (ci := 3) (f := 0) (C := RX3) (T := TX3) (N := 5) rfl inX3 (by decide) mw_1_38 dX3_copyTo_2 hF rfl ?_
  refine gx_aload_n 0 dX3_copyTo_5 rfl rfl ?_
  refine gx_get (ci := 3) (f := 3) (C := RX3) (T := TX3) (N := 5) rfl inX3 (by decide) mw_1_41 dX3_copyTo_6 hF rfl ?_
  refine gx_callV (ci := 7) (c_X7_copyFrom l D cI cL cR lo h hi r g n f hr hg e fe he ec hec nge) ok_X7_copyFrom mw_2_186 mw_2_187 mw_2_188 dX3_copyTo_9 rfl hr rfl rfl (Nat.le_of_ble_eq_true rfl) (by first | exact Nat.le_of_ble_eq_true rfl | (simp only [rM]; omega)) (by first | exact Nat.le_of_ble_eq_true rfl | (simp only [rM]; omega)) (by first | exact Nat.le_of_ble_eq_true rfl | (simp only [rM]; omega)) (by first | exact Nat.le_of_ble_eq_true rfl | (simp only [rM]; omega)) (fun r1 h2 u3 q4 g5 => ?_)
  obtain ⟨rfl, ⟨f2, eh, hf2⟩, rfl⟩ := q4
  refine ch_Gst (st2 := []) rfl ?_
  refine gx_vret rfl dX3_copyTo_12 (by first | exact Nat.le_of_ble_eq_true rfl | (simp only [rM]; omega)) (by first | exact Nat.le_of_ble_eq_true rfl | (simp only [rM]; omega)) ?_
  exact ⟨rfl, ⟨f2, eh, hf2⟩, rfl⟩
end
end
section
section
/-- the rows of edges that FoundSets holds -/
def fsR (Ls : List (List Int)) (fe fs : Nat → Int) (ec sc : Int) : Prop := sc = (Ls.length : Int) ∧ ec = (Ls.flatten.length : Int) ∧ (∀ j, j < Ls.flatten.length → Ls.flatten[j]? = some (fe j)) ∧ (∀ i, i < Ls.length → fs i = ((Ls.take i).flatten.length : Int)) ∧ ∀ j, -1000000 ≤ fe j ∧ fe j ≤ 1000000
def seg (a b : Int) : List Int := if a < b then [a, b] else []
theorem fsR_0 {fe fs : Nat → Int} (h : ∀ j, -1000000 ≤ fe j ∧ fe j ≤ 1000000) : fsR [] fe fs 0 0 := ⟨rfl, rfl, fun j hj => absurd hj (by simp), fun i hi => absurd hi (by simp), h⟩
theorem updI_bd {ff : Nat → Int} {k : Nat} {x : Int} (hff : ∀ j, -1000000 ≤ ff j ∧ ff j ≤ 1000000) (hx : -1000000 ≤ x ∧ x ≤ 1000000) : ∀ j, -1000000 ≤ updI ff k x j ∧ updI ff k x j ≤ 1000000 := by
  intro j
  by_cases q : j = k
  · rw [q, updI_s]; exact hx
  · rw [updI_n q]; exact hff j
theorem fsR_add {Ls : List (List Int)} {fe fs : Nat → Int} {ec sc a b : Int} (H : fsR Ls fe fs ec sc) (ha : -1000000 ≤ a ∧ a ≤ 1000000) (hb : -1000000 ≤ b ∧ b ≤ 1000000) : fsR (Ls ++ [seg a b]) (if a < b then updI (updI fe ec.toNat a) (ec + 1).toNat b else fe) (updI fs sc.toNat ec) (if a < b then ec + 2 else ec) (sc + 1) := by
  obtain ⟨h1, h2, h3, h4, h5⟩ := H
  have hst : ∀ i, i < (Ls ++ [seg a b]).length → updI fs sc.toNat ec i = (((Ls ++ [seg a b]).take i).flatten.length : Int) := by
    intro i hi
    by_cases q : i = Ls.length
    · rw [q, h1, Int.toNat_natCast, updI_s, List.take_left, h2]
    · rw [updI_n (by omega), List.take_append_of_le_length (by simp at hi; omega)]
      exact h4 i (by simp at hi; omega)
  by_cases hab : a < b
  · rw [if_pos hab, if_pos hab]
    refine ⟨by simp [h1], by simp [seg, hab, h2], ?_, hst, updI_bd (updI_bd h5 ha) hb⟩
    intro j hj
    simp only [seg, hab, if_true, List.flatten_append, List.flatten_cons, List.flatten_nil, List.append_nil, List.length_append, List.length_cons, List.length_nil] at hj ⊢
    by_cases q1 : j < Ls.flatten.length
    · rw [List.getElem?_append_left q1, updI_n (by omega), updI_n (by omega)]
      exact h3 j q1
    · rw [List.getElem?_append_right (by omega)]
      by_cases q2 : j = Ls.flatten.length
      · rw [q2, Nat.sub_self, updI_n (by omega), show Ls.flatten.length = ec.toNat by omega, updI_s]; rfl
      · rw [show j - Ls.flatten.length = 1 by omega, show j = (ec + 1).toNat by omega, updI_s]; rfl
  · rw [if_neg hab, if_neg hab]
    refine ⟨by simp [h1], by simp [seg, hab, h2], ?_, hst, h5⟩
    intro j hj
    simp only [seg, hab, if_false, List.flatten_append, List.flatten_cons, List.flatten_nil, List.append_nil] at hj ⊢
    exact h3 j hj
/-- the walk's own cells -/
def wwP (cI cR : ClassId) (lo : Nat) (h : ch_H) (gw : Nat → Option Nat) (fx fy fl fh : Nat → Int) (wc : Int) (Ls : List (List Int)) : Prop := ∃ (fe fs fm : Nat → Int) (ec sc : Int), h (lo + 3) = some (.inr (9, [.ref (lo + 4), .ref (lo + 5), .ref (lo + 6), .ref (lo + 7), .ref (lo + 8), .int (iI wc), .ref (lo + 9)])) ∧ h (lo + 4) = some (aR cR 100 gw) ∧ h (lo + 5) = some (aI cI 100 fx) ∧ h (lo + 6) = some (aI cI 100 fy) ∧ h (lo + 7) = some (aI cI 100 fl) ∧ h (lo + 8) = some (aI cI 100 fh) ∧ h (lo + 9) = some (.inr (3, [.ref (lo + 10), .ref (lo + 11), .ref (lo + 12), .int (iI ec), .int (iI sc)])) ∧ h (lo + 10) = some (aI cI 100 fe) ∧ h (lo + 11) = some (aI cI 50 fs) ∧ h (lo + 12) = some (aI cI 100 fm) ∧ fsR Ls fe fs ec sc
def wwL (lo : Nat) : List Nat := [lo + 3, lo + 4, lo + 5, lo + 6, lo + 7, lo + 8, lo + 9, lo + 10, lo + 11, lo + 12]
theorem wwL_in {lo a : Nat} : a ∈ wwL lo ↔ lo + 3 ≤ a ∧ a ≤ lo + 12 := by
  unfold wwL
  simp only [List.mem_cons, List.not_mem_nil, or_false]
  omega
theorem wwL_out {lo a : Nat} (h : lo + 13 ≤ a) : a ∉ wwL lo := by rw [wwL_in]; omega
/-- a kind of solids' objects -/
def isS (ci : Nat) : Prop := ∃ r : vw_C, vwCl[ci]? = some r ∧ (∀ U, ch_N U → va_Nw (Cond.castable r.1 "SpanSolids$Solid") U) ∧ (∀ w ∈ u_ws r.1 r.2.1 r.2.2, w ∈ ch_tb) ∧ 0 < r.2.2 ∧ r.2.1 0 = ("SpanSolids$Solid", "weight", "I", true)
theorem gy_getw {l : Launch} {E : ch_E} {M : ch_D} {Xt : State → Array Value → Prop} {R : Room} {Z : List Frame → Array Value → State → State → Prop} {k n : Nat} {h : ch_H} {hi pc : Nat} {lv : List (Nat × Value)} {st : List Value} {a ci idx : Nat} {v : Value} {vs : List Value} (hS : isS ci) (hlink : Cond.fieldLink M.1.cls idx "SpanSolids$Solid" "weight" "I" ∈ ch_tb) (hd : decode M.2.1 pc = .ok (.getfield idx, 3)) (ha : h a = some (.inr (ci, v :: vs))) (kk : ch_G l E M Xt R Z k n h hi (pc + 3) lv (v :: st)) : ch_G l E M Xt R Z k n h hi pc lv (.ref a :: st) := by
  obtain ⟨⟨C, T, N⟩, h1, -, h2, h3, h4⟩ := hS
  exact gx_get (C := C) (T := T) (N := N) (f := 0) h1 h2 h3 (by rw [show T 0 = ("SpanSolids$Solid", "weight", "I", true) from h4]; exact hlink) hd ha rfl kk
theorem wwP_K {cI cR : ClassId} {lo : Nat} {h : ch_H} {gw : Nat → Option Nat} {fx fy fl fh : Nat → Int} {wc : Int} {Ls : List (List Int)} (W : wwP cI cR lo h gw fx fy fl fh wc Ls) : ∃ v, h (lo + 3) = some (.inr (9, v)) := by
  obtain ⟨fe, fs, fm, ec, sc, W0, -⟩ := W
  exact ⟨_, W0⟩
theorem isS_0 : isS 0 := ⟨_, rfl, nw_6, inX0, by decide, rfl⟩
theorem isS_1 : isS 1 := ⟨_, rfl, nw_7, inX1, by decide, rfl⟩
theorem isS_2 : isS 2 := ⟨_, rfl, nw_8, inX2, by decide, rfl⟩
theorem isS_4 : isS 4 := ⟨_, rfl, nw_9, inX4, by decide, rfl⟩
theorem isS_5 : isS 5 := ⟨_, rfl, nw_10, inX5, by decide, rfl⟩
theorem isS_6 : isS 6 := ⟨_, rfl, nw_11, inX6, by decide, rfl⟩
theorem isS_8 : isS 8 := ⟨_, rfl, nw_12, inX9, by decide, rfl⟩
set_option maxHeartbeats 4000000 in
set_option maxRecDepth 100000 in
theorem c_X10_give (l : Launch) (D : va_G) (cI cL cR : ClassId) (lo : Nat) (h : ch_H) (hi : Nat) (gw : Nat → Option Nat) (fx fy fl fh : Nat → Int) (wc : Int) (Ls : List (List Int)) (W : wwP cI cR lo h gw fx fy fl fh wc Ls) (hL1 : Ls.length < 50) (hL2 : Ls.flatten.length + 2 ≤ 100) (a b : Int) (ha : -1000000 ≤ a ∧ a ≤ 1000000) (hb : -1000000 ≤ b ∧ b ≤ 1000000) : ch_C l (eE D cI cL cR lo) M_X10_give (rM 1 0 0) [.ref (lo + 3), .int (iI a), .int (iI b)] h hi (fun r0 h2 hi2 => r0 = none ∧ wwP cI cR lo h2 gw fx fy fl fh wc (Ls ++ [seg a b]) ∧ ch_fr (wwL lo) h h2 ∧ hi = hi2) := by
  refine ch_C.of rfl (Nat.le_of_ble_eq_true rfl) ?_
  obtain ⟨fe, fs, fm, ec, sc, W0, W1, W2, W3, W4, W5, W6, W7, W8, W9, hfs⟩ := W
  have hsc := hfs.1
  have hec := hfs.2.1
  refine gx_aload_n 0 dX10_give_0 rfl rfl ?_
  refine gx_get (ci := 9) (f := 6) (C := RX10) (T := TX10) (N := 7) rfl inX10 (by decide) mw_1_61 dX10_give_1 W0 rfl ?_
  refine gx_iload_n 1 dX10_give_4 rfl rfl ?_
  refine gx_iload_n 2 dX10_give_5 rfl rfl ?_
  refine gx_callV (ci := 3) (c_X3_add l D cI cL cR lo h hi (lo + 9) (lo + 10) (lo + 11) (lo + 12) ec sc fe fs fm W6 W7 W8 W9 (by omega) (by omega) (by omega) (by omega) (by omega) a b (by constructor <;> omega) (by constructor <;> omega)) ok_X3_add mw_2_133 mw_2_134 mw_2_135 dX10_give_6 rfl W6 rfl rfl (Nat.le_of_ble_eq_true rfl) (by first | exact Nat.le_of_ble_eq_true rfl | (simp only [rM]; omega)) (by first | exact Nat.le_of_ble_eq_true rfl | (simp only [rM]; omega)) (by first | exact Nat.le_of_ble_eq_true rfl | (simp only [rM]; omega)) (by first | exact Nat.le_of_ble_eq_true rfl | (simp only [rM]; omega)) (fun r1 h2 u3 q4 g5 => ?_)
  obtain ⟨rfl, q9, q10, q11, q12, qfr, rfl⟩ := q4
  have k6 : h2 (lo + 3) = some (.inr (9, [.ref (lo + 4), .ref (lo + 5), .ref (lo + 6), .ref (lo + 7), .ref (lo + 8), .int (iI wc), .ref (lo + 9)])) := by rw [qfr (lo + 3) (by simp only [List.mem_cons, List.not_mem_nil, or_false]; omega)]; exact W0
  have k7 : h2 (lo + 4) = some (aR cR 100 gw) := by rw [qfr (lo + 4) (by simp only [List.mem_cons, List.not_mem_nil, or_false]; omega)]; exact W1
  have k8 : h2 (lo + 5) = some (aI cI 100 fx) := by rw [qfr (lo + 5) (by simp only [List.mem_cons, List.not_mem_nil, or_false]; omega)]; exact W2
  have k9 : h2 (lo + 6) = some (aI cI 100 fy) := by rw [qfr (lo + 6) (by simp only [List.mem_cons, List.not_mem_nil, or_false]; omega)]; exact W3
  have k10 : h2 (lo + 7) = some (aI cI 100 fl) := by rw [qfr (lo + 7) (by simp only [List.mem_cons, List.not_mem_nil, or_false]; omega)]; exact W4
  have k11 : h2 (lo + 8) = some (aI cI 100 fh) := by rw [qfr (lo + 8) (by simp only [List.mem_cons, List.not_mem_nil, or_false]; omega)]; exact W5
  refine ch_Gst (st2 := []) rfl ?_
  refine gx_vret rfl dX10_give_9 (by first | exact Nat.le_of_ble_eq_true rfl | (simp only [rM]; omega)) (by first | exact Nat.le_of_ble_eq_true rfl | (simp only [rM]; omega)) ?_
  exact ⟨rfl, ⟨_, _, _, _, _, k6, k7, k8, k9, k10, k11, q9, q10, q11, q12, fsR_add (a := a) (b := b) hfs ha hb⟩, (ch_frT ch_fr0 qfr (fun _ q => by rw [wwL_in]; simp only [List.mem_cons, List.not_mem_nil, or_false] at q; omega)), rfl⟩
set_option maxHeartbeats 4000000 in
set_option maxRecDepth 100000 in
theorem c_X10_giveNone (l : Launch) (D : va_G) (cI cL cR : ClassId) (lo : Nat) (h : ch_H) (hi : Nat) (gw : Nat → Option Nat) (fx fy fl fh : Nat → Int) (wc : Int) (Ls : List (List Int)) (W : wwP cI cR lo h gw fx fy fl fh wc Ls) (hL1 : Ls.length < 50) (hL2 : Ls.flatten.length + 2 ≤ 100) : ch_C l (eE D cI cL cR lo) M_X10_giveNone (rM 1 0 0) [.ref (lo + 3)] h hi (fun r0 h2 hi2 => r0 = none ∧ wwP cI cR lo h2 gw fx fy fl fh wc (Ls ++ [seg 0 0]) ∧ ch_fr (wwL lo) h h2 ∧ hi = hi2) := by
  refine ch_C.of rfl (Nat.le_of_ble_eq_true rfl) ?_
  obtain ⟨fe, fs, fm, ec, sc, W0, W1, W2, W3, W4, W5, W6, W7, W8, W9, hfs⟩ := W
  have hsc := hfs.1
  have hec := hfs.2.1
  refine gx_aload_n 0 dX10_giveNone_0 rfl rfl ?_
  refine gx_get (ci := 9) (f := 6) (C := RX10) (T := TX10) (N := 7) rfl inX10 (by decide) mw_1_61 dX10_giveNone_1 W0 rfl ?_
  refine gx_iconst (iI 0) dX10_giveNone_4 rfl ?_
  refine gx_iconst (iI 0) dX10_giveNone_5 rfl ?_
  refine gx_callV (ci := 3) (c_X3_add l D cI cL cR lo h hi (lo + 9) (lo + 10) (lo + 11) (lo + 12) ec sc fe fs fm W6 W7 W8 W9 (by omega) (by omega) (by omega) (by omega) (by omega) 0 0 (by constructor <;> omega) (by constructor <;> omega)) ok_X3_add mw_2_133 mw_2_134 mw_2_135 dX10_giveNone_6 rfl W6 rfl rfl (Nat.le_of_ble_eq_true rfl) (by first | exact Nat.le_of_ble_eq_true rfl | (simp only [rM]; omega)) (by first | exact Nat.le_of_ble_eq_true rfl | (simp only [rM]; omega)) (by first | exact Nat.le_of_ble_eq_true rfl | (simp only [rM]; omega)) (by first | exact Nat.le_of_ble_eq_true rfl | (simp only [rM]; omega)) (fun r1 h2 u3 q4 g5 => ?_)
  obtain ⟨rfl, q9, q10, q11, q12, qfr, rfl⟩ := q4
  have k6 : h2 (lo + 3) = some (.inr (9, [.ref (lo + 4), .ref (lo + 5), .ref (lo + 6), .ref (lo + 7), .ref (lo + 8), .int (iI wc), .ref (lo + 9)])) := by rw [qfr (lo + 3) (by simp only [List.mem_cons, List.not_mem_nil, or_false]; omega)]; exact W0
  have k7 : h2 (lo + 4) = some (aR cR 100 gw) := by rw [qfr (lo + 4) (by simp only [List.mem_cons, List.not_mem_nil, or_false]; omega)]; exact W1
  have k8 : h2 (lo + 5) = some (aI cI 100 fx) := by rw [qfr (lo + 5) (by simp only [List.mem_cons, List.not_mem_nil, or_false]; omega)]; exact W2
  have k9 : h2 (lo + 6) = some (aI cI 100 fy) := by rw [qfr (lo + 6) (by simp only [List.mem_cons, List.not_mem_nil, or_false]; omega)]; exact W3
  have k10 : h2 (lo + 7) = some (aI cI 100 fl) := by rw [qfr (lo + 7) (by simp only [List.mem_cons, List.not_mem_nil, or_false]; omega)]; exact W4
  have k11 : h2 (lo + 8) = some (aI cI 100 fh) := by rw [qfr (lo + 8) (by simp only [List.mem_cons, List.not_mem_nil, or_false]; omega)]; exact W5
  refine ch_Gst (st2 := []) rfl ?_
  refine gx_vret rfl dX10_giveNone_9 (by first | exact Nat.le_of_ble_eq_true rfl | (simp only [rM]; omega)) (by first | exact Nat.le_of_ble_eq_true rfl | (simp only [rM]; omega)) ?_
  exact ⟨rfl, ⟨_, _, _, _, _, k6, k7, k8, k9, k10, k11, q9, q10, q11, q12, fsR_add (a := 0) (b := 0) hfs (by omega) (by omega)⟩, (ch_frT ch_fr0 qfr (fun _ q => by rw [wwL_in]; simp only [List.mem_cons, List.not_mem_nil, or_false] at q; omega)), rfl⟩
set_option maxHeartbeats 4000000 in
set_option maxRecDepth 100000 in
theorem c_X10_await (l : Launch) (D : va_G) (cI cL cR : ClassId) (lo : Nat) (h : ch_H) (hi : Nat) (gw : Nat → Option Nat) (fx fy fl fh : Nat → Int) (wc : Int) (Ls : List (List Int)) (W : wwP cI cR lo h gw fx fy fl fh wc Ls) (p ci : Nat) (vs : List Value) (hp : h p = some (.inr (ci, vs))) (hS : isS ci) (hpl : lo + 13 ≤ p) (hwc : 0 ≤ wc ∧ wc < 100) (x y t : Int) : ch_C l (eE D cI cL cR lo) M_X10_await (rM 0 0 0) [.ref (lo + 3), .ref p, .int (iI x), .int (iI y), .int (iI t)] h hi (fun r0 h2 hi2 => r0 = none ∧ wwP cI cR lo h2 (va_up gw wc.toNat (some p)) (updI fx wc.toNat x) (updI fy wc.toNat y) (updI fl wc.toNat t) fh (wc + 1) Ls ∧ ch_fr (wwL lo) h h2 ∧ hi = hi2) := by
  refine ch_C.of rfl (Nat.le_of_ble_eq_true rfl) ?_
  obtain ⟨fe, fs, fm, ec, sc, W0, W1, W2, W3, W4, W5, W6, W7, W8, W9, hfs⟩ := W
  obtain ⟨rS, hrS, hcS, -⟩ := hS
  refine gx_aload_n 0 dX10_await_0 rfl rfl ?_
  refine gx_get (ci := 9) (f := 5) (C := RX10) (T := TX10) (N := 7) rfl inX10 (by decide) mw_1_60 dX10_await_1 W0 rfl ?_
  refine gx_bipush (iI 100) dX10_await_4 (by decide) ?_
  refine gy_icmp_lt 10 dX10_await_6 (by decide) (by constructor <;> omega) (by decide) (fun c6 => ?_) (fun c6 => absurd c6 (by omega))
  refine gx_aload_n 0 dX10_await_10 rfl rfl ?_
  refine gx_get (ci := 9) (f := 0) (C := RX10) (T := TX10) (N := 7) rfl inX10 (by decide) mw_1_55 dX10_await_11 W0 rfl ?_
  refine gx_aload_n 0 dX10_await_14 rfl rfl ?_
  refine gx_get (ci := 9) (f := 5) (C := RX10) (T := TX10) (N := 7) rfl inX10 (by decide) mw_1_60 dX10_await_15 W0 rfl ?_
  refine gx_aload_n 1 dX10_await_18 rfl rfl ?_
  refine gy_aast (ci := ci) hrS hcS dX10_await_19 W1 hp (by omega) (by omega) (by decide) (fun h1 eh1 => ?_)
  have k2 : h1 (lo + 3) = some (.inr (9, [.ref (lo + 4), .ref (lo + 5), .ref (lo + 6), .ref (lo + 7), .ref (lo + 8), .int (iI wc), .ref (lo + 9)])) := by rw [eh1, ch_set_ne (by first | assumption | exact Ne.symm (by assumption) | omega)]; exact W0
  have k3 : h1 (lo + 5) = some (aI cI 100 fx) := by rw [eh1, ch_set_ne (by first | assumption | exact Ne.symm (by assumption) | omega)]; exact W2
  have k4 : h1 (lo + 6) = some (aI cI 100 fy) := by rw [eh1, ch_set_ne (by first | assumption | exact Ne.symm (by assumption) | omega)]; exact W3
  have k5 : h1 (lo + 7) = some (aI cI 100 fl) := by rw [eh1, ch_set_ne (by first | assumption | exact Ne.symm (by assumption) | omega)]; exact W4
  have k6 : h1 (lo + 8) = some (aI cI 100 fh) := by rw [eh1, ch_set_ne (by first | assumption | exact Ne.symm (by assumption) | omega)]; exact W5
  have k7 : h1 (lo + 9) = some (.inr (3, [.ref (lo + 10), .ref (lo + 11), .ref (lo + 12), .int (iI ec), .int (iI sc)])) := by rw [eh1, ch_set_ne (by first | assumption | exact Ne.symm (by assumption) | omega)]; exact W6
  have k8 : h1 (lo + 10) = some (aI cI 100 fe) := by rw [eh1, ch_set_ne (by first | assumption | exact Ne.symm (by assumption) | omega)]; exact W7
  have k9 : h1 (lo + 11) = some (aI cI 50 fs) := by rw [eh1, ch_set_ne (by first | assumption | exact Ne.symm (by assumption) | omega)]; exact W8
  have k10 : h1 (lo + 12) = some (aI cI 100 fm) := by rw [eh1, ch_set_ne (by first | assumption | exact Ne.symm (by assumption) | omega)]; exact W9
  have k11 : h1 p = some (.inr (ci, vs)) := by rw [eh1, ch_set_ne (by first | assumption | exact Ne.symm (by assumption) | omega)]; exact hp
  have k12 : h1 (lo + 4) = some (aR cR 100 (va_up gw wc.toNat (some p))) := by rw [eh1]; exact ch_set_self
  refine gx_aload_n 0 dX10_await_20 rfl rfl ?_
  refine gx_get (ci := 9) (f := 1) (C := RX10) (T := TX10) (N := 7) rfl inX10 (by decide) mw_1_56 dX10_await_21 k2 rfl ?_
  refine gx_aload_n 0 dX10_await_24 rfl rfl ?_
  refine gx_get (ci := 9) (f := 5) (C := RX10) (T := TX10) (N := 7) rfl inX10 (by decide) mw_1_60 dX10_await_25 k2 rfl ?_
  refine gx_iload_n 2 dX10_await_28 rfl rfl ?_
  refine gy_iast dX10_await_29 k3 (by omega) (by omega) (by decide) (fun h13 eh13 => ?_)
  have k14 : h13 (lo + 3) = some (.inr (9, [.ref (lo + 4), .ref (lo + 5), .ref (lo + 6), .ref (lo + 7), .ref (lo + 8), .int (iI wc), .ref (lo + 9)])) := by rw [eh13, ch_set_ne (by first | assumption | exact Ne.symm (by assumption) | omega)]; exact k2
  have k15 : h13 (lo + 6) = some (aI cI 100 fy) := by rw [eh13, ch_set_ne (by first | assumption | exact Ne.symm (by assumption) | omega)]; exact k4
  have k16 : h13 (lo + 7) = some (aI cI 100 fl) := by rw [eh13, ch_set_ne (by first | assumption | exact Ne.symm (by assumption) | omega)]; exact k5
  have k17 : h13 (lo + 8) = some (aI cI 100 fh) := by rw [eh13, ch_set_ne (by first | assumption | exact Ne.symm (by assumption) | omega)]; exact k6
  have k18 : h13 (lo + 9) = some (.inr (3, [.ref (lo + 10), .ref (lo + 11), .ref (lo + 12), .int (iI ec), .int (iI sc)])) := by rw [eh13, ch_set_ne (by first | assumption | exact Ne.symm (by assumption) | omega)]; exact k7
  have k19 : h13 (lo + 10) = some (aI cI 100 fe) := by rw [eh13, ch_set_ne (by first | assumption | exact Ne.symm (by assumption) | omega)]; exact k8
  have k20 : h13 (lo + 11) = some (aI cI 50 fs) := by rw [eh13, ch_set_ne (by first | assumption | exact Ne.symm (by assumption) | omega)]; exact k9
  have k21 : h13 (lo + 12) = some (aI cI 100 fm) := by rw [eh13, ch_set_ne (by first | assumption | exact Ne.symm (by assumption) | omega)]; exact k10
  have k22 : h13 p = some (.inr (ci, vs)) := by rw [eh13, ch_set_ne (by first | assumption | exact Ne.symm (by assumption) | omega)]; exact k11
  have k23 : h13 (lo + 4) = some (aR cR 100 (va_up gw wc.toNat (some p))) := by rw [eh13, ch_set_ne (by first | assumption | exact Ne.symm (by assumption) | omega)]; exact k12
  have k24 : h13 (lo + 5) = some (aI cI 100 (updI fx wc.toNat x)) := by rw [eh13]; exact ch_set_self
  refine gx_aload_n 0 dX10_await_30 rfl rfl ?_
  refine gx_get (ci := 9) (f := 2) (C := RX10) (T := TX10) (N := 7) rfl inX10 (by decide) mw_1_57 dX10_await_31 k14 rfl ?_
  refine gx_aload_n 0 dX10_await_34 rfl rfl ?_
  refine gx_get (ci := 9) (f := 5) (C := RX10) (T := TX10) (N := 7) rfl inX10 (by decide) mw_1_60 dX10_await_35 k14 rfl ?_
  refine gx_iload_n 3 dX10_await_38 rfl rfl ?_
  refine gy_iast dX10_await_39 k15 (by omega) (by omega) (by decide) (fun h25 eh25 => ?_)
  have k26 : h25 (lo + 3) = some (.inr (9, [.ref (lo + 4), .ref (lo + 5), .ref (lo + 6), .ref (lo + 7), .ref (lo + 8), .int (iI wc), .ref (lo + 9)])) := by rw [eh25, ch_set_ne (by first | assumption | exact Ne.symm (by assumption) | omega)]; exact k14
  have k27 : h25 (lo + 7) = some (aI cI 100 fl) := by rw [eh25, ch_set_ne (by first | assumption | exact Ne.symm (by assumption) | omega)]; exact k16
  have k28 : h25 (lo + 8) = some (aI cI 100 fh) := by rw [eh25, ch_set_ne (by first | assumption | exact Ne.symm (by assumption) | omega)]; exact k17
  have k29 : h25 (lo + 9) = some (.inr (3, [.ref (lo + 10), .ref (lo + 11), .ref (lo + 12), .int (iI ec), .int (iI sc)])) := by rw [eh25, ch_set_ne (by first | assumption | exact Ne.symm (by assumption) | omega)]; exact k18
  have k30 : h25 (lo + 10) = some (aI cI 100 fe) := by rw [eh25, ch_set_ne (by first | assumption | exact Ne.symm (by assumption) | omega)]; exact k19
  have k31 : h25 (lo + 11) = some (aI cI 50 fs) := by rw [eh25, ch_set_ne (by first | assumption | exact Ne.symm (by assumption) | omega)]; exact k20
  have k32 : h25 (lo + 12) = some (aI cI 100 fm) := by rw [eh25, ch_set_ne (by first | assumption | exact Ne.symm (by assumption) | omega)]; exact k21
  have k33 : h25 p = some (.inr (ci, vs)) := by rw [eh25, ch_set_ne (by first | assumption | exact Ne.symm (by assumption) | omega)]; exact k22
  have k34 : h25 (lo + 4) = some (aR cR 100 (va_up gw wc.toNat (some p))) := by rw [eh25, ch_set_ne (by first | assumption | exact Ne.symm (by assumption) | omega)]; exact k23
  have k35 : h25 (lo + 5) = some (aI cI 100 (updI fx wc.toNat x)) := by rw [eh25, ch_set_ne (by first | assumption | exact Ne.symm (by assumption) | omega)]; exact k24
  have k36 : h25 (lo + 6) = some (aI cI 100 (updI fy wc.toNat y)) := by rw [eh25]; exact ch_set_self
  refine gx_aload_n 0 dX10_await_40 rfl rfl ?_
  refine gx_get (ci := 9) (f := 3) (C := RX10) (T := TX10) (N := 7) rfl inX10 (by decide) mw_1_58 dX10_await_41 k26 rfl ?_
  refine gx_aload_n 0 dX10_await_44 rfl rfl ?_
  refine gx_get (ci := 9) (f := 5) (C := RX10) (T := TX10) (N := 7) rfl inX10 (by decide) mw_1_60 dX10_await_45 k26 rfl ?_
  refine gx_iload 4 dX10_await_48 rfl ?_
  refine gy_iast dX10_await_50 k27 (by omega) (by omega) (by decide) (fun h37 eh37 => ?_)
  have k38 : h37 (lo + 3) = some (.inr (9, [.ref (lo + 4), .ref (lo + 5), .ref (lo + 6), .ref (lo + 7), .ref (lo + 8), .int (iI wc), .ref (lo + 9)])) := by rw [eh37, ch_set_ne (by first | assumption | exact Ne.symm (by assumption) | omega)]; exact k26
  have k39 : h37 (lo + 8) = some (aI cI 100 fh) := by rw [eh37, ch_set_ne (by first | assumption | exact Ne.symm (by assumption) | omega)]; exact k28
  have k40 : h37 (lo + 9) = some (.inr (3, [.ref (lo + 10), .ref (lo + 11), .ref (lo + 12), .int (iI ec), .int (iI sc)])) := by rw [eh37, ch_set_ne (by first | assumption | exact Ne.symm (by assumption) | omega)]; exact k29
  have k41 : h37 (lo + 10) = some (aI cI 100 fe) := by rw [eh37, ch_set_ne (by first | assumption | exact Ne.symm (by assumption) | omega)]; exact k30
  have k42 : h37 (lo + 11) = some (aI cI 50 fs) := by rw [eh37, ch_set_ne (by first | assumption | exact Ne.symm (by assumption) | omega)]; exact k31
  have k43 : h37 (lo + 12) = some (aI cI 100 fm) := by rw [eh37, ch_set_ne (by first | assumption | exact Ne.symm (by assumption) | omega)]; exact k32
  have k44 : h37 p = some (.inr (ci, vs)) := by rw [eh37, ch_set_ne (by first | assumption | exact Ne.symm (by assumption) | omega)]; exact k33
  have k45 : h37 (lo + 4) = some (aR cR 100 (va_up gw wc.toNat (some p))) := by rw [eh37, ch_set_ne (by first | assumption | exact Ne.symm (by assumption) | omega)]; exact k34
  have k46 : h37 (lo + 5) = some (aI cI 100 (updI fx wc.toNat x)) := by rw [eh37, ch_set_ne (by first | assumption | exact Ne.symm (by assumption) | omega)]; exact k35
  have k47 : h37 (lo + 6) = some (aI cI 100 (updI fy wc.toNat y)) := by rw [eh37, ch_set_ne (by first | assumption | exact Ne.symm (by assumption) | omega)]; exact k36
  have k48 : h37 (lo + 7) = some (aI cI 100 (updI fl wc.toNat t)) := by rw [eh37]; exact ch_set_self
  refine gx_aload_n 0 dX10_await_51 rfl rfl ?_
  refine gx_dup dX10_await_52 rfl ?_
  refine gx_get (ci := 9) (f := 5) (C := RX10) (T := TX10) (N := 7) rfl inX10 (by decide) mw_1_60 dX10_await_53 k38 rfl ?_
  refine gx_iconst (iI 1) dX10_await_56 rfl ?_
  refine gy_iadd dX10_await_57 ?_
  refine gy_put (ci := 9) (f := 5) (C := RX10) (T := TX10) (N := 7) (ty := .int) (fs2 := [.ref (lo + 4), .ref (lo + 5), .ref (lo + 6), .ref (lo + 7), .ref (lo + 8), .int (iI (wc + 1)), .ref (lo + 9)]) tyX10 rfl inX10 tyX10_ok nmX10 (by decide) mw_1_60 (Or.inl rfl) (by decide +kernel) rfl rfl dX10_await_58 k38 (by simp) rfl (fun h49 eh49 => ?_)
  have k50 : h49 (lo + 8) = some (aI cI 100 fh) := by rw [eh49, ch_set_ne (by first | assumption | exact Ne.symm (by assumption) | omega)]; exact k39
  have k51 : h49 (lo + 9) = some (.inr (3, [.ref (lo + 10), .ref (lo + 11), .ref (lo + 12), .int (iI ec), .int (iI sc)])) := by rw [eh49, ch_set_ne (by first | assumption | exact Ne.symm (by assumption) | omega)]; exact k40
  have k52 : h49 (lo + 10) = some (aI cI 100 fe) := by rw [eh49, ch_set_ne (by first | assumption | exact Ne.symm (by assumption) | omega)]; exact k41
  have k53 : h49 (lo + 11) = some (aI cI 50 fs) := by rw [eh49, ch_set_ne (by first | assumption | exact Ne.symm (by assumption) | omega)]; exact k42
  have k54 : h49 (lo + 12) = some (aI cI 100 fm) := by rw [eh49, ch_set_ne (by first | assumption | exact Ne.symm (by assumption) | omega)]; exact k43
  have k55 : h49 p = some (.inr (ci, vs)) := by rw [eh49, ch_set_ne (by first | assumption | exact Ne.symm (by assumption) | omega)]; exact k44
  have k56 : h49 (lo + 4) = some (aR cR 100 (va_up gw wc.toNat (some p))) := by rw [eh49, ch_set_ne (by first | assumption | exact Ne.symm (by assumption) | omega)]; exact k45
  have k57 : h49 (lo + 5) = some (aI cI 100 (updI fx wc.toNat x)) := by rw [eh49, ch_set_ne (by first | assumption | exact Ne.symm (by assumption) | omega)]; exact k46
  have k58 : h49 (lo + 6) = some (aI cI 100 (updI fy wc.toNat y)) := by rw [eh49, ch_set_ne (by first | assumption | exact Ne.symm (by assumption) | omega)]; exact k47
  have k59 : h49 (lo + 7) = some (aI cI 100 (updI fl wc.toNat t)) := by rw [eh49, ch_set_ne (by first | assumption | exact Ne.symm (by assumption) | omega)]; exact k48
  have k60 : h49 (lo + 3) = some (.inr (9, [.ref (lo + 4), .ref (lo + 5), .ref (lo + 6), .ref (lo + 7), .ref (lo + 8), .int (iI (wc + 1)), .ref (lo + 9)])) := by rw [eh49]; exact ch_set_self
  refine gx_vret rfl dX10_await_61 (by first | exact Nat.le_of_ble_eq_true rfl | (simp only [rM]; omega)) (by first | exact Nat.le_of_ble_eq_true rfl | (simp only [rM]; omega)) ?_
  exact ⟨rfl, ⟨_, _, _, _, _, k60, k56, k57, k58, k59, k50, k51, k52, k53, k54, hfs⟩, (by rw [eh49]; exact ch_frS (by rw [eh37]; exact ch_frS (by rw [eh25]; exact ch_frS (by rw [eh13]; exact ch_frS (by rw [eh1]; exact ch_frS ch_fr0 (wwL_in.mpr ⟨by omega, by omega⟩)) (wwL_in.mpr ⟨by omega, by omega⟩)) (wwL_in.mpr ⟨by omega, by omega⟩)) (wwL_in.mpr ⟨by omega, by omega⟩)) (wwL_in.mpr ⟨by omega, by omega⟩)), rfl⟩
set_option maxHeartbeats 4000000 in
set_option maxRecDepth 100000 in
theorem c_X10_awaitJoin (l : Launch) (D : va_G) (cI cL cR : ClassId) (lo : Nat) (h : ch_H) (hi : Nat) (gw : Nat → Option Nat) (fx fy fl fh : Nat → Int) (wc : Int) (Ls : List (List Int)) (W : wwP cI cR lo h gw fx fy fl fh wc Ls) (hwc : 0 ≤ wc ∧ wc < 100) (t : Int) : ch_C l (eE D cI cL cR lo) M_X10_awaitJoin (rM 0 0 0) [.ref (lo + 3), .int (iI t)] h hi (fun r0 h2 hi2 => r0 = none ∧ wwP cI cR lo h2 (va_up gw wc.toNat none) fx fy fl (updI fh wc.toNat t) (wc + 1) Ls ∧ ch_fr (wwL lo) h h2 ∧ hi = hi2) := by
  refine ch_C.of rfl (Nat.le_of_ble_eq_true rfl) ?_
  obtain ⟨fe, fs, fm, ec, sc, W0, W1, W2, W3, W4, W5, W6, W7, W8, W9, hfs⟩ := W
  refine gx_aload_n 0 dX10_awaitJoin_0 rfl rfl ?_
  refine gx_get (ci := 9) (f := 5) (C := RX10) (T := TX10) (N := 7) rfl inX10 (by decide) mw_1_60 dX10_awaitJoin_1 W0 rfl ?_
  refine gx_bipush (iI 100) dX10_awaitJoin_4 (by decide) ?_
  refine gy_icmp_lt 10 dX10_awaitJoin_6 (by decide) (by constructor <;> omega) (by decide) (fun c6 => ?_) (fun c6 => absurd c6 (by omega))
  refine gx_aload_n 0 dX10_awaitJoin_10 rfl rfl ?_
  refine gx_get (ci := 9) (f := 0) (C := RX10) (T := TX10) (N := 7) rfl inX10 (by decide) mw_1_55 dX10_awaitJoin_11 W0 rfl ?_
  refine gx_aload_n 0 dX10_awaitJoin_14 rfl rfl ?_
  refine gx_get (ci := 9) (f := 5) (C := RX10) (T := TX10) (N := 7) rfl inX10 (by decide) mw_1_60 dX10_awaitJoin_15 W0 rfl ?_
  refine gx_null dX10_awaitJoin_18 ?_
  refine gy_aastN dX10_awaitJoin_19 W1 (by omega) (by omega) (by decide) (fun h1 eh1 => ?_)
  have k2 : h1 (lo + 3) = some (.inr (9, [.ref (lo + 4), .ref (lo + 5), .ref (lo + 6), .ref (lo + 7), .ref (lo + 8), .int (iI wc), .ref (lo + 9)])) := by rw [eh1, ch_set_ne (by first | assumption | exact Ne.symm (by assumption) | omega)]; exact W0
  have k3 : h1 (lo + 5) = some (aI cI 100 fx) := by rw [eh1, ch_set_ne (by first | assumption | exact Ne.symm (by assumption) | omega)]; exact W2
  have k4 : h1 (lo + 6) = some (aI cI 100 fy) := by rw [eh1, ch_set_ne (by first | assumption | exact Ne.symm (by assumption) | omega)]; exact W3
  have k5 : h1 (lo + 7) = some (aI cI 100 fl) := by rw [eh1, ch_set_ne (by first | assumption | exact Ne.symm (by assumption) | omega)]; exact W4
  have k6 : h1 (lo + 8) = some (aI cI 100 fh) := by rw [eh1, ch_set_ne (by first | assumption | exact Ne.symm (by assumption) | omega)]; exact W5
  have k7 : h1 (lo + 9) = some (.inr (3, [.ref (lo + 10), .ref (lo + 11), .ref (lo + 12), .int (iI ec), .int (iI sc)])) := by rw [eh1, ch_set_ne (by first | assumption | exact Ne.symm (by assumption) | omega)]; exact W6
  have k8 : h1 (lo + 10) = some (aI cI 100 fe) := by rw [eh1, ch_set_ne (by first | assumption | exact Ne.symm (by assumption) | omega)]; exact W7
  have k9 : h1 (lo + 11) = some (aI cI 50 fs) := by rw [eh1, ch_set_ne (by first | assumption | exact Ne.symm (by assumption) | omega)]; exact W8
  have k10 : h1 (lo + 12) = some (aI cI 100 fm) := by rw [eh1, ch_set_ne (by first | assumption | exact Ne.symm (by assumption) | omega)]; exact W9
  have k11 : h1 (lo + 4) = some (aR cR 100 (va_up gw wc.toNat none)) := by rw [eh1]; exact ch_set_self
  refine gx_aload_n 0 dX10_awaitJoin_20 rfl rfl ?_
  refine gx_get (ci := 9) (f := 4) (C := RX10) (T := TX10) (N := 7) rfl inX10 (by decide) mw_1_59 dX10_awaitJoin_21 k2 rfl ?_
  refine gx_aload_n 0 dX10_awaitJoin_24 rfl rfl ?_
  refine gx_get (ci := 9) (f := 5) (C := RX10) (T := TX10) (N := 7) rfl inX10 (by decide) mw_1_60 dX10_awaitJoin_25 k2 rfl ?_
  refine gx_iload_n 1 dX10_awaitJoin_28 rfl rfl ?_
  refine gy_iast dX10_awaitJoin_29 k6 (by omega) (by omega) (by decide) (fun h12 eh12 => ?_)
  have k13 : h12 (lo + 3) = some (.inr (9, [.ref (lo + 4), .ref (lo + 5), .ref (lo + 6), .ref (lo + 7), .ref (lo + 8), .int (iI wc), .ref (lo + 9)])) := by rw [eh12, ch_set_ne (by first | assumption | exact Ne.symm (by assumption) | omega)]; exact k2
  have k14 : h12 (lo + 5) = some (aI cI 100 fx) := by rw [eh12, ch_set_ne (by first | assumption | exact Ne.symm (by assumption) | omega)]; exact k3
  have k15 : h12 (lo + 6) = some (aI cI 100 fy) := by rw [eh12, ch_set_ne (by first | assumption | exact Ne.symm (by assumption) | omega)]; exact k4
  have k16 : h12 (lo + 7) = some (aI cI 100 fl) := by rw [eh12, ch_set_ne (by first | assumption | exact Ne.symm (by assumption) | omega)]; exact k5
  have k17 : h12 (lo + 9) = some (.inr (3, [.ref (lo + 10), .ref (lo + 11), .ref (lo + 12), .int (iI ec), .int (iI sc)])) := by rw [eh12, ch_set_ne (by first | assumption | exact Ne.symm (by assumption) | omega)]; exact k7
  have k18 : h12 (lo + 10) = some (aI cI 100 fe) := by rw [eh12, ch_set_ne (by first | assumption | exact Ne.symm (by assumption) | omega)]; exact k8
  have k19 : h12 (lo + 11) = some (aI cI 50 fs) := by rw [eh12, ch_set_ne (by first | assumption | exact Ne.symm (by assumption) | omega)]; exact k9
  have k20 : h12 (lo + 12) = some (aI cI 100 fm) := by rw [eh12, ch_set_ne (by first | assumption | exact Ne.symm (by assumption) | omega)]; exact k10
  have k21 : h12 (lo + 4) = some (aR cR 100 (va_up gw wc.toNat none)) := by rw [eh12, ch_set_ne (by first | assumption | exact Ne.symm (by assumption) | omega)]; exact k11
  have k22 : h12 (lo + 8) = some (aI cI 100 (updI fh wc.toNat t)) := by rw [eh12]; exact ch_set_self
  refine gx_aload_n 0 dX10_awaitJoin_30 rfl rfl ?_
  refine gx_dup dX10_awaitJoin_31 rfl ?_
  refine gx_get (ci := 9) (f := 5) (C := RX10) (T := TX10) (N := 7) rfl inX10 (by decide) mw_1_60 dX10_awaitJoin_32 k13 rfl ?_
  refine gx_iconst (iI 1) dX10_awaitJoin_35 rfl ?_
  refine gy_iadd dX10_awaitJoin_36 ?_
  refine gy_put (ci := 9) (f := 5) (C := RX10) (T := TX10) (N := 7) (ty := .int) (fs2 := [.ref (lo + 4), .ref (lo + 5), .ref (lo + 6), .ref (lo + 7), .ref (lo + 8), .int (iI (wc + 1)), .ref (lo + 9)]) tyX10 rfl inX10 tyX10_ok nmX10 (by decide) mw_1_60 (Or.inl rfl) (by decide +kernel) rfl rfl dX10_awaitJoin_37 k13 (by simp) rfl (fun h23 eh23 => ?_)
  have k24 : h23 (lo + 5) = some (aI cI 100 fx) := by rw [eh23, ch_set_ne (by first | assumption | exact Ne.symm (by assumption) | omega)]; exact k14
  have k25 : h23 (lo + 6) = some (aI cI 100 fy) := by rw [eh23, ch_set_ne (by first | assumption | exact Ne.symm (by assumption) | omega)]; exact k15
  have k26 : h23 (lo + 7) = some (aI cI 100 fl) := by rw [eh23, ch_set_ne (by first | assumption | exact Ne.symm (by assumption) | omega)]; exact k16
  have k27 : h23 (lo + 9) = some (.inr (3, [.ref (lo + 10), .ref (lo + 11), .ref (lo + 12), .int (iI ec), .int (iI sc)])) := by rw [eh23, ch_set_ne (by first | assumption | exact Ne.symm (by assumption) | omega)]; exact k17
  have k28 : h23 (lo + 10) = some (aI cI 100 fe) := by rw [eh23, ch_set_ne (by first | assumption | exact Ne.symm (by assumption) | omega)]; exact k18
  have k29 : h23 (lo + 11) = some (aI cI 50 fs) := by rw [eh23, ch_set_ne (by first | assumption | exact Ne.symm (by assumption) | omega)]; exact k19
  have k30 : h23 (lo + 12) = some (aI cI 100 fm) := by rw [eh23, ch_set_ne (by first | assumption | exact Ne.symm (by assumption) | omega)]; exact k20
  have k31 : h23 (lo + 4) = some (aR cR 100 (va_up gw wc.toNat none)) := by rw [eh23, ch_set_ne (by first | assumption | exact Ne.symm (by assumption) | omega)]; exact k21
  have k32 : h23 (lo + 8) = some (aI cI 100 (updI fh wc.toNat t)) := by rw [eh23, ch_set_ne (by first | assumption | exact Ne.symm (by assumption) | omega)]; exact k22
  have k33 : h23 (lo + 3) = some (.inr (9, [.ref (lo + 4), .ref (lo + 5), .ref (lo + 6), .ref (lo + 7), .ref (lo + 8), .int (iI (wc + 1)), .ref (lo + 9)])) := by rw [eh23]; exact ch_set_self
  refine gx_vret rfl dX10_awaitJoin_40 (by first | exact Nat.le_of_ble_eq_true rfl | (simp only [rM]; omega)) (by first | exact Nat.le_of_ble_eq_true rfl | (simp only [rM]; omega)) ?_
  exact ⟨rfl, ⟨_, _, _, _, _, k33, k31, k24, k25, k26, k32, k27, k28, k29, k30, hfs⟩, (by rw [eh23]; exact ch_frS (by rw [eh12]; exact ch_frS (by rw [eh1]; exact ch_frS ch_fr0 (wwL_in.mpr ⟨by omega, by omega⟩)) (wwL_in.mpr ⟨by omega, by omega⟩)) (wwL_in.mpr ⟨by omega, by omega⟩)), rfl⟩
end
end
section
section
def sqI (v : Int) : Int := v * v
theorem sqI_nn (v : Int) : 0 ≤ sqI v := by
  unfold sqI
  rcases Int.le_total 0 v with h | h
  · exact Int.mul_nonneg h h
  · exact Int.mul_nonneg_of_nonpos_of_nonpos h h
theorem sqI_le {v B : Int} (h1 : -B ≤ v) (h2 : v ≤ B) : sqI v ≤ B * B := by
  unfold sqI
  rcases Int.le_total 0 v with h | h
  · exact Int.mul_le_mul h2 h2 h (by omega)
  · have h3 : (-v) * (-v) ≤ B * B := Int.mul_le_mul (by omega) (by omega) (by omega) (by omega)
    rw [Int.neg_mul_neg] at h3
    exact h3
theorem sqI_b {v : Int} (h : -1000000 ≤ v ∧ v ≤ 1000000) : 0 ≤ sqI v ∧ sqI v ≤ 1000000000000 := ⟨sqI_nn v, sqI_le (B := 1000000) h.1 h.2⟩
theorem sqI_s {v : Int} (h : -10000 ≤ v ∧ v ≤ 10000) : 0 ≤ sqI v ∧ sqI v ≤ 100000000 := ⟨sqI_nn v, sqI_le (B := 10000) h.1 h.2⟩
theorem mul_b {a b A B : Int} (ha : 0 ≤ a ∧ a ≤ A) (hb : 0 ≤ b ∧ b ≤ B) : 0 ≤ a * b ∧ a * b ≤ A * B := ⟨Int.mul_nonneg ha.1 hb.1, Int.mul_le_mul ha.2 hb.2 hb.1 (Int.le_trans ha.1 ha.2)⟩
/-- rootBelow's halving -/
def rtB (v : Int) : Nat → Int → Int → Int
  | 0, low, _ => low
  | k + 1, low, high => if low < high then (if sqI (low + (high - low + 1) / 2) ≤ v then rtB v k (low + (high - low + 1) / 2) high else rtB v k low (low + (high - low + 1) / 2 - 1)) else low
/-- leastDepth's halving -/
def ldB (nd rr : Int) : Nat → Int → Int → Int
  | 0, low, _ => low
  | k + 1, low, high => if low < high then (if nd ≤ rr * sqI (low + (high - low) / 2) then ldB nd rr k low (low + (high - low) / 2) else ldB nd rr k (low + (high - low) / 2 + 1) high) else low
set_option maxHeartbeats 4000000 in
set_option maxRecDepth 100000 in
theorem c_X11_square (l : Launch) (D : va_G) (cI cL cR : ClassId) (lo : Nat) (h : ch_H) (hi : Nat) (v : Int) : ch_C l (eE D cI cL cR lo) M_X11_square (rM 0 0 0) [.long (lI v)] h hi (fun r0 h2 hi2 => r0 = some (.long (lI (sqI v))) ∧ h = h2 ∧ hi = hi2) := by
  refine ch_C.of rfl (Nat.le_of_ble_eq_true rfl) ?_
  refine gx_lload_n 0 dX11_square_0 rfl rfl ?_
  refine gx_lload_n 0 dX11_square_1 rfl rfl ?_
  refine gy_lmul dX11_square_2 ?_
  refine gx_lret rfl dX11_square_3 (by first | exact Nat.le_of_ble_eq_true rfl | (simp only [rM]; omega)) (by first | exact Nat.le_of_ble_eq_true rfl | (simp only [rM]; omega)) ?_
  exact ⟨rfl, rfl, rfl⟩
set_option maxHeartbeats 4000000 in
set_option maxRecDepth 100000 in
theorem c_X12_square (l : Launch) (D : va_G) (cI cL cR : ClassId) (lo : Nat) (h : ch_H) (hi : Nat) (v : Int) : ch_C l (eE D cI cL cR lo) M_X12_square (rM 0 0 0) [.long (lI v)] h hi (fun r0 h2 hi2 => r0 = some (.long (lI (sqI v))) ∧ h = h2 ∧ hi = hi2) := by
  refine ch_C.of rfl (Nat.le_of_ble_eq_true rfl) ?_
  refine gx_lload_n 0 dX12_square_0 rfl rfl ?_
  refine gx_lload_n 0 dX12_square_1 rfl rfl ?_
  refine gy_lmul dX12_square_2 ?_
  refine gx_lret rfl dX12_square_3 (by first | exact Nat.le_of_ble_eq_true rfl | (simp only [rM]; omega)) (by first | exact Nat.le_of_ble_eq_true rfl | (simp only [rM]; omega)) ?_
  exact ⟨rfl, rfl, rfl⟩
set_option maxHeartbeats 4000000 in
set_option maxRecDepth 100000 in
theorem c_X11_rootBelow (l : Launch) (D : va_G) (cI cL cR : ClassId) (lo : Nat) (h : ch_H) (hi : Nat) (v most : Int) (hv : lr v) (hm : 0 ≤ most ∧ most ≤ 5000) : ch_C l (eE D cI cL cR lo) M_X11_rootBelow (rM 1 0 0) [.long (lI v), .int (iI most)] h hi (fun r0 h2 hi2 => r0 = some (.int (iI (rtB v 32 0 most))) ∧ h = h2 ∧ hi = hi2) := by
  refine ch_C.of rfl (Nat.le_of_ble_eq_true rfl) ?_
  have loop : ∀ (m : Nat) (low high z : Int), (0 ≤ low) → (low ≤ 5000) → (high ≤ 5000) → (-1 ≤ high) → (0 ≤ z) → (z ≤ 32) → (33 ≤ z + m) → (rtB v (32 - z).toNat low high = rtB v 32 0 most) → ch_G l (eE D cI cL cR lo) M_X11_rootBelow ch_T (rM 1 0 0) (ch_Z (eE D cI cL cR lo) 0 0 (fun r0 h2 hi2 => r0 = some (.int (iI (rtB v 32 0 most))) ∧ h = h2 ∧ hi = hi2)) 0 0 h hi 8 [(0, .long (lI v)), (3, .int (iI low)), (4, .int (iI high)), (5, .int (iI z))] [] := by
    intro m
    induction m with
    | zero => intro low high z h0 h1 h2 h3 hz hz1 hzm heq; exfalso; omega
    | succ m ih =>
      intro low high z h0 h1 h2 h3 hz hz1 hzm heq
      have hf0 : z < 32 → (32 - z).toNat = (32 - (z + 1)).toNat + 1 := by omega
      refine gx_iload 3 dX11_rootBelow_8 rfl ?_
      refine gx_bipush (iI 32) dX11_rootBelow_10 (by decide) ?_
      refine gy_icmp_ge 62 dX11_rootBelow_12 (by decide) (by constructor <;> omega) (by decide) (fun c12 => ?_) (fun c12 => ?_)
      · refine gx_iload_n 1 dX11_rootBelow_62 rfl rfl ?_
        refine gx_iret rfl dX11_rootBelow_63 (by first | exact Nat.le_of_ble_eq_true rfl | (simp only [rM]; omega)) (by first | exact Nat.le_of_ble_eq_true rfl | (simp only [rM]; omega)) ?_
        exact ⟨by rw [← heq, show (32 - z).toNat = 0 by omega, rtB], rfl, rfl⟩
      · refine gx_iload_n 1 dX11_rootBelow_15 rfl rfl ?_
        refine gx_iload 2 dX11_rootBelow_16 rfl ?_
        refine gy_icmp_ge 62 dX11_rootBelow_18 (by decide) (by constructor <;> omega) (by constructor <;> omega) (fun c18 => ?_) (fun c18 => ?_)
        · refine gx_iload_n 1 dX11_rootBelow_62 rfl rfl ?_
          refine gx_iret rfl dX11_rootBelow_63 (by first | exact Nat.le_of_ble_eq_true rfl | (simp only [rM]; omega)) (by first | exact Nat.le_of_ble_eq_true rfl | (simp only [rM]; omega)) ?_
          exact ⟨by rw [← heq, hf0 (by omega), rtB, if_neg (by omega)], rfl, rfl⟩
        · refine gx_iload_n 1 dX11_rootBelow_21 rfl rfl ?_
          refine gx_iload 2 dX11_rootBelow_22 rfl ?_
          refine gx_iload_n 1 dX11_rootBelow_24 rfl rfl ?_
          refine gy_isub dX11_rootBelow_25 ?_
          refine gx_iconst (iI 1) dX11_rootBelow_26 rfl ?_
          refine gy_iadd dX11_rootBelow_27 ?_
          refine gx_iconst (iI 2) dX11_rootBelow_28 rfl ?_
          refine gy_idiv dX11_rootBelow_29 (by constructor <;> omega) (by decide) (by omega) (by decide) ?_
          refine gy_iadd dX11_rootBelow_30 ?_
          refine gx_istore [(6, .int (iI (low + (((high - low) + 1) / 2)))), (0, .long (lI v)), (3, .int (iI low)), (4, .int (iI high)), (5, .int (iI z))] dX11_rootBelow_31 (by decide) rfl ?_
          refine gx_iload 0 dX11_rootBelow_33 rfl ?_
          refine gy_i2l dX11_rootBelow_35 (by constructor <;> omega) ?_
          refine gx_callS (c_X11_square l D cI cL cR lo h hi (low + (((high - low) + 1) / 2))) ok_X11_square mw_2_140 mw_2_127 dX11_rootBelow_36 rfl rfl (Nat.le_of_ble_eq_true rfl) (by first | exact Nat.le_of_ble_eq_true rfl | (simp only [rM]; omega)) (by first | exact Nat.le_of_ble_eq_true rfl | (simp only [rM]; omega)) (by first | exact Nat.le_of_ble_eq_true rfl | (simp only [rM]; omega)) (by first | exact Nat.le_of_ble_eq_true rfl | (simp only [rM]; omega)) (fun r1 h2 u3 q4 g5 => ?_)
          obtain ⟨rfl, rfl, rfl⟩ := q4
          refine ch_Gst (st2 := [.long (lI (sqI (low + (((high - low) + 1) / 2))))]) rfl ?_
          have hsq := sqI_b (v := low + (high - low + 1) / 2) (by omega)
          refine gx_lload_n 1 dX11_rootBelow_39 rfl rfl ?_
          refine gy_lcmp_gt 50 dX11_rootBelow_40 dX11_rootBelow_41 (by decide) (by constructor <;> omega) (by constructor <;> omega) (fun c40 => ?_) (fun c40 => ?_)
          · refine gx_iload 0 dX11_rootBelow_50 rfl ?_
            refine gx_iconst (iI 1) dX11_rootBelow_52 rfl ?_
            refine gy_isub dX11_rootBelow_53 ?_
            refine gx_istore [(4, .int (iI ((low + (((high - low) + 1) / 2)) - 1))), (6, .int (iI (low + (((high - low) + 1) / 2)))), (0, .long (lI v)), (3, .int (iI low)), (5, .int (iI z))] dX11_rootBelow_54 (by decide) rfl ?_
            refine gy_iinc 4 [(5, .int (iI (z + 1))), (4, .int (iI ((low + (((high - low) + 1) / 2)) - 1))), (6, .int (iI (low + (((high - low) + 1) / 2)))), (0, .long (lI v)), (3, .int (iI low))] dX11_rootBelow_56 rfl (by decide) rfl ?_
            refine gx_goto 8 dX11_rootBelow_59 (by decide) ?_
            refine ch_Glv (lv' := [(0, .long (lI v)), (3, .int (iI low)), (4, .int (iI ((low + (((high - low) + 1) / 2)) - 1))), (5, .int (iI (z + 1)))]) [3, 4, 1, 0] rfl ?_
            exact ih _ _ _ (by omega) (by omega) (by omega) (by omega) (by omega) (by omega) (by omega) (by rw [← heq, hf0 (by omega), rtB, if_pos (by omega), if_neg (by omega)])
          · refine gx_iload 0 dX11_rootBelow_44 rfl ?_
            refine gx_istore_n [(3, .int (iI (low + (((high - low) + 1) / 2)))), (6, .int (iI (low + (((high - low) + 1) / 2)))), (0, .long (lI v)), (4, .int (iI high)), (5, .int (iI z))] dX11_rootBelow_46 rfl (by decide) rfl ?_
            refine gx_goto 56 dX11_rootBelow_47 (by decide) ?_
            refine gy_iinc 4 [(5, .int (iI (z + 1))), (3, .int (iI (low + (((high - low) + 1) / 2)))), (6, .int (iI (low + (((high - low) + 1) / 2)))), (0, .long (lI v)), (4, .int (iI high))] dX11_rootBelow_56 rfl (by decide) rfl ?_
            refine gx_goto 8 dX11_rootBelow_59 (by decide) ?_
            refine ch_Glv (lv' := [(0, .long (lI v)), (3, .int (iI (low + (((high - low) + 1) / 2)))), (4, .int (iI high)), (5, .int (iI (z + 1)))]) [3, 1, 4, 0] rfl ?_
            exact ih _ _ _ (by omega) (by omega) (by omega) (by omega) (by omega) (by omega) (by omega) (by rw [← heq, hf0 (by omega), rtB, if_pos (by omega), if_pos (by omega)])
  refine gx_iconst (iI 0) dX11_rootBelow_0 rfl ?_
  refine gx_istore_n [(3, .int (iI 0)), (0, .long (lI v)), (2, .int (iI most))] dX11_rootBelow_1 rfl (by decide) rfl ?_
  refine gx_iload_n 2 dX11_rootBelow_2 rfl rfl ?_
  refine gx_istore [(4, .int (iI most)), (3, .int (iI 0)), (0, .long (lI v)), (2, .int (iI most))] dX11_rootBelow_3 (by decide) rfl ?_
  refine gx_iconst (iI 0) dX11_rootBelow_5 rfl ?_
  refine gx_istore [(5, .int (iI 0)), (4, .int (iI most)), (3, .int (iI 0)), (0, .long (lI v)), (2, .int (iI most))] dX11_rootBelow_6 (by decide) rfl ?_
  refine ch_Glv (lv' := [(0, .long (lI v)), (3, .int (iI 0)), (4, .int (iI most)), (5, .int (iI 0))]) [3, 2, 1, 0] rfl ?_
  exact loop 33 0 most 0 (by omega) (by omega) (by omega) (by omega) (by omega) (by omega) (by omega) rfl
set_option maxHeartbeats 4000000 in
set_option maxRecDepth 100000 in
theorem c_X2_leastDepth (l : Launch) (D : va_G) (cI cL cR : ClassId) (lo : Nat) (h : ch_H) (hi : Nat) (p : Nat) (wt cx cy rr cz eZ : Int) (hp : h p = some (.inr (2, [.int (iI wt), .int (iI cx), .int (iI cy), .int (iI rr), .int (iI cz), .int (iI eZ)]))) (hcz : -5000 ≤ cz ∧ cz ≤ 5000) (heZ : -5000 ≤ eZ ∧ eZ ≤ 5000) (hrr : 0 ≤ rr ∧ rr ≤ 5000) (hlt : cz < eZ) (ap : Int) (hap : 0 ≤ ap ∧ ap ≤ 25000000) : ch_C l (eE D cI cL cR lo) M_X2_leastDepth (rM 1 0 0) [.ref p, .long (lI ap)] h hi (fun r0 h2 hi2 => r0 = some (.int (iI (ldB (ap * sqI (eZ - cz)) (sqI rr) 32 1 (eZ - cz)))) ∧ h = h2 ∧ hi = hi2) := by
  refine ch_C.of rfl (Nat.le_of_ble_eq_true rfl) ?_
  have hz0 := sqI_s (v := eZ - cz) (by omega)
  have hz9 := mul_b hap hz0
  have hr0 : 0 ≤ sqI rr ∧ sqI rr ≤ 25000000 := ⟨sqI_nn rr, sqI_le (B := 5000) (by omega) (by omega)⟩
  have loop : ∀ (m : Nat) (low high z : Int), (0 ≤ low) → (low ≤ 10001) → (high ≤ 10000) → (0 ≤ high) → (0 ≤ z) → (z ≤ 32) → (33 ≤ z + m) → (ldB (ap * sqI (eZ - cz)) (sqI rr) (32 - z).toNat low high = ldB (ap * sqI (eZ - cz)) (sqI rr) 32 1 (eZ - cz)) → ch_G l (eE D cI cL cR lo) M_X2_leastDepth ch_T (rM 1 0 0) (ch_Z (eE D cI cL cR lo) 0 0 (fun r0 h2 hi2 => r0 = some (.int (iI (ldB (ap * sqI (eZ - cz)) (sqI rr) 32 1 (eZ - cz)))) ∧ h = h2 ∧ hi = hi2)) 0 0 h hi 33 [(0, .ref p), (3, .int (iI low)), (4, .int (iI high)), (5, .long (lI (ap * sqI (eZ - cz)))), (7, .int (iI z))] [] := by
    intro m
    induction m with
    | zero => intro low high z h0 h1 h2 h3 hz hz1 hzm heq; exfalso; omega
    | succ m ih =>
      intro low high z h0 h1 h2 h3 hz hz1 hzm heq
      have hf0 : z < 32 → (32 - z).toNat = (32 - (z + 1)).toNat + 1 := by omega
      refine gx_iload 4 dX2_leastDepth_33 rfl ?_
      refine gx_bipush (iI 32) dX2_leastDepth_35 (by decide) ?_
      refine gy_icmp_ge 95 dX2_leastDepth_37 (by decide) (by constructor <;> omega) (by decide) (fun c37 => ?_) (fun c37 => ?_)
      · refine gx_iload_n 1 dX2_leastDepth_95 rfl rfl ?_
        refine gx_iret rfl dX2_leastDepth_96 (by first | exact Nat.le_of_ble_eq_true rfl | (simp only [rM]; omega)) (by first | exact Nat.le_of_ble_eq_true rfl | (simp only [rM]; omega)) ?_
        exact ⟨by rw [← heq, show (32 - z).toNat = 0 by omega, ldB], rfl, rfl⟩
      · refine gx_iload_n 1 dX2_leastDepth_40 rfl rfl ?_
        refine gx_iload 2 dX2_leastDepth_41 rfl ?_
        refine gy_icmp_ge 95 dX2_leastDepth_43 (by decide) (by constructor <;> omega) (by constructor <;> omega) (fun c43 => ?_) (fun c43 => ?_)
        · refine gx_iload_n 1 dX2_leastDepth_95 rfl rfl ?_
          refine gx_iret rfl dX2_leastDepth_96 (by first | exact Nat.le_of_ble_eq_true rfl | (simp only [rM]; omega)) (by first | exact Nat.le_of_ble_eq_true rfl | (simp only [rM]; omega)) ?_
          exact ⟨by rw [← heq, hf0 (by omega), ldB, if_neg (by omega)], rfl, rfl⟩
        · refine gx_iload_n 1 dX2_leastDepth_46 rfl rfl ?_
          refine gx_iload 2 dX2_leastDepth_47 rfl ?_
          refine gx_iload_n 1 dX2_leastDepth_49 rfl rfl ?_
          refine gy_isub dX2_leastDepth_50 ?_
          refine gx_iconst (iI 2) dX2_leastDepth_51 rfl ?_
          refine gy_idiv dX2_leastDepth_52 (by constructor <;> omega) (by decide) (by omega) (by decide) ?_
          refine gy_iadd dX2_leastDepth_53 ?_
          refine gx_istore [(8, .int (iI (low + ((high - low) / 2)))), (0, .ref p), (3, .int (iI low)), (4, .int (iI high)), (5, .long (lI (ap * sqI (eZ - cz)))), (7, .int (iI z))] dX2_leastDepth_54 (by decide) rfl ?_
          refine gx_lload 4 dX2_leastDepth_56 rfl ?_
          refine gx_aload_n 1 dX2_leastDepth_58 rfl rfl ?_
          refine gx_get (ci := 2) (f := 3) (C := RX2) (T := TX2) (N := 6) rfl inX2 (by decide) mw_1_225 dX2_leastDepth_59 hp rfl ?_
          refine gy_i2l dX2_leastDepth_62 (by constructor <;> omega) ?_
          refine gx_callSN (c_X11_square l D cI cL cR lo h hi rr) ok_X11_square nw_4 mw_2_127 dX2_leastDepth_63 rfl rfl (Nat.le_of_ble_eq_true rfl) (by first | exact Nat.le_of_ble_eq_true rfl | (simp only [rM]; omega)) (by first | exact Nat.le_of_ble_eq_true rfl | (simp only [rM]; omega)) (by first | exact Nat.le_of_ble_eq_true rfl | (simp only [rM]; omega)) (by first | exact Nat.le_of_ble_eq_true rfl | (simp only [rM]; omega)) (fun r1 h2 u3 q4 g5 => ?_)
          obtain ⟨rfl, rfl, rfl⟩ := q4
          refine ch_Gst (st2 := [.long (lI (sqI rr)), .long (lI (ap * sqI (eZ - cz)))]) rfl ?_
          refine gx_iload 0 dX2_leastDepth_66 rfl ?_
          refine gy_i2l dX2_leastDepth_68 (by constructor <;> omega) ?_
          refine gx_callSN (c_X11_square l D cI cL cR lo h hi (low + ((high - low) / 2))) ok_X11_square nw_4 mw_2_127 dX2_leastDepth_69 rfl rfl (Nat.le_of_ble_eq_true rfl) (by first | exact Nat.le_of_ble_eq_true rfl | (simp only [rM]; omega)) (by first | exact Nat.le_of_ble_eq_true rfl | (simp only [rM]; omega)) (by first | exact Nat.le_of_ble_eq_true rfl | (simp only [rM]; omega)) (by first | exact Nat.le_of_ble_eq_true rfl | (simp only [rM]; omega)) (fun r6 h7 u8 q9 g10 => ?_)
          obtain ⟨rfl, rfl, rfl⟩ := q9
          refine ch_Gst (st2 := [.long (lI (sqI (low + ((high - low) / 2)))), .long (lI (sqI rr)), .long (lI (ap * sqI (eZ - cz)))]) rfl ?_
          have hsq := sqI_s (v := low + (high - low) / 2) (by omega)
          have hsm := mul_b hr0 hsq
          refine gy_lmul dX2_leastDepth_72 ?_
          refine gy_lcmp_gt 84 dX2_leastDepth_73 dX2_leastDepth_74 (by decide) (by constructor <;> omega) (by constructor <;> omega) (fun c73 => ?_) (fun c73 => ?_)
          · refine gx_iload 0 dX2_leastDepth_84 rfl ?_
            refine gx_iconst (iI 1) dX2_leastDepth_86 rfl ?_
            refine gy_iadd dX2_leastDepth_87 ?_
            refine gx_istore_n [(3, .int (iI ((low + ((high - low) / 2)) + 1))), (8, .int (iI (low + ((high - low) / 2)))), (0, .ref p), (4, .int (iI high)), (5, .long (lI (ap * sqI (eZ - cz)))), (7, .int (iI z))] dX2_leastDepth_88 rfl (by decide) rfl ?_
            refine gy_iinc 5 [(7, .int (iI (z + 1))), (3, .int (iI ((low + ((high - low) / 2)) + 1))), (8, .int (iI (low + ((high - low) / 2)))), (0, .ref p), (4, .int (iI high)), (5, .long (lI (ap * sqI (eZ - cz))))] dX2_leastDepth_89 rfl (by decide) rfl ?_
            refine gx_goto 33 dX2_leastDepth_92 (by decide) ?_
            refine ch_Glv (lv' := [(0, .ref p), (3, .int (iI ((low + ((high - low) / 2)) + 1))), (4, .int (iI high)), (5, .long (lI (ap * sqI (eZ - cz)))), (7, .int (iI (z + 1)))]) [3, 1, 4, 5, 0] rfl ?_
            exact ih _ _ _ (by omega) (by omega) (by omega) (by omega) (by omega) (by omega) (by omega) (by rw [← heq, hf0 (by omega), ldB, if_pos (by omega), if_neg (by omega)])
          · refine gx_iload 0 dX2_leastDepth_77 rfl ?_
            refine gx_istore [(4, .int (iI (low + ((high - low) / 2)))), (8, .int (iI (low + ((high - low) / 2)))), (0, .ref p), (3, .int (iI low)), (5, .long (lI (ap * sqI (eZ - cz)))), (7, .int (iI z))] dX2_leastDepth_79 (by decide) rfl ?_
            refine gx_goto 89 dX2_leastDepth_81 (by decide) ?_
            refine gy_iinc 5 [(7, .int (iI (z + 1))), (4, .int (iI (low + ((high - low) / 2)))), (8, .int (iI (low + ((high - low) / 2)))), (0, .ref p), (3, .int (iI low)), (5, .long (lI (ap * sqI (eZ - cz))))] dX2_leastDepth_89 rfl (by decide) rfl ?_
            refine gx_goto 33 dX2_leastDepth_92 (by decide) ?_
            refine ch_Glv (lv' := [(0, .ref p), (3, .int (iI low)), (4, .int (iI (low + ((high - low) / 2)))), (5, .long (lI (ap * sqI (eZ - cz)))), (7, .int (iI (z + 1)))]) [3, 4, 1, 5, 0] rfl ?_
            exact ih _ _ _ (by omega) (by omega) (by omega) (by omega) (by omega) (by omega) (by omega) (by rw [← heq, hf0 (by omega), ldB, if_pos (by omega), if_pos (by omega)])
  refine gx_iconst (iI 1) dX2_leastDepth_0 rfl ?_
  refine gx_istore_n [(3, .int (iI 1)), (0, .ref p), (1, .long (lI ap))] dX2_leastDepth_1 rfl (by decide) rfl ?_
  refine gx_aload_n 1 dX2_leastDepth_2 rfl rfl ?_
  refine gx_get (ci := 2) (f := 5) (C := RX2) (T := TX2) (N := 6) rfl inX2 (by decide) mw_1_227 dX2_leastDepth_3 hp rfl ?_
  refine gx_aload_n 1 dX2_leastDepth_6 rfl rfl ?_
  refine gx_get (ci := 2) (f := 4) (C := RX2) (T := TX2) (N := 6) rfl inX2 (by decide) mw_1_226 dX2_leastDepth_7 hp rfl ?_
  refine gy_isub dX2_leastDepth_10 ?_
  refine gx_istore [(4, .int (iI (eZ - cz))), (3, .int (iI 1)), (0, .ref p), (1, .long (lI ap))] dX2_leastDepth_11 (by decide) rfl ?_
  refine gx_lload_n 3 dX2_leastDepth_13 rfl rfl ?_
  refine gx_aload_n 2 dX2_leastDepth_14 rfl rfl ?_
  refine gx_get (ci := 2) (f := 5) (C := RX2) (T := TX2) (N := 6) rfl inX2 (by decide) mw_1_227 dX2_leastDepth_15 hp rfl ?_
  refine gx_aload_n 2 dX2_leastDepth_18 rfl rfl ?_
  refine gx_get (ci := 2) (f := 4) (C := RX2) (T := TX2) (N := 6) rfl inX2 (by decide) mw_1_226 dX2_leastDepth_19 hp rfl ?_
  refine gy_isub dX2_leastDepth_22 ?_
  refine gy_i2l dX2_leastDepth_23 (by constructor <;> omega) ?_
  refine gx_callSN (c_X11_square l D cI cL cR lo h hi (eZ - cz)) ok_X11_square nw_4 mw_2_127 dX2_leastDepth_24 rfl rfl (Nat.le_of_ble_eq_true rfl) (by first | exact Nat.le_of_ble_eq_true rfl | (simp only [rM]; omega)) (by first | exact Nat.le_of_ble_eq_true rfl | (simp only [rM]; omega)) (by first | exact Nat.le_of_ble_eq_true rfl | (simp only [rM]; omega)) (by first | exact Nat.le_of_ble_eq_true rfl | (simp only [rM]; omega)) (fun r1 h2 u3 q4 g5 => ?_)
  obtain ⟨rfl, rfl, rfl⟩ := q4
  refine ch_Gst (st2 := [.long (lI (sqI (eZ - cz))), .long (lI ap)]) rfl ?_
  refine gy_lmul dX2_leastDepth_27 ?_
  refine gx_lstore [(5, .long (lI (ap * (sqI (eZ - cz))))), (4, .int (iI (eZ - cz))), (3, .int (iI 1)), (0, .ref p), (1, .long (lI ap))] dX2_leastDepth_28 (by decide) rfl ?_
  refine gx_iconst (iI 0) dX2_leastDepth_30 rfl ?_
  refine gx_istore [(7, .int (iI 0)), (5, .long (lI (ap * (sqI (eZ - cz))))), (4, .int (iI (eZ - cz))), (3, .int (iI 1)), (0, .ref p), (1, .long (lI ap))] dX2_leastDepth_31 (by decide) rfl ?_
  refine ch_Glv (lv' := [(0, .ref p), (3, .int (iI 1)), (4, .int (iI (eZ - cz))), (5, .long (lI (ap * (sqI (eZ - cz))))), (7, .int (iI 0))]) [4, 3, 2, 1, 0] rfl ?_
  exact loop 33 1 (eZ - cz) 0 (by omega) (by omega) (by omega) (by omega) (by omega) (by omega) (by omega) rfl
end
end
section
section
theorem rtB_in {v : Int} : ∀ (k : Nat) (low high : Int), low ≤ high → low ≤ rtB v k low high ∧ rtB v k low high ≤ high := by
  intro k
  induction k with
  | zero => intro low high h; exact ⟨Int.le_refl _, h⟩
  | succ k ih =>
    intro low high h
    rw [rtB]
    by_cases h1 : low < high
    · rw [if_pos h1]
      by_cases h2 : sqI (low + (high - low + 1) / 2) ≤ v
      · rw [if_pos h2]
        have := ih (low + (high - low + 1) / 2) high (by omega)
        omega
      · rw [if_neg h2]
        have := ih low (low + (high - low + 1) / 2 - 1) (by omega)
        omega
    · rw [if_neg h1]; omega
theorem ldB_in {nd rr : Int} : ∀ (k : Nat) (low high : Int), low ≤ high → low ≤ ldB nd rr k low high ∧ ldB nd rr k low high ≤ high := by
  intro k
  induction k with
  | zero => intro low high h; exact ⟨Int.le_refl _, h⟩
  | succ k ih =>
    intro low high h
    rw [ldB]
    by_cases h1 : low < high
    · rw [if_pos h1]
      by_cases h2 : nd ≤ rr * sqI (low + (high - low) / 2)
      · rw [if_pos h2]
        have := ih low (low + (high - low) / 2) (by omega)
        omega
      · rw [if_neg h2]
        have := ih (low + (high - low) / 2 + 1) high (by omega)
        omega
    · rw [if_neg h1]; omega
/-- the edges of a kind over a place, raised -/
def bxS (x y z eX eY eZ px py t : Int) : List Int := if x ≤ px ∧ px < eX ∧ y ≤ py ∧ py < eY then seg (z + t) (eZ + t) else []
def poS (x y r z eZ px py t : Int) : List Int := if sqI (px - x) + sqI (py - y) ≤ sqI r then seg (z + t) (eZ + t) else []
def baS (x y z r px py t : Int) : List Int := if sqI r - sqI (px - x) - sqI (py - y) < 0 then [] else seg (z - rtB (sqI r - sqI (px - x) - sqI (py - y)) 32 0 r + t) (z + rtB (sqI r - sqI (px - x) - sqI (py - y)) 32 0 r + 1 + t)
def coS (x y r z eZ px py t : Int) : List Int := if eZ ≤ z ∨ sqI r < sqI (px - x) + sqI (py - y) then [] else seg (z + t) (eZ - ldB ((sqI (px - x) + sqI (py - y)) * sqI (eZ - z)) (sqI r) 32 1 (eZ - z) + 1 + t)
set_option maxHeartbeats 4000000 in
set_option maxRecDepth 100000 in
theorem c_X8_init_0 (l : Launch) (D : va_G) (cI cL cR : ClassId) (lo : Nat) (h : ch_H) (hi : Nat) (p : Nat) (wt : Int) (hp : h p = some (.inr (0, [.int (iI 0), .int (iI 0), .int (iI 0), .int (iI 0), .int (iI 0)]))) : ch_C l (eE D cI cL cR lo) M_X8_init (rM 1 0 0) [.ref p, .int (iI wt)] h hi (fun r0 h2 hi2 => r0 = none ∧ h2 = ch_set h p (.inr (0, [.int (iI wt), .int (iI 0), .int (iI 0), .int (iI 0), .int (iI 0)])) ∧ hi = hi2) := by
  refine ch_C.of rfl (Nat.le_of_ble_eq_true rfl) ?_
  refine gx_aload_n 0 dX8_init_0 rfl rfl ?_
  refine gx_objInit mw_1_147 mw_1_21 mw_1_22 dX8_init_1 (by decide) (Nat.le_of_ble_eq_true rfl) ?_
  refine gx_aload_n 0 dX8_init_4 rfl rfl ?_
  refine gx_iload_n 1 dX8_init_5 rfl rfl ?_
  refine gy_put (ci := 0) (f := 0) (C := RX0) (T := TX0) (N := 5) (ty := .int) (fs2 := [.int (iI wt), .int (iI 0), .int (iI 0), .int (iI 0), .int (iI 0)]) tyX0 rfl inX0 tyX0_ok nmX0 (by decide) mw_1_157 (Or.inr ⟨rfl, rfl, rfl⟩) (by decide +kernel) rfl rfl dX8_init_6 hp (by simp) rfl (fun h1 eh1 => ?_)
  have k2 : h1 p = some (.inr (0, [.int (iI wt), .int (iI 0), .int (iI 0), .int (iI 0), .int (iI 0)])) := by rw [eh1]; exact ch_set_self
  refine gx_vret rfl dX8_init_9 (by first | exact Nat.le_of_ble_eq_true rfl | (simp only [rM]; omega)) (by first | exact Nat.le_of_ble_eq_true rfl | (simp only [rM]; omega)) ?_
  exact ⟨rfl, eh1, rfl⟩
set_option maxHeartbeats 4000000 in
set_option maxRecDepth 100000 in
theorem c_X8_init_1 (l : Launch) (D : va_G) (cI cL cR : ClassId) (lo : Nat) (h : ch_H) (hi : Nat) (p : Nat) (wt : Int) (hp : h p = some (.inr (1, [.int (iI 0), .int (iI 0), .int (iI 0), .int (iI 0), .int (iI 0), .int (iI 0), .int (iI 0)]))) : ch_C l (eE D cI cL cR lo) M_X8_init (rM 1 0 0) [.ref p, .int (iI wt)] h hi (fun r0 h2 hi2 => r0 = none ∧ h2 = ch_set h p (.inr (1, [.int (iI wt), .int (iI 0), .int (iI 0), .int (iI 0), .int (iI 0), .int (iI 0), .int (iI 0)])) ∧ hi = hi2) := by
  refine ch_C.of rfl (Nat.le_of_ble_eq_true rfl) ?_
  refine gx_aload_n 0 dX8_init_0 rfl rfl ?_
  refine gx_objInit mw_1_147 mw_1_21 mw_1_22 dX8_init_1 (by decide) (Nat.le_of_ble_eq_true rfl) ?_
  refine gx_aload_n 0 dX8_init_4 rfl rfl ?_
  refine gx_iload_n 1 dX8_init_5 rfl rfl ?_
  refine gy_put (ci := 1) (f := 0) (C := RX1) (T := TX1) (N := 7) (ty := .int) (fs2 := [.int (iI wt), .int (iI 0), .int (iI 0), .int (iI 0), .int (iI 0), .int (iI 0), .int (iI 0)]) tyX1 rfl inX1 tyX1_ok nmX1 (by decide) mw_1_157 (Or.inr ⟨rfl, rfl, rfl⟩) (by decide +kernel) rfl rfl dX8_init_6 hp (by simp) rfl (fun h1 eh1 => ?_)
  have k2 : h1 p = some (.inr (1, [.int (iI wt), .int (iI 0), .int (iI 0), .int (iI 0), .int (iI 0), .int (iI 0), .int (iI 0)])) := by rw [eh1]; exact ch_set_self
  refine gx_vret rfl dX8_init_9 (by first | exact Nat.le_of_ble_eq_true rfl | (simp only [rM]; omega)) (by first | exact Nat.le_of_ble_eq_true rfl | (simp only [rM]; omega)) ?_
  exact ⟨rfl, eh1, rfl⟩
set_option maxHeartbeats 4000000 in
set_option maxRecDepth 100000 in
theorem c_X8_init_2 (l : Launch) (D : va_G) (cI cL cR : ClassId) (lo : Nat) (h : ch_H) (hi : Nat) (p : Nat) (wt : Int) (hp : h p = some (.inr (2, [.int (iI 0), .int (iI 0), .int (iI 0), .int (iI 0), .int (iI 0), .int (iI 0)]))) : ch_C l (eE D cI cL cR lo) M_X8_init (rM 1 0 0) [.ref p, .int (iI wt)] h hi (fun r0 h2 hi2 => r0 = none ∧ h2 = ch_set h p (.inr (2, [.int (iI wt), .int (iI 0), .int (iI 0), .int (iI 0), .int (iI 0), .int (iI 0)])) ∧ hi = hi2) := by
  refine ch_C.of rfl (Nat.le_of_ble_eq_true rfl) ?_
  refine gx_aload_n 0 dX8_init_0 rfl rfl ?_
  refine gx_objInit mw_1_147 mw_1_21 mw_1_22 dX8_init_1 (by decide) (Nat.le_of_ble_eq_true rfl) ?_
  refine gx_aload_n 0 dX8_init_4 rfl rfl ?_
  refine gx_iload_n 1 dX8_init_5 rfl rfl ?_
  refine gy_put (ci := 2) (f := 0) (C := RX2) (T := TX2) (N := 6) (ty := .int) (fs2 := [.int (iI wt), .int (iI 0), .int (iI 0), .int (iI 0), .int (iI 0), .int (iI 0)]) tyX2 rfl inX2 tyX2_ok nmX2 (by decide) mw_1_157 (Or.inr ⟨rfl, rfl, rfl⟩) (by decide +kernel) rfl rfl dX8_init_6 hp (by simp) rfl (fun h1 eh1 => ?_)
  have k2 : h1 p = some (.inr (2, [.int (iI wt), .int (iI 0), .int (iI 0), .int (iI 0), .int (iI 0), .int (iI 0)])) := by rw [eh1]; exact ch_set_self
  refine gx_vret rfl dX8_init_9 (by first | exact Nat.le_of_ble_eq_true rfl | (simp only [rM]; omega)) (by first | exact Nat.le_of_ble_eq_true rfl | (simp only [rM]; omega)) ?_
  exact ⟨rfl, eh1, rfl⟩
set_option maxHeartbeats 4000000 in
set_option maxRecDepth 100000 in
theorem c_X8_init_4 (l : Launch) (D : va_G) (cI cL cR : ClassId) (lo : Nat) (h : ch_H) (hi : Nat) (p : Nat) (wt : Int) (hp : h p = some (.inr (4, [.int (iI 0), .null, .null, .int (iI 0)]))) : ch_C l (eE D cI cL cR lo) M_X8_init (rM 1 0 0) [.ref p, .int (iI wt)] h hi (fun r0 h2 hi2 => r0 = none ∧ h2 = ch_set h p (.inr (4, [.int (iI wt), .null, .null, .int (iI 0)])) ∧ hi = hi2) := by
  refine ch_C.of rfl (Nat.le_of_ble_eq_true rfl) ?_
  refine gx_aload_n 0 dX8_init_0 rfl rfl ?_
  refine gx_objInit mw_1_147 mw_1_21 mw_1_22 dX8_init_1 (by decide) (Nat.le_of_ble_eq_true rfl) ?_
  refine gx_aload_n 0 dX8_init_4 rfl rfl ?_
  refine gx_iload_n 1 dX8_init_5 rfl rfl ?_
  refine gy_put (ci := 4) (f := 0) (C := RX4) (T := TX4) (N := 4) (ty := .int) (fs2 := [.int (iI wt), .null, .null, .int (iI 0)]) tyX4 rfl inX4 tyX4_ok nmX4 (by decide) mw_1_157 (Or.inr ⟨rfl, rfl, rfl⟩) (by decide +kernel) rfl rfl dX8_init_6 hp (by simp) rfl (fun h1 eh1 => ?_)
  have k2 : h1 p = some (.inr (4, [.int (iI wt), .null, .null, .int (iI 0)])) := by rw [eh1]; exact ch_set_self
  refine gx_vret rfl dX8_init_9 (by first | exact Nat.le_of_ble_eq_true rfl | (simp only [rM]; omega)) (by first | exact Nat.le_of_ble_eq_true rfl | (simp only [rM]; omega)) ?_
  exact ⟨rfl, eh1, rfl⟩
set_option maxHeartbeats 4000000 in
set_option maxRecDepth 100000 in
theorem c_X8_init_5 (l : Launch) (D : va_G) (cI cL cR : ClassId) (lo : Nat) (h : ch_H) (hi : Nat) (p : Nat) (wt : Int) (hp : h p = some (.inr (5, [.int (iI 0), .null, .int (iI 0), .int (iI 0), .int (iI 0)]))) : ch_C l (eE D cI cL cR lo) M_X8_init (rM 1 0 0) [.ref p, .int (iI wt)] h hi (fun r0 h2 hi2 => r0 = none ∧ h2 = ch_set h p (.inr (5, [.int (iI wt), .null, .int (iI 0), .int (iI 0), .int (iI 0)])) ∧ hi = hi2) := by
  refine ch_C.of rfl (Nat.le_of_ble_eq_true rfl) ?_
  refine gx_aload_n 0 dX8_init_0 rfl rfl ?_
  refine gx_objInit mw_1_147 mw_1_21 mw_1_22 dX8_init_1 (by decide) (Nat.le_of_ble_eq_true rfl) ?_
  refine gx_aload_n 0 dX8_init_4 rfl rfl ?_
  refine gx_iload_n 1 dX8_init_5 rfl rfl ?_
  refine gy_put (ci := 5) (f := 0) (C := RX5) (T := TX5) (N := 5) (ty := .int) (fs2 := [.int (iI wt), .null, .int (iI 0), .int (iI 0), .int (iI 0)]) tyX5 rfl inX5 tyX5_ok nmX5 (by decide) mw_1_157 (Or.inr ⟨rfl, rfl, rfl⟩) (by decide +kernel) rfl rfl dX8_init_6 hp (by simp) rfl (fun h1 eh1 => ?_)
  have k2 : h1 p = some (.inr (5, [.int (iI wt), .null, .int (iI 0), .int (iI 0), .int (iI 0)])) := by rw [eh1]; exact ch_set_self
  refine gx_vret rfl dX8_init_9 (by first | exact Nat.le_of_ble_eq_true rfl | (simp only [rM]; omega)) (by first | exact Nat.le_of_ble_eq_true rfl | (simp only [rM]; omega)) ?_
  exact ⟨rfl, eh1, rfl⟩
set_option maxHeartbeats 4000000 in
set_option maxRecDepth 100000 in
theorem c_X8_init_6 (l : Launch) (D : va_G) (cI cL cR : ClassId) (lo : Nat) (h : ch_H) (hi : Nat) (p : Nat) (wt : Int) (hp : h p = some (.inr (6, [.int (iI 0), .int (iI 0), .int (iI 0), .int (iI 0), .int (iI 0), .int (iI 0)]))) : ch_C l (eE D cI cL cR lo) M_X8_init (rM 1 0 0) [.ref p, .int (iI wt)] h hi (fun r0 h2 hi2 => r0 = none ∧ h2 = ch_set h p (.inr (6, [.int (iI wt), .int (iI 0), .int (iI 0), .int (iI 0), .int (iI 0), .int (iI 0)])) ∧ hi = hi2) := by
  refine ch_C.of rfl (Nat.le_of_ble_eq_true rfl) ?_
  refine gx_aload_n 0 dX8_init_0 rfl rfl ?_
  refine gx_objInit mw_1_147 mw_1_21 mw_1_22 dX8_init_1 (by decide) (Nat.le_of_ble_eq_true rfl) ?_
  refine gx_aload_n 0 dX8_init_4 rfl rfl ?_
  refine gx_iload_n 1 dX8_init_5 rfl rfl ?_
  refine gy_put (ci := 6) (f := 0) (C := RX6) (T := TX6) (N := 6) (ty := .int) (fs2 := [.int (iI wt), .int (iI 0), .int (iI 0), .int (iI 0), .int (iI 0), .int (iI 0)]) tyX6 rfl inX6 tyX6_ok nmX6 (by decide) mw_1_157 (Or.inr ⟨rfl, rfl, rfl⟩) (by decide +kernel) rfl rfl dX8_init_6 hp (by simp) rfl (fun h1 eh1 => ?_)
  have k2 : h1 p = some (.inr (6, [.int (iI wt), .int (iI 0), .int (iI 0), .int (iI 0), .int (iI 0), .int (iI 0)])) := by rw [eh1]; exact ch_set_self
  refine gx_vret rfl dX8_init_9 (by first | exact Nat.le_of_ble_eq_true rfl | (simp only [rM]; omega)) (by first | exact Nat.le_of_ble_eq_true rfl | (simp only [rM]; omega)) ?_
  exact ⟨rfl, eh1, rfl⟩
set_option maxHeartbeats 4000000 in
set_option maxRecDepth 100000 in
theorem c_X8_init_8 (l : Launch) (D : va_G) (cI cL cR : ClassId) (lo : Nat) (h : ch_H) (hi : Nat) (p : Nat) (wt : Int) (hp : h p = some (.inr (8, [.int (iI 0), .null]))) : ch_C l (eE D cI cL cR lo) M_X8_init (rM 1 0 0) [.ref p, .int (iI wt)] h hi (fun r0 h2 hi2 => r0 = none ∧ h2 = ch_set h p (.inr (8, [.int (iI wt), .null])) ∧ hi = hi2) := by
  refine ch_C.of rfl (Nat.le_of_ble_eq_true rfl) ?_
  refine gx_aload_n 0 dX8_init_0 rfl rfl ?_
  refine gx_objInit mw_1_147 mw_1_21 mw_1_22 dX8_init_1 (by decide) (Nat.le_of_ble_eq_true rfl) ?_
  refine gx_aload_n 0 dX8_init_4 rfl rfl ?_
  refine gx_iload_n 1 dX8_init_5 rfl rfl ?_
  refine gy_put (ci := 8) (f := 0) (C := RX9) (T := TX9) (N := 2) (ty := .int) (fs2 := [.int (iI wt), .null]) tyX9 rfl inX9 tyX9_ok nmX9 (by decide) mw_1_157 (Or.inr ⟨rfl, rfl, rfl⟩) (by decide +kernel) rfl rfl dX8_init_6 hp (by simp) rfl (fun h1 eh1 => ?_)
  have k2 : h1 p = some (.inr (8, [.int (iI wt), .null])) := by rw [eh1]; exact ch_set_self
  refine gx_vret rfl dX8_init_9 (by first | exact Nat.le_of_ble_eq_true rfl | (simp only [rM]; omega)) (by first | exact Nat.le_of_ble_eq_true rfl | (simp only [rM]; omega)) ?_
  exact ⟨rfl, eh1, rfl⟩
set_option maxHeartbeats 4000000 in
set_option maxRecDepth 100000 in
theorem c_X0_init (l : Launch) (D : va_G) (cI cL cR : ClassId) (lo : Nat) (h : ch_H) (hi : Nat) (p : Nat) (x y z r : Int) (hp : h p = some (.inr (0, [.int (iI 0), .int (iI 0), .int (iI 0), .int (iI 0), .int (iI 0)]))) : ch_C l (eE D cI cL cR lo) M_X0_init (rM 2 0 0) [.ref p, .int (iI x), .int (iI y), .int (iI z), .int (iI r)] h hi (fun r0 h2 hi2 => r0 = none ∧ h2 = ch_set h p (.inr (0, [.int (iI 1), .int (iI x), .int (iI y), .int (iI z), .int (iI r)])) ∧ hi = hi2) := by
  refine ch_C.of rfl (Nat.le_of_ble_eq_true rfl) ?_
  refine gx_aload_n 0 dX0_init_0 rfl rfl ?_
  refine gx_iconst (iI 1) dX0_init_1 rfl ?_
  refine gx_callI (c_X8_init_0 l D cI cL cR lo h hi p 1 hp) ok_X8_init mw_1_202 mw_1_145 rfl rfl dX0_init_2 rfl rfl (Nat.le_of_ble_eq_true rfl) (by first | exact Nat.le_of_ble_eq_true rfl | (simp only [rM]; omega)) (by first | exact Nat.le_of_ble_eq_true rfl | (simp only [rM]; omega)) (by first | exact Nat.le_of_ble_eq_true rfl | (simp only [rM]; omega)) (by first | exact Nat.le_of_ble_eq_true rfl | (simp only [rM]; omega)) (fun r1 h2 u3 q4 g5 => ?_)
  obtain ⟨rfl, eh0, rfl⟩ := q4
  have k6 : h2 p = some (.inr (0, [.int (iI 1), .int (iI 0), .int (iI 0), .int (iI 0), .int (iI 0)])) := by rw [eh0]; exact ch_set_self
  refine ch_Gst (st2 := []) rfl ?_
  refine gx_aload_n 0 dX0_init_5 rfl rfl ?_
  refine gx_iload_n 1 dX0_init_6 rfl rfl ?_
  refine gy_put (ci := 0) (f := 1) (C := RX0) (T := TX0) (N := 5) (ty := .int) (fs2 := [.int (iI 1), .int (iI x), .int (iI 0), .int (iI 0), .int (iI 0)]) tyX0 rfl inX0 tyX0_ok nmX0 (by decide) mw_1_203 (Or.inr ⟨rfl, rfl, rfl⟩) (by decide +kernel) rfl rfl dX0_init_7 k6 (by simp) rfl (fun h7 eh7 => ?_)
  have k8 : h7 p = some (.inr (0, [.int (iI 1), .int (iI x), .int (iI 0), .int (iI 0), .int (iI 0)])) := by rw [eh7]; exact ch_set_self
  refine gx_aload_n 0 dX0_init_10 rfl rfl ?_
  refine gx_iload_n 2 dX0_init_11 rfl rfl ?_
  refine gy_put (ci := 0) (f := 2) (C := RX0) (T := TX0) (N := 5) (ty := .int) (fs2 := [.int (iI 1), .int (iI x), .int (iI y), .int (iI 0), .int (iI 0)]) tyX0 rfl inX0 tyX0_ok nmX0 (by decide) mw_1_204 (Or.inr ⟨rfl, rfl, rfl⟩) (by decide +kernel) rfl rfl dX0_init_12 k8 (by simp) rfl (fun h9 eh9 => ?_)
  have k10 : h9 p = some (.inr (0, [.int (iI 1), .int (iI x), .int (iI y), .int (iI 0), .int (iI 0)])) := by rw [eh9]; exact ch_set_self
  refine gx_aload_n 0 dX0_init_15 rfl rfl ?_
  refine gx_iload_n 3 dX0_init_16 rfl rfl ?_
  refine gy_put (ci := 0) (f := 3) (C := RX0) (T := TX0) (N := 5) (ty := .int) (fs2 := [.int (iI 1), .int (iI x), .int (iI y), .int (iI z), .int (iI 0)]) tyX0 rfl inX0 tyX0_ok nmX0 (by decide) mw_1_205 (Or.inr ⟨rfl, rfl, rfl⟩) (by decide +kernel) rfl rfl dX0_init_17 k10 (by simp) rfl (fun h11 eh11 => ?_)
  have k12 : h11 p = some (.inr (0, [.int (iI 1), .int (iI x), .int (iI y), .int (iI z), .int (iI 0)])) := by rw [eh11]; exact ch_set_self
  refine gx_aload_n 0 dX0_init_20 rfl rfl ?_
  refine gx_iload 4 dX0_init_21 rfl ?_
  refine gy_put (ci := 0) (f := 4) (C := RX0) (T := TX0) (N := 5) (ty := .int) (fs2 := [.int (iI 1), .int (iI x), .int (iI y), .int (iI z), .int (iI r)]) tyX0 rfl inX0 tyX0_ok nmX0 (by decide) mw_1_206 (Or.inr ⟨rfl, rfl, rfl⟩) (by decide +kernel) rfl rfl dX0_init_23 k12 (by simp) rfl (fun h13 eh13 => ?_)
  have k14 : h13 p = some (.inr (0, [.int (iI 1), .int (iI x), .int (iI y), .int (iI z), .int (iI r)])) := by rw [eh13]; exact ch_set_self
  refine gx_vret rfl dX0_init_26 (by first | exact Nat.le_of_ble_eq_true rfl | (simp only [rM]; omega)) (by first | exact Nat.le_of_ble_eq_true rfl | (simp only [rM]; omega)) ?_
  exact ⟨rfl, by rw [eh13, eh11, eh9, eh7, eh0]; simp only [ch_set_set], rfl⟩
set_option maxHeartbeats 4000000 in
set_option maxRecDepth 100000 in
theorem c_X1_init (l : Launch) (D : va_G) (cI cL cR : ClassId) (lo : Nat) (h : ch_H) (hi : Nat) (p : Nat) (x y z eX eY eZ : Int) (hp : h p = some (.inr (1, [.int (iI 0), .int (iI 0), .int (iI 0), .int (iI 0), .int (iI 0), .int (iI 0), .int (iI 0)]))) : ch_C l (eE D cI cL cR lo) M_X1_init (rM 2 0 0) [.ref p, .int (iI x), .int (iI y), .int (iI z), .int (iI eX), .int (iI eY), .int (iI eZ)] h hi (fun r0 h2 hi2 => r0 = none ∧ h2 = ch_set h p (.inr (1, [.int (iI 1), .int (iI x), .int (iI y), .int (iI z), .int (iI eX), .int (iI eY), .int (iI eZ)])) ∧ hi = hi2) := by
  refine ch_C.of rfl (Nat.le_of_ble_eq_true rfl) ?_
  refine gx_aload_n 0 dX1_init_0 rfl rfl ?_
  refine gx_iconst (iI 1) dX1_init_1 rfl ?_
  refine gx_callI (c_X8_init_1 l D cI cL cR lo h hi p 1 hp) ok_X8_init mw_1_144 mw_1_145 rfl rfl dX1_init_2 rfl rfl (Nat.le_of_ble_eq_true rfl) (by first | exact Nat.le_of_ble_eq_true rfl | (simp only [rM]; omega)) (by first | exact Nat.le_of_ble_eq_true rfl | (simp only [rM]; omega)) (by first | exact Nat.le_of_ble_eq_true rfl | (simp only [rM]; omega)) (by first | exact Nat.le_of_ble_eq_true rfl | (simp only [rM]; omega)) (fun r1 h2 u3 q4 g5 => ?_)
  obtain ⟨rfl, eh0, rfl⟩ := q4
  have k6 : h2 p = some (.inr (1, [.int (iI 1), .int (iI 0), .int (iI 0), .int (iI 0), .int (iI 0), .int (iI 0), .int (iI 0)])) := by rw [eh0]; exact ch_set_self
  refine ch_Gst (st2 := []) rfl ?_
  refine gx_aload_n 0 dX1_init_5 rfl rfl ?_
  refine gx_iload_n 1 dX1_init_6 rfl rfl ?_
  refine gy_put (ci := 1) (f := 1) (C := RX1) (T := TX1) (N := 7) (ty := .int) (fs2 := [.int (iI 1), .int (iI x), .int (iI 0), .int (iI 0), .int (iI 0), .int (iI 0), .int (iI 0)]) tyX1 rfl inX1 tyX1_ok nmX1 (by decide) mw_1_148 (Or.inr ⟨rfl, rfl, rfl⟩) (by decide +kernel) rfl rfl dX1_init_7 k6 (by simp) rfl (fun h7 eh7 => ?_)
  have k8 : h7 p = some (.inr (1, [.int (iI 1), .int (iI x), .int (iI 0), .int (iI 0), .int (iI 0), .int (iI 0), .int (iI 0)])) := by rw [eh7]; exact ch_set_self
  refine gx_aload_n 0 dX1_init_10 rfl rfl ?_
  refine gx_iload_n 2 dX1_init_11 rfl rfl ?_
  refine gy_put (ci := 1) (f := 2) (C := RX1) (T := TX1) (N := 7) (ty := .int) (fs2 := [.int (iI 1), .int (iI x), .int (iI y), .int (iI 0), .int (iI 0), .int (iI 0), .int (iI 0)]) tyX1 rfl inX1 tyX1_ok nmX1 (by decide) mw_1_149 (Or.inr ⟨rfl, rfl, rfl⟩) (by decide +kernel) rfl rfl dX1_init_12 k8 (by simp) rfl (fun h9 eh9 => ?_)
  have k10 : h9 p = some (.inr (1, [.int (iI 1), .int (iI x), .int (iI y), .int (iI 0), .int (iI 0), .int (iI 0), .int (iI 0)])) := by rw [eh9]; exact ch_set_self
  refine gx_aload_n 0 dX1_init_15 rfl rfl ?_
  refine gx_iload_n 3 dX1_init_16 rfl rfl ?_
  refine gy_put (ci := 1) (f := 3) (C := RX1) (T := TX1) (N := 7) (ty := .int) (fs2 := [.int (iI 1), .int (iI x), .int (iI y), .int (iI z), .int (iI 0), .int (iI 0), .int (iI 0)]) tyX1 rfl inX1 tyX1_ok nmX1 (by decide) mw_1_150 (Or.inr ⟨rfl, rfl, rfl⟩) (by decide +kernel) rfl rfl dX1_init_17 k10 (by simp) rfl (fun h11 eh11 => ?_)
  have k12 : h11 p = some (.inr (1, [.int (iI 1), .int (iI x), .int (iI y), .int (iI z), .int (iI 0), .int (iI 0), .int (iI 0)])) := by rw [eh11]; exact ch_set_self
  refine gx_aload_n 0 dX1_init_20 rfl rfl ?_
  refine gx_iload 4 dX1_init_21 rfl ?_
  refine gy_put (ci := 1) (f := 4) (C := RX1) (T := TX1) (N := 7) (ty := .int) (fs2 := [.int (iI 1), .int (iI x), .int (iI y), .int (iI z), .int (iI eX), .int (iI 0), .int (iI 0)]) tyX1 rfl inX1 tyX1_ok nmX1 (by decide) mw_1_151 (Or.inr ⟨rfl, rfl, rfl⟩) (by decide +kernel) rfl rfl dX1_init_23 k12 (by simp) rfl (fun h13 eh13 => ?_)
  have k14 : h13 p = some (.inr (1, [.int (iI 1), .int (iI x), .int (iI y), .int (iI z), .int (iI eX), .int (iI 0), .int (iI 0)])) := by rw [eh13]; exact ch_set_self
  refine gx_aload_n 0 dX1_init_26 rfl rfl ?_
  refine gx_iload 5 dX1_init_27 rfl ?_
  refine gy_put (ci := 1) (f := 5) (C := RX1) (T := TX1) (N := 7) (ty := .int) (fs2 := [.int (iI 1), .int (iI x), .int (iI y), .int (iI z), .int (iI eX), .int (iI eY), .int (iI 0)]) tyX1 rfl inX1 tyX1_ok nmX1 (by decide) mw_1_152 (Or.inr ⟨rfl, rfl, rfl⟩) (by decide +kernel) rfl rfl dX1_init_29 k14 (by simp) rfl (fun h15 eh15 => ?_)
  have k16 : h15 p = some (.inr (1, [.int (iI 1), .int (iI x), .int (iI y), .int (iI z), .int (iI eX), .int (iI eY), .int (iI 0)])) := by rw [eh15]; exact ch_set_self
  refine gx_aload_n 0 dX1_init_32 rfl rfl ?_
  refine gx_iload 6 dX1_init_33 rfl ?_
  refine gy_put (ci := 1) (f := 6) (C := RX1) (T := TX1) (N := 7) (ty := .int) (fs2 := [.int (iI 1), .int (iI x), .int (iI y), .int (iI z), .int (iI eX), .int (iI eY), .int (iI eZ)]) tyX1 rfl inX1 tyX1_ok nmX1 (by decide) mw_1_153 (Or.inr ⟨rfl, rfl, rfl⟩) (by decide +kernel) rfl rfl dX1_init_35 k16 (by simp) rfl (fun h17 eh17 => ?_)
  have k18 : h17 p = some (.inr (1, [.int (iI 1), .int (iI x), .int (iI y), .int (iI z), .int (iI eX), .int (iI eY), .int (iI eZ)])) := by rw [eh17]; exact ch_set_self
  refine gx_vret rfl dX1_init_38 (by first | exact Nat.le_of_ble_eq_true rfl | (simp only [rM]; omega)) (by first | exact Nat.le_of_ble_eq_true rfl | (simp only [rM]; omega)) ?_
  exact ⟨rfl, by rw [eh17, eh15, eh13, eh11, eh9, eh7, eh0]; simp only [ch_set_set], rfl⟩
set_option maxHeartbeats 4000000 in
set_option maxRecDepth 100000 in
theorem c_X2_init (l : Launch) (D : va_G) (cI cL cR : ClassId) (lo : Nat) (h : ch_H) (hi : Nat) (p : Nat) (x y r z eZ : Int) (hp : h p = some (.inr (2, [.int (iI 0), .int (iI 0), .int (iI 0), .int (iI 0), .int (iI 0), .int (iI 0)]))) : ch_C l (eE D cI cL cR lo) M_X2_init (rM 2 0 0) [.ref p, .int (iI x), .int (iI y), .int (iI r), .int (iI z), .int (iI eZ)] h hi (fun r0 h2 hi2 => r0 = none ∧ h2 = ch_set h p (.inr (2, [.int (iI 1), .int (iI x), .int (iI y), .int (iI r), .int (iI z), .int (iI eZ)])) ∧ hi = hi2) := by
  refine ch_C.of rfl (Nat.le_of_ble_eq_true rfl) ?_
  refine gx_aload_n 0 dX2_init_0 rfl rfl ?_
  refine gx_iconst (iI 1) dX2_init_1 rfl ?_
  refine gx_callI (c_X8_init_2 l D cI cL cR lo h hi p 1 hp) ok_X8_init mw_1_222 mw_1_145 rfl rfl dX2_init_2 rfl rfl (Nat.le_of_ble_eq_true rfl) (by first | exact Nat.le_of_ble_eq_true rfl | (simp only [rM]; omega)) (by first | exact Nat.le_of_ble_eq_true rfl | (simp only [rM]; omega)) (by first | exact Nat.le_of_ble_eq_true rfl | (simp only [rM]; omega)) (by first | exact Nat.le_of_ble_eq_true rfl | (simp only [rM]; omega)) (fun r1 h2 u3 q4 g5 => ?_)
  obtain ⟨rfl, eh0, rfl⟩ := q4
  have k6 : h2 p = some (.inr (2, [.int (iI 1), .int (iI 0), .int (iI 0), .int (iI 0), .int (iI 0), .int (iI 0)])) := by rw [eh0]; exact ch_set_self
  refine ch_Gst (st2 := []) rfl ?_
  refine gx_aload_n 0 dX2_init_5 rfl rfl ?_
  refine gx_iload_n 1 dX2_init_6 rfl rfl ?_
  refine gy_put (ci := 2) (f := 1) (C := RX2) (T := TX2) (N := 6) (ty := .int) (fs2 := [.int (iI 1), .int (iI x), .int (iI 0), .int (iI 0), .int (iI 0), .int (iI 0)]) tyX2 rfl inX2 tyX2_ok nmX2 (by decide) mw_1_223 (Or.inr ⟨rfl, rfl, rfl⟩) (by decide +kernel) rfl rfl dX2_init_7 k6 (by simp) rfl (fun h7 eh7 => ?_)
  have k8 : h7 p = some (.inr (2, [.int (iI 1), .int (iI x), .int (iI 0), .int (iI 0), .int (iI 0), .int (iI 0)])) := by rw [eh7]; exact ch_set_self
  refine gx_aload_n 0 dX2_init_10 rfl rfl ?_
  refine gx_iload_n 2 dX2_init_11 rfl rfl ?_
  refine gy_put (ci := 2) (f := 2) (C := RX2) (T := TX2) (N := 6) (ty := .int) (fs2 := [.int (iI 1), .int (iI x), .int (iI y), .int (iI 0), .int (iI 0), .int (iI 0)]) tyX2 rfl inX2 tyX2_ok nmX2 (by decide) mw_1_224 (Or.inr ⟨rfl, rfl, rfl⟩) (by decide +kernel) rfl rfl dX2_init_12 k8 (by simp) rfl (fun h9 eh9 => ?_)
  have k10 : h9 p = some (.inr (2, [.int (iI 1), .int (iI x), .int (iI y), .int (iI 0), .int (iI 0), .int (iI 0)])) := by rw [eh9]; exact ch_set_self
  refine gx_aload_n 0 dX2_init_15 rfl rfl ?_
  refine gx_iload_n 3 dX2_init_16 rfl rfl ?_
  refine gy_put (ci := 2) (f := 3) (C := RX2) (T := TX2) (N := 6) (ty := .int) (fs2 := [.int (iI 1), .int (iI x), .int (iI y), .int (iI r), .int (iI 0), .int (iI 0)]) tyX2 rfl inX2 tyX2_ok nmX2 (by decide) mw_1_225 (Or.inr ⟨rfl, rfl, rfl⟩) (by decide +kernel) rfl rfl dX2_init_17 k10 (by simp) rfl (fun h11 eh11 => ?_)
  have k12 : h11 p = some (.inr (2, [.int (iI 1), .int (iI x), .int (iI y), .int (iI r), .int (iI 0), .int (iI 0)])) := by rw [eh11]; exact ch_set_self
  refine gx_aload_n 0 dX2_init_20 rfl rfl ?_
  refine gx_iload 4 dX2_init_21 rfl ?_
  refine gy_put (ci := 2) (f := 4) (C := RX2) (T := TX2) (N := 6) (ty := .int) (fs2 := [.int (iI 1), .int (iI x), .int (iI y), .int (iI r), .int (iI z), .int (iI 0)]) tyX2 rfl inX2 tyX2_ok nmX2 (by decide) mw_1_226 (Or.inr ⟨rfl, rfl, rfl⟩) (by decide +kernel) rfl rfl dX2_init_23 k12 (by simp) rfl (fun h13 eh13 => ?_)
  have k14 : h13 p = some (.inr (2, [.int (iI 1), .int (iI x), .int (iI y), .int (iI r), .int (iI z), .int (iI 0)])) := by rw [eh13]; exact ch_set_self
  refine gx_aload_n 0 dX2_init_26 rfl rfl ?_
  refine gx_iload 5 dX2_init_27 rfl ?_
  refine gy_put (ci := 2) (f := 5) (C := RX2) (T := TX2) (N := 6) (ty := .int) (fs2 := [.int (iI 1), .int (iI x), .int (iI y), .int (iI r), .int (iI z), .int (iI eZ)]) tyX2 rfl inX2 tyX2_ok nmX2 (by decide) mw_1_227 (Or.inr ⟨rfl, rfl, rfl⟩) (by decide +kernel) rfl rfl dX2_init_29 k14 (by simp) rfl (fun h15 eh15 => ?_)
  have k16 : h15 p = some (.inr (2, [.int (iI 1), .int (iI x), .int (iI y), .int (iI r), .int (iI z), .int (iI eZ)])) := by rw [eh15]; exact ch_set_self
  refine gx_vret rfl dX2_init_32 (by first | exact Nat.le_of_ble_eq_true rfl | (simp only [rM]; omega)) (by first | exact Nat.le_of_ble_eq_true rfl | (simp only [rM]; omega)) ?_
  exact ⟨rfl, by rw [eh15, eh13, eh11, eh9, eh7, eh0]; simp only [ch_set_set], rfl⟩
set_option maxHeartbeats 4000000 in
set_option maxRecDepth 100000 in
theorem c_X6_init (l : Launch) (D : va_G) (cI cL cR : ClassId) (lo : Nat) (h : ch_H) (hi : Nat) (p : Nat) (x y r z eZ : Int) (hp : h p = some (.inr (6, [.int (iI 0), .int (iI 0), .int (iI 0), .int (iI 0), .int (iI 0), .int (iI 0)]))) : ch_C l (eE D cI cL cR lo) M_X6_init (rM 2 0 0) [.ref p, .int (iI x), .int (iI y), .int (iI r), .int (iI z), .int (iI eZ)] h hi (fun r0 h2 hi2 => r0 = none ∧ h2 = ch_set h p (.inr (6, [.int (iI 1), .int (iI x), .int (iI y), .int (iI r), .int (iI z), .int (iI eZ)])) ∧ hi = hi2) := by
  refine ch_C.of rfl (Nat.le_of_ble_eq_true rfl) ?_
  refine gx_aload_n 0 dX6_init_0 rfl rfl ?_
  refine gx_iconst (iI 1) dX6_init_1 rfl ?_
  refine gx_callI (c_X8_init_6 l D cI cL cR lo h hi p 1 hp) ok_X8_init mw_1_179 mw_1_145 rfl rfl dX6_init_2 rfl rfl (Nat.le_of_ble_eq_true rfl) (by first | exact Nat.le_of_ble_eq_true rfl | (simp only [rM]; omega)) (by first | exact Nat.le_of_ble_eq_true rfl | (simp only [rM]; omega)) (by first | exact Nat.le_of_ble_eq_true rfl | (simp only [rM]; omega)) (by first | exact Nat.le_of_ble_eq_true rfl | (simp only [rM]; omega)) (fun r1 h2 u3 q4 g5 => ?_)
  obtain ⟨rfl, eh0, rfl⟩ := q4
  have k6 : h2 p = some (.inr (6, [.int (iI 1), .int (iI 0), .int (iI 0), .int (iI 0), .int (iI 0), .int (iI 0)])) := by rw [eh0]; exact ch_set_self
  refine ch_Gst (st2 := []) rfl ?_
  refine gx_aload_n 0 dX6_init_5 rfl rfl ?_
  refine gx_iload_n 1 dX6_init_6 rfl rfl ?_
  refine gy_put (ci := 6) (f := 1) (C := RX6) (T := TX6) (N := 6) (ty := .int) (fs2 := [.int (iI 1), .int (iI x), .int (iI 0), .int (iI 0), .int (iI 0), .int (iI 0)]) tyX6 rfl inX6 tyX6_ok nmX6 (by decide) mw_1_180 (Or.inr ⟨rfl, rfl, rfl⟩) (by decide +kernel) rfl rfl dX6_init_7 k6 (by simp) rfl (fun h7 eh7 => ?_)
  have k8 : h7 p = some (.inr (6, [.int (iI 1), .int (iI x), .int (iI 0), .int (iI 0), .int (iI 0), .int (iI 0)])) := by rw [eh7]; exact ch_set_self
  refine gx_aload_n 0 dX6_init_10 rfl rfl ?_
  refine gx_iload_n 2 dX6_init_11 rfl rfl ?_
  refine gy_put (ci := 6) (f := 2) (C := RX6) (T := TX6) (N := 6) (ty := .int) (fs2 := [.int (iI 1), .int (iI x), .int (iI y), .int (iI 0), .int (iI 0), .int (iI 0)]) tyX6 rfl inX6 tyX6_ok nmX6 (by decide) mw_1_181 (Or.inr ⟨rfl, rfl, rfl⟩) (by decide +kernel) rfl rfl dX6_init_12 k8 (by simp) rfl (fun h9 eh9 => ?_)
  have k10 : h9 p = some (.inr (6, [.int (iI 1), .int (iI x), .int (iI y), .int (iI 0), .int (iI 0), .int (iI 0)])) := by rw [eh9]; exact ch_set_self
  refine gx_aload_n 0 dX6_init_15 rfl rfl ?_
  refine gx_iload_n 3 dX6_init_16 rfl rfl ?_
  refine gy_put (ci := 6) (f := 3) (C := RX6) (T := TX6) (N := 6) (ty := .int) (fs2 := [.int (iI 1), .int (iI x), .int (iI y), .int (iI r), .int (iI 0), .int (iI 0)]) tyX6 rfl inX6 tyX6_ok nmX6 (by decide) mw_1_182 (Or.inr ⟨rfl, rfl, rfl⟩) (by decide +kernel) rfl rfl dX6_init_17 k10 (by simp) rfl (fun h11 eh11 => ?_)
  have k12 : h11 p = some (.inr (6, [.int (iI 1), .int (iI x), .int (iI y), .int (iI r), .int (iI 0), .int (iI 0)])) := by rw [eh11]; exact ch_set_self
  refine gx_aload_n 0 dX6_init_20 rfl rfl ?_
  refine gx_iload 4 dX6_init_21 rfl ?_
  refine gy_put (ci := 6) (f := 4) (C := RX6) (T := TX6) (N := 6) (ty := .int) (fs2 := [.int (iI 1), .int (iI x), .int (iI y), .int (iI r), .int (iI z), .int (iI 0)]) tyX6 rfl inX6 tyX6_ok nmX6 (by decide) mw_1_183 (Or.inr ⟨rfl, rfl, rfl⟩) (by decide +kernel) rfl rfl dX6_init_23 k12 (by simp) rfl (fun h13 eh13 => ?_)
  have k14 : h13 p = some (.inr (6, [.int (iI 1), .int (iI x), .int (iI y), .int (iI r), .int (iI z), .int (iI 0)])) := by rw [eh13]; exact ch_set_self
  refine gx_aload_n 0 dX6_init_26 rfl rfl ?_
  refine gx_iload 5 dX6_init_27 rfl ?_
  refine gy_put (ci := 6) (f := 5) (C := RX6) (T := TX6) (N := 6) (ty := .int) (fs2 := [.int (iI 1), .int (iI x), .int (iI y), .int (iI r), .int (iI z), .int (iI eZ)]) tyX6 rfl inX6 tyX6_ok nmX6 (by decide) mw_1_184 (Or.inr ⟨rfl, rfl, rfl⟩) (by decide +kernel) rfl rfl dX6_init_29 k14 (by simp) rfl (fun h15 eh15 => ?_)
  have k16 : h15 p = some (.inr (6, [.int (iI 1), .int (iI x), .int (iI y), .int (iI r), .int (iI z), .int (iI eZ)])) := by rw [eh15]; exact ch_set_self
  refine gx_vret rfl dX6_init_32 (by first | exact Nat.le_of_ble_eq_true rfl | (simp only [rM]; omega)) (by first | exact Nat.le_of_ble_eq_true rfl | (simp only [rM]; omega)) ?_
  exact ⟨rfl, by rw [eh15, eh13, eh11, eh9, eh7, eh0]; simp only [ch_set_set], rfl⟩
set_option maxHeartbeats 4000000 in
set_option maxRecDepth 100000 in
theorem c_X4_init (l : Launch) (D : va_G) (cI cL cR : ClassId) (lo : Nat) (h : ch_H) (hi : Nat) (p a b ca cb : Nat) (va vb : List Value) (wa wb how : Int) (hp : h p = some (.inr (4, [.int (iI 0), .null, .null, .int (iI 0)]))) (ha : h a = some (.inr (ca, .int (iI wa) :: va))) (hb : h b = some (.inr (cb, .int (iI wb) :: vb))) (hSa : isS ca) (hSb : isS cb) (nap : a ≠ p) (nbp : b ≠ p) : ch_C l (eE D cI cL cR lo) M_X4_init (rM 2 0 0) [.ref p, .ref a, .ref b, .int (iI how)] h hi (fun r0 h2 hi2 => r0 = none ∧ h2 = ch_set h p (.inr (4, [.int (iI (wa + wb + 1)), .ref a, .ref b, .int (iI how)])) ∧ hi = hi2) := by
  refine ch_C.of rfl (Nat.le_of_ble_eq_true rfl) ?_
  refine gx_aload_n 0 dX4_init_0 rfl rfl ?_
  refine gx_aload_n 1 dX4_init_1 rfl rfl ?_
  refine gy_getw hSa mw_1_154 dX4_init_2 ha ?_
  refine gx_aload_n 2 dX4_init_5 rfl rfl ?_
  refine gy_getw hSb mw_1_154 dX4_init_6 hb ?_
  refine gy_iadd dX4_init_9 ?_
  refine gx_iconst (iI 1) dX4_init_10 rfl ?_
  refine gy_iadd dX4_init_11 ?_
  refine gx_callI (c_X8_init_4 l D cI cL cR lo h hi p ((wa + wb) + 1) hp) ok_X8_init mw_2_17 mw_1_145 rfl rfl dX4_init_12 rfl rfl (Nat.le_of_ble_eq_true rfl) (by first | exact Nat.le_of_ble_eq_true rfl | (simp only [rM]; omega)) (by first | exact Nat.le_of_ble_eq_true rfl | (simp only [rM]; omega)) (by first | exact Nat.le_of_ble_eq_true rfl | (simp only [rM]; omega)) (by first | exact Nat.le_of_ble_eq_true rfl | (simp only [rM]; omega)) (fun r1 h2 u3 q4 g5 => ?_)
  obtain ⟨rfl, eh0, rfl⟩ := q4
  have k6 : h2 a = some (.inr (ca, (.int (iI wa) :: va))) := by rw [eh0, ch_set_ne (nap)]; exact ha
  have k7 : h2 b = some (.inr (cb, (.int (iI wb) :: vb))) := by rw [eh0, ch_set_ne (nbp)]; exact hb
  have k8 : h2 p = some (.inr (4, [.int (iI ((wa + wb) + 1)), .null, .null, .int (iI 0)])) := by rw [eh0]; exact ch_set_self
  refine ch_Gst (st2 := []) rfl ?_
  refine gx_aload_n 0 dX4_init_15 rfl rfl ?_
  refine gx_aload_n 1 dX4_init_16 rfl rfl ?_
  refine gy_put (ci := 4) (f := 1) (C := RX4) (T := TX4) (N := 4) (ty := .object "SpanSolids$Solid") (fs2 := [.int (iI ((wa + wb) + 1)), .ref a, .null, .int (iI 0)]) tyX4 rfl inX4 tyX4_ok nmX4 (by decide) mw_2_18 (Or.inr ⟨rfl, rfl, rfl⟩) (by decide +kernel) rfl rfl dX4_init_17 k8 (by simp) rfl (fun h9 eh9 => ?_)
  have k10 : h9 a = some (.inr (ca, (.int (iI wa) :: va))) := by rw [eh9, ch_set_ne (nap)]; exact k6
  have k11 : h9 b = some (.inr (cb, (.int (iI wb) :: vb))) := by rw [eh9, ch_set_ne (nbp)]; exact k7
  have k12 : h9 p = some (.inr (4, [.int (iI ((wa + wb) + 1)), .ref a, .null, .int (iI 0)])) := by rw [eh9]; exact ch_set_self
  refine gx_aload_n 0 dX4_init_20 rfl rfl ?_
  refine gx_aload_n 2 dX4_init_21 rfl rfl ?_
  refine gy_put (ci := 4) (f := 2) (C := RX4) (T := TX4) (N := 4) (ty := .object "SpanSolids$Solid") (fs2 := [.int (iI ((wa + wb) + 1)), .ref a, .ref b, .int (iI 0)]) tyX4 rfl inX4 tyX4_ok nmX4 (by decide) mw_2_19 (Or.inr ⟨rfl, rfl, rfl⟩) (by decide +kernel) rfl rfl dX4_init_22 k12 (by simp) rfl (fun h13 eh13 => ?_)
  have k14 : h13 a = some (.inr (ca, (.int (iI wa) :: va))) := by rw [eh13, ch_set_ne (nap)]; exact k10
  have k15 : h13 b = some (.inr (cb, (.int (iI wb) :: vb))) := by rw [eh13, ch_set_ne (nbp)]; exact k11
  have k16 : h13 p = some (.inr (4, [.int (iI ((wa + wb) + 1)), .ref a, .ref b, .int (iI 0)])) := by rw [eh13]; exact ch_set_self
  refine gx_aload_n 0 dX4_init_25 rfl rfl ?_
  refine gx_iload_n 3 dX4_init_26 rfl rfl ?_
  refine gy_put (ci := 4) (f := 3) (C := RX4) (T := TX4) (N := 4) (ty := .int) (fs2 := [.int (iI ((wa + wb) + 1)), .ref a, .ref b, .int (iI how)]) tyX4 rfl inX4 tyX4_ok nmX4 (by decide) mw_2_20 (Or.inr ⟨rfl, rfl, rfl⟩) (by decide +kernel) rfl rfl dX4_init_27 k16 (by simp) rfl (fun h17 eh17 => ?_)
  have k18 : h17 a = some (.inr (ca, (.int (iI wa) :: va))) := by rw [eh17, ch_set_ne (nap)]; exact k14
  have k19 : h17 b = some (.inr (cb, (.int (iI wb) :: vb))) := by rw [eh17, ch_set_ne (nbp)]; exact k15
  have k20 : h17 p = some (.inr (4, [.int (iI ((wa + wb) + 1)), .ref a, .ref b, .int (iI how)])) := by rw [eh17]; exact ch_set_self
  refine gx_vret rfl dX4_init_30 (by first | exact Nat.le_of_ble_eq_true rfl | (simp only [rM]; omega)) (by first | exact Nat.le_of_ble_eq_true rfl | (simp only [rM]; omega)) ?_
  exact ⟨rfl, by rw [eh17, eh13, eh9, eh0]; simp only [ch_set_set], rfl⟩
set_option maxHeartbeats 4000000 in
set_option maxRecDepth 100000 in
theorem c_X5_init (l : Launch) (D : va_G) (cI cL cR : ClassId) (lo : Nat) (h : ch_H) (hi : Nat) (p a ca : Nat) (va : List Value) (wa bx bY bz : Int) (hp : h p = some (.inr (5, [.int (iI 0), .null, .int (iI 0), .int (iI 0), .int (iI 0)]))) (ha : h a = some (.inr (ca, .int (iI wa) :: va))) (hSa : isS ca) (nap : a ≠ p) : ch_C l (eE D cI cL cR lo) M_X5_init (rM 2 0 0) [.ref p, .ref a, .int (iI bx), .int (iI bY), .int (iI bz)] h hi (fun r0 h2 hi2 => r0 = none ∧ h2 = ch_set h p (.inr (5, [.int (iI (wa + 1)), .ref a, .int (iI bx), .int (iI bY), .int (iI bz)])) ∧ hi = hi2) := by
  refine ch_C.of rfl (Nat.le_of_ble_eq_true rfl) ?_
  refine gx_aload_n 0 dX5_init_0 rfl rfl ?_
  refine gx_aload_n 1 dX5_init_1 rfl rfl ?_
  refine gy_getw hSa mw_1_155 dX5_init_2 ha ?_
  refine gx_iconst (iI 1) dX5_init_5 rfl ?_
  refine gy_iadd dX5_init_6 ?_
  refine gx_callI (c_X8_init_5 l D cI cL cR lo h hi p (wa + 1) hp) ok_X8_init mw_2_38 mw_1_145 rfl rfl dX5_init_7 rfl rfl (Nat.le_of_ble_eq_true rfl) (by first | exact Nat.le_of_ble_eq_true rfl | (simp only [rM]; omega)) (by first | exact Nat.le_of_ble_eq_true rfl | (simp only [rM]; omega)) (by first | exact Nat.le_of_ble_eq_true rfl | (simp only [rM]; omega)) (by first | exact Nat.le_of_ble_eq_true rfl | (simp only [rM]; omega)) (fun r1 h2 u3 q4 g5 => ?_)
  obtain ⟨rfl, eh0, rfl⟩ := q4
  have k6 : h2 a = some (.inr (ca, (.int (iI wa) :: va))) := by rw [eh0, ch_set_ne (nap)]; exact ha
  have k7 : h2 p = some (.inr (5, [.int (iI (wa + 1)), .null, .int (iI 0), .int (iI 0), .int (iI 0)])) := by rw [eh0]; exact ch_set_self
  refine ch_Gst (st2 := []) rfl ?_
  refine gx_aload_n 0 dX5_init_10 rfl rfl ?_
  refine gx_aload_n 1 dX5_init_11 rfl rfl ?_
  refine gy_put (ci := 5) (f := 1) (C := RX5) (T := TX5) (N := 5) (ty := .object "SpanSolids$Solid") (fs2 := [.int (iI (wa + 1)), .ref a, .int (iI 0), .int (iI 0), .int (iI 0)]) tyX5 rfl inX5 tyX5_ok nmX5 (by decide) mw_2_39 (Or.inr ⟨rfl, rfl, rfl⟩) (by decide +kernel) rfl rfl dX5_init_12 k7 (by simp) rfl (fun h8 eh8 => ?_)
  have k9 : h8 a = some (.inr (ca, (.int (iI wa) :: va))) := by rw [eh8, ch_set_ne (nap)]; exact k6
  have k10 : h8 p = some (.inr (5, [.int (iI (wa + 1)), .ref a, .int (iI 0), .int (iI 0), .int (iI 0)])) := by rw [eh8]; exact ch_set_self
  refine gx_aload_n 0 dX5_init_15 rfl rfl ?_
  refine gx_iload_n 2 dX5_init_16 rfl rfl ?_
  refine gy_put (ci := 5) (f := 2) (C := RX5) (T := TX5) (N := 5) (ty := .int) (fs2 := [.int (iI (wa + 1)), .ref a, .int (iI bx), .int (iI 0), .int (iI 0)]) tyX5 rfl inX5 tyX5_ok nmX5 (by decide) mw_2_40 (Or.inr ⟨rfl, rfl, rfl⟩) (by decide +kernel) rfl rfl dX5_init_17 k10 (by simp) rfl (fun h11 eh11 => ?_)
  have k12 : h11 a = some (.inr (ca, (.int (iI wa) :: va))) := by rw [eh11, ch_set_ne (nap)]; exact k9
  have k13 : h11 p = some (.inr (5, [.int (iI (wa + 1)), .ref a, .int (iI bx), .int (iI 0), .int (iI 0)])) := by rw [eh11]; exact ch_set_self
  refine gx_aload_n 0 dX5_init_20 rfl rfl ?_
  refine gx_iload_n 3 dX5_init_21 rfl rfl ?_
  refine gy_put (ci := 5) (f := 3) (C := RX5) (T := TX5) (N := 5) (ty := .int) (fs2 := [.int (iI (wa + 1)), .ref a, .int (iI bx), .int (iI bY), .int (iI 0)]) tyX5 rfl inX5 tyX5_ok nmX5 (by decide) mw_2_41 (Or.inr ⟨rfl, rfl, rfl⟩) (by decide +kernel) rfl rfl dX5_init_22 k13 (by simp) rfl (fun h14 eh14 => ?_)
  have k15 : h14 a = some (.inr (ca, (.int (iI wa) :: va))) := by rw [eh14, ch_set_ne (nap)]; exact k12
  have k16 : h14 p = some (.inr (5, [.int (iI (wa + 1)), .ref a, .int (iI bx), .int (iI bY), .int (iI 0)])) := by rw [eh14]; exact ch_set_self
  refine gx_aload_n 0 dX5_init_25 rfl rfl ?_
  refine gx_iload 4 dX5_init_26 rfl ?_
  refine gy_put (ci := 5) (f := 4) (C := RX5) (T := TX5) (N := 5) (ty := .int) (fs2 := [.int (iI (wa + 1)), .ref a, .int (iI bx), .int (iI bY), .int (iI bz)]) tyX5 rfl inX5 tyX5_ok nmX5 (by decide) mw_2_42 (Or.inr ⟨rfl, rfl, rfl⟩) (by decide +kernel) rfl rfl dX5_init_28 k16 (by simp) rfl (fun h17 eh17 => ?_)
  have k18 : h17 a = some (.inr (ca, (.int (iI wa) :: va))) := by rw [eh17, ch_set_ne (nap)]; exact k15
  have k19 : h17 p = some (.inr (5, [.int (iI (wa + 1)), .ref a, .int (iI bx), .int (iI bY), .int (iI bz)])) := by rw [eh17]; exact ch_set_self
  refine gx_vret rfl dX5_init_31 (by first | exact Nat.le_of_ble_eq_true rfl | (simp only [rM]; omega)) (by first | exact Nat.le_of_ble_eq_true rfl | (simp only [rM]; omega)) ?_
  exact ⟨rfl, by rw [eh17, eh14, eh11, eh8, eh0]; simp only [ch_set_set], rfl⟩
set_option maxHeartbeats 4000000 in
set_option maxRecDepth 100000 in
theorem c_X9_init (l : Launch) (D : va_G) (cI cL cR : ClassId) (lo : Nat) (h : ch_H) (hi : Nat) (p a ca : Nat) (va : List Value) (wa : Int) (hp : h p = some (.inr (8, [.int (iI 0), .null]))) (ha : h a = some (.inr (ca, .int (iI wa) :: va))) (hSa : isS ca) (nap : a ≠ p) : ch_C l (eE D cI cL cR lo) M_X9_init (rM 2 0 0) [.ref p, .ref a] h hi (fun r0 h2 hi2 => r0 = none ∧ h2 = ch_set h p (.inr (8, [.int (iI (wa + 1)), .ref a])) ∧ hi = hi2) := by
  refine ch_C.of rfl (Nat.le_of_ble_eq_true rfl) ?_
  refine gx_aload_n 0 dX9_init_0 rfl rfl ?_
  refine gx_aload_n 1 dX9_init_1 rfl rfl ?_
  refine gy_getw hSa mw_1_156 dX9_init_2 ha ?_
  refine gx_iconst (iI 1) dX9_init_5 rfl ?_
  refine gy_iadd dX9_init_6 ?_
  refine gx_callI (c_X8_init_8 l D cI cL cR lo h hi p (wa + 1) hp) ok_X8_init mw_2_62 mw_1_145 rfl rfl dX9_init_7 rfl rfl (Nat.le_of_ble_eq_true rfl) (by first | exact Nat.le_of_ble_eq_true rfl | (simp only [rM]; omega)) (by first | exact Nat.le_of_ble_eq_true rfl | (simp only [rM]; omega)) (by first | exact Nat.le_of_ble_eq_true rfl | (simp only [rM]; omega)) (by first | exact Nat.le_of_ble_eq_true rfl | (simp only [rM]; omega)) (fun r1 h2 u3 q4 g5 => ?_)
  obtain ⟨rfl, eh0, rfl⟩ := q4
  have k6 : h2 a = some (.inr (ca, (.int (iI wa) :: va))) := by rw [eh0, ch_set_ne (nap)]; exact ha
  have k7 : h2 p = some (.inr (8, [.int (iI (wa + 1)), .null])) := by rw [eh0]; exact ch_set_self
  refine ch_Gst (st2 := []) rfl ?_
  refine gx_aload_n 0 dX9_init_10 rfl rfl ?_
  refine gx_aload_n 1 dX9_init_11 rfl rfl ?_
  refine gy_put (ci := 8) (f := 1) (C := RX9) (T := TX9) (N := 2) (ty := .object "SpanSolids$Solid") (fs2 := [.int (iI (wa + 1)), .ref a]) tyX9 rfl inX9 tyX9_ok nmX9 (by decide) mw_2_63 (Or.inr ⟨rfl, rfl, rfl⟩) (by decide +kernel) rfl rfl dX9_init_12 k7 (by simp) rfl (fun h8 eh8 => ?_)
  have k9 : h8 a = some (.inr (ca, (.int (iI wa) :: va))) := by rw [eh8, ch_set_ne (nap)]; exact k6
  have k10 : h8 p = some (.inr (8, [.int (iI (wa + 1)), .ref a])) := by rw [eh8]; exact ch_set_self
  refine gx_vret rfl dX9_init_15 (by first | exact Nat.le_of_ble_eq_true rfl | (simp only [rM]; omega)) (by first | exact Nat.le_of_ble_eq_true rfl | (simp only [rM]; omega)) ?_
  exact ⟨rfl, by rw [eh8, eh0]; simp only [ch_set_set], rfl⟩
end
end
section
section
theorem seg_00 : seg 0 0 = [] := by simp [seg]
set_option maxHeartbeats 4000000 in
set_option maxRecDepth 100000 in
theorem c_X1_lookFrom (l : Launch) (D : va_G) (cI cL cR : ClassId) (lo : Nat) (h : ch_H) (hi : Nat) (gw : Nat → Option Nat) (fx fy fl fh : Nat → Int) (wc : Int) (Ls : List (List Int)) (W : wwP cI cR lo h gw fx fy fl fh wc Ls) (p  : Nat) (wt x y z eX eY eZ : Int) (hp : h p = some (.inr (1, [.int (iI wt), .int (iI x), .int (iI y), .int (iI z), .int (iI eX), .int (iI eY), .int (iI eZ)]))) (hpl : lo + 13 ≤ p) (h_x : -5000 ≤ x ∧ x ≤ 5000) (h_y : -5000 ≤ y ∧ y ≤ 5000) (h_z : -5000 ≤ z ∧ z ≤ 5000) (h_eX : -5000 ≤ eX ∧ eX ≤ 5000) (h_eY : -5000 ≤ eY ∧ eY ≤ 5000) (h_eZ : -5000 ≤ eZ ∧ eZ ≤ 5000) (px py t : Int) (hpx : -500000 ≤ px ∧ px ≤ 500000) (hpy : -500000 ≤ py ∧ py ≤ 500000) (ht : -500000 ≤ t ∧ t ≤ 500000) (hL1 : Ls.length < 50) (hL2 : Ls.flatten.length + 2 ≤ 100) : ch_C l (eE D cI cL cR lo) M_X1_lookFrom (rM 2 0 0) [.ref p, .int (iI px), .int (iI py), .int (iI t), .ref (lo + 3)] h hi (fun r0 h2 hi2 => r0 = none ∧ wwP cI cR lo h2 gw fx fy fl fh wc (Ls ++ [bxS x y z eX eY eZ px py t]) ∧ ch_fr (wwL lo) h h2 ∧ hi = hi2) := by
  refine ch_C.of rfl (Nat.le_of_ble_eq_true rfl) ?_
  obtain ⟨vK, hK⟩ := wwP_K W
  refine gx_aload_n 0 dX1_lookFrom_0 rfl rfl ?_
  refine gx_get (ci := 1) (f := 1) (C := RX1) (T := TX1) (N := 7) rfl inX1 (by decide) mw_1_148 dX1_lookFrom_1 hp rfl ?_
  refine gx_iload_n 1 dX1_lookFrom_4 rfl rfl ?_
  refine gy_icmp_gt 52 dX1_lookFrom_5 (by decide) (by constructor <;> omega) (by constructor <;> omega) (fun c5 => ?_) (fun c5 => ?_)
  · refine gx_aload 4 dX1_lookFrom_52 rfl ?_
    refine gx_callV (ci := 9) (c_X10_giveNone l D cI cL cR lo h hi gw fx fy fl fh wc Ls W hL1 hL2) ok_X10_giveNone mw_2_149 mw_2_130 mw_2_131 dX1_lookFrom_54 rfl hK rfl rfl (Nat.le_of_ble_eq_true rfl) (by first | exact Nat.le_of_ble_eq_true rfl | (simp only [rM]; omega)) (by first | exact Nat.le_of_ble_eq_true rfl | (simp only [rM]; omega)) (by first | exact Nat.le_of_ble_eq_true rfl | (simp only [rM]; omega)) (by first | exact Nat.le_of_ble_eq_true rfl | (simp only [rM]; omega)) (fun r1 h2 u3 q4 g5 => ?_)
    obtain ⟨rfl, W6, fr7, rfl⟩ := q4
    have k8 : h2 p = some (.inr (1, [.int (iI wt), .int (iI x), .int (iI y), .int (iI z), .int (iI eX), .int (iI eY), .int (iI eZ)])) := by rw [fr7 p (wwL_out (by omega))]; exact hp
    obtain ⟨vK9, hK10⟩ := wwP_K W6
    refine ch_Gst (st2 := []) rfl ?_
    refine gx_vret rfl dX1_lookFrom_57 (by first | exact Nat.le_of_ble_eq_true rfl | (simp only [rM]; omega)) (by first | exact Nat.le_of_ble_eq_true rfl | (simp only [rM]; omega)) ?_
    exact ⟨rfl, by unfold bxS; rw [if_neg (by omega)]; rw [← seg_00]; exact W6, fr7, rfl⟩
  · refine gx_iload_n 1 dX1_lookFrom_8 rfl rfl ?_
    refine gx_aload_n 0 dX1_lookFrom_9 rfl rfl ?_
    refine gx_get (ci := 1) (f := 4) (C := RX1) (T := TX1) (N := 7) rfl inX1 (by decide) mw_1_151 dX1_lookFrom_10 hp rfl ?_
    refine gy_icmp_ge 52 dX1_lookFrom_13 (by decide) (by constructor <;> omega) (by constructor <;> omega) (fun c13 => ?_) (fun c13 => ?_)
    · refine gx_aload 4 dX1_lookFrom_52 rfl ?_
      refine gx_callV (ci := 9) (c_X10_giveNone l D cI cL cR lo h hi gw fx fy fl fh wc Ls W hL1 hL2) ok_X10_giveNone mw_2_149 mw_2_130 mw_2_131 dX1_lookFrom_54 rfl hK rfl rfl (Nat.le_of_ble_eq_true rfl) (by first | exact Nat.le_of_ble_eq_true rfl | (simp only [rM]; omega)) (by first | exact Nat.le_of_ble_eq_true rfl | (simp only [rM]; omega)) (by first | exact Nat.le_of_ble_eq_true rfl | (simp only [rM]; omega)) (by first | exact Nat.le_of_ble_eq_true rfl | (simp only [rM]; omega)) (fun r11 h12 u13 q14 g15 => ?_)
      obtain ⟨rfl, W16, fr17, rfl⟩ := q14
      have k18 : h12 p = some (.inr (1, [.int (iI wt), .int (iI x), .int (iI y), .int (iI z), .int (iI eX), .int (iI eY), .int (iI eZ)])) := by rw [fr17 p (wwL_out (by omega))]; exact hp
      obtain ⟨vK19, hK20⟩ := wwP_K W16
      refine ch_Gst (st2 := []) rfl ?_
      refine gx_vret rfl dX1_lookFrom_57 (by first | exact Nat.le_of_ble_eq_true rfl | (simp only [rM]; omega)) (by first | exact Nat.le_of_ble_eq_true rfl | (simp only [rM]; omega)) ?_
      exact ⟨rfl, by unfold bxS; rw [if_neg (by omega)]; rw [← seg_00]; exact W16, fr17, rfl⟩
    · refine gx_aload_n 0 dX1_lookFrom_16 rfl rfl ?_
      refine gx_get (ci := 1) (f := 2) (C := RX1) (T := TX1) (N := 7) rfl inX1 (by decide) mw_1_149 dX1_lookFrom_17 hp rfl ?_
      refine gx_iload_n 2 dX1_lookFrom_20 rfl rfl ?_
      refine gy_icmp_gt 52 dX1_lookFrom_21 (by decide) (by constructor <;> omega) (by constructor <;> omega) (fun c21 => ?_) (fun c21 => ?_)
      · refine gx_aload 4 dX1_lookFrom_52 rfl ?_
        refine gx_callV (ci := 9) (c_X10_giveNone l D cI cL cR lo h hi gw fx fy fl fh wc Ls W hL1 hL2) ok_X10_giveNone mw_2_149 mw_2_130 mw_2_131 dX1_lookFrom_54 rfl hK rfl rfl (Nat.le_of_ble_eq_true rfl) (by first | exact Nat.le_of_ble_eq_true rfl | (simp only [rM]; omega)) (by first | exact Nat.le_of_ble_eq_true rfl | (simp only [rM]; omega)) (by first | exact Nat.le_of_ble_eq_true rfl | (simp only [rM]; omega)) (by first | exact Nat.le_of_ble_eq_true rfl | (simp only [rM]; omega)) (fun r21 h22 u23 q24 g25 => ?_)
        obtain ⟨rfl, W26, fr27, rfl⟩ := q24
        have k28 : h22 p = some (.inr (1, [.int (iI wt), .int (iI x), .int (iI y), .int (iI z), .int (iI eX), .int (iI eY), .int (iI eZ)])) := by rw [fr27 p (wwL_out (by omega))]; exact hp
        obtain ⟨vK29, hK30⟩ := wwP_K W26
        refine ch_Gst (st2 := []) rfl ?_
        refine gx_vret rfl dX1_lookFrom_57 (by first | exact Nat.le_of_ble_eq_true rfl | (simp only [rM]; omega)) (by first | exact Nat.le_of_ble_eq_true rfl | (simp only [rM]; omega)) ?_
        exact ⟨rfl, by unfold bxS; rw [if_neg (by omega)]; rw [← seg_00]; exact W26, fr27, rfl⟩
      · refine gx_iload_n 2 dX1_lookFrom_24 rfl rfl ?_
        refine gx_aload_n 0 dX1_lookFrom_25 rfl rfl ?_
        refine gx_get (ci := 1) (f := 5) (C := RX1) (T := TX1) (N := 7) rfl inX1 (by decide) mw_1_152 dX1_lookFrom_26 hp rfl ?_
        refine gy_icmp_ge 52 dX1_lookFrom_29 (by decide) (by constructor <;> omega) (by constructor <;> omega) (fun c29 => ?_) (fun c29 => ?_)
        · refine gx_aload 4 dX1_lookFrom_52 rfl ?_
          refine gx_callV (ci := 9) (c_X10_giveNone l D cI cL cR lo h hi gw fx fy fl fh wc Ls W hL1 hL2) ok_X10_giveNone mw_2_149 mw_2_130 mw_2_131 dX1_lookFrom_54 rfl hK rfl rfl (Nat.le_of_ble_eq_true rfl) (by first | exact Nat.le_of_ble_eq_true rfl | (simp only [rM]; omega)) (by first | exact Nat.le_of_ble_eq_true rfl | (simp only [rM]; omega)) (by first | exact Nat.le_of_ble_eq_true rfl | (simp only [rM]; omega)) (by first | exact Nat.le_of_ble_eq_true rfl | (simp only [rM]; omega)) (fun r31 h32 u33 q34 g35 => ?_)
          obtain ⟨rfl, W36, fr37, rfl⟩ := q34
          have k38 : h32 p = some (.inr (1, [.int (iI wt), .int (iI x), .int (iI y), .int (iI z), .int (iI eX), .int (iI eY), .int (iI eZ)])) := by rw [fr37 p (wwL_out (by omega))]; exact hp
          obtain ⟨vK39, hK40⟩ := wwP_K W36
          refine ch_Gst (st2 := []) rfl ?_
          refine gx_vret rfl dX1_lookFrom_57 (by first | exact Nat.le_of_ble_eq_true rfl | (simp only [rM]; omega)) (by first | exact Nat.le_of_ble_eq_true rfl | (simp only [rM]; omega)) ?_
          exact ⟨rfl, by unfold bxS; rw [if_neg (by omega)]; rw [← seg_00]; exact W36, fr37, rfl⟩
        · refine gx_aload 4 dX1_lookFrom_32 rfl ?_
          refine gx_aload_n 0 dX1_lookFrom_34 rfl rfl ?_
          refine gx_get (ci := 1) (f := 3) (C := RX1) (T := TX1) (N := 7) rfl inX1 (by decide) mw_1_150 dX1_lookFrom_35 hp rfl ?_
          refine gx_iload_n 3 dX1_lookFrom_38 rfl rfl ?_
          refine gy_iadd dX1_lookFrom_39 ?_
          refine gx_aload_n 0 dX1_lookFrom_40 rfl rfl ?_
          refine gx_get (ci := 1) (f := 6) (C := RX1) (T := TX1) (N := 7) rfl inX1 (by decide) mw_1_153 dX1_lookFrom_41 hp rfl ?_
          refine gx_iload_n 3 dX1_lookFrom_44 rfl rfl ?_
          refine gy_iadd dX1_lookFrom_45 ?_
          refine gx_callV (ci := 9) (c_X10_give l D cI cL cR lo h hi gw fx fy fl fh wc Ls W hL1 hL2 (z + t) (eZ + t) (by omega) (by omega)) ok_X10_give mw_2_148 mw_2_142 mw_2_143 dX1_lookFrom_46 rfl hK rfl rfl (Nat.le_of_ble_eq_true rfl) (by first | exact Nat.le_of_ble_eq_true rfl | (simp only [rM]; omega)) (by first | exact Nat.le_of_ble_eq_true rfl | (simp only [rM]; omega)) (by first | exact Nat.le_of_ble_eq_true rfl | (simp only [rM]; omega)) (by first | exact Nat.le_of_ble_eq_true rfl | (simp only [rM]; omega)) (fun r41 h42 u43 q44 g45 => ?_)
          obtain ⟨rfl, W46, fr47, rfl⟩ := q44
          have k48 : h42 p = some (.inr (1, [.int (iI wt), .int (iI x), .int (iI y), .int (iI z), .int (iI eX), .int (iI eY), .int (iI eZ)])) := by rw [fr47 p (wwL_out (by omega))]; exact hp
          obtain ⟨vK49, hK50⟩ := wwP_K W46
          refine ch_Gst (st2 := []) rfl ?_
          refine gx_goto 57 dX1_lookFrom_49 (by decide) ?_
          refine gx_vret rfl dX1_lookFrom_57 (by first | exact Nat.le_of_ble_eq_true rfl | (simp only [rM]; omega)) (by first | exact Nat.le_of_ble_eq_true rfl | (simp only [rM]; omega)) ?_
          exact ⟨rfl, by unfold bxS; rw [if_pos ⟨by omega, by omega, by omega, by omega⟩]; exact W46, fr47, rfl⟩
set_option maxHeartbeats 4000000 in
set_option maxRecDepth 100000 in
theorem c_X6_lookFrom (l : Launch) (D : va_G) (cI cL cR : ClassId) (lo : Nat) (h : ch_H) (hi : Nat) (gw : Nat → Option Nat) (fx fy fl fh : Nat → Int) (wc : Int) (Ls : List (List Int)) (W : wwP cI cR lo h gw fx fy fl fh wc Ls) (p  : Nat) (wt x y r z eZ : Int) (hp : h p = some (.inr (6, [.int (iI wt), .int (iI x), .int (iI y), .int (iI r), .int (iI z), .int (iI eZ)]))) (hpl : lo + 13 ≤ p) (h_x : -5000 ≤ x ∧ x ≤ 5000) (h_y : -5000 ≤ y ∧ y ≤ 5000) (h_r : -5000 ≤ r ∧ r ≤ 5000) (h_z : -5000 ≤ z ∧ z ≤ 5000) (h_eZ : -5000 ≤ eZ ∧ eZ ≤ 5000) (px py t : Int) (hpx : -500000 ≤ px ∧ px ≤ 500000) (hpy : -500000 ≤ py ∧ py ≤ 500000) (ht : -500000 ≤ t ∧ t ≤ 500000) (hL1 : Ls.length < 50) (hL2 : Ls.flatten.length + 2 ≤ 100) : ch_C l (eE D cI cL cR lo) M_X6_lookFrom (rM 2 0 0) [.ref p, .int (iI px), .int (iI py), .int (iI t), .ref (lo + 3)] h hi (fun r0 h2 hi2 => r0 = none ∧ wwP cI cR lo h2 gw fx fy fl fh wc (Ls ++ [poS x y r z eZ px py t]) ∧ ch_fr (wwL lo) h h2 ∧ hi = hi2) := by
  refine ch_C.of rfl (Nat.le_of_ble_eq_true rfl) ?_
  obtain ⟨vK, hK⟩ := wwP_K W
  have q1 := sqI_b (v := px - x) (by omega)
  have q2 := sqI_b (v := py - y) (by omega)
  have q3 := sqI_b (v := r) (by omega)
  refine gx_iload_n 1 dX6_lookFrom_0 rfl rfl ?_
  refine gx_aload_n 0 dX6_lookFrom_1 rfl rfl ?_
  refine gx_get (ci := 6) (f := 1) (C := RX6) (T := TX6) (N := 6) rfl inX6 (by decide) mw_1_180 dX6_lookFrom_2 hp rfl ?_
  refine gy_isub dX6_lookFrom_5 ?_
  refine gy_i2l dX6_lookFrom_6 (by constructor <;> omega) ?_
  refine gx_callSN (c_X11_square l D cI cL cR lo h hi (px - x)) ok_X11_square nw_5 mw_2_127 dX6_lookFrom_7 rfl rfl (Nat.le_of_ble_eq_true rfl) (by first | exact Nat.le_of_ble_eq_true rfl | (simp only [rM]; omega)) (by first | exact Nat.le_of_ble_eq_true rfl | (simp only [rM]; omega)) (by first | exact Nat.le_of_ble_eq_true rfl | (simp only [rM]; omega)) (by first | exact Nat.le_of_ble_eq_true rfl | (simp only [rM]; omega)) (fun r1 h2 u3 q4 g5 => ?_)
  obtain ⟨rfl, rfl, rfl⟩ := q4
  refine ch_Gst (st2 := [.long (lI (sqI (px - x)))]) rfl ?_
  refine gx_iload_n 2 dX6_lookFrom_10 rfl rfl ?_
  refine gx_aload_n 0 dX6_lookFrom_11 rfl rfl ?_
  refine gx_get (ci := 6) (f := 2) (C := RX6) (T := TX6) (N := 6) rfl inX6 (by decide) mw_1_181 dX6_lookFrom_12 hp rfl ?_
  refine gy_isub dX6_lookFrom_15 ?_
  refine gy_i2l dX6_lookFrom_16 (by constructor <;> omega) ?_
  refine gx_callSN (c_X11_square l D cI cL cR lo h hi (py - y)) ok_X11_square nw_5 mw_2_127 dX6_lookFrom_17 rfl rfl (Nat.le_of_ble_eq_true rfl) (by first | exact Nat.le_of_ble_eq_true rfl | (simp only [rM]; omega)) (by first | exact Nat.le_of_ble_eq_true rfl | (simp only [rM]; omega)) (by first | exact Nat.le_of_ble_eq_true rfl | (simp only [rM]; omega)) (by first | exact Nat.le_of_ble_eq_true rfl | (simp only [rM]; omega)) (fun r6 h7 u8 q9 g10 => ?_)
  obtain ⟨rfl, rfl, rfl⟩ := q9
  refine ch_Gst (st2 := [.long (lI (sqI (py - y))), .long (lI (sqI (px - x)))]) rfl ?_
  refine gy_ladd dX6_lookFrom_20 ?_
  refine gx_aload_n 0 dX6_lookFrom_21 rfl rfl ?_
  refine gx_get (ci := 6) (f := 3) (C := RX6) (T := TX6) (N := 6) rfl inX6 (by decide) mw_1_182 dX6_lookFrom_22 hp rfl ?_
  refine gy_i2l dX6_lookFrom_25 (by constructor <;> omega) ?_
  refine gx_callSN (c_X11_square l D cI cL cR lo h hi r) ok_X11_square nw_5 mw_2_127 dX6_lookFrom_26 rfl rfl (Nat.le_of_ble_eq_true rfl) (by first | exact Nat.le_of_ble_eq_true rfl | (simp only [rM]; omega)) (by first | exact Nat.le_of_ble_eq_true rfl | (simp only [rM]; omega)) (by first | exact Nat.le_of_ble_eq_true rfl | (simp only [rM]; omega)) (by first | exact Nat.le_of_ble_eq_true rfl | (simp only [rM]; omega)) (fun r11 h12 u13 q14 g15 => ?_)
  obtain ⟨rfl, rfl, rfl⟩ := q14
  refine ch_Gst (st2 := [.long (lI (sqI r)), .long (lI ((sqI (px - x)) + (sqI (py - y))))]) rfl ?_
  refine gy_lcmp_gt 53 dX6_lookFrom_29 dX6_lookFrom_30 (by decide) (by constructor <;> omega) (by constructor <;> omega) (fun c29 => ?_) (fun c29 => ?_)
  · refine gx_aload 4 dX6_lookFrom_53 rfl ?_
    refine gx_callV (ci := 9) (c_X10_giveNone l D cI cL cR lo h hi gw fx fy fl fh wc Ls W hL1 hL2) ok_X10_giveNone mw_2_177 mw_2_130 mw_2_131 dX6_lookFrom_55 rfl hK rfl rfl (Nat.le_of_ble_eq_true rfl) (by first | exact Nat.le_of_ble_eq_true rfl | (simp only [rM]; omega)) (by first | exact Nat.le_of_ble_eq_true rfl | (simp only [rM]; omega)) (by first | exact Nat.le_of_ble_eq_true rfl | (simp only [rM]; omega)) (by first | exact Nat.le_of_ble_eq_true rfl | (simp only [rM]; omega)) (fun r16 h17 u18 q19 g20 => ?_)
    obtain ⟨rfl, W21, fr22, rfl⟩ := q19
    have k23 : h17 p = some (.inr (6, [.int (iI wt), .int (iI x), .int (iI y), .int (iI r), .int (iI z), .int (iI eZ)])) := by rw [fr22 p (wwL_out (by omega))]; exact hp
    obtain ⟨vK24, hK25⟩ := wwP_K W21
    refine ch_Gst (st2 := []) rfl ?_
    refine gx_vret rfl dX6_lookFrom_58 (by first | exact Nat.le_of_ble_eq_true rfl | (simp only [rM]; omega)) (by first | exact Nat.le_of_ble_eq_true rfl | (simp only [rM]; omega)) ?_
    exact ⟨rfl, by unfold poS; rw [if_neg (by omega)]; rw [← seg_00]; exact W21, fr22, rfl⟩
  · refine gx_aload 4 dX6_lookFrom_33 rfl ?_
    refine gx_aload_n 0 dX6_lookFrom_35 rfl rfl ?_
    refine gx_get (ci := 6) (f := 4) (C := RX6) (T := TX6) (N := 6) rfl inX6 (by decide) mw_1_183 dX6_lookFrom_36 hp rfl ?_
    refine gx_iload_n 3 dX6_lookFrom_39 rfl rfl ?_
    refine gy_iadd dX6_lookFrom_40 ?_
    refine gx_aload_n 0 dX6_lookFrom_41 rfl rfl ?_
    refine gx_get (ci := 6) (f := 5) (C := RX6) (T := TX6) (N := 6) rfl inX6 (by decide) mw_1_184 dX6_lookFrom_42 hp rfl ?_
    refine gx_iload_n 3 dX6_lookFrom_45 rfl rfl ?_
    refine gy_iadd dX6_lookFrom_46 ?_
    refine gx_callV (ci := 9) (c_X10_give l D cI cL cR lo h hi gw fx fy fl fh wc Ls W hL1 hL2 (z + t) (eZ + t) (by omega) (by omega)) ok_X10_give mw_2_176 mw_2_142 mw_2_143 dX6_lookFrom_47 rfl hK rfl rfl (Nat.le_of_ble_eq_true rfl) (by first | exact Nat.le_of_ble_eq_true rfl | (simp only [rM]; omega)) (by first | exact Nat.le_of_ble_eq_true rfl | (simp only [rM]; omega)) (by first | exact Nat.le_of_ble_eq_true rfl | (simp only [rM]; omega)) (by first | exact Nat.le_of_ble_eq_true rfl | (simp only [rM]; omega)) (fun r26 h27 u28 q29 g30 => ?_)
    obtain ⟨rfl, W31, fr32, rfl⟩ := q29
    have k33 : h27 p = some (.inr (6, [.int (iI wt), .int (iI x), .int (iI y), .int (iI r), .int (iI z), .int (iI eZ)])) := by rw [fr32 p (wwL_out (by omega))]; exact hp
    obtain ⟨vK34, hK35⟩ := wwP_K W31
    refine ch_Gst (st2 := []) rfl ?_
    refine gx_goto 58 dX6_lookFrom_50 (by decide) ?_
    refine gx_vret rfl dX6_lookFrom_58 (by first | exact Nat.le_of_ble_eq_true rfl | (simp only [rM]; omega)) (by first | exact Nat.le_of_ble_eq_true rfl | (simp only [rM]; omega)) ?_
    exact ⟨rfl, by unfold poS; rw [if_pos (by omega)]; exact W31, fr32, rfl⟩
set_option maxHeartbeats 4000000 in
set_option maxRecDepth 100000 in
theorem c_X0_lookFrom (l : Launch) (D : va_G) (cI cL cR : ClassId) (lo : Nat) (h : ch_H) (hi : Nat) (gw : Nat → Option Nat) (fx fy fl fh : Nat → Int) (wc : Int) (Ls : List (List Int)) (W : wwP cI cR lo h gw fx fy fl fh wc Ls) (p  : Nat) (wt x y z r : Int) (hp : h p = some (.inr (0, [.int (iI wt), .int (iI x), .int (iI y), .int (iI z), .int (iI r)]))) (hpl : lo + 13 ≤ p) (h_x : -5000 ≤ x ∧ x ≤ 5000) (h_y : -5000 ≤ y ∧ y ≤ 5000) (h_z : -5000 ≤ z ∧ z ≤ 5000) (h_r : -5000 ≤ r ∧ r ≤ 5000) (hr0 : 0 ≤ r) (px py t : Int) (hpx : -500000 ≤ px ∧ px ≤ 500000) (hpy : -500000 ≤ py ∧ py ≤ 500000) (ht : -500000 ≤ t ∧ t ≤ 500000) (hL1 : Ls.length < 50) (hL2 : Ls.flatten.length + 2 ≤ 100) : ch_C l (eE D cI cL cR lo) M_X0_lookFrom (rM 2 0 0) [.ref p, .int (iI px), .int (iI py), .int (iI t), .ref (lo + 3)] h hi (fun r0 h2 hi2 => r0 = none ∧ wwP cI cR lo h2 gw fx fy fl fh wc (Ls ++ [baS x y z r px py t]) ∧ ch_fr (wwL lo) h h2 ∧ hi = hi2) := by
  refine ch_C.of rfl (Nat.le_of_ble_eq_true rfl) ?_
  obtain ⟨vK, hK⟩ := wwP_K W
  have q1 := sqI_b (v := px - x) (by omega)
  have q2 := sqI_b (v := py - y) (by omega)
  have q3 := sqI_b (v := r) (by omega)
  refine gx_aload_n 0 dX0_lookFrom_0 rfl rfl ?_
  refine gx_get (ci := 0) (f := 4) (C := RX0) (T := TX0) (N := 5) rfl inX0 (by decide) mw_1_206 dX0_lookFrom_1 hp rfl ?_
  refine gy_i2l dX0_lookFrom_4 (by constructor <;> omega) ?_
  refine gx_callSN (c_X11_square l D cI cL cR lo h hi r) ok_X11_square nw_2 mw_2_127 dX0_lookFrom_5 rfl rfl (Nat.le_of_ble_eq_true rfl) (by first | exact Nat.le_of_ble_eq_true rfl | (simp only [rM]; omega)) (by first | exact Nat.le_of_ble_eq_true rfl | (simp only [rM]; omega)) (by first | exact Nat.le_of_ble_eq_true rfl | (simp only [rM]; omega)) (by first | exact Nat.le_of_ble_eq_true rfl | (simp only [rM]; omega)) (fun r1 h2 u3 q4 g5 => ?_)
  obtain ⟨rfl, rfl, rfl⟩ := q4
  refine ch_Gst (st2 := [.long (lI (sqI r))]) rfl ?_
  refine gx_iload_n 1 dX0_lookFrom_8 rfl rfl ?_
  refine gx_aload_n 0 dX0_lookFrom_9 rfl rfl ?_
  refine gx_get (ci := 0) (f := 1) (C := RX0) (T := TX0) (N := 5) rfl inX0 (by decide) mw_1_203 dX0_lookFrom_10 hp rfl ?_
  refine gy_isub dX0_lookFrom_13 ?_
  refine gy_i2l dX0_lookFrom_14 (by constructor <;> omega) ?_
  refine gx_callSN (c_X11_square l D cI cL cR lo h hi (px - x)) ok_X11_square nw_2 mw_2_127 dX0_lookFrom_15 rfl rfl (Nat.le_of_ble_eq_true rfl) (by first | exact Nat.le_of_ble_eq_true rfl | (simp only [rM]; omega)) (by first | exact Nat.le_of_ble_eq_true rfl | (simp only [rM]; omega)) (by first | exact Nat.le_of_ble_eq_true rfl | (simp only [rM]; omega)) (by first | exact Nat.le_of_ble_eq_true rfl | (simp only [rM]; omega)) (fun r6 h7 u8 q9 g10 => ?_)
  obtain ⟨rfl, rfl, rfl⟩ := q9
  refine ch_Gst (st2 := [.long (lI (sqI (px - x))), .long (lI (sqI r))]) rfl ?_
  refine gy_lsub dX0_lookFrom_18 ?_
  refine gx_iload_n 2 dX0_lookFrom_19 rfl rfl ?_
  refine gx_aload_n 0 dX0_lookFrom_20 rfl rfl ?_
  refine gx_get (ci := 0) (f := 2) (C := RX0) (T := TX0) (N := 5) rfl inX0 (by decide) mw_1_204 dX0_lookFrom_21 hp rfl ?_
  refine gy_isub dX0_lookFrom_24 ?_
  refine gy_i2l dX0_lookFrom_25 (by constructor <;> omega) ?_
  refine gx_callSN (c_X11_square l D cI cL cR lo h hi (py - y)) ok_X11_square nw_2 mw_2_127 dX0_lookFrom_26 rfl rfl (Nat.le_of_ble_eq_true rfl) (by first | exact Nat.le_of_ble_eq_true rfl | (simp only [rM]; omega)) (by first | exact Nat.le_of_ble_eq_true rfl | (simp only [rM]; omega)) (by first | exact Nat.le_of_ble_eq_true rfl | (simp only [rM]; omega)) (by first | exact Nat.le_of_ble_eq_true rfl | (simp only [rM]; omega)) (fun r11 h12 u13 q14 g15 => ?_)
  obtain ⟨rfl, rfl, rfl⟩ := q14
  refine ch_Gst (st2 := [.long (lI (sqI (py - y))), .long (lI ((sqI r) - (sqI (px - x))))]) rfl ?_
  refine gy_lsub dX0_lookFrom_29 ?_
  refine gx_lstore [(5, .long (lI (((sqI r) - (sqI (px - x))) - (sqI (py - y))))), (0, .ref p), (1, .int (iI px)), (2, .int (iI py)), (3, .int (iI t)), (4, .ref (lo + 3))] dX0_lookFrom_30 (by decide) rfl ?_
  refine gx_lload 0 dX0_lookFrom_32 rfl ?_
  refine gx_lconst (lI 0) dX0_lookFrom_34 rfl ?_
  refine gy_lcmp_ge 47 dX0_lookFrom_35 dX0_lookFrom_36 (by decide) (by constructor <;> omega) (by decide) (fun c35 => ?_) (fun c35 => ?_)
  · refine gx_lload 0 dX0_lookFrom_47 rfl ?_
    refine gx_aload_n 1 dX0_lookFrom_49 rfl rfl ?_
    refine gx_get (ci := 0) (f := 4) (C := RX0) (T := TX0) (N := 5) rfl inX0 (by decide) mw_1_206 dX0_lookFrom_50 hp rfl ?_
    refine gx_callSN (c_X11_rootBelow l D cI cL cR lo h hi (((sqI r) - (sqI (px - x))) - (sqI (py - y))) r (by constructor <;> omega) (by omega)) ok_X11_rootBelow nw_3 mw_2_138 dX0_lookFrom_53 rfl rfl (Nat.le_of_ble_eq_true rfl) (by first | exact Nat.le_of_ble_eq_true rfl | (simp only [rM]; omega)) (by first | exact Nat.le_of_ble_eq_true rfl | (simp only [rM]; omega)) (by first | exact Nat.le_of_ble_eq_true rfl | (simp only [rM]; omega)) (by first | exact Nat.le_of_ble_eq_true rfl | (simp only [rM]; omega)) (fun r16 h17 u18 q19 g20 => ?_)
    obtain ⟨rfl, rfl, rfl⟩ := q19
    have hrt := rtB_in (v := ((sqI r) - (sqI (px - x))) - (sqI (py - y))) 32 0 r (by omega)
    refine ch_Gst (st2 := [.int (iI (rtB (((sqI r) - (sqI (px - x))) - (sqI (py - y))) 32 0 r))]) rfl ?_
    refine gx_istore [(7, .int (iI (rtB (((sqI r) - (sqI (px - x))) - (sqI (py - y))) 32 0 r))), (5, .long (lI (((sqI r) - (sqI (px - x))) - (sqI (py - y))))), (0, .ref p), (1, .int (iI px)), (2, .int (iI py)), (3, .int (iI t)), (4, .ref (lo + 3))] dX0_lookFrom_56 (by decide) rfl ?_
    refine gx_aload 6 dX0_lookFrom_58 rfl ?_
    refine gx_aload_n 2 dX0_lookFrom_60 rfl rfl ?_
    refine gx_get (ci := 0) (f := 3) (C := RX0) (T := TX0) (N := 5) rfl inX0 (by decide) mw_1_205 dX0_lookFrom_61 hp rfl ?_
    refine gx_iload 0 dX0_lookFrom_64 rfl ?_
    refine gy_isub dX0_lookFrom_66 ?_
    refine gx_iload_n 5 dX0_lookFrom_67 rfl rfl ?_
    refine gy_iadd dX0_lookFrom_68 ?_
    refine gx_aload_n 2 dX0_lookFrom_69 rfl rfl ?_
    refine gx_get (ci := 0) (f := 3) (C := RX0) (T := TX0) (N := 5) rfl inX0 (by decide) mw_1_205 dX0_lookFrom_70 hp rfl ?_
    refine gx_iload 0 dX0_lookFrom_73 rfl ?_
    refine gy_iadd dX0_lookFrom_75 ?_
    refine gx_iconst (iI 1) dX0_lookFrom_76 rfl ?_
    refine gy_iadd dX0_lookFrom_77 ?_
    refine gx_iload_n 5 dX0_lookFrom_78 rfl rfl ?_
    refine gy_iadd dX0_lookFrom_79 ?_
    refine gx_callV (ci := 9) (c_X10_give l D cI cL cR lo h hi gw fx fy fl fh wc Ls W hL1 hL2 ((z - (rtB (((sqI r) - (sqI (px - x))) - (sqI (py - y))) 32 0 r)) + t) (((z + (rtB (((sqI r) - (sqI (px - x))) - (sqI (py - y))) 32 0 r)) + 1) + t) (by omega) (by omega)) ok_X10_give mw_2_141 mw_2_142 mw_2_143 dX0_lookFrom_80 rfl hK rfl rfl (Nat.le_of_ble_eq_true rfl) (by first | exact Nat.le_of_ble_eq_true rfl | (simp only [rM]; omega)) (by first | exact Nat.le_of_ble_eq_true rfl | (simp only [rM]; omega)) (by first | exact Nat.le_of_ble_eq_true rfl | (simp only [rM]; omega)) (by first | exact Nat.le_of_ble_eq_true rfl | (simp only [rM]; omega)) (fun r21 h22 u23 q24 g25 => ?_)
    obtain ⟨rfl, W26, fr27, rfl⟩ := q24
    have k28 : h22 p = some (.inr (0, [.int (iI wt), .int (iI x), .int (iI y), .int (iI z), .int (iI r)])) := by rw [fr27 p (wwL_out (by omega))]; exact hp
    obtain ⟨vK29, hK30⟩ := wwP_K W26
    refine ch_Gst (st2 := []) rfl ?_
    refine gx_vret rfl dX0_lookFrom_83 (by first | exact Nat.le_of_ble_eq_true rfl | (simp only [rM]; omega)) (by first | exact Nat.le_of_ble_eq_true rfl | (simp only [rM]; omega)) ?_
    exact ⟨rfl, by unfold baS; rw [if_neg (by omega)]; exact W26, fr27, rfl⟩
  · refine gx_aload 5 dX0_lookFrom_39 rfl ?_
    refine gx_callV (ci := 9) (c_X10_giveNone l D cI cL cR lo h hi gw fx fy fl fh wc Ls W hL1 hL2) ok_X10_giveNone mw_2_129 mw_2_130 mw_2_131 dX0_lookFrom_41 rfl hK rfl rfl (Nat.le_of_ble_eq_true rfl) (by first | exact Nat.le_of_ble_eq_true rfl | (simp only [rM]; omega)) (by first | exact Nat.le_of_ble_eq_true rfl | (simp only [rM]; omega)) (by first | exact Nat.le_of_ble_eq_true rfl | (simp only [rM]; omega)) (by first | exact Nat.le_of_ble_eq_true rfl | (simp only [rM]; omega)) (fun r31 h32 u33 q34 g35 => ?_)
    obtain ⟨rfl, W36, fr37, rfl⟩ := q34
    have k38 : h32 p = some (.inr (0, [.int (iI wt), .int (iI x), .int (iI y), .int (iI z), .int (iI r)])) := by rw [fr37 p (wwL_out (by omega))]; exact hp
    obtain ⟨vK39, hK40⟩ := wwP_K W36
    refine ch_Gst (st2 := []) rfl ?_
    refine gx_goto 83 dX0_lookFrom_44 (by decide) ?_
    refine gx_vret rfl dX0_lookFrom_83 (by first | exact Nat.le_of_ble_eq_true rfl | (simp only [rM]; omega)) (by first | exact Nat.le_of_ble_eq_true rfl | (simp only [rM]; omega)) ?_
    exact ⟨rfl, by unfold baS; rw [if_pos (by omega)]; rw [← seg_00]; exact W36, fr37, rfl⟩
set_option maxHeartbeats 4000000 in
set_option maxRecDepth 100000 in
theorem c_X2_lookFrom (l : Launch) (D : va_G) (cI cL cR : ClassId) (lo : Nat) (h : ch_H) (hi : Nat) (gw : Nat → Option Nat) (fx fy fl fh : Nat → Int) (wc : Int) (Ls : List (List Int)) (W : wwP cI cR lo h gw fx fy fl fh wc Ls) (p  : Nat) (wt x y r z eZ : Int) (hp : h p = some (.inr (2, [.int (iI wt), .int (iI x), .int (iI y), .int (iI r), .int (iI z), .int (iI eZ)]))) (hpl : lo + 13 ≤ p) (h_x : -5000 ≤ x ∧ x ≤ 5000) (h_y : -5000 ≤ y ∧ y ≤ 5000) (h_r : -5000 ≤ r ∧ r ≤ 5000) (h_z : -5000 ≤ z ∧ z ≤ 5000) (h_eZ : -5000 ≤ eZ ∧ eZ ≤ 5000) (hr0 : 0 ≤ r) (px py t : Int) (hpx : -500000 ≤ px ∧ px ≤ 500000) (hpy : -500000 ≤ py ∧ py ≤ 500000) (ht : -500000 ≤ t ∧ t ≤ 500000) (hL1 : Ls.length < 50) (hL2 : Ls.flatten.length + 2 ≤ 100) : ch_C l (eE D cI cL cR lo) M_X2_lookFrom (rM 2 0 0) [.ref p, .int (iI px), .int (iI py), .int (iI t), .ref (lo + 3)] h hi (fun r0 h2 hi2 => r0 = none ∧ wwP cI cR lo h2 gw fx fy fl fh wc (Ls ++ [coS x y r z eZ px py t]) ∧ ch_fr (wwL lo) h h2 ∧ hi = hi2) := by
  refine ch_C.of rfl (Nat.le_of_ble_eq_true rfl) ?_
  obtain ⟨vK, hK⟩ := wwP_K W
  have q1 := sqI_b (v := px - x) (by omega)
  have q2 := sqI_b (v := py - y) (by omega)
  have q3 := sqI_b (v := r) (by omega)
  have q4 : sqI r ≤ 25000000 := sqI_le (B := 5000) (by omega) (by omega)
  refine gx_iload_n 1 dX2_lookFrom_0 rfl rfl ?_
  refine gx_aload_n 0 dX2_lookFrom_1 rfl rfl ?_
  refine gx_get (ci := 2) (f := 1) (C := RX2) (T := TX2) (N := 6) rfl inX2 (by decide) mw_1_223 dX2_lookFrom_2 hp rfl ?_
  refine gy_isub dX2_lookFrom_5 ?_
  refine gy_i2l dX2_lookFrom_6 (by constructor <;> omega) ?_
  refine gx_callSN (c_X11_square l D cI cL cR lo h hi (px - x)) ok_X11_square nw_4 mw_2_127 dX2_lookFrom_7 rfl rfl (Nat.le_of_ble_eq_true rfl) (by first | exact Nat.le_of_ble_eq_true rfl | (simp only [rM]; omega)) (by first | exact Nat.le_of_ble_eq_true rfl | (simp only [rM]; omega)) (by first | exact Nat.le_of_ble_eq_true rfl | (simp only [rM]; omega)) (by first | exact Nat.le_of_ble_eq_true rfl | (simp only [rM]; omega)) (fun r1 h2 u3 q4 g5 => ?_)
  obtain ⟨rfl, rfl, rfl⟩ := q4
  refine ch_Gst (st2 := [.long (lI (sqI (px - x)))]) rfl ?_
  refine gx_iload_n 2 dX2_lookFrom_10 rfl rfl ?_
  refine gx_aload_n 0 dX2_lookFrom_11 rfl rfl ?_
  refine gx_get (ci := 2) (f := 2) (C := RX2) (T := TX2) (N := 6) rfl inX2 (by decide) mw_1_224 dX2_lookFrom_12 hp rfl ?_
  refine gy_isub dX2_lookFrom_15 ?_
  refine gy_i2l dX2_lookFrom_16 (by constructor <;> omega) ?_
  refine gx_callSN (c_X11_square l D cI cL cR lo h hi (py - y)) ok_X11_square nw_4 mw_2_127 dX2_lookFrom_17 rfl rfl (Nat.le_of_ble_eq_true rfl) (by first | exact Nat.le_of_ble_eq_true rfl | (simp only [rM]; omega)) (by first | exact Nat.le_of_ble_eq_true rfl | (simp only [rM]; omega)) (by first | exact Nat.le_of_ble_eq_true rfl | (simp only [rM]; omega)) (by first | exact Nat.le_of_ble_eq_true rfl | (simp only [rM]; omega)) (fun r6 h7 u8 q9 g10 => ?_)
  obtain ⟨rfl, rfl, rfl⟩ := q9
  refine ch_Gst (st2 := [.long (lI (sqI (py - y))), .long (lI (sqI (px - x)))]) rfl ?_
  refine gy_ladd dX2_lookFrom_20 ?_
  refine gx_lstore [(5, .long (lI ((sqI (px - x)) + (sqI (py - y))))), (0, .ref p), (1, .int (iI px)), (2, .int (iI py)), (3, .int (iI t)), (4, .ref (lo + 3))] dX2_lookFrom_21 (by decide) rfl ?_
  refine gx_aload_n 1 dX2_lookFrom_23 rfl rfl ?_
  refine gx_get (ci := 2) (f := 5) (C := RX2) (T := TX2) (N := 6) rfl inX2 (by decide) mw_1_227 dX2_lookFrom_24 hp rfl ?_
  refine gx_aload_n 1 dX2_lookFrom_27 rfl rfl ?_
  refine gx_get (ci := 2) (f := 4) (C := RX2) (T := TX2) (N := 6) rfl inX2 (by decide) mw_1_226 dX2_lookFrom_28 hp rfl ?_
  refine gy_icmp_le 48 dX2_lookFrom_31 (by decide) (by constructor <;> omega) (by constructor <;> omega) (fun c31 => ?_) (fun c31 => ?_)
  · refine gx_aload 5 dX2_lookFrom_48 rfl ?_
    refine gx_callV (ci := 9) (c_X10_giveNone l D cI cL cR lo h hi gw fx fy fl fh wc Ls W hL1 hL2) ok_X10_giveNone mw_2_154 mw_2_130 mw_2_131 dX2_lookFrom_50 rfl hK rfl rfl (Nat.le_of_ble_eq_true rfl) (by first | exact Nat.le_of_ble_eq_true rfl | (simp only [rM]; omega)) (by first | exact Nat.le_of_ble_eq_true rfl | (simp only [rM]; omega)) (by first | exact Nat.le_of_ble_eq_true rfl | (simp only [rM]; omega)) (by first | exact Nat.le_of_ble_eq_true rfl | (simp only [rM]; omega)) (fun r11 h12 u13 q14 g15 => ?_)
    obtain ⟨rfl, W16, fr17, rfl⟩ := q14
    have k18 : h12 p = some (.inr (2, [.int (iI wt), .int (iI x), .int (iI y), .int (iI r), .int (iI z), .int (iI eZ)])) := by rw [fr17 p (wwL_out (by omega))]; exact hp
    obtain ⟨vK19, hK20⟩ := wwP_K W16
    refine ch_Gst (st2 := []) rfl ?_
    refine gx_goto 82 dX2_lookFrom_53 (by decide) ?_
    refine gx_vret rfl dX2_lookFrom_82 (by first | exact Nat.le_of_ble_eq_true rfl | (simp only [rM]; omega)) (by first | exact Nat.le_of_ble_eq_true rfl | (simp only [rM]; omega)) ?_
    exact ⟨rfl, by unfold coS; rw [if_pos (by omega)]; rw [← seg_00]; exact W16, fr17, rfl⟩
  · refine gx_lload 0 dX2_lookFrom_34 rfl ?_
    refine gx_aload_n 1 dX2_lookFrom_36 rfl rfl ?_
    refine gx_get (ci := 2) (f := 3) (C := RX2) (T := TX2) (N := 6) rfl inX2 (by decide) mw_1_225 dX2_lookFrom_37 hp rfl ?_
    refine gy_i2l dX2_lookFrom_40 (by constructor <;> omega) ?_
    refine gx_callSN (c_X11_square l D cI cL cR lo h hi r) ok_X11_square nw_4 mw_2_127 dX2_lookFrom_41 rfl rfl (Nat.le_of_ble_eq_true rfl) (by first | exact Nat.le_of_ble_eq_true rfl | (simp only [rM]; omega)) (by first | exact Nat.le_of_ble_eq_true rfl | (simp only [rM]; omega)) (by first | exact Nat.le_of_ble_eq_true rfl | (simp only [rM]; omega)) (by first | exact Nat.le_of_ble_eq_true rfl | (simp only [rM]; omega)) (fun r21 h22 u23 q24 g25 => ?_)
    obtain ⟨rfl, rfl, rfl⟩ := q24
    refine ch_Gst (st2 := [.long (lI (sqI r)), .long (lI ((sqI (px - x)) + (sqI (py - y))))]) rfl ?_
    refine gy_lcmp_le 56 dX2_lookFrom_44 dX2_lookFrom_45 (by decide) (by constructor <;> omega) (by constructor <;> omega) (fun c44 => ?_) (fun c44 => ?_)
    · refine gx_aload 5 dX2_lookFrom_56 rfl ?_
      refine gx_aload_n 1 dX2_lookFrom_58 rfl rfl ?_
      refine gx_get (ci := 2) (f := 4) (C := RX2) (T := TX2) (N := 6) rfl inX2 (by decide) mw_1_226 dX2_lookFrom_59 hp rfl ?_
      refine gx_iload_n 4 dX2_lookFrom_62 rfl rfl ?_
      refine gy_iadd dX2_lookFrom_63 ?_
      refine gx_aload_n 1 dX2_lookFrom_64 rfl rfl ?_
      refine gx_get (ci := 2) (f := 5) (C := RX2) (T := TX2) (N := 6) rfl inX2 (by decide) mw_1_227 dX2_lookFrom_65 hp rfl ?_
      refine gx_aload_n 1 dX2_lookFrom_68 rfl rfl ?_
      refine gx_lload 0 dX2_lookFrom_69 rfl ?_
      refine gx_callV (ci := 2) (c_X2_leastDepth l D cI cL cR lo h hi p wt x y r z eZ hp (by omega) (by omega) (by omega) (by omega) ((sqI (px - x)) + (sqI (py - y))) (by omega)) ok_X2_leastDepth mw_2_155 mw_2_157 mw_p_10 dX2_lookFrom_71 rfl hp rfl rfl (Nat.le_of_ble_eq_true rfl) (by first | exact Nat.le_of_ble_eq_true rfl | (simp only [rM]; omega)) (by first | exact Nat.le_of_ble_eq_true rfl | (simp only [rM]; omega)) (by first | exact Nat.le_of_ble_eq_true rfl | (simp only [rM]; omega)) (by first | exact Nat.le_of_ble_eq_true rfl | (simp only [rM]; omega)) (fun r26 h27 u28 q29 g30 => ?_)
      obtain ⟨rfl, rfl, rfl⟩ := q29
      have hrt := ldB_in (nd := ((sqI (px - x)) + (sqI (py - y))) * sqI (eZ - z)) (rr := sqI r) 32 1 (eZ - z) (by omega)
      refine ch_Gst (st2 := [.int (iI (ldB (((sqI (px - x)) + (sqI (py - y))) * sqI (eZ - z)) (sqI r) 32 1 (eZ - z))), .int (iI eZ), .int (iI (z + t)), .ref (lo + 3)]) rfl ?_
      refine gy_isub dX2_lookFrom_74 ?_
      refine gx_iconst (iI 1) dX2_lookFrom_75 rfl ?_
      refine gy_iadd dX2_lookFrom_76 ?_
      refine gx_iload_n 4 dX2_lookFrom_77 rfl rfl ?_
      refine gy_iadd dX2_lookFrom_78 ?_
      refine gx_callV (ci := 9) (c_X10_give l D cI cL cR lo h hi gw fx fy fl fh wc Ls W hL1 hL2 (z + t) (((eZ - (ldB (((sqI (px - x)) + (sqI (py - y))) * sqI (eZ - z)) (sqI r) 32 1 (eZ - z))) + 1) + t) (by omega) (by omega)) ok_X10_give mw_2_159 mw_2_142 mw_2_143 dX2_lookFrom_79 rfl hK rfl rfl (Nat.le_of_ble_eq_true rfl) (by first | exact Nat.le_of_ble_eq_true rfl | (simp only [rM]; omega)) (by first | exact Nat.le_of_ble_eq_true rfl | (simp only [rM]; omega)) (by first | exact Nat.le_of_ble_eq_true rfl | (simp only [rM]; omega)) (by first | exact Nat.le_of_ble_eq_true rfl | (simp only [rM]; omega)) (fun r31 h32 u33 q34 g35 => ?_)
      obtain ⟨rfl, W36, fr37, rfl⟩ := q34
      have k38 : h32 p = some (.inr (2, [.int (iI wt), .int (iI x), .int (iI y), .int (iI r), .int (iI z), .int (iI eZ)])) := by rw [fr37 p (wwL_out (by omega))]; exact hp
      obtain ⟨vK39, hK40⟩ := wwP_K W36
      refine ch_Gst (st2 := []) rfl ?_
      refine gx_vret rfl dX2_lookFrom_82 (by first | exact Nat.le_of_ble_eq_true rfl | (simp only [rM]; omega)) (by first | exact Nat.le_of_ble_eq_true rfl | (simp only [rM]; omega)) ?_
      exact ⟨rfl, by unfold coS; rw [if_neg (by omega)]; exact W36, fr37, rfl⟩
    · refine gx_aload 5 dX2_lookFrom_48 rfl ?_
      refine gx_callV (ci := 9) (c_X10_giveNone l D cI cL cR lo h hi gw fx fy fl fh wc Ls W hL1 hL2) ok_X10_giveNone mw_2_154 mw_2_130 mw_2_131 dX2_lookFrom_50 rfl hK rfl rfl (Nat.le_of_ble_eq_true rfl) (by first | exact Nat.le_of_ble_eq_true rfl | (simp only [rM]; omega)) (by first | exact Nat.le_of_ble_eq_true rfl | (simp only [rM]; omega)) (by first | exact Nat.le_of_ble_eq_true rfl | (simp only [rM]; omega)) (by first | exact Nat.le_of_ble_eq_true rfl | (simp only [rM]; omega)) (fun r41 h42 u43 q44 g45 => ?_)
      obtain ⟨rfl, W46, fr47, rfl⟩ := q44
      have k48 : h42 p = some (.inr (2, [.int (iI wt), .int (iI x), .int (iI y), .int (iI r), .int (iI z), .int (iI eZ)])) := by rw [fr47 p (wwL_out (by omega))]; exact hp
      obtain ⟨vK49, hK50⟩ := wwP_K W46
      refine ch_Gst (st2 := []) rfl ?_
      refine gx_goto 82 dX2_lookFrom_53 (by decide) ?_
      refine gx_vret rfl dX2_lookFrom_82 (by first | exact Nat.le_of_ble_eq_true rfl | (simp only [rM]; omega)) (by first | exact Nat.le_of_ble_eq_true rfl | (simp only [rM]; omega)) ?_
      exact ⟨rfl, by unfold coS; rw [if_pos (by omega)]; rw [← seg_00]; exact W46, fr47, rfl⟩
set_option maxHeartbeats 4000000 in
set_option maxRecDepth 100000 in
theorem c_X4_lookFrom (l : Launch) (D : va_G) (cI cL cR : ClassId) (lo : Nat) (h : ch_H) (hi : Nat) (gw : Nat → Option Nat) (fx fy fl fh : Nat → Int) (wc : Int) (Ls : List (List Int)) (W : wwP cI cR lo h gw fx fy fl fh wc Ls) (p a b : Nat) (wt how : Int) (hp : h p = some (.inr (4, [.int (iI wt), .ref a, .ref b, .int (iI how)]))) (hpl : lo + 13 ≤ p) (px py t : Int) (hpx : -500000 ≤ px ∧ px ≤ 500000) (hpy : -500000 ≤ py ∧ py ≤ 500000) (ht : -500000 ≤ t ∧ t ≤ 500000) (ca : Nat) (va : List Value) (ha : h a = some (.inr (ca, va))) (hSa : isS ca) (la : lo + 13 ≤ a) (cb : Nat) (vb : List Value) (hb : h b = some (.inr (cb, vb))) (hSb : isS cb) (lb : lo + 13 ≤ b) (hwc : 0 ≤ wc ∧ wc + 3 ≤ 100) : ch_C l (eE D cI cL cR lo) M_X4_lookFrom (rM 2 0 0) [.ref p, .int (iI px), .int (iI py), .int (iI t), .ref (lo + 3)] h hi (fun r0 h2 hi2 => r0 = none ∧ wwP cI cR lo h2 (va_up (va_up (va_up gw wc.toNat none) (wc + 1).toNat (some b)) (wc + 1 + 1).toNat (some a)) (updI (updI fx (wc + 1).toNat px) (wc + 1 + 1).toNat px) (updI (updI fy (wc + 1).toNat py) (wc + 1 + 1).toNat py) (updI (updI fl (wc + 1).toNat t) (wc + 1 + 1).toNat t) (updI fh wc.toNat how) (wc + 1 + 1 + 1) Ls ∧ ch_fr (wwL lo) h h2 ∧ hi = hi2) := by
  refine ch_C.of rfl (Nat.le_of_ble_eq_true rfl) ?_
  obtain ⟨vK, hK⟩ := wwP_K W
  refine gx_aload 4 dX4_lookFrom_0 rfl ?_
  refine gx_aload_n 0 dX4_lookFrom_2 rfl rfl ?_
  refine gx_get (ci := 4) (f := 3) (C := RX4) (T := TX4) (N := 4) rfl inX4 (by decide) mw_2_20 dX4_lookFrom_3 hp rfl ?_
  refine gx_callV (ci := 9) (c_X10_awaitJoin l D cI cL cR lo h hi gw fx fy fl fh wc Ls W (by omega) how) ok_X10_awaitJoin mw_2_163 mw_2_164 mw_2_165 dX4_lookFrom_6 rfl hK rfl rfl (Nat.le_of_ble_eq_true rfl) (by first | exact Nat.le_of_ble_eq_true rfl | (simp only [rM]; omega)) (by first | exact Nat.le_of_ble_eq_true rfl | (simp only [rM]; omega)) (by first | exact Nat.le_of_ble_eq_true rfl | (simp only [rM]; omega)) (by first | exact Nat.le_of_ble_eq_true rfl | (simp only [rM]; omega)) (fun r1 h2 u3 q4 g5 => ?_)
  obtain ⟨rfl, W6, fr7, rfl⟩ := q4
  have k8 : h2 p = some (.inr (4, [.int (iI wt), .ref a, .ref b, .int (iI how)])) := by rw [fr7 p (wwL_out (by omega))]; exact hp
  have k9 : h2 a = some (.inr (ca, va)) := by rw [fr7 a (wwL_out (by omega))]; exact ha
  have k10 : h2 b = some (.inr (cb, vb)) := by rw [fr7 b (wwL_out (by omega))]; exact hb
  obtain ⟨vK11, hK12⟩ := wwP_K W6
  refine ch_Gst (st2 := []) rfl ?_
  refine gx_aload 4 dX4_lookFrom_9 rfl ?_
  refine gx_aload_n 0 dX4_lookFrom_11 rfl rfl ?_
  refine gx_get (ci := 4) (f := 2) (C := RX4) (T := TX4) (N := 4) rfl inX4 (by decide) mw_2_19 dX4_lookFrom_12 k8 rfl ?_
  refine gx_iload_n 1 dX4_lookFrom_15 rfl rfl ?_
  refine gx_iload_n 2 dX4_lookFrom_16 rfl rfl ?_
  refine gx_iload_n 3 dX4_lookFrom_17 rfl rfl ?_
  refine gx_callV (ci := 9) (c_X10_await l D cI cL cR lo h2 hi (va_up gw wc.toNat none) fx fy fl (updI fh wc.toNat how) (wc + 1) Ls W6 b cb vb k10 hSb (by omega) (by omega) px py t) ok_X10_await mw_2_167 mw_2_98 mw_2_99 dX4_lookFrom_18 rfl hK12 rfl rfl (Nat.le_of_ble_eq_true rfl) (by first | exact Nat.le_of_ble_eq_true rfl | (simp only [rM]; omega)) (by first | exact Nat.le_of_ble_eq_true rfl | (simp only [rM]; omega)) (by first | exact Nat.le_of_ble_eq_true rfl | (simp only [rM]; omega)) (by first | exact Nat.le_of_ble_eq_true rfl | (simp only [rM]; omega)) (fun r13 h14 u15 q16 g17 => ?_)
  obtain ⟨rfl, W18, fr19, rfl⟩ := q16
  have k20 : h14 p = some (.inr (4, [.int (iI wt), .ref a, .ref b, .int (iI how)])) := by rw [fr19 p (wwL_out (by omega))]; exact k8
  have k21 : h14 a = some (.inr (ca, va)) := by rw [fr19 a (wwL_out (by omega))]; exact k9
  have k22 : h14 b = some (.inr (cb, vb)) := by rw [fr19 b (wwL_out (by omega))]; exact k10
  obtain ⟨vK23, hK24⟩ := wwP_K W18
  refine ch_Gst (st2 := []) rfl ?_
  refine gx_aload 4 dX4_lookFrom_21 rfl ?_
  refine gx_aload_n 0 dX4_lookFrom_23 rfl rfl ?_
  refine gx_get (ci := 4) (f := 1) (C := RX4) (T := TX4) (N := 4) rfl inX4 (by decide) mw_2_18 dX4_lookFrom_24 k20 rfl ?_
  refine gx_iload_n 1 dX4_lookFrom_27 rfl rfl ?_
  refine gx_iload_n 2 dX4_lookFrom_28 rfl rfl ?_
  refine gx_iload_n 3 dX4_lookFrom_29 rfl rfl ?_
  refine gx_callV (ci := 9) (c_X10_await l D cI cL cR lo h14 hi (va_up (va_up gw wc.toNat none) (wc + 1).toNat (some b)) (updI fx (wc + 1).toNat px) (updI fy (wc + 1).toNat py) (updI fl (wc + 1).toNat t) (updI fh wc.toNat how) (wc + 1 + 1) Ls W18 a ca va k21 hSa (by omega) (by omega) px py t) ok_X10_await mw_2_167 mw_2_98 mw_2_99 dX4_lookFrom_30 rfl hK24 rfl rfl (Nat.le_of_ble_eq_true rfl) (by first | exact Nat.le_of_ble_eq_true rfl | (simp only [rM]; omega)) (by first | exact Nat.le_of_ble_eq_true rfl | (simp only [rM]; omega)) (by first | exact Nat.le_of_ble_eq_true rfl | (simp only [rM]; omega)) (by first | exact Nat.le_of_ble_eq_true rfl | (simp only [rM]; omega)) (fun r25 h26 u27 q28 g29 => ?_)
  obtain ⟨rfl, W30, fr31, rfl⟩ := q28
  have k32 : h26 p = some (.inr (4, [.int (iI wt), .ref a, .ref b, .int (iI how)])) := by rw [fr31 p (wwL_out (by omega))]; exact k20
  have k33 : h26 a = some (.inr (ca, va)) := by rw [fr31 a (wwL_out (by omega))]; exact k21
  have k34 : h26 b = some (.inr (cb, vb)) := by rw [fr31 b (wwL_out (by omega))]; exact k22
  obtain ⟨vK35, hK36⟩ := wwP_K W30
  refine ch_Gst (st2 := []) rfl ?_
  refine gx_vret rfl dX4_lookFrom_33 (by first | exact Nat.le_of_ble_eq_true rfl | (simp only [rM]; omega)) (by first | exact Nat.le_of_ble_eq_true rfl | (simp only [rM]; omega)) ?_
  exact ⟨rfl, W30, ch_frT (ch_frT fr7 fr19 (fun _ q => q)) fr31 (fun _ q => q), rfl⟩
set_option maxHeartbeats 4000000 in
set_option maxRecDepth 100000 in
theorem c_X5_lookFrom (l : Launch) (D : va_G) (cI cL cR : ClassId) (lo : Nat) (h : ch_H) (hi : Nat) (gw : Nat → Option Nat) (fx fy fl fh : Nat → Int) (wc : Int) (Ls : List (List Int)) (W : wwP cI cR lo h gw fx fy fl fh wc Ls) (p a : Nat) (wt bx bY bz : Int) (hp : h p = some (.inr (5, [.int (iI wt), .ref a, .int (iI bx), .int (iI bY), .int (iI bz)]))) (hpl : lo + 13 ≤ p) (px py t : Int) (hpx : -500000 ≤ px ∧ px ≤ 500000) (hpy : -500000 ≤ py ∧ py ≤ 500000) (ht : -500000 ≤ t ∧ t ≤ 500000) (ca : Nat) (va : List Value) (ha : h a = some (.inr (ca, va))) (hSa : isS ca) (la : lo + 13 ≤ a) (hwc : 0 ≤ wc ∧ wc + 1 ≤ 100) : ch_C l (eE D cI cL cR lo) M_X5_lookFrom (rM 2 0 0) [.ref p, .int (iI px), .int (iI py), .int (iI t), .ref (lo + 3)] h hi (fun r0 h2 hi2 => r0 = none ∧ wwP cI cR lo h2 (va_up gw wc.toNat (some a)) (updI fx wc.toNat (px - bx)) (updI fy wc.toNat (py - bY)) (updI fl wc.toNat (t + bz)) fh (wc + 1) Ls ∧ ch_fr (wwL lo) h h2 ∧ hi = hi2) := by
  refine ch_C.of rfl (Nat.le_of_ble_eq_true rfl) ?_
  obtain ⟨vK, hK⟩ := wwP_K W
  refine gx_aload 4 dX5_lookFrom_0 rfl ?_
  refine gx_aload_n 0 dX5_lookFrom_2 rfl rfl ?_
  refine gx_get (ci := 5) (f := 1) (C := RX5) (T := TX5) (N := 5) rfl inX5 (by decide) mw_2_39 dX5_lookFrom_3 hp rfl ?_
  refine gx_iload_n 1 dX5_lookFrom_6 rfl rfl ?_
  refine gx_aload_n 0 dX5_lookFrom_7 rfl rfl ?_
  refine gx_get (ci := 5) (f := 2) (C := RX5) (T := TX5) (N := 5) rfl inX5 (by decide) mw_2_40 dX5_lookFrom_8 hp rfl ?_
  refine gy_isub dX5_lookFrom_11 ?_
  refine gx_iload_n 2 dX5_lookFrom_12 rfl rfl ?_
  refine gx_aload_n 0 dX5_lookFrom_13 rfl rfl ?_
  refine gx_get (ci := 5) (f := 3) (C := RX5) (T := TX5) (N := 5) rfl inX5 (by decide) mw_2_41 dX5_lookFrom_14 hp rfl ?_
  refine gy_isub dX5_lookFrom_17 ?_
  refine gx_iload_n 3 dX5_lookFrom_18 rfl rfl ?_
  refine gx_aload_n 0 dX5_lookFrom_19 rfl rfl ?_
  refine gx_get (ci := 5) (f := 4) (C := RX5) (T := TX5) (N := 5) rfl inX5 (by decide) mw_2_42 dX5_lookFrom_20 hp rfl ?_
  refine gy_iadd dX5_lookFrom_23 ?_
  refine gx_callV (ci := 9) (c_X10_await l D cI cL cR lo h hi gw fx fy fl fh wc Ls W a ca va ha hSa (by omega) (by omega) (px - bx) (py - bY) (t + bz)) ok_X10_await mw_2_171 mw_2_98 mw_2_99 dX5_lookFrom_24 rfl hK rfl rfl (Nat.le_of_ble_eq_true rfl) (by first | exact Nat.le_of_ble_eq_true rfl | (simp only [rM]; omega)) (by first | exact Nat.le_of_ble_eq_true rfl | (simp only [rM]; omega)) (by first | exact Nat.le_of_ble_eq_true rfl | (simp only [rM]; omega)) (by first | exact Nat.le_of_ble_eq_true rfl | (simp only [rM]; omega)) (fun r1 h2 u3 q4 g5 => ?_)
  obtain ⟨rfl, W6, fr7, rfl⟩ := q4
  have k8 : h2 p = some (.inr (5, [.int (iI wt), .ref a, .int (iI bx), .int (iI bY), .int (iI bz)])) := by rw [fr7 p (wwL_out (by omega))]; exact hp
  have k9 : h2 a = some (.inr (ca, va)) := by rw [fr7 a (wwL_out (by omega))]; exact ha
  obtain ⟨vK10, hK11⟩ := wwP_K W6
  refine ch_Gst (st2 := []) rfl ?_
  refine gx_vret rfl dX5_lookFrom_27 (by first | exact Nat.le_of_ble_eq_true rfl | (simp only [rM]; omega)) (by first | exact Nat.le_of_ble_eq_true rfl | (simp only [rM]; omega)) ?_
  exact ⟨rfl, W6, fr7, rfl⟩
set_option maxHeartbeats 4000000 in
set_option maxRecDepth 100000 in
theorem c_X9_lookFrom (l : Launch) (D : va_G) (cI cL cR : ClassId) (lo : Nat) (h : ch_H) (hi : Nat) (gw : Nat → Option Nat) (fx fy fl fh : Nat → Int) (wc : Int) (Ls : List (List Int)) (W : wwP cI cR lo h gw fx fy fl fh wc Ls) (p a : Nat) (wt : Int) (hp : h p = some (.inr (8, [.int (iI wt), .ref a]))) (hpl : lo + 13 ≤ p) (px py t : Int) (hpx : -500000 ≤ px ∧ px ≤ 500000) (hpy : -500000 ≤ py ∧ py ≤ 500000) (ht : -500000 ≤ t ∧ t ≤ 500000) (ca : Nat) (va : List Value) (ha : h a = some (.inr (ca, va))) (hSa : isS ca) (la : lo + 13 ≤ a) (hwc : 0 ≤ wc ∧ wc + 1 ≤ 100) : ch_C l (eE D cI cL cR lo) M_X9_lookFrom (rM 2 0 0) [.ref p, .int (iI px), .int (iI py), .int (iI t), .ref (lo + 3)] h hi (fun r0 h2 hi2 => r0 = none ∧ wwP cI cR lo h2 (va_up gw wc.toNat (some a)) (updI fx wc.toNat py) (updI fy wc.toNat (-px)) (updI fl wc.toNat t) fh (wc + 1) Ls ∧ ch_fr (wwL lo) h h2 ∧ hi = hi2) := by
  refine ch_C.of rfl (Nat.le_of_ble_eq_true rfl) ?_
  obtain ⟨vK, hK⟩ := wwP_K W
  refine gx_aload 4 dX9_lookFrom_0 rfl ?_
  refine gx_aload_n 0 dX9_lookFrom_2 rfl rfl ?_
  refine gx_get (ci := 8) (f := 1) (C := RX9) (T := TX9) (N := 2) rfl inX9 (by decide) mw_2_63 dX9_lookFrom_3 hp rfl ?_
  refine gx_iload_n 2 dX9_lookFrom_6 rfl rfl ?_
  refine gx_iload_n 1 dX9_lookFrom_7 rfl rfl ?_
  refine gy_ineg dX9_lookFrom_8 ?_
  refine gx_iload_n 3 dX9_lookFrom_9 rfl rfl ?_
  refine gx_callV (ci := 9) (c_X10_await l D cI cL cR lo h hi gw fx fy fl fh wc Ls W a ca va ha hSa (by omega) (by omega) py (-px) t) ok_X10_await mw_2_181 mw_2_98 mw_2_99 dX9_lookFrom_10 rfl hK rfl rfl (Nat.le_of_ble_eq_true rfl) (by first | exact Nat.le_of_ble_eq_true rfl | (simp only [rM]; omega)) (by first | exact Nat.le_of_ble_eq_true rfl | (simp only [rM]; omega)) (by first | exact Nat.le_of_ble_eq_true rfl | (simp only [rM]; omega)) (by first | exact Nat.le_of_ble_eq_true rfl | (simp only [rM]; omega)) (fun r1 h2 u3 q4 g5 => ?_)
  obtain ⟨rfl, W6, fr7, rfl⟩ := q4
  have k8 : h2 p = some (.inr (8, [.int (iI wt), .ref a])) := by rw [fr7 p (wwL_out (by omega))]; exact hp
  have k9 : h2 a = some (.inr (ca, va)) := by rw [fr7 a (wwL_out (by omega))]; exact ha
  obtain ⟨vK10, hK11⟩ := wwP_K W6
  refine ch_Gst (st2 := []) rfl ?_
  refine gx_vret rfl dX9_lookFrom_13 (by first | exact Nat.le_of_ble_eq_true rfl | (simp only [rM]; omega)) (by first | exact Nat.le_of_ble_eq_true rfl | (simp only [rM]; omega)) ?_
  exact ⟨rfl, W6, fr7, rfl⟩
end
end
section
section
theorem nxE_c {fe : Nat → Int} {mid ec a b : Int} (h : a < mid ∨ b < ec) : (a < mid ∧ fe a.toNat = nxE fe mid ec a b) ∨ (b < ec ∧ fe b.toNat = nxE fe mid ec a b) := by
  unfold nxE
  by_cases h1 : mid ≤ a
  · rw [if_pos h1, if_pos (by omega)]
    exact Or.inr ⟨by omega, rfl⟩
  · rw [if_neg h1]
    by_cases h2 : b < ec ∧ fe b.toNat < fe a.toNat
    · rw [if_pos h2]; exact Or.inr ⟨h2.1, rfl⟩
    · rw [if_neg h2]; exact Or.inl ⟨by omega, rfl⟩
theorem mxS_len {fe : Nat → Int} {mid ec how : Int} : ∀ (k : Nat) (a b : Int) (p q j : Bool), a ≤ mid → b ≤ ec → ((mxS fe mid ec how k a b p q j).length : Int) ≤ (mid - a) + (ec - b) := by
  intro k
  induction k with
  | zero => intro a b p q j h1 h2; rw [mxS]; simp; omega
  | succ k ih =>
    intro a b p q j h1 h2
    rw [mxS]
    by_cases hc : a < mid ∨ b < ec
    · rw [if_pos hc]
      have hcc := nxE_c (fe := fe) hc
      obtain ⟨a2, ea⟩ : ∃ z, z = (if a < mid ∧ fe a.toNat = nxE fe mid ec a b then a + 1 else a) := ⟨_, rfl⟩
      obtain ⟨b2, eb⟩ : ∃ z, z = (if b < ec ∧ fe b.toNat = nxE fe mid ec a b then b + 1 else b) := ⟨_, rfl⟩
      have ha2 : a ≤ a2 ∧ a2 ≤ mid := by rw [ea]; split <;> omega
      have hb2 : b ≤ b2 ∧ b2 ≤ ec := by rw [eb]; split <;> omega
      have hs : a + b + 1 ≤ a2 + b2 := by
        rcases hcc with hcc | hcc
        · rw [if_pos hcc] at ea; omega
        · rw [if_pos hcc] at eb; omega
      rw [← ea, ← eb]
      generalize (if a < mid ∧ fe a.toNat = nxE fe mid ec a b then !p else p) = p2
      generalize (if b < ec ∧ fe b.toNat = nxE fe mid ec a b then !q else q) = q2
      by_cases hj : jnB how p2 q2 = j
      · rw [if_pos hj]
        have := ih a2 b2 p2 q2 j ha2.2 hb2.2
        omega
      · rw [if_neg hj]
        have := ih a2 b2 p2 q2 (!j) ha2.2 hb2.2
        simp only [List.length_cons]
        omega
    · rw [if_neg hc]; simp; omega
theorem nxE_sh {fe g : Nat → Int} {s mid ec a b : Int} (hs : 0 ≤ s) (ha : 0 ≤ a) (hb : 0 ≤ b) (hm : mid ≤ ec) (hg : ∀ j : Nat, (j : Int) < ec → fe (s.toNat + j) = g j) : nxE fe (s + mid) (s + ec) (s + a) (s + b) = nxE g mid ec a b := by
  have ra : a < ec → fe (s + a).toNat = g a.toNat := fun h => by rw [← hg a.toNat (by omega)]; congr 1; omega
  have rb : b < ec → fe (s + b).toNat = g b.toNat := fun h => by rw [← hg b.toNat (by omega)]; congr 1; omega
  unfold nxE
  by_cases h1 : mid ≤ a
  · rw [if_pos h1, if_pos (by omega)]
    by_cases h2 : b < ec
    · rw [if_pos h2, if_pos (by omega), rb h2]
    · rw [if_neg h2, if_neg (by omega)]
  · rw [if_neg h1, if_neg (by omega), ra (by omega)]
    by_cases h2 : b < ec
    · rw [rb h2]
      by_cases h3 : g b.toNat < g a.toNat
      · rw [if_pos ⟨by omega, h3⟩, if_pos ⟨h2, h3⟩]
      · rw [if_neg (fun q => h3 q.2), if_neg (fun q => h3 q.2)]
    · rw [if_neg (by omega), if_neg (by omega)]
theorem mxS_sh {fe g : Nat → Int} {s mid ec how : Int} (hs : 0 ≤ s) (hm : mid ≤ ec) (hg : ∀ j : Nat, (j : Int) < ec → fe (s.toNat + j) = g j) : ∀ (k : Nat) (a b : Int) (p q j : Bool), 0 ≤ a → 0 ≤ b → mxS fe (s + mid) (s + ec) how k (s + a) (s + b) p q j = mxS g mid ec how k a b p q j := by
  intro k
  induction k with
  | zero => intro a b p q j _ _; rw [mxS, mxS]
  | succ k ih =>
    intro a b p q j ha hb
    rw [mxS, mxS]
    have hz := nxE_sh (fe := fe) (g := g) hs ha hb hm hg
    rw [hz]
    have ca : (s + a < s + mid ∧ fe (s + a).toNat = nxE g mid ec a b) ↔ (a < mid ∧ g a.toNat = nxE g mid ec a b) := by
      by_cases h : a < mid
      · have e : fe (s + a).toNat = g a.toNat := by rw [← hg a.toNat (by omega)]; congr 1; omega
        rw [e]; constructor <;> (intro q; exact ⟨by omega, q.2⟩)
      · constructor <;> (intro q; exfalso; omega)
    have cb : (s + b < s + ec ∧ fe (s + b).toNat = nxE g mid ec a b) ↔ (b < ec ∧ g b.toNat = nxE g mid ec a b) := by
      by_cases h : b < ec
      · have e : fe (s + b).toNat = g b.toNat := by rw [← hg b.toNat (by omega)]; congr 1; omega
        rw [e]; constructor <;> (intro q; exact ⟨by omega, q.2⟩)
      · constructor <;> (intro q; exfalso; omega)
    have cc : (s + a < s + mid ∨ s + b < s + ec) ↔ (a < mid ∨ b < ec) := by omega
    simp only [ca, cb, cc]
    by_cases h1 : a < mid ∧ g a.toNat = nxE g mid ec a b <;> by_cases h2 : b < ec ∧ g b.toNat = nxE g mid ec a b <;>
      simp only [h1, h2, if_true, if_false, and_self, Int.add_assoc, ih _ _ _ _ _ (by omega : 0 ≤ a) (by omega : 0 ≤ b), ih _ _ _ _ _ (by omega : 0 ≤ a + 1) (by omega : 0 ≤ b), ih _ _ _ _ _ (by omega : 0 ≤ a) (by omega : 0 ≤ b + 1), ih _ _ _ _ _ (by omega : 0 ≤ a + 1) (by omega : 0 ≤ b + 1)]
/-- the join of two rows of edges -/
def mixL (how : Int) (X Y : List Int) : List Int := mxS (fun j => (X ++ Y).getD j 0) X.length (X.length + Y.length) how 100 0 X.length false false false
theorem mixL_len (how : Int) (X Y : List Int) : (mixL how X Y).length ≤ X.length + Y.length := by
  have := mxS_len (fe := fun j => (X ++ Y).getD j 0) (mid := X.length) (ec := (X.length : Int) + Y.length) (how := how) 100 0 X.length false false false (by omega) (by omega)
  unfold mixL
  omega
/-- the two newest rows, and their join in their place -/
theorem fsR_top {Ls : List (List Int)} {X Y : List Int} {fe fs : Nat → Int} {ec sc : Int} (H : fsR (Ls ++ [X, Y]) fe fs ec sc) (how : Int) : 2 ≤ sc ∧ fs (sc - 2).toNat = (Ls.flatten.length : Int) ∧ fs (sc - 1).toNat = (Ls.flatten.length : Int) + X.length ∧ ec = (Ls.flatten.length : Int) + X.length + Y.length ∧ mxS fe ((Ls.flatten.length : Int) + X.length) ec how 100 (Ls.flatten.length : Int) ((Ls.flatten.length : Int) + X.length) false false false = mixL how X Y := by
  obtain ⟨h1, h2, h3, h4, h5⟩ := H
  have hl : (Ls ++ [X, Y]).length = Ls.length + 2 := by simp
  have hf : (Ls ++ [X, Y]).flatten = Ls.flatten ++ (X ++ Y) := by simp
  have e1 : fs (sc - 2).toNat = (Ls.flatten.length : Int) := by
    rw [show (sc - 2).toNat = Ls.length by omega, h4 _ (by omega), List.take_left]
  have e2 : fs (sc - 1).toNat = (Ls.flatten.length : Int) + X.length := by
    rw [show (sc - 1).toNat = Ls.length + 1 by omega, h4 _ (by omega), List.take_append, List.take_of_length_le (by omega), show Ls.length + 1 - Ls.length = 1 by omega]
    simp
  have e3 : ec = (Ls.flatten.length : Int) + X.length + Y.length := by
    rw [h2, hf]; simp; omega
  refine ⟨by omega, e1, e2, e3, ?_⟩
  have := mxS_sh (fe := fe) (g := fun j => (X ++ Y).getD j 0) (s := (Ls.flatten.length : Int)) (mid := X.length) (ec := (X.length : Int) + Y.length) (how := how) (by omega) (by omega) (fun j hj => by
    have h6 := h3 (Ls.flatten.length + j) (by rw [hf]; simp; omega)
    rw [hf, List.getElem?_append_right (by omega), show Ls.flatten.length + j - Ls.flatten.length = j by omega] at h6
    rw [Int.toNat_natCast]
    show _ = (X ++ Y).getD j 0
    rw [List.getD_eq_getElem?_getD, h6]; rfl) 100 0 X.length false false false (by omega) (by omega)
  unfold mixL
  rw [← this, e3]
  simp only [Int.add_zero, Int.add_assoc]
theorem fsR_join {Ls : List (List Int)} {X Y O : List Int} {fe fs fe2 : Nat → Int} {ec sc : Int} (H : fsR (Ls ++ [X, Y]) fe fs ec sc) (k1 : ∀ j : Nat, (j : Int) < (Ls.flatten.length : Int) → fe2 j = fe j) (k2 : ∀ i, i < O.length → O[i]? = some (fe2 ((Ls.flatten.length : Int).toNat + i))) (k3 : ∀ j, -1000000 ≤ fe2 j ∧ fe2 j ≤ 1000000) : fsR (Ls ++ [O]) fe2 fs ((Ls.flatten.length : Int) + O.length) (sc - 1) := by
  obtain ⟨h1, h2, h3, h4, h5⟩ := H
  have hl : (Ls ++ [X, Y]).length = Ls.length + 2 := by simp
  have hf : (Ls ++ [X, Y]).flatten = Ls.flatten ++ (X ++ Y) := by simp
  have hf2 : (Ls ++ [O]).flatten = Ls.flatten ++ O := by simp
  refine ⟨by simp; omega, by rw [hf2]; simp, ?_, ?_, k3⟩
  · intro j hj
    rw [hf2] at hj ⊢
    rw [List.length_append] at hj
    by_cases q : j < Ls.flatten.length
    · rw [List.getElem?_append_left q, k1 j (by omega), ← h3 j (by rw [hf, List.length_append]; omega), hf, List.getElem?_append_left q]
    · rw [List.getElem?_append_right (by omega), k2 _ (by omega)]
      congr 2
      omega
  · intro i hi
    rw [h4 i (by simp at hi; omega)]
    simp at hi
    rw [List.take_append_of_le_length (by omega), List.take_append_of_le_length (by omega)]
set_option maxHeartbeats 4000000 in
set_option maxRecDepth 100000 in
theorem c_X10_lookAt_0 (l : Launch) (D : va_G) (cI cL cR : ClassId) (lo : Nat) (h : ch_H) (hi : Nat) (gw : Nat → Option Nat) (fx fy fl fh : Nat → Int) (wc : Int) (Ls : List (List Int)) (W : wwP cI cR lo h gw fx fy fl fh wc Ls) (p : Nat) (vs : List Value) (hp : h p = some (.inr (0, vs))) (z x y t : Int) (hz : 0 ≤ z ∧ z < 100) (e1 : gw z.toNat = some p) (e2 : fx z.toNat = x) (e3 : fy z.toNat = y) (e4 : fl z.toNat = t) (Q : Option Value → ch_H → Nat → Prop) (hQ : ∀ r h2 hi2, Q r h2 hi2 → r = none) (C0 : ch_C l (eE D cI cL cR lo) M_X0_lookFrom (rM 2 0 0) [.ref p, .int (iI x), .int (iI y), .int (iI t), .ref (lo + 3)] h hi Q) : ch_C l (eE D cI cL cR lo) M_X10_lookAt (rM 3 0 0) [.ref (lo + 3), .int (iI z)] h hi (fun r0 h2 hi2 => Q r0 h2 hi2) := by
  refine ch_C.of rfl (Nat.le_of_ble_eq_true rfl) ?_
  obtain ⟨fe, fs, fm, ec, sc, W0, W1, W2, W3, W4, W5, W6, W7, W8, W9, hfs⟩ := W
  refine gx_aload_n 0 dX10_lookAt_0 rfl rfl ?_
  refine gx_get (ci := 9) (f := 0) (C := RX10) (T := TX10) (N := 7) rfl inX10 (by decide) mw_1_55 dX10_lookAt_1 W0 rfl ?_
  refine gx_iload_n 1 dX10_lookAt_4 rfl rfl ?_
  refine gy_aald dX10_lookAt_5 W1 (by omega) (by omega) (by decide) ?_
  refine ch_Gst (st2 := [.ref p]) (by rw [e1]; try rfl) ?_
  refine gx_astore_n [(2, .ref p), (0, .ref (lo + 3)), (1, .int (iI z))] dX10_lookAt_6 rfl (by decide) rfl ?_
  refine gx_aload_n 0 dX10_lookAt_7 rfl rfl ?_
  refine gx_ifnonnullA 27 dX10_lookAt_8 (by decide) ?_
  refine gx_aload_n 0 dX10_lookAt_27 rfl rfl ?_
  refine gx_aload_n 1 dX10_lookAt_28 rfl rfl ?_
  refine gx_get (ci := 9) (f := 1) (C := RX10) (T := TX10) (N := 7) rfl inX10 (by decide) mw_1_56 dX10_lookAt_29 W0 rfl ?_
  refine gx_iload_n 2 dX10_lookAt_32 rfl rfl ?_
  refine gy_iald dX10_lookAt_33 W2 (by omega) (by omega) (by decide) ?_
  refine ch_Gst (st2 := [.int (iI x), .ref p]) (by rw [e2]; try rfl) ?_
  refine gx_aload_n 1 dX10_lookAt_34 rfl rfl ?_
  refine gx_get (ci := 9) (f := 2) (C := RX10) (T := TX10) (N := 7) rfl inX10 (by decide) mw_1_57 dX10_lookAt_35 W0 rfl ?_
  refine gx_iload_n 2 dX10_lookAt_38 rfl rfl ?_
  refine gy_iald dX10_lookAt_39 W3 (by omega) (by omega) (by decide) ?_
  refine ch_Gst (st2 := [.int (iI y), .int (iI x), .ref p]) (by rw [e3]; try rfl) ?_
  refine gx_aload_n 1 dX10_lookAt_40 rfl rfl ?_
  refine gx_get (ci := 9) (f := 3) (C := RX10) (T := TX10) (N := 7) rfl inX10 (by decide) mw_1_58 dX10_lookAt_41 W0 rfl ?_
  refine gx_iload_n 2 dX10_lookAt_44 rfl rfl ?_
  refine gy_iald dX10_lookAt_45 W4 (by omega) (by omega) (by decide) ?_
  refine ch_Gst (st2 := [.int (iI t), .int (iI y), .int (iI x), .ref p]) (by rw [e4]; try rfl) ?_
  refine gx_aload_n 1 dX10_lookAt_46 rfl rfl ?_
  refine gx_callA (x := ⟨"SpanSolids$Solid", "lookFrom", "(IIILSpanSolids$Walk;)V"⟩) (ci := 0) C0 ok_X0_lookFrom mw_2_120 mw_2_122 nw_1 mw_2_124 mw_2_123 (by decide +kernel) dX10_lookAt_47 rfl hp rfl rfl (Nat.le_of_ble_eq_true rfl) (by first | exact Nat.le_of_ble_eq_true rfl | (simp only [rM]; omega)) (by first | exact Nat.le_of_ble_eq_true rfl | (simp only [rM]; omega)) (by first | exact Nat.le_of_ble_eq_true rfl | (simp only [rM]; omega)) (by first | exact Nat.le_of_ble_eq_true rfl | (simp only [rM]; omega)) (fun rr hh uu qq gg => ?_)
  obtain rfl := hQ _ _ _ qq
  refine ch_Gst (st2 := []) rfl ?_
  refine gx_vret rfl dX10_lookAt_50 (Nat.le_refl _) (Nat.le_refl _) ?_
  exact qq
set_option maxHeartbeats 4000000 in
set_option maxRecDepth 100000 in
theorem c_X10_lookAt_1 (l : Launch) (D : va_G) (cI cL cR : ClassId) (lo : Nat) (h : ch_H) (hi : Nat) (gw : Nat → Option Nat) (fx fy fl fh : Nat → Int) (wc : Int) (Ls : List (List Int)) (W : wwP cI cR lo h gw fx fy fl fh wc Ls) (p : Nat) (vs : List Value) (hp : h p = some (.inr (1, vs))) (z x y t : Int) (hz : 0 ≤ z ∧ z < 100) (e1 : gw z.toNat = some p) (e2 : fx z.toNat = x) (e3 : fy z.toNat = y) (e4 : fl z.toNat = t) (Q : Option Value → ch_H → Nat → Prop) (hQ : ∀ r h2 hi2, Q r h2 hi2 → r = none) (C0 : ch_C l (eE D cI cL cR lo) M_X1_lookFrom (rM 2 0 0) [.ref p, .int (iI x), .int (iI y), .int (iI t), .ref (lo + 3)] h hi Q) : ch_C l (eE D cI cL cR lo) M_X10_lookAt (rM 3 0 0) [.ref (lo + 3), .int (iI z)] h hi (fun r0 h2 hi2 => Q r0 h2 hi2) := by
  refine ch_C.of rfl (Nat.le_of_ble_eq_true rfl) ?_
  obtain ⟨fe, fs, fm, ec, sc, W0, W1, W2, W3, W4, W5, W6, W7, W8, W9, hfs⟩ := W
  refine gx_aload_n 0 dX10_lookAt_0 rfl rfl ?_
  refine gx_get (ci := 9) (f := 0) (C := RX10) (T := TX10) (N := 7) rfl inX10 (by decide) mw_1_55 dX10_lookAt_1 W0 rfl ?_
  refine gx_iload_n 1 dX10_lookAt_4 rfl rfl ?_
  refine gy_aald dX10_lookAt_5 W1 (by omega) (by omega) (by decide) ?_
  refine ch_Gst (st2 := [.ref p]) (by rw [e1]; try rfl) ?_
  refine gx_astore_n [(2, .ref p), (0, .ref (lo + 3)), (1, .int (iI z))] dX10_lookAt_6 rfl (by decide) rfl ?_
  refine gx_aload_n 0 dX10_lookAt_7 rfl rfl ?_
  refine gx_ifnonnullA 27 dX10_lookAt_8 (by decide) ?_
  refine gx_aload_n 0 dX10_lookAt_27 rfl rfl ?_
  refine gx_aload_n 1 dX10_lookAt_28 rfl rfl ?_
  refine gx_get (ci := 9) (f := 1) (C := RX10) (T := TX10) (N := 7) rfl inX10 (by decide) mw_1_56 dX10_lookAt_29 W0 rfl ?_
  refine gx_iload_n 2 dX10_lookAt_32 rfl rfl ?_
  refine gy_iald dX10_lookAt_33 W2 (by omega) (by omega) (by decide) ?_
  refine ch_Gst (st2 := [.int (iI x), .ref p]) (by rw [e2]; try rfl) ?_
  refine gx_aload_n 1 dX10_lookAt_34 rfl rfl ?_
  refine gx_get (ci := 9) (f := 2) (C := RX10) (T := TX10) (N := 7) rfl inX10 (by decide) mw_1_57 dX10_lookAt_35 W0 rfl ?_
  refine gx_iload_n 2 dX10_lookAt_38 rfl rfl ?_
  refine gy_iald dX10_lookAt_39 W3 (by omega) (by omega) (by decide) ?_
  refine ch_Gst (st2 := [.int (iI y), .int (iI x), .ref p]) (by rw [e3]; try rfl) ?_
  refine gx_aload_n 1 dX10_lookAt_40 rfl rfl ?_
  refine gx_get (ci := 9) (f := 3) (C := RX10) (T := TX10) (N := 7) rfl inX10 (by decide) mw_1_58 dX10_lookAt_41 W0 rfl ?_
  refine gx_iload_n 2 dX10_lookAt_44 rfl rfl ?_
  refine gy_iald dX10_lookAt_45 W4 (by omega) (by omega) (by decide) ?_
  refine ch_Gst (st2 := [.int (iI t), .int (iI y), .int (iI x), .ref p]) (by rw [e4]; try rfl) ?_
  refine gx_aload_n 1 dX10_lookAt_46 rfl rfl ?_
  refine gx_callA (x := ⟨"SpanSolids$Solid", "lookFrom", "(IIILSpanSolids$Walk;)V"⟩) (ci := 1) C0 ok_X1_lookFrom mw_2_120 mw_2_122 nw_1 mw_2_146 mw_2_145 (by decide +kernel) dX10_lookAt_47 rfl hp rfl rfl (Nat.le_of_ble_eq_true rfl) (by first | exact Nat.le_of_ble_eq_true rfl | (simp only [rM]; omega)) (by first | exact Nat.le_of_ble_eq_true rfl | (simp only [rM]; omega)) (by first | exact Nat.le_of_ble_eq_true rfl | (simp only [rM]; omega)) (by first | exact Nat.le_of_ble_eq_true rfl | (simp only [rM]; omega)) (fun rr hh uu qq gg => ?_)
  obtain rfl := hQ _ _ _ qq
  refine ch_Gst (st2 := []) rfl ?_
  refine gx_vret rfl dX10_lookAt_50 (Nat.le_refl _) (Nat.le_refl _) ?_
  exact qq
set_option maxHeartbeats 4000000 in
set_option maxRecDepth 100000 in
theorem c_X10_lookAt_2 (l : Launch) (D : va_G) (cI cL cR : ClassId) (lo : Nat) (h : ch_H) (hi : Nat) (gw : Nat → Option Nat) (fx fy fl fh : Nat → Int) (wc : Int) (Ls : List (List Int)) (W : wwP cI cR lo h gw fx fy fl fh wc Ls) (p : Nat) (vs : List Value) (hp : h p = some (.inr (2, vs))) (z x y t : Int) (hz : 0 ≤ z ∧ z < 100) (e1 : gw z.toNat = some p) (e2 : fx z.toNat = x) (e3 : fy z.toNat = y) (e4 : fl z.toNat = t) (Q : Option Value → ch_H → Nat → Prop) (hQ : ∀ r h2 hi2, Q r h2 hi2 → r = none) (C0 : ch_C l (eE D cI cL cR lo) M_X2_lookFrom (rM 2 0 0) [.ref p, .int (iI x), .int (iI y), .int (iI t), .ref (lo + 3)] h hi Q) : ch_C l (eE D cI cL cR lo) M_X10_lookAt (rM 3 0 0) [.ref (lo + 3), .int (iI z)] h hi (fun r0 h2 hi2 => Q r0 h2 hi2) := by
  refine ch_C.of rfl (Nat.le_of_ble_eq_true rfl) ?_
  obtain ⟨fe, fs, fm, ec, sc, W0, W1, W2, W3, W4, W5, W6, W7, W8, W9, hfs⟩ := W
  refine gx_aload_n 0 dX10_lookAt_0 rfl rfl ?_
  refine gx_get (ci := 9) (f := 0) (C := RX10) (T := TX10) (N := 7) rfl inX10 (by decide) mw_1_55 dX10_lookAt_1 W0 rfl ?_
  refine gx_iload_n 1 dX10_lookAt_4 rfl rfl ?_
  refine gy_aald dX10_lookAt_5 W1 (by omega) (by omega) (by decide) ?_
  refine ch_Gst (st2 := [.ref p]) (by rw [e1]; try rfl) ?_
  refine gx_astore_n [(2, .ref p), (0, .ref (lo + 3)), (1, .int (iI z))] dX10_lookAt_6 rfl (by decide) rfl ?_
  refine gx_aload_n 0 dX10_lookAt_7 rfl rfl ?_
  refine gx_ifnonnullA 27 dX10_lookAt_8 (by decide) ?_
  refine gx_aload_n 0 dX10_lookAt_27 rfl rfl ?_
  refine gx_aload_n 1 dX10_lookAt_28 rfl rfl ?_
  refine gx_get (ci := 9) (f := 1) (C := RX10) (T := TX10) (N := 7) rfl inX10 (by decide) mw_1_56 dX10_lookAt_29 W0 rfl ?_
  refine gx_iload_n 2 dX10_lookAt_32 rfl rfl ?_
  refine gy_iald dX10_lookAt_33 W2 (by omega) (by omega) (by decide) ?_
  refine ch_Gst (st2 := [.int (iI x), .ref p]) (by rw [e2]; try rfl) ?_
  refine gx_aload_n 1 dX10_lookAt_34 rfl rfl ?_
  refine gx_get (ci := 9) (f := 2) (C := RX10) (T := TX10) (N := 7) rfl inX10 (by decide) mw_1_57 dX10_lookAt_35 W0 rfl ?_
  refine gx_iload_n 2 dX10_lookAt_38 rfl rfl ?_
  refine gy_iald dX10_lookAt_39 W3 (by omega) (by omega) (by decide) ?_
  refine ch_Gst (st2 := [.int (iI y), .int (iI x), .ref p]) (by rw [e3]; try rfl) ?_
  refine gx_aload_n 1 dX10_lookAt_40 rfl rfl ?_
  refine gx_get (ci := 9) (f := 3) (C := RX10) (T := TX10) (N := 7) rfl inX10 (by decide) mw_1_58 dX10_lookAt_41 W0 rfl ?_
  refine gx_iload_n 2 dX10_lookAt_44 rfl rfl ?_
  refine gy_iald dX10_lookAt_45 W4 (by omega) (by omega) (by decide) ?_
  refine ch_Gst (st2 := [.int (iI t), .int (iI y), .int (iI x), .ref p]) (by rw [e4]; try rfl) ?_
  refine gx_aload_n 1 dX10_lookAt_46 rfl rfl ?_
  refine gx_callA (x := ⟨"SpanSolids$Solid", "lookFrom", "(IIILSpanSolids$Walk;)V"⟩) (ci := 2) C0 ok_X2_lookFrom mw_2_120 mw_2_122 nw_1 mw_2_151 mw_2_150 (by decide +kernel) dX10_lookAt_47 rfl hp rfl rfl (Nat.le_of_ble_eq_true rfl) (by first | exact Nat.le_of_ble_eq_true rfl | (simp only [rM]; omega)) (by first | exact Nat.le_of_ble_eq_true rfl | (simp only [rM]; omega)) (by first | exact Nat.le_of_ble_eq_true rfl | (simp only [rM]; omega)) (by first | exact Nat.le_of_ble_eq_true rfl | (simp only [rM]; omega)) (fun rr hh uu qq gg => ?_)
  obtain rfl := hQ _ _ _ qq
  refine ch_Gst (st2 := []) rfl ?_
  refine gx_vret rfl dX10_lookAt_50 (Nat.le_refl _) (Nat.le_refl _) ?_
  exact qq
set_option maxHeartbeats 4000000 in
set_option maxRecDepth 100000 in
theorem c_X10_lookAt_4 (l : Launch) (D : va_G) (cI cL cR : ClassId) (lo : Nat) (h : ch_H) (hi : Nat) (gw : Nat → Option Nat) (fx fy fl fh : Nat → Int) (wc : Int) (Ls : List (List Int)) (W : wwP cI cR lo h gw fx fy fl fh wc Ls) (p : Nat) (vs : List Value) (hp : h p = some (.inr (4, vs))) (z x y t : Int) (hz : 0 ≤ z ∧ z < 100) (e1 : gw z.toNat = some p) (e2 : fx z.toNat = x) (e3 : fy z.toNat = y) (e4 : fl z.toNat = t) (Q : Option Value → ch_H → Nat → Prop) (hQ : ∀ r h2 hi2, Q r h2 hi2 → r = none) (C0 : ch_C l (eE D cI cL cR lo) M_X4_lookFrom (rM 2 0 0) [.ref p, .int (iI x), .int (iI y), .int (iI t), .ref (lo + 3)] h hi Q) : ch_C l (eE D cI cL cR lo) M_X10_lookAt (rM 3 0 0) [.ref (lo + 3), .int (iI z)] h hi (fun r0 h2 hi2 => Q r0 h2 hi2) := by
  refine ch_C.of rfl (Nat.le_of_ble_eq_true rfl) ?_
  obtain ⟨fe, fs, fm, ec, sc, W0, W1, W2, W3, W4, W5, W6, W7, W8, W9, hfs⟩ := W
  refine gx_aload_n 0 dX10_lookAt_0 rfl rfl ?_
  refine gx_get (ci := 9) (f := 0) (C := RX10) (T := TX10) (N := 7) rfl inX10 (by decide) mw_1_55 dX10_lookAt_1 W0 rfl ?_
  refine gx_iload_n 1 dX10_lookAt_4 rfl rfl ?_
  refine gy_aald dX10_lookAt_5 W1 (by omega) (by omega) (by decide) ?_
  refine ch_Gst (st2 := [.ref p]) (by rw [e1]; try rfl) ?_
  refine gx_astore_n [(2, .ref p), (0, .ref (lo + 3)), (1, .int (iI z))] dX10_lookAt_6 rfl (by decide) rfl ?_
  refine gx_aload_n 0 dX10_lookAt_7 rfl rfl ?_
  refine gx_ifnonnullA 27 dX10_lookAt_8 (by decide) ?_
  refine gx_aload_n 0 dX10_lookAt_27 rfl rfl ?_
  refine gx_aload_n 1 dX10_lookAt_28 rfl rfl ?_
  refine gx_get (ci := 9) (f := 1) (C := RX10) (T := TX10) (N := 7) rfl inX10 (by decide) mw_1_56 dX10_lookAt_29 W0 rfl ?_
  refine gx_iload_n 2 dX10_lookAt_32 rfl rfl ?_
  refine gy_iald dX10_lookAt_33 W2 (by omega) (by omega) (by decide) ?_
  refine ch_Gst (st2 := [.int (iI x), .ref p]) (by rw [e2]; try rfl) ?_
  refine gx_aload_n 1 dX10_lookAt_34 rfl rfl ?_
  refine gx_get (ci := 9) (f := 2) (C := RX10) (T := TX10) (N := 7) rfl inX10 (by decide) mw_1_57 dX10_lookAt_35 W0 rfl ?_
  refine gx_iload_n 2 dX10_lookAt_38 rfl rfl ?_
  refine gy_iald dX10_lookAt_39 W3 (by omega) (by omega) (by decide) ?_
  refine ch_Gst (st2 := [.int (iI y), .int (iI x), .ref p]) (by rw [e3]; try rfl) ?_
  refine gx_aload_n 1 dX10_lookAt_40 rfl rfl ?_
  refine gx_get (ci := 9) (f := 3) (C := RX10) (T := TX10) (N := 7) rfl inX10 (by decide) mw_1_58 dX10_lookAt_41 W0 rfl ?_
  refine gx_iload_n 2 dX10_lookAt_44 rfl rfl ?_
  refine gy_iald dX10_lookAt_45 W4 (by omega) (by omega) (by decide) ?_
  refine ch_Gst (st2 := [.int (iI t), .int (iI y), .int (iI x), .ref p]) (by rw [e4]; try rfl) ?_
  refine gx_aload_n 1 dX10_lookAt_46 rfl rfl ?_
  refine gx_callA (x := ⟨"SpanSolids$Solid", "lookFrom", "(IIILSpanSolids$Walk;)V"⟩) (ci := 4) C0 ok_X4_lookFrom mw_2_120 mw_2_122 nw_1 mw_2_161 mw_2_160 (by decide +kernel) dX10_lookAt_47 rfl hp rfl rfl (Nat.le_of_ble_eq_true rfl) (by first | exact Nat.le_of_ble_eq_true rfl | (simp only [rM]; omega)) (by first | exact Nat.le_of_ble_eq_true rfl | (simp only [rM]; omega)) (by first | exact Nat.le_of_ble_eq_true rfl | (simp only [rM]; omega)) (by first | exact Nat.le_of_ble_eq_true rfl | (simp only [rM]; omega)) (fun rr hh uu qq gg => ?_)
  obtain rfl := hQ _ _ _ qq
  refine ch_Gst (st2 := []) rfl ?_
  refine gx_vret rfl dX10_lookAt_50 (Nat.le_refl _) (Nat.le_refl _) ?_
  exact qq
set_option maxHeartbeats 4000000 in
set_option maxRecDepth 100000 in
theorem c_X10_lookAt_5 (l : Launch) (D : va_G) (cI cL cR : ClassId) (lo : Nat) (h : ch_H) (hi : Nat) (gw : Nat → Option Nat) (fx fy fl fh : Nat → Int) (wc : Int) (Ls : List (List Int)) (W : wwP cI cR lo h gw fx fy fl fh wc Ls) (p : Nat) (vs : List Value) (hp : h p = some (.inr (5, vs))) (z x y t : Int) (hz : 0 ≤ z ∧ z < 100) (e1 : gw z.toNat = some p) (e2 : fx z.toNat = x) (e3 : fy z.toNat = y) (e4 : fl z.toNat = t) (Q : Option Value → ch_H → Nat → Prop) (hQ : ∀ r h2 hi2, Q r h2 hi2 → r = none) (C0 : ch_C l (eE D cI cL cR lo) M_X5_lookFrom (rM 2 0 0) [.ref p, .int (iI x), .int (iI y), .int (iI t), .ref (lo + 3)] h hi Q) : ch_C l (eE D cI cL cR lo) M_X10_lookAt (rM 3 0 0) [.ref (lo + 3), .int (iI z)] h hi (fun r0 h2 hi2 => Q r0 h2 hi2) := by
  refine ch_C.of rfl (Nat.le_of_ble_eq_true rfl) ?_
  obtain ⟨fe, fs, fm, ec, sc, W0, W1, W2, W3, W4, W5, W6, W7, W8, W9, hfs⟩ := W
  refine gx_aload_n 0 dX10_lookAt_0 rfl rfl ?_
  refine gx_get (ci := 9) (f := 0) (C := RX10) (T := TX10) (N := 7) rfl inX10 (by decide) mw_1_55 dX10_lookAt_1 W0 rfl ?_
  refine gx_iload_n 1 dX10_lookAt_4 rfl rfl ?_
  refine gy_aald dX10_lookAt_5 W1 (by omega) (by omega) (by decide) ?_
  refine ch_Gst (st2 := [.ref p]) (by rw [e1]; try rfl) ?_
  refine gx_astore_n [(2, .ref p), (0, .ref (lo + 3)), (1, .int (iI z))] dX10_lookAt_6 rfl (by decide) rfl ?_
  refine gx_aload_n 0 dX10_lookAt_7 rfl rfl ?_
  refine gx_ifnonnullA 27 dX10_lookAt_8 (by decide) ?_
  refine gx_aload_n 0 dX10_lookAt_27 rfl rfl ?_
  refine gx_aload_n 1 dX10_lookAt_28 rfl rfl ?_
  refine gx_get (ci := 9) (f := 1) (C := RX10) (T := TX10) (N := 7) rfl inX10 (by decide) mw_1_56 dX10_lookAt_29 W0 rfl ?_
  refine gx_iload_n 2 dX10_lookAt_32 rfl rfl ?_
  refine gy_iald dX10_lookAt_33 W2 (by omega) (by omega) (by decide) ?_
  refine ch_Gst (st2 := [.int (iI x), .ref p]) (by rw [e2]; try rfl) ?_
  refine gx_aload_n 1 dX10_lookAt_34 rfl rfl ?_
  refine gx_get (ci := 9) (f := 2) (C := RX10) (T := TX10) (N := 7) rfl inX10 (by decide) mw_1_57 dX10_lookAt_35 W0 rfl ?_
  refine gx_iload_n 2 dX10_lookAt_38 rfl rfl ?_
  refine gy_iald dX10_lookAt_39 W3 (by omega) (by omega) (by decide) ?_
  refine ch_Gst (st2 := [.int (iI y), .int (iI x), .ref p]) (by rw [e3]; try rfl) ?_
  refine gx_aload_n 1 dX10_lookAt_40 rfl rfl ?_
  refine gx_get (ci := 9) (f := 3) (C := RX10) (T := TX10) (N := 7) rfl inX10 (by decide) mw_1_58 dX10_lookAt_41 W0 rfl ?_
  refine gx_iload_n 2 dX10_lookAt_44 rfl rfl ?_
  refine gy_iald dX10_lookAt_45 W4 (by omega) (by omega) (by decide) ?_
  refine ch_Gst (st2 := [.int (iI t), .int (iI y), .int (iI x), .ref p]) (by rw [e4]; try rfl) ?_
  refine gx_aload_n 1 dX10_lookAt_46 rfl rfl ?_
  refine gx_callA (x := ⟨"SpanSolids$Solid", "lookFrom", "(IIILSpanSolids$Walk;)V"⟩) (ci := 5) C0 ok_X5_lookFrom mw_2_120 mw_2_122 nw_1 mw_2_169 mw_2_168 (by decide +kernel) dX10_lookAt_47 rfl hp rfl rfl (Nat.le_of_ble_eq_true rfl) (by first | exact Nat.le_of_ble_eq_true rfl | (simp only [rM]; omega)) (by first | exact Nat.le_of_ble_eq_true rfl | (simp only [rM]; omega)) (by first | exact Nat.le_of_ble_eq_true rfl | (simp only [rM]; omega)) (by first | exact Nat.le_of_ble_eq_true rfl | (simp only [rM]; omega)) (fun rr hh uu qq gg => ?_)
  obtain rfl := hQ _ _ _ qq
  refine ch_Gst (st2 := []) rfl ?_
  refine gx_vret rfl dX10_lookAt_50 (Nat.le_refl _) (Nat.le_refl _) ?_
  exact qq
set_option maxHeartbeats 4000000 in
set_option maxRecDepth 100000 in
theorem c_X10_lookAt_6 (l : Launch) (D : va_G) (cI cL cR : ClassId) (lo : Nat) (h : ch_H) (hi : Nat) (gw : Nat → Option Nat) (fx fy fl fh : Nat → Int) (wc : Int) (Ls : List (List Int)) (W : wwP cI cR lo h gw fx fy fl fh wc Ls) (p : Nat) (vs : List Value) (hp : h p = some (.inr (6, vs))) (z x y t : Int) (hz : 0 ≤ z ∧ z < 100) (e1 : gw z.toNat = some p) (e2 : fx z.toNat = x) (e3 : fy z.toNat = y) (e4 : fl z.toNat = t) (Q : Option Value → ch_H → Nat → Prop) (hQ : ∀ r h2 hi2, Q r h2 hi2 → r = none) (C0 : ch_C l (eE D cI cL cR lo) M_X6_lookFrom (rM 2 0 0) [.ref p, .int (iI x), .int (iI y), .int (iI t), .ref (lo + 3)] h hi Q) : ch_C l (eE D cI cL cR lo) M_X10_lookAt (rM 3 0 0) [.ref (lo + 3), .int (iI z)] h hi (fun r0 h2 hi2 => Q r0 h2 hi2) := by
  refine ch_C.of rfl (Nat.le_of_ble_eq_true rfl) ?_
  obtain ⟨fe, fs, fm, ec, sc, W0, W1, W2, W3, W4, W5, W6, W7, W8, W9, hfs⟩ := W
  refine gx_aload_n 0 dX10_lookAt_0 rfl rfl ?_
  refine gx_get (ci := 9) (f := 0) (C := RX10) (T := TX10) (N := 7) rfl inX10 (by decide) mw_1_55 dX10_lookAt_1 W0 rfl ?_
  refine gx_iload_n 1 dX10_lookAt_4 rfl rfl ?_
  refine gy_aald dX10_lookAt_5 W1 (by omega) (by omega) (by decide) ?_
  refine ch_Gst (st2 := [.ref p]) (by rw [e1]; try rfl) ?_
  refine gx_astore_n [(2, .ref p), (0, .ref (lo + 3)), (1, .int (iI z))] dX10_lookAt_6 rfl (by decide) rfl ?_
  refine gx_aload_n 0 dX10_lookAt_7 rfl rfl ?_
  refine gx_ifnonnullA 27 dX10_lookAt_8 (by decide) ?_
  refine gx_aload_n 0 dX10_lookAt_27 rfl rfl ?_
  refine gx_aload_n 1 dX10_lookAt_28 rfl rfl ?_
  refine gx_get (ci := 9) (f := 1) (C := RX10) (T := TX10) (N := 7) rfl inX10 (by decide) mw_1_56 dX10_lookAt_29 W0 rfl ?_
  refine gx_iload_n 2 dX10_lookAt_32 rfl rfl ?_
  refine gy_iald dX10_lookAt_33 W2 (by omega) (by omega) (by decide) ?_
  refine ch_Gst (st2 := [.int (iI x), .ref p]) (by rw [e2]; try rfl) ?_
  refine gx_aload_n 1 dX10_lookAt_34 rfl rfl ?_
  refine gx_get (ci := 9) (f := 2) (C := RX10) (T := TX10) (N := 7) rfl inX10 (by decide) mw_1_57 dX10_lookAt_35 W0 rfl ?_
  refine gx_iload_n 2 dX10_lookAt_38 rfl rfl ?_
  refine gy_iald dX10_lookAt_39 W3 (by omega) (by omega) (by decide) ?_
  refine ch_Gst (st2 := [.int (iI y), .int (iI x), .ref p]) (by rw [e3]; try rfl) ?_
  refine gx_aload_n 1 dX10_lookAt_40 rfl rfl ?_
  refine gx_get (ci := 9) (f := 3) (C := RX10) (T := TX10) (N := 7) rfl inX10 (by decide) mw_1_58 dX10_lookAt_41 W0 rfl ?_
  refine gx_iload_n 2 dX10_lookAt_44 rfl rfl ?_
  refine gy_iald dX10_lookAt_45 W4 (by omega) (by omega) (by decide) ?_
  refine ch_Gst (st2 := [.int (iI t), .int (iI y), .int (iI x), .ref p]) (by rw [e4]; try rfl) ?_
  refine gx_aload_n 1 dX10_lookAt_46 rfl rfl ?_
  refine gx_callA (x := ⟨"SpanSolids$Solid", "lookFrom", "(IIILSpanSolids$Walk;)V"⟩) (ci := 6) C0 ok_X6_lookFrom mw_2_120 mw_2_122 nw_1 mw_2_173 mw_2_172 (by decide +kernel) dX10_lookAt_47 rfl hp rfl rfl (Nat.le_of_ble_eq_true rfl) (by first | exact Nat.le_of_ble_eq_true rfl | (simp only [rM]; omega)) (by first | exact Nat.le_of_ble_eq_true rfl | (simp only [rM]; omega)) (by first | exact Nat.le_of_ble_eq_true rfl | (simp only [rM]; omega)) (by first | exact Nat.le_of_ble_eq_true rfl | (simp only [rM]; omega)) (fun rr hh uu qq gg => ?_)
  obtain rfl := hQ _ _ _ qq
  refine ch_Gst (st2 := []) rfl ?_
  refine gx_vret rfl dX10_lookAt_50 (Nat.le_refl _) (Nat.le_refl _) ?_
  exact qq
set_option maxHeartbeats 4000000 in
set_option maxRecDepth 100000 in
theorem c_X10_lookAt_8 (l : Launch) (D : va_G) (cI cL cR : ClassId) (lo : Nat) (h : ch_H) (hi : Nat) (gw : Nat → Option Nat) (fx fy fl fh : Nat → Int) (wc : Int) (Ls : List (List Int)) (W : wwP cI cR lo h gw fx fy fl fh wc Ls) (p : Nat) (vs : List Value) (hp : h p = some (.inr (8, vs))) (z x y t : Int) (hz : 0 ≤ z ∧ z < 100) (e1 : gw z.toNat = some p) (e2 : fx z.toNat = x) (e3 : fy z.toNat = y) (e4 : fl z.toNat = t) (Q : Option Value → ch_H → Nat → Prop) (hQ : ∀ r h2 hi2, Q r h2 hi2 → r = none) (C0 : ch_C l (eE D cI cL cR lo) M_X9_lookFrom (rM 2 0 0) [.ref p, .int (iI x), .int (iI y), .int (iI t), .ref (lo + 3)] h hi Q) : ch_C l (eE D cI cL cR lo) M_X10_lookAt (rM 3 0 0) [.ref (lo + 3), .int (iI z)] h hi (fun r0 h2 hi2 => Q r0 h2 hi2) := by
  refine ch_C.of rfl (Nat.le_of_ble_eq_true rfl) ?_
  obtain ⟨fe, fs, fm, ec, sc, W0, W1, W2, W3, W4, W5, W6, W7, W8, W9, hfs⟩ := W
  refine gx_aload_n 0 dX10_lookAt_0 rfl rfl ?_
  refine gx_get (ci := 9) (f := 0) (C := RX10) (T := TX10) (N := 7) rfl inX10 (by decide) mw_1_55 dX10_lookAt_1 W0 rfl ?_
  refine gx_iload_n 1 dX10_lookAt_4 rfl rfl ?_
  refine gy_aald dX10_lookAt_5 W1 (by omega) (by omega) (by decide) ?_
  refine ch_Gst (st2 := [.ref p]) (by rw [e1]; try rfl) ?_
  refine gx_astore_n [(2, .ref p), (0, .ref (lo + 3)), (1, .int (iI z))] dX10_lookAt_6 rfl (by decide) rfl ?_
  refine gx_aload_n 0 dX10_lookAt_7 rfl rfl ?_
  refine gx_ifnonnullA 27 dX10_lookAt_8 (by decide) ?_
  refine gx_aload_n 0 dX10_lookAt_27 rfl rfl ?_
  refine gx_aload_n 1 dX10_lookAt_28 rfl rfl ?_
  refine gx_get (ci := 9) (f := 1) (C := RX10) (T := TX10) (N := 7) rfl inX10 (by decide) mw_1_56 dX10_lookAt_29 W0 rfl ?_
  refine gx_iload_n 2 dX10_lookAt_32 rfl rfl ?_
  refine gy_iald dX10_lookAt_33 W2 (by omega) (by omega) (by decide) ?_
  refine ch_Gst (st2 := [.int (iI x), .ref p]) (by rw [e2]; try rfl) ?_
  refine gx_aload_n 1 dX10_lookAt_34 rfl rfl ?_
  refine gx_get (ci := 9) (f := 2) (C := RX10) (T := TX10) (N := 7) rfl inX10 (by decide) mw_1_57 dX10_lookAt_35 W0 rfl ?_
  refine gx_iload_n 2 dX10_lookAt_38 rfl rfl ?_
  refine gy_iald dX10_lookAt_39 W3 (by omega) (by omega) (by decide) ?_
  refine ch_Gst (st2 := [.int (iI y), .int (iI x), .ref p]) (by rw [e3]; try rfl) ?_
  refine gx_aload_n 1 dX10_lookAt_40 rfl rfl ?_
  refine gx_get (ci := 9) (f := 3) (C := RX10) (T := TX10) (N := 7) rfl inX10 (by decide) mw_1_58 dX10_lookAt_41 W0 rfl ?_
  refine gx_iload_n 2 dX10_lookAt_44 rfl rfl ?_
  refine gy_iald dX10_lookAt_45 W4 (by omega) (by omega) (by decide) ?_
  refine ch_Gst (st2 := [.int (iI t), .int (iI y), .int (iI x), .ref p]) (by rw [e4]; try rfl) ?_
  refine gx_aload_n 1 dX10_lookAt_46 rfl rfl ?_
  refine gx_callA (x := ⟨"SpanSolids$Solid", "lookFrom", "(IIILSpanSolids$Walk;)V"⟩) (ci := 8) C0 ok_X9_lookFrom mw_2_120 mw_2_122 nw_1 mw_2_179 mw_2_178 (by decide +kernel) dX10_lookAt_47 rfl hp rfl rfl (Nat.le_of_ble_eq_true rfl) (by first | exact Nat.le_of_ble_eq_true rfl | (simp only [rM]; omega)) (by first | exact Nat.le_of_ble_eq_true rfl | (simp only [rM]; omega)) (by first | exact Nat.le_of_ble_eq_true rfl | (simp only [rM]; omega)) (by first | exact Nat.le_of_ble_eq_true rfl | (simp only [rM]; omega)) (fun rr hh uu qq gg => ?_)
  obtain rfl := hQ _ _ _ qq
  refine ch_Gst (st2 := []) rfl ?_
  refine gx_vret rfl dX10_lookAt_50 (Nat.le_refl _) (Nat.le_refl _) ?_
  exact qq
set_option maxHeartbeats 4000000 in
set_option maxRecDepth 100000 in
theorem c_X10_lookAt_J (l : Launch) (D : va_G) (cI cL cR : ClassId) (lo : Nat) (h : ch_H) (hi : Nat) (gw : Nat → Option Nat) (fx fy fl fh : Nat → Int) (wc : Int) (Ls : List (List Int)) (X Y : List Int) (W : wwP cI cR lo h gw fx fy fl fh wc (Ls ++ [X, Y])) (z how : Int) (hz : 0 ≤ z ∧ z < 100) (e1 : gw z.toNat = none) (e2 : fh z.toNat = how) (hh : ir how) (hL1 : Ls.length + 2 ≤ 50) (hL2 : Ls.flatten.length + X.length + Y.length ≤ 100) : ch_C l (eE D cI cL cR lo) M_X10_lookAt (rM 3 0 0) [.ref (lo + 3), .int (iI z)] h hi (fun r0 h2 hi2 => r0 = none ∧ wwP cI cR lo h2 gw fx fy fl fh wc (Ls ++ [mixL how X Y]) ∧ ch_fr (wwL lo) h h2 ∧ hi = hi2) := by
  refine ch_C.of rfl (Nat.le_of_ble_eq_true rfl) ?_
  obtain ⟨fe, fs, fm, ec, sc, W0, W1, W2, W3, W4, W5, W6, W7, W8, W9, hfs⟩ := W
  obtain ⟨t1, t2, t3, t4, t5⟩ := fsR_top hfs how
  have hsc := hfs.1
  have hlen : (Ls ++ [X, Y]).length = Ls.length + 2 := by simp
  have hml := mixL_len how X Y
  refine gx_aload_n 0 dX10_lookAt_0 rfl rfl ?_
  refine gx_get (ci := 9) (f := 0) (C := RX10) (T := TX10) (N := 7) rfl inX10 (by decide) mw_1_55 dX10_lookAt_1 W0 rfl ?_
  refine gx_iload_n 1 dX10_lookAt_4 rfl rfl ?_
  refine gy_aald dX10_lookAt_5 W1 (by omega) (by omega) (by decide) ?_
  refine ch_Gst (st2 := [.null]) (by rw [e1]; try rfl) ?_
  refine gx_astore_nN [(2, .null), (0, .ref (lo + 3)), (1, .int (iI z))] dX10_lookAt_6 rfl (by decide) rfl ?_
  refine gx_aload_nN 0 dX10_lookAt_7 rfl rfl ?_
  refine gx_ifnonnullZ dX10_lookAt_8 ?_
  refine gx_aload_n 1 dX10_lookAt_11 rfl rfl ?_
  refine gx_get (ci := 9) (f := 6) (C := RX10) (T := TX10) (N := 7) rfl inX10 (by decide) mw_1_61 dX10_lookAt_12 W0 rfl ?_
  refine gx_aload_n 1 dX10_lookAt_15 rfl rfl ?_
  refine gx_get (ci := 9) (f := 4) (C := RX10) (T := TX10) (N := 7) rfl inX10 (by decide) mw_1_59 dX10_lookAt_16 W0 rfl ?_
  refine gx_iload_n 2 dX10_lookAt_19 rfl rfl ?_
  refine gy_iald dX10_lookAt_20 W5 (by omega) (by omega) (by decide) ?_
  refine ch_Gst (st2 := [.int (iI how), .ref (lo + 9)]) (by rw [e2]; try rfl) ?_
  refine gx_callV (ci := 3) (c_X3_joinNewest l D cI cL cR lo h hi (lo + 9) (lo + 10) (lo + 11) (lo + 12) ec sc fe fs fm W6 W7 W8 W9 (by omega) (by omega) (by omega) hfs.2.2.2.2 (Ls.flatten.length : Int) ((Ls.flatten.length : Int) + X.length) how (by omega) t2 t3 (by omega) (by omega) (by omega) hh (mixL how X Y) t5 (by omega)) ok_X3_joinNewest mw_2_105 mw_2_106 mw_2_107 dX10_lookAt_21 rfl W6 rfl rfl (Nat.le_of_ble_eq_true rfl) (by first | exact Nat.le_of_ble_eq_true rfl | (simp only [rM]; omega)) (by first | exact Nat.le_of_ble_eq_true rfl | (simp only [rM]; omega)) (by first | exact Nat.le_of_ble_eq_true rfl | (simp only [rM]; omega)) (by first | exact Nat.le_of_ble_eq_true rfl | (simp only [rM]; omega)) (fun r1 h2 u3 q4 g5 => ?_)
  obtain ⟨rfl, ⟨fe2, fm2, q9, q10, q11, q12, k1, k2, k3⟩, qfr, rfl⟩ := q4
  have k6 : h2 (lo + 3) = some (.inr (9, [.ref (lo + 4), .ref (lo + 5), .ref (lo + 6), .ref (lo + 7), .ref (lo + 8), .int (iI wc), .ref (lo + 9)])) := by rw [qfr (lo + 3) (by simp only [List.mem_cons, List.not_mem_nil, or_false]; omega)]; exact W0
  have k7 : h2 (lo + 4) = some (aR cR 100 gw) := by rw [qfr (lo + 4) (by simp only [List.mem_cons, List.not_mem_nil, or_false]; omega)]; exact W1
  have k8 : h2 (lo + 5) = some (aI cI 100 fx) := by rw [qfr (lo + 5) (by simp only [List.mem_cons, List.not_mem_nil, or_false]; omega)]; exact W2
  have k9 : h2 (lo + 6) = some (aI cI 100 fy) := by rw [qfr (lo + 6) (by simp only [List.mem_cons, List.not_mem_nil, or_false]; omega)]; exact W3
  have k10 : h2 (lo + 7) = some (aI cI 100 fl) := by rw [qfr (lo + 7) (by simp only [List.mem_cons, List.not_mem_nil, or_false]; omega)]; exact W4
  have k11 : h2 (lo + 8) = some (aI cI 100 fh) := by rw [qfr (lo + 8) (by simp only [List.mem_cons, List.not_mem_nil, or_false]; omega)]; exact W5
  refine ch_Gst (st2 := []) rfl ?_
  refine gx_goto 50 dX10_lookAt_24 (by decide) ?_
  refine gx_vret rfl dX10_lookAt_50 (by first | exact Nat.le_of_ble_eq_true rfl | (simp only [rM]; omega)) (by first | exact Nat.le_of_ble_eq_true rfl | (simp only [rM]; omega)) ?_
  exact ⟨rfl, ⟨_, _, _, _, _, k6, k7, k8, k9, k10, k11, q9, q10, q11, q12, fsR_join hfs k1 k2 k3⟩, (ch_frT ch_fr0 qfr (fun _ q => by rw [wwL_in]; simp only [List.mem_cons, List.not_mem_nil, or_false] at q; omega)), rfl⟩
end
end
section
section
/-- the edges of a solid over a place, raised by t; Kf, Nf: kinds and numbers of all solids -/
def ed (Kf Nf : Nat → Int) (s : Nat) (x y t : Int) : List Int :=
  if Kf s = 0 then bxS (Nf (6 * s)) (Nf (6 * s + 1)) (Nf (6 * s + 2)) (Nf (6 * s + 3)) (Nf (6 * s + 4)) (Nf (6 * s + 5)) x y t
  else if Kf s = 1 then poS (Nf (6 * s)) (Nf (6 * s + 1)) (Nf (6 * s + 2)) (Nf (6 * s + 3)) (Nf (6 * s + 4)) x y t
  else if Kf s = 2 then baS (Nf (6 * s)) (Nf (6 * s + 1)) (Nf (6 * s + 2)) (Nf (6 * s + 3)) x y t
  else if Kf s = 3 then coS (Nf (6 * s)) (Nf (6 * s + 1)) (Nf (6 * s + 2)) (Nf (6 * s + 3)) (Nf (6 * s + 4)) x y t
  else if Kf s = 4 then (if h : (Nf (6 * s)).toNat < s ∧ (Nf (6 * s + 1)).toNat < s then mixL (Nf (6 * s + 2)) (ed Kf Nf (Nf (6 * s)).toNat x y t) (ed Kf Nf (Nf (6 * s + 1)).toNat x y t) else [])
  else if Kf s = 5 then (if h : (Nf (6 * s + 3)).toNat < s then ed Kf Nf (Nf (6 * s + 3)).toNat (x - Nf (6 * s)) (y - Nf (6 * s + 1)) (t + Nf (6 * s + 2)) else [])
  else (if h : (Nf (6 * s)).toNat < s then ed Kf Nf (Nf (6 * s)).toNat y (-x) t else [])
termination_by s
decreasing_by
  · exact h.1
  · exact h.2
  · exact h
  · exact h
/-- a solid that is made as it must be -/
def wfS (Kf Nf Wf : Nat → Int) (s : Nat) : Prop := (1 ≤ Wf s ∧ Wf s ≤ 100) ∧
  (((0 ≤ Kf s ∧ Kf s ≤ 3) ∧ Wf s = 1 ∧ (∀ k, k < 6 → -5000 ≤ Nf (6 * s + k) ∧ Nf (6 * s + k) ≤ 5000) ∧ ((Kf s = 1 ∨ Kf s = 3) → 0 ≤ Nf (6 * s + 2)) ∧ (Kf s = 2 → 0 ≤ Nf (6 * s + 3)))
  ∨ (Kf s = 4 ∧ 1 ≤ Nf (6 * s) ∧ Nf (6 * s) < s ∧ 1 ≤ Nf (6 * s + 1) ∧ Nf (6 * s + 1) < s ∧ 0 ≤ Nf (6 * s + 2) ∧ Nf (6 * s + 2) ≤ 2 ∧ Wf s = Wf (Nf (6 * s)).toNat + Wf (Nf (6 * s + 1)).toNat + 1)
  ∨ (Kf s = 5 ∧ 1 ≤ Nf (6 * s + 3) ∧ Nf (6 * s + 3) < s ∧ (-5000 ≤ Nf (6 * s) ∧ Nf (6 * s) ≤ 5000) ∧ (-5000 ≤ Nf (6 * s + 1) ∧ Nf (6 * s + 1) ≤ 5000) ∧ (-5000 ≤ Nf (6 * s + 2) ∧ Nf (6 * s + 2) ≤ 5000) ∧ Wf s = Wf (Nf (6 * s + 3)).toNat + 1)
  ∨ (Kf s = 6 ∧ 1 ≤ Nf (6 * s) ∧ Nf (6 * s) < s ∧ Wf s = Wf (Nf (6 * s)).toNat + 1))
/-- a solid's own cell -/
def soC (Ad : Nat → Nat) (Kf Nf Wf : Nat → Int) (s : Nat) : va_E :=
  if Kf s = 0 then .inr (1, [.int (iI (Wf s)), .int (iI (Nf (6 * s))), .int (iI (Nf (6 * s + 1))), .int (iI (Nf (6 * s + 2))), .int (iI (Nf (6 * s + 3))), .int (iI (Nf (6 * s + 4))), .int (iI (Nf (6 * s + 5)))])
  else if Kf s = 1 then .inr (6, [.int (iI (Wf s)), .int (iI (Nf (6 * s))), .int (iI (Nf (6 * s + 1))), .int (iI (Nf (6 * s + 2))), .int (iI (Nf (6 * s + 3))), .int (iI (Nf (6 * s + 4)))])
  else if Kf s = 2 then .inr (0, [.int (iI (Wf s)), .int (iI (Nf (6 * s))), .int (iI (Nf (6 * s + 1))), .int (iI (Nf (6 * s + 2))), .int (iI (Nf (6 * s + 3)))])
  else if Kf s = 3 then .inr (2, [.int (iI (Wf s)), .int (iI (Nf (6 * s))), .int (iI (Nf (6 * s + 1))), .int (iI (Nf (6 * s + 2))), .int (iI (Nf (6 * s + 3))), .int (iI (Nf (6 * s + 4)))])
  else if Kf s = 4 then .inr (4, [.int (iI (Wf s)), .ref (Ad (Nf (6 * s)).toNat), .ref (Ad (Nf (6 * s + 1)).toNat), .int (iI (Nf (6 * s + 2)))])
  else if Kf s = 5 then .inr (5, [.int (iI (Wf s)), .ref (Ad (Nf (6 * s + 3)).toNat), .int (iI (Nf (6 * s))), .int (iI (Nf (6 * s + 1))), .int (iI (Nf (6 * s + 2)))])
  else .inr (8, [.int (iI (Wf s)), .ref (Ad (Nf (6 * s)).toNat)])
/-- all solids stand -/
def soA (lo : Nat) (h : ch_H) (n : Nat) (Ad : Nat → Nat) (Kf Nf Wf : Nat → Int) : Prop := ∀ s, 1 ≤ s → s ≤ n → lo + 26 ≤ Ad s ∧ h (Ad s) = some (soC Ad Kf Nf Wf s) ∧ wfS Kf Nf Wf s
theorem soA.fr {lo : Nat} {h h2 : ch_H} {n : Nat} {Ad : Nat → Nat} {Kf Nf Wf : Nat → Int} (H : soA lo h n Ad Kf Nf Wf) (fr : ch_fr (wwL lo) h h2) : soA lo h2 n Ad Kf Nf Wf := by
  intro s h1 h3
  obtain ⟨a, b, c⟩ := H s h1 h3
  exact ⟨a, by rw [fr _ (wwL_out (by omega))]; exact b, c⟩
theorem soC_S {Ad : Nat → Nat} {Kf Nf Wf : Nat → Int} {s : Nat} (_H : wfS Kf Nf Wf s) : ∃ ci vs, soC Ad Kf Nf Wf s = .inr (ci, .int (iI (Wf s)) :: vs) ∧ isS ci := by
  unfold soC
  split
  · exact ⟨_, _, rfl, isS_1⟩
  split
  · exact ⟨_, _, rfl, isS_6⟩
  split
  · exact ⟨_, _, rfl, isS_0⟩
  split
  · exact ⟨_, _, rfl, isS_2⟩
  split
  · exact ⟨_, _, rfl, isS_4⟩
  split
  · exact ⟨_, _, rfl, isS_5⟩
  · exact ⟨_, _, rfl, isS_8⟩
theorem seg_len (a b : Int) : (seg a b).length ≤ 2 := by unfold seg; split <;> simp
theorem ed_len {Kf Nf Wf : Nat → Int} {n : Nat} (H : ∀ s, 1 ≤ s → s ≤ n → wfS Kf Nf Wf s) : ∀ (s : Nat), 1 ≤ s → s ≤ n → ∀ (x y t : Int), ((ed Kf Nf s x y t).length : Int) ≤ 2 * ((Wf s + 1) / 2) := by
  intro s
  induction s using Nat.strongRecOn with
  | ind s ih =>
    intro h1 h2 x y t
    obtain ⟨hw, hk⟩ := H s h1 h2
    rw [ed]
    rcases hk with ⟨hk, hw1, -⟩ | ⟨hk, a1, a2, b1, b2, -, -, hw1⟩ | ⟨hk, a1, a2, -, -, -, hw1⟩ | ⟨hk, a1, a2, hw1⟩
    · have key : ∀ L : List Int, L.length ≤ 2 → (L.length : Int) ≤ 2 * ((Wf s + 1) / 2) := fun L hL => by omega
      apply key
      split
      · unfold bxS; split
        · exact seg_len _ _
        · simp
      split
      · unfold poS; split
        · exact seg_len _ _
        · simp
      split
      · unfold baS; split
        · simp
        · exact seg_len _ _
      split
      · unfold coS; split
        · simp
        · exact seg_len _ _
      · exfalso; omega
    · rw [if_neg (by omega), if_neg (by omega), if_neg (by omega), if_neg (by omega), if_pos hk, dif_pos ⟨by omega, by omega⟩]
      have := mixL_len (Nf (6 * s + 2)) (ed Kf Nf (Nf (6 * s)).toNat x y t) (ed Kf Nf (Nf (6 * s + 1)).toNat x y t)
      have ha := ih (Nf (6 * s)).toNat (by omega) (by omega) (by omega) x y t
      have hb := ih (Nf (6 * s + 1)).toNat (by omega) (by omega) (by omega) x y t
      omega
    · rw [if_neg (by omega), if_neg (by omega), if_neg (by omega), if_neg (by omega), if_neg (by omega), if_pos hk, dif_pos (by omega)]
      have ha := ih (Nf (6 * s + 3)).toNat (by omega) (by omega) (by omega) (x - Nf (6 * s)) (y - Nf (6 * s + 1)) (t + Nf (6 * s + 2))
      omega
    · rw [if_neg (by omega), if_neg (by omega), if_neg (by omega), if_neg (by omega), if_neg (by omega), if_neg (by omega), dif_pos (by omega)]
      have ha := ih (Nf (6 * s)).toNat (by omega) (by omega) (by omega) y (-x) t
      omega
/-- what waits below stays -/
def agS (c : Int) (gw : Nat → Option Nat) (fx fy fl fh : Nat → Int) (gw2 : Nat → Option Nat) (fx2 fy2 fl2 fh2 : Nat → Int) : Prop := ∀ i : Nat, (i : Int) < c → gw2 i = gw i ∧ fx2 i = fx i ∧ fy2 i = fy i ∧ fl2 i = fl i ∧ fh2 i = fh i
theorem agS_0 {c : Int} {gw : Nat → Option Nat} {fx fy fl fh : Nat → Int} : agS c gw fx fy fl fh gw fx fy fl fh := fun _ _ => ⟨rfl, rfl, rfl, rfl, rfl⟩
theorem va_upS {α : Type} {f : Nat → α} {k : Nat} {v : α} : va_up f k v k = v := if_pos rfl
theorem va_upN {α : Type} {f : Nat → α} {k j : Nat} {v : α} (h : j ≠ k) : va_up f k v j = f j := if_neg h
set_option maxHeartbeats 4000000 in
set_option maxRecDepth 100000 in
theorem over_pop {l : Launch} {D : va_G} {cI cL cR : ClassId} {lo hi r : Nat} {Z : List Frame → Array Value → State → State → Prop} {h : ch_H} {gw : Nat → Option Nat} {fx fy fl fh : Nat → Int} {w step : Int} {Ls : List (List Int)} (W : wwP cI cR lo h gw fx fy fl fh w Ls) (hw : 1 ≤ w ∧ w ≤ 100) (hst : 0 ≤ step ∧ step < 200) (Q : ch_H → Option Value → ch_H → Nat → Prop) (hQ : ∀ h1 r h2 hi2, Q h1 r h2 hi2 → r = none ∧ hi = hi2) (C1 : ∀ h1, wwP cI cR lo h1 gw fx fy fl fh (w - 1) Ls → ch_fr (wwL lo) h h1 → ch_C l (eE D cI cL cR lo) M_X10_lookAt (rM 3 0 0) [.ref (lo + 3), .int (iI (w - 1))] h1 hi (Q h1)) (kk : ∀ h1 h2, ch_fr (wwL lo) h h1 → Q h1 none h2 hi → ch_G l (eE D cI cL cR lo) M_X10_over ch_T (rM 4 0 0) Z 0 0 h2 hi 23 [(0, .ref (lo + 3)), (4, .ref r), (5, .int (iI (step + 1)))] []) : ch_G l (eE D cI cL cR lo) M_X10_over ch_T (rM 4 0 0) Z 0 0 h hi 23 [(0, .ref (lo + 3)), (4, .ref r), (5, .int (iI step))] [] := by
  obtain ⟨fe, fs, fm, ec, sc, W0, W1, W2, W3, W4, W5, W6, W7, W8, W9, hfs⟩ := W
  refine gx_iload 2 dX10_over_23 rfl ?_
  refine gx_sipush (iI 200) dX10_over_25 (by decide) ?_
  refine gy_icmp_ge 62 dX10_over_28 (by decide) (by constructor <;> omega) (by decide) (fun c28 => absurd c28 (by omega)) (fun c28 => ?_)
  refine gx_aload_n 0 dX10_over_31 rfl rfl ?_
  refine gx_get (ci := 9) (f := 5) (C := RX10) (T := TX10) (N := 7) rfl inX10 (by decide) mw_1_60 dX10_over_32 W0 rfl ?_
  refine gy_if_le 62 dX10_over_35 (by decide) (by constructor <;> omega) (fun c35 => absurd c35 (by omega)) (fun c35 => ?_)
  refine gx_aload_n 0 dX10_over_38 rfl rfl ?_
  refine gx_dup dX10_over_39 rfl ?_
  refine gx_get (ci := 9) (f := 5) (C := RX10) (T := TX10) (N := 7) rfl inX10 (by decide) mw_1_60 dX10_over_40 W0 rfl ?_
  refine gx_iconst (iI 1) dX10_over_43 rfl ?_
  refine gy_isub dX10_over_44 ?_
  refine gy_put (ci := 9) (f := 5) (C := RX10) (T := TX10) (N := 7) (ty := .int) (fs2 := [.ref (lo + 4), .ref (lo + 5), .ref (lo + 6), .ref (lo + 7), .ref (lo + 8), .int (iI (w - 1)), .ref (lo + 9)]) tyX10 rfl inX10 tyX10_ok nmX10 (by decide) mw_1_60 (Or.inl rfl) (by decide +kernel) rfl rfl dX10_over_45 W0 (by simp) rfl (fun h1 eh1 => ?_)
  have k2 : h1 (lo + 4) = some (aR cR 100 gw) := by rw [eh1, ch_set_ne (by first | assumption | exact Ne.symm (by assumption) | omega)]; exact W1
  have k3 : h1 (lo + 5) = some (aI cI 100 fx) := by rw [eh1, ch_set_ne (by first | assumption | exact Ne.symm (by assumption) | omega)]; exact W2
  have k4 : h1 (lo + 6) = some (aI cI 100 fy) := by rw [eh1, ch_set_ne (by first | assumption | exact Ne.symm (by assumption) | omega)]; exact W3
  have k5 : h1 (lo + 7) = some (aI cI 100 fl) := by rw [eh1, ch_set_ne (by first | assumption | exact Ne.symm (by assumption) | omega)]; exact W4
  have k6 : h1 (lo + 8) = some (aI cI 100 fh) := by rw [eh1, ch_set_ne (by first | assumption | exact Ne.symm (by assumption) | omega)]; exact W5
  have k7 : h1 (lo + 9) = some (.inr (3, [.ref (lo + 10), .ref (lo + 11), .ref (lo + 12), .int (iI ec), .int (iI sc)])) := by rw [eh1, ch_set_ne (by first | assumption | exact Ne.symm (by assumption) | omega)]; exact W6
  have k8 : h1 (lo + 10) = some (aI cI 100 fe) := by rw [eh1, ch_set_ne (by first | assumption | exact Ne.symm (by assumption) | omega)]; exact W7
  have k9 : h1 (lo + 11) = some (aI cI 50 fs) := by rw [eh1, ch_set_ne (by first | assumption | exact Ne.symm (by assumption) | omega)]; exact W8
  have k10 : h1 (lo + 12) = some (aI cI 100 fm) := by rw [eh1, ch_set_ne (by first | assumption | exact Ne.symm (by assumption) | omega)]; exact W9
  have k11 : h1 (lo + 3) = some (.inr (9, [.ref (lo + 4), .ref (lo + 5), .ref (lo + 6), .ref (lo + 7), .ref (lo + 8), .int (iI (w - 1)), .ref (lo + 9)])) := by rw [eh1]; exact ch_set_self
  refine gx_aload_n 0 dX10_over_48 rfl rfl ?_
  refine gx_aload_n 0 dX10_over_49 rfl rfl ?_
  refine gx_get (ci := 9) (f := 5) (C := RX10) (T := TX10) (N := 7) rfl inX10 (by decide) mw_1_60 dX10_over_50 k11 rfl ?_
  have W1 : wwP cI cR lo h1 gw fx fy fl fh (w - 1) Ls := ⟨_, _, _, _, _, k11, k2, k3, k4, k5, k6, k7, k8, k9, k10, hfs⟩
  have fr1 : ch_fr (wwL lo) h h1 := by rw [eh1]; exact ch_frS ch_fr0 (wwL_in.mpr ⟨by omega, by omega⟩)
  refine gx_callV (ci := 9) (C1 _ W1 fr1) ok_X10_lookAt mw_2_101 mw_2_103 mw_p_7 dX10_over_53 rfl k11 rfl rfl (Nat.le_of_ble_eq_true rfl) (by first | exact Nat.le_of_ble_eq_true rfl | (simp only [rM]; omega)) (by first | exact Nat.le_of_ble_eq_true rfl | (simp only [rM]; omega)) (by first | exact Nat.le_of_ble_eq_true rfl | (simp only [rM]; omega)) (by first | exact Nat.le_of_ble_eq_true rfl | (simp only [rM]; omega)) (fun r12 h13 u14 q15 g16 => ?_)
  obtain ⟨rfl, rfl⟩ := hQ _ _ _ _ q15
  refine ch_Gst (st2 := []) rfl ?_
  refine gy_iinc 2 [(5, .int (iI (step + 1))), (0, .ref (lo + 3)), (4, .ref r)] dX10_over_56 rfl (by decide) rfl ?_
  refine gx_goto 23 dX10_over_59 (by decide) ?_
  refine ch_Glv (lv' := [(0, .ref (lo + 3)), (4, .ref r), (5, .int (iI (step + 1)))]) [1, 2, 0] rfl ?_
  exact kk _ _ fr1 q15
set_option maxHeartbeats 4000000 in
set_option maxRecDepth 100000 in
theorem over_run {l : Launch} {D : va_G} {cI cL cR : ClassId} {lo hi r : Nat} {Z : List Frame → Array Value → State → State → Prop} {n : Nat} {Ad : Nat → Nat} {Kf Nf Wf : Nat → Int} (hn : n ≤ 60) : ∀ (s : Nat), 1 ≤ s → s ≤ n → ∀ (x y t w step : Int) (h : ch_H) (gw : Nat → Option Nat) (fx fy fl fh : Nat → Int) (Ls : List (List Int)), soA lo h n Ad Kf Nf Wf → wwP cI cR lo h gw fx fy fl fh w Ls → gw (w - 1).toNat = some (Ad s) → fx (w - 1).toNat = x → fy (w - 1).toNat = y → fl (w - 1).toNat = t → (-400000 + 5000 * (s : Int) ≤ x ∧ x ≤ 400000 - 5000 * (s : Int)) → (-400000 + 5000 * (s : Int) ≤ y ∧ y ≤ 400000 - 5000 * (s : Int)) → (-400000 + 5000 * (s : Int) ≤ t ∧ t ≤ 400000 - 5000 * (s : Int)) → 1 ≤ w → w - 1 + Wf s ≤ 100 → 2 * (Ls.length : Int) + Wf s ≤ 100 → (Ls.flatten.length : Int) + 2 * ((Wf s + 1) / 2) ≤ 100 → 0 ≤ step → step + 2 * Wf s - 1 ≤ 200 →
    (∀ (h2 : ch_H) (gw2 : Nat → Option Nat) (fx2 fy2 fl2 fh2 : Nat → Int) (step2 : Int), wwP cI cR lo h2 gw2 fx2 fy2 fl2 fh2 (w - 1) (Ls ++ [ed Kf Nf s x y t]) → agS (w - 1) gw fx fy fl fh gw2 fx2 fy2 fl2 fh2 → ch_fr (wwL lo) h h2 → step ≤ step2 → step2 ≤ step + 2 * Wf s - 1 → ch_G l (eE D cI cL cR lo) M_X10_over ch_T (rM 4 0 0) Z 0 0 h2 hi 23 [(0, .ref (lo + 3)), (4, .ref r), (5, .int (iI step2))] []) → ch_G l (eE D cI cL cR lo) M_X10_over ch_T (rM 4 0 0) Z 0 0 h hi 23 [(0, .ref (lo + 3)), (4, .ref r), (5, .int (iI step))] [] := by
  intro s
  induction s using Nat.strongRecOn with
  | ind s ih =>
    intro h1 h2 x y t w step h gw fx fy fl fh Ls HA W e1 e2 e3 e4 bx by_ bt hw1 hw2 hl1 hl2 hs0 hs1 kk
    obtain ⟨hal, hc, hwf⟩ := HA s h1 h2
    obtain ⟨hW, hk⟩ := hwf
    unfold soC at hc
    rcases hk with ⟨hk, hw1', hN, hr1, hr2⟩ | ⟨hk, a1, a2, b1, b2, c1, c2, hw1'⟩ | ⟨hk, a1, a2, n0, n1, n2, hw1'⟩ | ⟨hk, a1, a2, hw1'⟩
    · have n0 := hN 0 (by omega)
      rw [Nat.add_zero] at n0
      have n1 := hN 1 (by omega)
      have n2 := hN 2 (by omega)
      have n3 := hN 3 (by omega)
      have n4 := hN 4 (by omega)
      have n5 := hN 5 (by omega)
      by_cases k0 : Kf s = 0
      · rw [if_pos k0] at hc
        exact over_pop W ⟨by omega, by omega⟩ ⟨by omega, by omega⟩ (fun h1 r0 h2 hi2 => r0 = none ∧ wwP cI cR lo h2 gw fx fy fl fh (w - 1) (Ls ++ [bxS (Nf (6 * s)) (Nf (6 * s + 1)) (Nf (6 * s + 2)) (Nf (6 * s + 3)) (Nf (6 * s + 4)) (Nf (6 * s + 5)) x y t]) ∧ ch_fr (wwL lo) h1 h2 ∧ hi = hi2) (fun _ _ _ _ q => ⟨q.1, q.2.2.2⟩)
            (fun h1 W1 fr1 => c_X10_lookAt_1 l D cI cL cR lo h1 hi gw fx fy fl fh (w - 1) Ls W1 (Ad s) _ (by rw [fr1 _ (wwL_out (by omega))]; exact hc) (w - 1) x y t (by omega) e1 e2 e3 e4 _ (fun _ _ _ q => q.1)
              (c_X1_lookFrom l D cI cL cR lo h1 hi gw fx fy fl fh (w - 1) Ls W1 (Ad s) (Wf s) (Nf (6 * s)) (Nf (6 * s + 1)) (Nf (6 * s + 2)) (Nf (6 * s + 3)) (Nf (6 * s + 4)) (Nf (6 * s + 5)) (by rw [fr1 _ (wwL_out (by omega))]; exact hc) (by omega) n0 n1 n2 n3 n4 n5 x y t (by omega) (by omega) (by omega) (by omega) (by omega)))
            (fun h1 h2 fr1 q => kk h2 gw fx fy fl fh (step + 1) (by rw [ed, if_pos k0]; exact q.2.1) agS_0 (ch_frT fr1 q.2.2.1 (fun _ q => q)) (by omega) (by omega))
      by_cases k1 : Kf s = 1
      · rw [if_neg k0, if_pos k1] at hc
        exact over_pop W ⟨by omega, by omega⟩ ⟨by omega, by omega⟩ (fun h1 r0 h2 hi2 => r0 = none ∧ wwP cI cR lo h2 gw fx fy fl fh (w - 1) (Ls ++ [poS (Nf (6 * s)) (Nf (6 * s + 1)) (Nf (6 * s + 2)) (Nf (6 * s + 3)) (Nf (6 * s + 4)) x y t]) ∧ ch_fr (wwL lo) h1 h2 ∧ hi = hi2) (fun _ _ _ _ q => ⟨q.1, q.2.2.2⟩)
            (fun h1 W1 fr1 => c_X10_lookAt_6 l D cI cL cR lo h1 hi gw fx fy fl fh (w - 1) Ls W1 (Ad s) _ (by rw [fr1 _ (wwL_out (by omega))]; exact hc) (w - 1) x y t (by omega) e1 e2 e3 e4 _ (fun _ _ _ q => q.1)
              (c_X6_lookFrom l D cI cL cR lo h1 hi gw fx fy fl fh (w - 1) Ls W1 (Ad s) (Wf s) (Nf (6 * s)) (Nf (6 * s + 1)) (Nf (6 * s + 2)) (Nf (6 * s + 3)) (Nf (6 * s + 4)) (by rw [fr1 _ (wwL_out (by omega))]; exact hc) (by omega) n0 n1 n2 n3 n4 x y t (by omega) (by omega) (by omega) (by omega) (by omega)))
            (fun h1 h2 fr1 q => kk h2 gw fx fy fl fh (step + 1) (by rw [ed, if_neg k0, if_pos k1]; exact q.2.1) agS_0 (ch_frT fr1 q.2.2.1 (fun _ q => q)) (by omega) (by omega))
      by_cases k2 : Kf s = 2
      · rw [if_neg k0, if_neg k1, if_pos k2] at hc
        exact over_pop W ⟨by omega, by omega⟩ ⟨by omega, by omega⟩ (fun h1 r0 h2 hi2 => r0 = none ∧ wwP cI cR lo h2 gw fx fy fl fh (w - 1) (Ls ++ [baS (Nf (6 * s)) (Nf (6 * s + 1)) (Nf (6 * s + 2)) (Nf (6 * s + 3)) x y t]) ∧ ch_fr (wwL lo) h1 h2 ∧ hi = hi2) (fun _ _ _ _ q => ⟨q.1, q.2.2.2⟩)
            (fun h1 W1 fr1 => c_X10_lookAt_0 l D cI cL cR lo h1 hi gw fx fy fl fh (w - 1) Ls W1 (Ad s) _ (by rw [fr1 _ (wwL_out (by omega))]; exact hc) (w - 1) x y t (by omega) e1 e2 e3 e4 _ (fun _ _ _ q => q.1)
              (c_X0_lookFrom l D cI cL cR lo h1 hi gw fx fy fl fh (w - 1) Ls W1 (Ad s) (Wf s) (Nf (6 * s)) (Nf (6 * s + 1)) (Nf (6 * s + 2)) (Nf (6 * s + 3)) (by rw [fr1 _ (wwL_out (by omega))]; exact hc) (by omega) n0 n1 n2 n3 (hr2 k2) x y t (by omega) (by omega) (by omega) (by omega) (by omega)))
            (fun h1 h2 fr1 q => kk h2 gw fx fy fl fh (step + 1) (by rw [ed, if_neg k0, if_neg k1, if_pos k2]; exact q.2.1) agS_0 (ch_frT fr1 q.2.2.1 (fun _ q => q)) (by omega) (by omega))
      have k3 : Kf s = 3 := by omega
      rw [if_neg k0, if_neg k1, if_neg k2, if_pos k3] at hc
      have r3 := hr1 (Or.inr k3)
      exact over_pop W ⟨by omega, by omega⟩ ⟨by omega, by omega⟩ (fun h1 r0 h2 hi2 => r0 = none ∧ wwP cI cR lo h2 gw fx fy fl fh (w - 1) (Ls ++ [coS (Nf (6 * s)) (Nf (6 * s + 1)) (Nf (6 * s + 2)) (Nf (6 * s + 3)) (Nf (6 * s + 4)) x y t]) ∧ ch_fr (wwL lo) h1 h2 ∧ hi = hi2) (fun _ _ _ _ q => ⟨q.1, q.2.2.2⟩)
            (fun h1 W1 fr1 => c_X10_lookAt_2 l D cI cL cR lo h1 hi gw fx fy fl fh (w - 1) Ls W1 (Ad s) _ (by rw [fr1 _ (wwL_out (by omega))]; exact hc) (w - 1) x y t (by omega) e1 e2 e3 e4 _ (fun _ _ _ q => q.1)
              (c_X2_lookFrom l D cI cL cR lo h1 hi gw fx fy fl fh (w - 1) Ls W1 (Ad s) (Wf s) (Nf (6 * s)) (Nf (6 * s + 1)) (Nf (6 * s + 2)) (Nf (6 * s + 3)) (Nf (6 * s + 4)) (by rw [fr1 _ (wwL_out (by omega))]; exact hc) (by omega) n0 n1 n2 n3 n4 r3 x y t (by omega) (by omega) (by omega) (by omega) (by omega)))
            (fun h1 h2 fr1 q => kk h2 gw fx fy fl fh (step + 1) (by rw [ed, if_neg k0, if_neg k1, if_neg k2, if_pos k3]; exact q.2.1) agS_0 (ch_frT fr1 q.2.2.1 (fun _ q => q)) (by omega) (by omega))
    · rw [if_neg (by omega), if_neg (by omega), if_neg (by omega), if_neg (by omega), if_pos hk] at hc
      obtain ⟨a, ea⟩ : ∃ z, z = (Nf (6 * s)).toNat := ⟨_, rfl⟩
      obtain ⟨b, eb⟩ : ∃ z, z = (Nf (6 * s + 1)).toNat := ⟨_, rfl⟩
      obtain ⟨how, eh⟩ : ∃ z, z = Nf (6 * s + 2) := ⟨_, rfl⟩
      have eE1 : ed Kf Nf s x y t = mixL how (ed Kf Nf a x y t) (ed Kf Nf b x y t) := by rw [ed, if_neg (by omega), if_neg (by omega), if_neg (by omega), if_neg (by omega), if_pos hk, dif_pos ⟨by omega, by omega⟩, ← ea, ← eb, ← eh]
      rw [← ea, ← eb, ← eh] at hc
      rw [← ea, ← eb] at hw1'
      obtain ⟨al, ac, awf⟩ := HA a (by omega) (by omega)
      obtain ⟨bl, bc, bwf⟩ := HA b (by omega) (by omega)
      obtain ⟨ca, va, sa1, sa2⟩ := soC_S (Ad := Ad) awf
      obtain ⟨cb, vb, sb1, sb2⟩ := soC_S (Ad := Ad) bwf
      rw [sa1] at ac
      rw [sb1] at bc
      have wa := awf.1
      have wb := bwf.1
      have HW : ∀ s, 1 ≤ s → s ≤ n → wfS Kf Nf Wf s := fun s q1 q2 => (HA s q1 q2).2.2
      have la := ed_len HW a (by omega) (by omega) x y t
      have lb := ed_len HW b (by omega) (by omega) x y t
      refine over_pop W ⟨by omega, by omega⟩ ⟨by omega, by omega⟩ _ (fun _ _ _ _ q => ⟨q.1, q.2.2.2⟩)
        (fun h1 W1 fr1 => c_X10_lookAt_4 l D cI cL cR lo h1 hi gw fx fy fl fh (w - 1) Ls W1 (Ad s) _ (by rw [fr1 _ (wwL_out (by omega))]; exact hc) (w - 1) x y t (by omega) e1 e2 e3 e4 _ (fun _ _ _ q => q.1)
          (c_X4_lookFrom l D cI cL cR lo h1 hi gw fx fy fl fh (w - 1) Ls W1 (Ad s) (Ad a) (Ad b) (Wf s) how (by rw [fr1 _ (wwL_out (by omega))]; exact hc) (by omega) x y t (by omega) (by omega) (by omega) ca _ (by rw [fr1 _ (wwL_out (by omega))]; exact ac) sa2 (by omega) cb _ (by rw [fr1 _ (wwL_out (by omega))]; exact bc) sb2 (by omega) (by omega)))
        (fun h1 h2 fr1 q => ?_)
      obtain ⟨-, W2, fr2, -⟩ := q
      have F2 := ch_frT fr1 fr2 (fun _ q => q)
      refine ih a (by omega) (by omega) (by omega) x y t _ (step + 1) h2 _ _ _ _ _ Ls (HA.fr F2) W2 (by rw [show (w - 1 + 1 + 1 + 1 - 1).toNat = (w - 1 + 1 + 1).toNat by omega, va_upS]) (by rw [show (w - 1 + 1 + 1 + 1 - 1).toNat = (w - 1 + 1 + 1).toNat by omega, updI_s]) (by rw [show (w - 1 + 1 + 1 + 1 - 1).toNat = (w - 1 + 1 + 1).toNat by omega, updI_s]) (by rw [show (w - 1 + 1 + 1 + 1 - 1).toNat = (w - 1 + 1 + 1).toNat by omega, updI_s]) (by omega) (by omega) (by omega) (by omega) (by omega) (by omega) (by omega) (by omega) (by omega) ?_
      intro h3 gw3 fx3 fy3 fl3 fh3 step3 W3 ag3 fr3 hs3 hs3'
      obtain ⟨g1, g2, g3, g4, g5⟩ := ag3 (w - 1 + 1).toNat (by omega)
      rw [va_upN (by omega), va_upS] at g1
      rw [updI_n (by omega), updI_s] at g2 g3 g4
      have F3 := ch_frT F2 fr3 (fun _ q => q)
      have hl3 : (Ls ++ [ed Kf Nf a x y t]).length = Ls.length + 1 := by simp
      have hl4 : (Ls ++ [ed Kf Nf a x y t]).flatten.length = Ls.flatten.length + (ed Kf Nf a x y t).length := by rw [List.flatten_append, List.length_append]; simp
      have ix : (w - 1 + 1 + 1 + 1 - 1 - 1).toNat = (w - 1 + 1).toNat := by omega
      refine ih b (by omega) (by omega) (by omega) x y t _ step3 h3 gw3 fx3 fy3 fl3 fh3 _ (HA.fr F3) W3 (by rw [ix]; exact g1) (by rw [ix]; exact g2) (by rw [ix]; exact g3) (by rw [ix]; exact g4) (by omega) (by omega) (by omega) (by omega) (by omega) (by omega) (by omega) (by omega) (by omega) ?_
      intro h4 gw4 fx4 fy4 fl4 fh4 step4 W4 ag4 fr4 hs4 hs4'
      have F4 := ch_frT F3 fr4 (fun _ q => q)
      rw [List.append_assoc] at W4
      obtain ⟨j1, -, -, -, j5⟩ := ag4 (w - 1).toNat (by omega)
      obtain ⟨i1, -, -, -, i5⟩ := ag3 (w - 1).toNat (by omega)
      rw [va_upN (by omega), va_upN (by omega), va_upS] at i1
      rw [updI_s] at i5
      have iy : (w - 1 + 1 + 1 + 1 - 1 - 1 - 1).toNat = (w - 1).toNat := by omega
      refine over_pop W4 ⟨by omega, by omega⟩ ⟨by omega, by omega⟩ _ (fun _ _ _ _ q => ⟨q.1, q.2.2.2⟩)
        (fun h5 W5 fr5 => c_X10_lookAt_J l D cI cL cR lo h5 hi gw4 fx4 fy4 fl4 fh4 _ Ls (ed Kf Nf a x y t) (ed Kf Nf b x y t) W5 _ how (by omega) (by rw [iy, j1, i1]) (by rw [iy, j5, i5]) (by constructor <;> omega) (by omega) (by omega))
        (fun h5 h6 fr5 q => ?_)
      obtain ⟨-, W6, fr6, -⟩ := q
      refine kk h6 gw4 fx4 fy4 fl4 fh4 (step4 + 1) (by rw [eE1]; rw [show w - 1 + 1 + 1 + 1 - 1 - 1 - 1 = w - 1 by omega] at W6; exact W6) ?_ (ch_frT F4 (ch_frT fr5 fr6 (fun _ q => q)) (fun _ q => q)) (by omega) (by omega)
      intro i hi'
      obtain ⟨p1, p2, p3, p4, p5⟩ := ag4 i (by omega)
      obtain ⟨q1, q2, q3, q4, q5⟩ := ag3 i (by omega)
      rw [va_upN (by omega), va_upN (by omega), va_upN (by omega)] at q1
      rw [updI_n (by omega), updI_n (by omega)] at q2 q3 q4
      rw [updI_n (by omega)] at q5
      exact ⟨p1.trans q1, p2.trans q2, p3.trans q3, p4.trans q4, p5.trans q5⟩
    · rw [if_neg (by omega), if_neg (by omega), if_neg (by omega), if_neg (by omega), if_neg (by omega), if_pos hk] at hc
      obtain ⟨a, ea⟩ : ∃ z, z = (Nf (6 * s + 3)).toNat := ⟨_, rfl⟩
      have eE1 : ed Kf Nf s x y t = ed Kf Nf a (x - Nf (6 * s)) (y - Nf (6 * s + 1)) (t + Nf (6 * s + 2)) := by rw [ed, if_neg (by omega), if_neg (by omega), if_neg (by omega), if_neg (by omega), if_neg (by omega), if_pos hk, dif_pos (by omega), ← ea]
      rw [← ea] at hc hw1'
      obtain ⟨al, ac, awf⟩ := HA a (by omega) (by omega)
      obtain ⟨ca, va, sa1, sa2⟩ := soC_S (Ad := Ad) awf
      rw [sa1] at ac
      have wa := awf.1
      refine over_pop W ⟨by omega, by omega⟩ ⟨by omega, by omega⟩ _ (fun _ _ _ _ q => ⟨q.1, q.2.2.2⟩)
            (fun h1 W1 fr1 => c_X10_lookAt_5 l D cI cL cR lo h1 hi gw fx fy fl fh (w - 1) Ls W1 (Ad s) _ (by rw [fr1 _ (wwL_out (by omega))]; exact hc) (w - 1) x y t (by omega) e1 e2 e3 e4 _ (fun _ _ _ q => q.1)
              (c_X5_lookFrom l D cI cL cR lo h1 hi gw fx fy fl fh (w - 1) Ls W1 (Ad s) (Ad a) (Wf s) (Nf (6 * s)) (Nf (6 * s + 1)) (Nf (6 * s + 2)) (by rw [fr1 _ (wwL_out (by omega))]; exact hc) (by omega) x y t (by omega) (by omega) (by omega) ca _ (by rw [fr1 _ (wwL_out (by omega))]; exact ac) sa2 (by omega) (by omega)))
        (fun h1 h2 fr1 q => ?_)
      obtain ⟨-, W2, fr2, -⟩ := q
      have F2 := ch_frT fr1 fr2 (fun _ q => q)
      refine ih a (by omega) (by omega) (by omega) (x - Nf (6 * s)) (y - Nf (6 * s + 1)) (t + Nf (6 * s + 2)) _ (step + 1) h2 _ _ _ _ _ Ls (HA.fr F2) W2 (by rw [show (w - 1 + 1 - 1).toNat = (w - 1).toNat by omega, va_upS]) (by rw [show (w - 1 + 1 - 1).toNat = (w - 1).toNat by omega, updI_s]) (by rw [show (w - 1 + 1 - 1).toNat = (w - 1).toNat by omega, updI_s]) (by rw [show (w - 1 + 1 - 1).toNat = (w - 1).toNat by omega, updI_s]) (by omega) (by omega) (by omega) (by omega) (by omega) (by omega) (by omega) (by omega) (by omega) ?_
      intro h3 gw3 fx3 fy3 fl3 fh3 step3 W3 ag3 fr3 hs3 hs3'
      rw [show w - 1 + 1 - 1 = w - 1 by omega] at W3 ag3
      refine kk h3 gw3 fx3 fy3 fl3 fh3 step3 (by rw [eE1]; exact W3) ?_ (ch_frT F2 fr3 (fun _ q => q)) (by omega) (by omega)
      intro i hi'
      obtain ⟨q1, q2, q3, q4, q5⟩ := ag3 i (by omega)
      rw [va_upN (by omega)] at q1
      rw [updI_n (by omega)] at q2 q3 q4
      exact ⟨q1, q2, q3, q4, q5⟩
    · rw [if_neg (by omega), if_neg (by omega), if_neg (by omega), if_neg (by omega), if_neg (by omega), if_neg (by omega)] at hc
      obtain ⟨a, ea⟩ : ∃ z, z = (Nf (6 * s)).toNat := ⟨_, rfl⟩
      have eE1 : ed Kf Nf s x y t = ed Kf Nf a y (-x) t := by rw [ed, if_neg (by omega), if_neg (by omega), if_neg (by omega), if_neg (by omega), if_neg (by omega), if_neg (by omega), dif_pos (by omega), ← ea]
      rw [← ea] at hc hw1'
      obtain ⟨al, ac, awf⟩ := HA a (by omega) (by omega)
      obtain ⟨ca, va, sa1, sa2⟩ := soC_S (Ad := Ad) awf
      rw [sa1] at ac
      have wa := awf.1
      refine over_pop W ⟨by omega, by omega⟩ ⟨by omega, by omega⟩ _ (fun _ _ _ _ q => ⟨q.1, q.2.2.2⟩)
            (fun h1 W1 fr1 => c_X10_lookAt_8 l D cI cL cR lo h1 hi gw fx fy fl fh (w - 1) Ls W1 (Ad s) _ (by rw [fr1 _ (wwL_out (by omega))]; exact hc) (w - 1) x y t (by omega) e1 e2 e3 e4 _ (fun _ _ _ q => q.1)
              (c_X9_lookFrom l D cI cL cR lo h1 hi gw fx fy fl fh (w - 1) Ls W1 (Ad s) (Ad a) (Wf s)  (by rw [fr1 _ (wwL_out (by omega))]; exact hc) (by omega) x y t (by omega) (by omega) (by omega) ca _ (by rw [fr1 _ (wwL_out (by omega))]; exact ac) sa2 (by omega) (by omega)))
        (fun h1 h2 fr1 q => ?_)
      obtain ⟨-, W2, fr2, -⟩ := q
      have F2 := ch_frT fr1 fr2 (fun _ q => q)
      refine ih a (by omega) (by omega) (by omega) y (-x) t _ (step + 1) h2 _ _ _ _ _ Ls (HA.fr F2) W2 (by rw [show (w - 1 + 1 - 1).toNat = (w - 1).toNat by omega, va_upS]) (by rw [show (w - 1 + 1 - 1).toNat = (w - 1).toNat by omega, updI_s]) (by rw [show (w - 1 + 1 - 1).toNat = (w - 1).toNat by omega, updI_s]) (by rw [show (w - 1 + 1 - 1).toNat = (w - 1).toNat by omega, updI_s]) (by omega) (by omega) (by omega) (by omega) (by omega) (by omega) (by omega) (by omega) (by omega) ?_
      intro h3 gw3 fx3 fy3 fl3 fh3 step3 W3 ag3 fr3 hs3 hs3'
      rw [show w - 1 + 1 - 1 = w - 1 by omega] at W3 ag3
      refine kk h3 gw3 fx3 fy3 fl3 fh3 step3 (by rw [eE1]; exact W3) ?_ (ch_frT F2 fr3 (fun _ q => q)) (by omega) (by omega)
      intro i hi'
      obtain ⟨q1, q2, q3, q4, q5⟩ := ag3 i (by omega)
      rw [va_upN (by omega)] at q1
      rw [updI_n (by omega)] at q2 q3 q4
      exact ⟨q1, q2, q3, q4, q5⟩
end
end
section
section
/-- a Runs object that holds the edges L -/
def ruP (cI : ClassId) (h : ch_H) (r g : Nat) (L : List Int) : Prop := ∃ f : Nat → Int, h r = some (.inr (7, [.ref g, .int (iI (L.length : Int))])) ∧ h g = some (aI cI 100 f) ∧ L.length ≤ 100 ∧ (∀ j, j < L.length → L[j]? = some (f j)) ∧ ∀ j : Nat, (j : Int) < (L.length : Int) → -1000000 ≤ f j ∧ f j ≤ 1000000
def wwE (cI cR : ClassId) (lo : Nat) (h : ch_H) : Prop := ∃ (gw : Nat → Option Nat) (fx fy fl fh : Nat → Int) (wc : Int) (Ls : List (List Int)), wwP cI cR lo h gw fx fy fl fh wc Ls
theorem fsR_1 {L : List Int} {fe fs : Nat → Int} {ec sc : Int} (H : fsR [L] fe fs ec sc) : ec = (L.length : Int) ∧ ∀ j, j < L.length → L[j]? = some (fe j) := by
  obtain ⟨h1, h2, h3, -⟩ := H
  simp only [List.flatten_cons, List.flatten_nil, List.append_nil] at h2 h3
  exact ⟨h2, h3⟩
theorem wwP_fr {cI cR : ClassId} {lo : Nat} {h h2 : ch_H} {gw : Nat → Option Nat} {fx fy fl fh : Nat → Int} {wc : Int} {Ls : List (List Int)} (W : wwP cI cR lo h gw fx fy fl fh wc Ls) (fr : ∀ b, lo + 3 ≤ b → b ≤ lo + 12 → h2 b = h b) : wwP cI cR lo h2 gw fx fy fl fh wc Ls := by
  obtain ⟨fe, fs, fm, ec, sc, W0, W1, W2, W3, W4, W5, W6, W7, W8, W9, hfs⟩ := W
  exact ⟨fe, fs, fm, ec, sc, by rw [fr _ (by omega) (by omega)]; exact W0, by rw [fr _ (by omega) (by omega)]; exact W1, by rw [fr _ (by omega) (by omega)]; exact W2, by rw [fr _ (by omega) (by omega)]; exact W3, by rw [fr _ (by omega) (by omega)]; exact W4, by rw [fr _ (by omega) (by omega)]; exact W5, by rw [fr _ (by omega) (by omega)]; exact W6, by rw [fr _ (by omega) (by omega)]; exact W7, by rw [fr _ (by omega) (by omega)]; exact W8, by rw [fr _ (by omega) (by omega)]; exact W9, hfs⟩
set_option maxHeartbeats 4000000 in
set_option maxRecDepth 100000 in
theorem c_X10_over (l : Launch) (D : va_G) (cI cL cR : ClassId) (lo : Nat) (h : ch_H) (hi : Nat) (gw : Nat → Option Nat) (fx fy fl fh : Nat → Int) (wc : Int) (Ls : List (List Int)) (W : wwP cI cR lo h gw fx fy fl fh wc Ls) (r g : Nat) (nr : Int) (fg : Nat → Int) (hr : h r = some (.inr (7, [.ref g, .int (iI nr)]))) (hg : h g = some (aI cI 100 fg)) (hrl : lo + 13 ≤ r) (hgl : lo + 13 ≤ g) (n : Nat) (Ad : Nat → Nat) (Kf Nf Wf : Nat → Int) (hn : n ≤ 60) (HA : soA lo h n Ad Kf Nf Wf) (hrA : ∀ s, 1 ≤ s → s ≤ n → Ad s ≠ r ∧ Ad s ≠ g) (s : Nat) (hs1 : 1 ≤ s) (hs2 : s ≤ n) (x y : Int) (hx : -100000 ≤ x ∧ x ≤ 100000) (hy : -100000 ≤ y ∧ y ≤ 100000) : ch_C l (eE D cI cL cR lo) M_X10_over (rM 4 0 0) [.ref (lo + 3), .ref (Ad s), .int (iI x), .int (iI y), .ref r] h hi (fun r0 h2 hi2 => r0 = none ∧ wwE cI cR lo h2 ∧ ruP cI h2 r g (ed Kf Nf s x y 0) ∧ ch_fr (r :: g :: wwL lo) h h2 ∧ hi = hi2) := by
  refine ch_C.of rfl (Nat.le_of_ble_eq_true rfl) ?_
  obtain ⟨fe, fs, fm, ec, sc, W0, W1, W2, W3, W4, W5, W6, W7, W8, W9, hfs⟩ := W
  obtain ⟨hpl, hp, hwf⟩ := HA s hs1 hs2
  obtain ⟨cS, vS, e1, sS⟩ := soC_S (Ad := Ad) hwf
  rw [e1] at hp
  have hW := hwf.1
  refine gx_aload_n 0 dX10_over_0 rfl rfl ?_
  refine gx_iconst (iI 0) dX10_over_1 rfl ?_
  refine gy_put (ci := 9) (f := 5) (C := RX10) (T := TX10) (N := 7) (ty := .int) (fs2 := [.ref (lo + 4), .ref (lo + 5), .ref (lo + 6), .ref (lo + 7), .ref (lo + 8), .int (iI 0), .ref (lo + 9)]) tyX10 rfl inX10 tyX10_ok nmX10 (by decide) mw_1_60 (Or.inl rfl) (by decide +kernel) rfl rfl dX10_over_2 W0 (by simp) rfl (fun h1 eh1 => ?_)
  have k2 : h1 (lo + 4) = some (aR cR 100 gw) := by rw [eh1, ch_set_ne (by first | assumption | exact Ne.symm (by assumption) | omega)]; exact W1
  have k3 : h1 (lo + 5) = some (aI cI 100 fx) := by rw [eh1, ch_set_ne (by first | assumption | exact Ne.symm (by assumption) | omega)]; exact W2
  have k4 : h1 (lo + 6) = some (aI cI 100 fy) := by rw [eh1, ch_set_ne (by first | assumption | exact Ne.symm (by assumption) | omega)]; exact W3
  have k5 : h1 (lo + 7) = some (aI cI 100 fl) := by rw [eh1, ch_set_ne (by first | assumption | exact Ne.symm (by assumption) | omega)]; exact W4
  have k6 : h1 (lo + 8) = some (aI cI 100 fh) := by rw [eh1, ch_set_ne (by first | assumption | exact Ne.symm (by assumption) | omega)]; exact W5
  have k7 : h1 (lo + 9) = some (.inr (3, [.ref (lo + 10), .ref (lo + 11), .ref (lo + 12), .int (iI ec), .int (iI sc)])) := by rw [eh1, ch_set_ne (by first | assumption | exact Ne.symm (by assumption) | omega)]; exact W6
  have k8 : h1 (lo + 10) = some (aI cI 100 fe) := by rw [eh1, ch_set_ne (by first | assumption | exact Ne.symm (by assumption) | omega)]; exact W7
  have k9 : h1 (lo + 11) = some (aI cI 50 fs) := by rw [eh1, ch_set_ne (by first | assumption | exact Ne.symm (by assumption) | omega)]; exact W8
  have k10 : h1 (lo + 12) = some (aI cI 100 fm) := by rw [eh1, ch_set_ne (by first | assumption | exact Ne.symm (by assumption) | omega)]; exact W9
  have k11 : h1 r = some (.inr (7, [.ref g, .int (iI nr)])) := by rw [eh1, ch_set_ne (ch_ne hr W0 (by intro q; cases q))]; exact hr
  have k12 : h1 g = some (aI cI 100 fg) := by rw [eh1, ch_set_ne (ch_ne hg W0 (by intro q; cases q))]; exact hg
  have k13 : h1 (Ad s) = some (.inr (cS, (.int (iI (Wf s)) :: vS))) := by rw [eh1, ch_set_ne (by first | assumption | exact Ne.symm (by assumption) | omega)]; exact hp
  have k14 : h1 (lo + 3) = some (.inr (9, [.ref (lo + 4), .ref (lo + 5), .ref (lo + 6), .ref (lo + 7), .ref (lo + 8), .int (iI 0), .ref (lo + 9)])) := by rw [eh1]; exact ch_set_self
  refine gx_aload_n 0 dX10_over_5 rfl rfl ?_
  refine gx_get (ci := 9) (f := 6) (C := RX10) (T := TX10) (N := 7) rfl inX10 (by decide) mw_1_61 dX10_over_6 k14 rfl ?_
  refine gx_callV (ci := 3) (c_X3_clear l D cI cL cR lo h1 hi (lo + 9) (lo + 10) (lo + 11) (lo + 12) ec sc k7) ok_X3_clear mw_2_93 mw_2_94 mw_2_95 dX10_over_9 rfl k7 rfl rfl (Nat.le_of_ble_eq_true rfl) (by first | exact Nat.le_of_ble_eq_true rfl | (simp only [rM]; omega)) (by first | exact Nat.le_of_ble_eq_true rfl | (simp only [rM]; omega)) (by first | exact Nat.le_of_ble_eq_true rfl | (simp only [rM]; omega)) (by first | exact Nat.le_of_ble_eq_true rfl | (simp only [rM]; omega)) (fun r15 h16 u17 q18 g19 => ?_)
  obtain ⟨rfl, eh0, rfl⟩ := q18
  have k20 : h16 (lo + 4) = some (aR cR 100 gw) := by rw [eh0, ch_set_ne (by first | assumption | exact Ne.symm (by assumption) | omega)]; exact k2
  have k21 : h16 (lo + 5) = some (aI cI 100 fx) := by rw [eh0, ch_set_ne (by first | assumption | exact Ne.symm (by assumption) | omega)]; exact k3
  have k22 : h16 (lo + 6) = some (aI cI 100 fy) := by rw [eh0, ch_set_ne (by first | assumption | exact Ne.symm (by assumption) | omega)]; exact k4
  have k23 : h16 (lo + 7) = some (aI cI 100 fl) := by rw [eh0, ch_set_ne (by first | assumption | exact Ne.symm (by assumption) | omega)]; exact k5
  have k24 : h16 (lo + 8) = some (aI cI 100 fh) := by rw [eh0, ch_set_ne (by first | assumption | exact Ne.symm (by assumption) | omega)]; exact k6
  have k25 : h16 (lo + 10) = some (aI cI 100 fe) := by rw [eh0, ch_set_ne (by first | assumption | exact Ne.symm (by assumption) | omega)]; exact k8
  have k26 : h16 (lo + 11) = some (aI cI 50 fs) := by rw [eh0, ch_set_ne (by first | assumption | exact Ne.symm (by assumption) | omega)]; exact k9
  have k27 : h16 (lo + 12) = some (aI cI 100 fm) := by rw [eh0, ch_set_ne (by first | assumption | exact Ne.symm (by assumption) | omega)]; exact k10
  have k28 : h16 r = some (.inr (7, [.ref g, .int (iI nr)])) := by rw [eh0, ch_set_ne (ch_ne k11 k7 (by intro q; cases q))]; exact k11
  have k29 : h16 g = some (aI cI 100 fg) := by rw [eh0, ch_set_ne (ch_ne k12 k7 (by intro q; cases q))]; exact k12
  have k30 : h16 (Ad s) = some (.inr (cS, (.int (iI (Wf s)) :: vS))) := by rw [eh0, ch_set_ne (by omega)]; exact k13
  have k31 : h16 (lo + 3) = some (.inr (9, [.ref (lo + 4), .ref (lo + 5), .ref (lo + 6), .ref (lo + 7), .ref (lo + 8), .int (iI 0), .ref (lo + 9)])) := by rw [eh0, ch_set_ne (by first | assumption | exact Ne.symm (by assumption) | omega)]; exact k14
  have k32 : h16 (lo + 9) = some (.inr (3, [.ref (lo + 10), .ref (lo + 11), .ref (lo + 12), .int (iI 0), .int (iI 0)])) := by rw [eh0]; exact ch_set_self
  refine ch_Gst (st2 := []) rfl ?_
  refine gx_aload_n 0 dX10_over_12 rfl rfl ?_
  refine gx_aload_n 1 dX10_over_13 rfl rfl ?_
  refine gx_iload_n 2 dX10_over_14 rfl rfl ?_
  refine gx_iload_n 3 dX10_over_15 rfl rfl ?_
  refine gx_iconst (iI 0) dX10_over_16 rfl ?_
  have W1 : wwP cI cR lo h16 gw fx fy fl fh 0 [] := ⟨_, _, _, _, _, k31, k20, k21, k22, k23, k24, k32, k25, k26, k27, fsR_0 hfs.2.2.2.2⟩
  have fr0 : ch_fr (wwL lo) h h16 := (by rw [eh0]; exact ch_frS (by rw [eh1]; exact ch_frS ch_fr0 (wwL_in.mpr ⟨by omega, by omega⟩)) (wwL_in.mpr ⟨by omega, by omega⟩))
  refine gx_callV (ci := 9) (c_X10_await l D cI cL cR lo h16 hi gw fx fy fl fh 0 [] W1 (Ad s) cS _ k30 sS (by omega) (by omega) x y 0) ok_X10_await mw_2_97 mw_2_98 mw_2_99 dX10_over_17 rfl k31 rfl rfl (Nat.le_of_ble_eq_true rfl) (by first | exact Nat.le_of_ble_eq_true rfl | (simp only [rM]; omega)) (by first | exact Nat.le_of_ble_eq_true rfl | (simp only [rM]; omega)) (by first | exact Nat.le_of_ble_eq_true rfl | (simp only [rM]; omega)) (by first | exact Nat.le_of_ble_eq_true rfl | (simp only [rM]; omega)) (fun r33 h34 u35 q36 g37 => ?_)
  obtain ⟨rfl, W2, fr2, rfl⟩ := q36
  have F2 := ch_frT fr0 fr2 (fun _ q => q)
  refine ch_Gst (st2 := []) rfl ?_
  refine gx_iconst (iI 0) dX10_over_20 rfl ?_
  refine gx_istore [(5, .int (iI 0)), (0, .ref (lo + 3)), (1, .ref (Ad s)), (2, .int (iI x)), (3, .int (iI y)), (4, .ref r)] dX10_over_21 (by decide) rfl ?_
  refine ch_Glv (lv' := [(0, .ref (lo + 3)), (4, .ref r), (5, .int (iI 0))]) [1, 5, 0] rfl ?_
  refine over_run hn s hs1 hs2 x y 0 (0 + 1) 0 _ _ _ _ _ _ [] (HA.fr F2) W2 (by rw [show ((0 : Int) + 1 - 1).toNat = (0 : Int).toNat by decide, va_upS]) (by rw [show ((0 : Int) + 1 - 1).toNat = (0 : Int).toNat by decide, updI_s]) (by rw [show ((0 : Int) + 1 - 1).toNat = (0 : Int).toNat by decide, updI_s]) (by rw [show ((0 : Int) + 1 - 1).toNat = (0 : Int).toNat by decide, updI_s]) (by omega) (by omega) (by omega) (by omega) (by omega) (by simp; omega) (by simp; omega) (by omega) (by omega) ?_
  intro h3 gw3 fx3 fy3 fl3 fh3 step3 W3 ag3 fr3 hs3 hs3'
  have F3 := ch_frT F2 fr3 (fun _ q => q)
  rw [List.nil_append] at W3
  have W3' := W3
  obtain ⟨fe3, fs3, fm3, ec3, sc3, V0, V1, V2, V3, V4, V5, V6, V7, V8, V9, hfs3⟩ := W3
  obtain ⟨q1, q2⟩ := fsR_1 hfs3
  have q3 := ed_len (fun s q1 q2 => (HA s q1 q2).2.2) s hs1 hs2 x y 0
  have kr : h3 r = some (.inr (7, [.ref g, .int (iI nr)])) := by rw [F3 r (wwL_out (by omega))]; exact hr
  have kg : h3 g = some (aI cI 100 fg) := by rw [F3 g (wwL_out (by omega))]; exact hg
  refine gx_iload 2 dX10_over_23 rfl ?_
  refine gx_sipush (iI 200) dX10_over_25 (by decide) ?_
  refine gy_icmp_ge 62 dX10_over_28 (by decide) (by constructor <;> omega) (by decide) (fun c28 => ?_) (fun c28 => ?_)
  · refine gx_aload_n 0 dX10_over_62 rfl rfl ?_
    refine gx_get (ci := 9) (f := 6) (C := RX10) (T := TX10) (N := 7) rfl inX10 (by decide) mw_1_61 dX10_over_63 V0 rfl ?_
    refine gx_aload 1 dX10_over_66 rfl ?_
    refine gx_callV (ci := 3) (c_X3_copyTo l D cI cL cR lo h3 hi (lo + 9) (lo + 10) (lo + 11) (lo + 12) ec3 sc3 fe3 fs3 fm3 V6 V7 V8 V9 (by omega) (by omega) (by omega) r g nr fg kr kg (by omega) (by omega)) ok_X3_copyTo mw_2_182 mw_2_183 mw_2_184 dX10_over_68 rfl V6 rfl rfl (Nat.le_of_ble_eq_true rfl) (by first | exact Nat.le_of_ble_eq_true rfl | (simp only [rM]; omega)) (by first | exact Nat.le_of_ble_eq_true rfl | (simp only [rM]; omega)) (by first | exact Nat.le_of_ble_eq_true rfl | (simp only [rM]; omega)) (by first | exact Nat.le_of_ble_eq_true rfl | (simp only [rM]; omega)) (fun rz1 hz2 uz3 qz4 gz5 => ?_)
    obtain ⟨rfl, ⟨f4, eh4, hf4⟩, rfl⟩ := qz4
    refine ch_Gst (st2 := []) rfl ?_
    refine gx_vret rfl dX10_over_71 (by first | exact Nat.le_of_ble_eq_true rfl | (simp only [rM]; omega)) (by first | exact Nat.le_of_ble_eq_true rfl | (simp only [rM]; omega)) ?_
    have nrg : r ≠ g := ch_ne kr kg (by intro q; cases q)
    refine ⟨rfl, ⟨gw3, fx3, fy3, fl3, fh3, _, _, wwP_fr W3' (fun b b1 b2 => by rw [eh4, ch_set_ne (by omega), ch_set_ne (by omega)])⟩, ⟨f4, by rw [eh4, ch_set_ne nrg, ch_set_self, q1], by rw [eh4, ch_set_self], by omega, fun j hj => by rw [hf4 j (by omega)]; exact q2 j hj, fun j hj => by rw [hf4 j (by omega)]; exact hfs3.2.2.2.2 j⟩, ?_, rfl⟩
    intro b hb
    simp only [List.mem_cons, not_or] at hb
    rw [eh4, ch_set_ne hb.2.1, ch_set_ne hb.1]
    exact F3 b hb.2.2
  · refine gx_aload_n 0 dX10_over_31 rfl rfl ?_
    refine gx_get (ci := 9) (f := 5) (C := RX10) (T := TX10) (N := 7) rfl inX10 (by decide) mw_1_60 dX10_over_32 V0 rfl ?_
    refine gy_if_le 62 dX10_over_35 (by decide) (by constructor <;> omega) (fun c35 => ?_) (fun c35 => absurd c35 (by omega))
    refine gx_aload_n 0 dX10_over_62 rfl rfl ?_
    refine gx_get (ci := 9) (f := 6) (C := RX10) (T := TX10) (N := 7) rfl inX10 (by decide) mw_1_61 dX10_over_63 V0 rfl ?_
    refine gx_aload 1 dX10_over_66 rfl ?_
    refine gx_callV (ci := 3) (c_X3_copyTo l D cI cL cR lo h3 hi (lo + 9) (lo + 10) (lo + 11) (lo + 12) ec3 sc3 fe3 fs3 fm3 V6 V7 V8 V9 (by omega) (by omega) (by omega) r g nr fg kr kg (by omega) (by omega)) ok_X3_copyTo mw_2_182 mw_2_183 mw_2_184 dX10_over_68 rfl V6 rfl rfl (Nat.le_of_ble_eq_true rfl) (by first | exact Nat.le_of_ble_eq_true rfl | (simp only [rM]; omega)) (by first | exact Nat.le_of_ble_eq_true rfl | (simp only [rM]; omega)) (by first | exact Nat.le_of_ble_eq_true rfl | (simp only [rM]; omega)) (by first | exact Nat.le_of_ble_eq_true rfl | (simp only [rM]; omega)) (fun rz6 hz7 uz8 qz9 gz10 => ?_)
    obtain ⟨rfl, ⟨f4, eh4, hf4⟩, rfl⟩ := qz9
    refine ch_Gst (st2 := []) rfl ?_
    refine gx_vret rfl dX10_over_71 (by first | exact Nat.le_of_ble_eq_true rfl | (simp only [rM]; omega)) (by first | exact Nat.le_of_ble_eq_true rfl | (simp only [rM]; omega)) ?_
    have nrg : r ≠ g := ch_ne kr kg (by intro q; cases q)
    refine ⟨rfl, ⟨gw3, fx3, fy3, fl3, fh3, _, _, wwP_fr W3' (fun b b1 b2 => by rw [eh4, ch_set_ne (by omega), ch_set_ne (by omega)])⟩, ⟨f4, by rw [eh4, ch_set_ne nrg, ch_set_self, q1], by rw [eh4, ch_set_self], by omega, fun j hj => by rw [hf4 j (by omega)]; exact q2 j hj, fun j hj => by rw [hf4 j (by omega)]; exact hfs3.2.2.2.2 j⟩, ?_, rfl⟩
    intro b hb
    simp only [List.mem_cons, not_or] at hb
    rw [eh4, ch_set_ne hb.2.1, ch_set_ne hb.1]
    exact F3 b hb.2.2
end
end
section
section
def nearB (v : Int) : Bool := decide (-100000 ≤ v ∧ v ≤ 100000)
set_option maxHeartbeats 4000000 in
set_option maxRecDepth 100000 in
theorem c_X11_isBeyond (l : Launch) (D : va_G) (cI cL cR : ClassId) (lo : Nat) (h : ch_H) (hi : Nat) (v : Int) (hv : ir v) : ch_C l (eE D cI cL cR lo) M_X11_isBeyond (rM 0 0 0) [.int (iI v)] h hi (fun r0 h2 hi2 => r0 = some (.int (iI (bI (!nearB v)))) ∧ h = h2 ∧ hi = hi2) := by
  refine ch_C.of rfl (Nat.le_of_ble_eq_true rfl) ?_
  refine gx_iload_n 0 dX11_isBeyond_0 rfl rfl ?_
  refine gx_ldc (iI (-100000)) (by rw [show iI (-100000) = ((-100000) : Int32) by decide]; exact mw_2_79) dX11_isBeyond_1 ?_
  refine gy_icmp_lt 12 dX11_isBeyond_3 (by decide) (by constructor <;> omega) (by decide) (fun c3 => ?_) (fun c3 => ?_)
  · refine gx_iconst (iI 1) dX11_isBeyond_12 rfl ?_
    refine gx_goto 17 dX11_isBeyond_13 (by decide) ?_
    refine gx_zret rfl rfl dX11_isBeyond_17 (by first | exact Nat.le_of_ble_eq_true rfl | (simp only [rM]; omega)) (by first | exact Nat.le_of_ble_eq_true rfl | (simp only [rM]; omega)) ?_
    exact ⟨by rw [show nearB v = false from decide_eq_false (by omega)]; rfl, rfl, rfl⟩
  · refine gx_iload_n 0 dX11_isBeyond_6 rfl rfl ?_
    refine gx_ldc (iI 100000) (by rw [show iI 100000 = (100000 : Int32) by decide]; exact mw_2_80) dX11_isBeyond_7 ?_
    refine gy_icmp_le 16 dX11_isBeyond_9 (by decide) (by constructor <;> omega) (by decide) (fun c9 => ?_) (fun c9 => ?_)
    · refine gx_iconst (iI 0) dX11_isBeyond_16 rfl ?_
      refine gx_zret rfl rfl dX11_isBeyond_17 (by first | exact Nat.le_of_ble_eq_true rfl | (simp only [rM]; omega)) (by first | exact Nat.le_of_ble_eq_true rfl | (simp only [rM]; omega)) ?_
      exact ⟨by rw [show nearB v = true from decide_eq_true (by omega)]; rfl, rfl, rfl⟩
    · refine gx_iconst (iI 1) dX11_isBeyond_12 rfl ?_
      refine gx_goto 17 dX11_isBeyond_13 (by decide) ?_
      refine gx_zret rfl rfl dX11_isBeyond_17 (by first | exact Nat.le_of_ble_eq_true rfl | (simp only [rM]; omega)) (by first | exact Nat.le_of_ble_eq_true rfl | (simp only [rM]; omega)) ?_
      exact ⟨by rw [show nearB v = false from decide_eq_false (by omega)]; rfl, rfl, rfl⟩
set_option maxHeartbeats 4000000 in
set_option maxRecDepth 100000 in
theorem c_X11_isFull (l : Launch) (D : va_G) (cI cL cR : ClassId) (lo : Nat) (h : ch_H) (hi : Nat) (c : Int) (n : Nat) (hn : n ≤ 60) (hZ : h lo = some (.inr (10, [.ref (lo + 1), .int (iI c), .ref (lo + 2), .int (iI (n : Int)), .ref (lo + 3), .ref (lo + 13), .ref (lo + 15)]))) : ch_C l (eE D cI cL cR lo) M_X11_isFull (rM 0 0 0) [.ref lo] h hi (fun r0 h2 hi2 => r0 = some (.int (iI (bI (decide (60 ≤ n))))) ∧ h = h2 ∧ hi = hi2) := by
  refine ch_C.of rfl (Nat.le_of_ble_eq_true rfl) ?_
  refine gx_aload_n 0 dX11_isFull_0 rfl rfl ?_
  refine gx_get (ci := 10) (f := 3) (C := RX11) (T := TX11) (N := 7) rfl inX11 (by decide) mw_1_93 dX11_isFull_1 hZ rfl ?_
  refine gx_bipush (iI 60) dX11_isFull_4 (by decide) ?_
  refine gy_icmp_lt 13 dX11_isFull_6 (by decide) (by constructor <;> omega) (by decide) (fun c6 => ?_) (fun c6 => ?_)
  · refine gx_iconst (iI 0) dX11_isFull_13 rfl ?_
    refine gx_zret rfl rfl dX11_isFull_14 (by first | exact Nat.le_of_ble_eq_true rfl | (simp only [rM]; omega)) (by first | exact Nat.le_of_ble_eq_true rfl | (simp only [rM]; omega)) ?_
    exact ⟨by rw [show decide (60 ≤ n) = false from decide_eq_false (by omega)]; rfl, rfl, rfl⟩
  · refine gx_iconst (iI 1) dX11_isFull_9 rfl ?_
    refine gx_goto 14 dX11_isFull_10 (by decide) ?_
    refine gx_zret rfl rfl dX11_isFull_14 (by first | exact Nat.le_of_ble_eq_true rfl | (simp only [rM]; omega)) (by first | exact Nat.le_of_ble_eq_true rfl | (simp only [rM]; omega)) ?_
    exact ⟨by rw [show decide (60 ≤ n) = true from decide_eq_true (by omega)]; rfl, rfl, rfl⟩
set_option maxHeartbeats 4000000 in
set_option maxRecDepth 100000 in
theorem c_X11_useUpSizes (l : Launch) (D : va_G) (cI cL cR : ClassId) (lo : Nat) (h : ch_H) (hi : Nat) (c : Int) (n : Nat) (hn : n ≤ 60) (hZ : h lo = some (.inr (10, [.ref (lo + 1), .int (iI c), .ref (lo + 2), .int (iI (n : Int)), .ref (lo + 3), .ref (lo + 13), .ref (lo + 15)]))) : ch_C l (eE D cI cL cR lo) M_X11_useUpSizes (rM 0 0 0) [.ref lo] h hi (fun r0 h2 hi2 => r0 = some (.int (iI c)) ∧ h2 = ch_set h lo (.inr (10, [.ref (lo + 1), .int (iI 0), .ref (lo + 2), .int (iI (n : Int)), .ref (lo + 3), .ref (lo + 13), .ref (lo + 15)])) ∧ hi = hi2) := by
  refine ch_C.of rfl (Nat.le_of_ble_eq_true rfl) ?_
  refine gx_aload_n 0 dX11_useUpSizes_0 rfl rfl ?_
  refine gx_get (ci := 10) (f := 1) (C := RX11) (T := TX11) (N := 7) rfl inX11 (by decide) mw_1_91 dX11_useUpSizes_1 hZ rfl ?_
  refine gx_istore_n [(1, .int (iI c)), (0, .ref lo)] dX11_useUpSizes_4 rfl (by decide) rfl ?_
  refine gx_aload_n 1 dX11_useUpSizes_5 rfl rfl ?_
  refine gx_iconst (iI 0) dX11_useUpSizes_6 rfl ?_
  refine gy_put (ci := 10) (f := 1) (C := RX11) (T := TX11) (N := 7) (ty := .int) (fs2 := [.ref (lo + 1), .int (iI 0), .ref (lo + 2), .int (iI (n : Int)), .ref (lo + 3), .ref (lo + 13), .ref (lo + 15)]) tyX11 rfl inX11 tyX11_ok nmX11 (by decide) mw_1_91 (Or.inl rfl) (by decide +kernel) rfl rfl dX11_useUpSizes_7 hZ (by simp) rfl (fun h1 eh1 => ?_)
  have k2 : h1 lo = some (.inr (10, [.ref (lo + 1), .int (iI 0), .ref (lo + 2), .int (iI (n : Int)), .ref (lo + 3), .ref (lo + 13), .ref (lo + 15)])) := by rw [eh1]; exact ch_set_self
  refine gx_iload_n 0 dX11_useUpSizes_10 rfl rfl ?_
  refine gx_iret rfl dX11_useUpSizes_11 (by first | exact Nat.le_of_ble_eq_true rfl | (simp only [rM]; omega)) (by first | exact Nat.le_of_ble_eq_true rfl | (simp only [rM]; omega)) ?_
  exact ⟨rfl, eh1, rfl⟩
set_option maxHeartbeats 4000000 in
set_option maxRecDepth 100000 in
theorem c_X11_findN (l : Launch) (D : va_G) (cI cL cR : ClassId) (lo : Nat) (h : ch_H) (hi : Nat) (c : Int) (n : Nat) (hn : n ≤ 60) (hZ : h lo = some (.inr (10, [.ref (lo + 1), .int (iI c), .ref (lo + 2), .int (iI (n : Int)), .ref (lo + 3), .ref (lo + 13), .ref (lo + 15)]))) (ga : Nat → Option Nat) (hG : h (lo + 2) = some (aR cR 60 ga)) (s : Int) (hs : ir s) (hno : s < 1 ∨ (n : Int) < s) : ch_C l (eE D cI cL cR lo) M_X11_find (rM 0 0 0) [.ref lo, .int (iI s)] h hi (fun r0 h2 hi2 => r0 = some .null ∧ h = h2 ∧ hi = hi2) := by
  refine ch_C.of rfl (Nat.le_of_ble_eq_true rfl) ?_
  refine gx_iload_n 1 dX11_find_0 rfl rfl ?_
  refine gx_iconst (iI 1) dX11_find_1 rfl ?_
  refine gy_icmp_lt 13 dX11_find_2 (by decide) (by constructor <;> omega) (by decide) (fun c2 => ?_) (fun c2 => ?_)
  · refine gx_null dX11_find_13 ?_
    refine gx_goto 25 dX11_find_14 (by decide) ?_
    refine gx_aret rfl (Or.inl ⟨_, rfl⟩) (Or.inl rfl) dX11_find_25 (by first | exact Nat.le_of_ble_eq_true rfl | (simp only [rM]; omega)) (by first | exact Nat.le_of_ble_eq_true rfl | (simp only [rM]; omega)) ?_
    exact ⟨rfl, rfl, rfl⟩
  · refine gx_iload_n 1 dX11_find_5 rfl rfl ?_
    refine gx_aload_n 0 dX11_find_6 rfl rfl ?_
    refine gx_get (ci := 10) (f := 3) (C := RX11) (T := TX11) (N := 7) rfl inX11 (by decide) mw_1_93 dX11_find_7 hZ rfl ?_
    refine gy_icmp_le 17 dX11_find_10 (by decide) (by constructor <;> omega) (by constructor <;> omega) (fun c10 => ?_) (fun c10 => ?_)
    · refine gx_aload_n 0 dX11_find_17 rfl rfl ?_
      refine gx_get (ci := 10) (f := 2) (C := RX11) (T := TX11) (N := 7) rfl inX11 (by decide) mw_1_92 dX11_find_18 hZ rfl ?_
      refine gx_iload_n 1 dX11_find_21 rfl rfl ?_
      refine gx_iconst (iI 1) dX11_find_22 rfl ?_
      refine gy_isub dX11_find_23 ?_
      refine gy_aald dX11_find_24 hG (by omega) (by omega) (by decide) ?_
      refine gx_aret rfl (Or.inl ⟨_, rfl⟩) ch_rfv dX11_find_25 (by first | exact Nat.le_of_ble_eq_true rfl | (simp only [rM]; omega)) (by first | exact Nat.le_of_ble_eq_true rfl | (simp only [rM]; omega)) ?_
      exfalso; omega
    · refine gx_null dX11_find_13 ?_
      refine gx_goto 25 dX11_find_14 (by decide) ?_
      refine gx_aret rfl (Or.inl ⟨_, rfl⟩) (Or.inl rfl) dX11_find_25 (by first | exact Nat.le_of_ble_eq_true rfl | (simp only [rM]; omega)) (by first | exact Nat.le_of_ble_eq_true rfl | (simp only [rM]; omega)) ?_
      exact ⟨rfl, rfl, rfl⟩
set_option maxHeartbeats 4000000 in
set_option maxRecDepth 100000 in
theorem c_X11_findY (l : Launch) (D : va_G) (cI cL cR : ClassId) (lo : Nat) (h : ch_H) (hi : Nat) (c : Int) (n : Nat) (hn : n ≤ 60) (hZ : h lo = some (.inr (10, [.ref (lo + 1), .int (iI c), .ref (lo + 2), .int (iI (n : Int)), .ref (lo + 3), .ref (lo + 13), .ref (lo + 15)]))) (ga : Nat → Option Nat) (hG : h (lo + 2) = some (aR cR 60 ga)) (s : Int) (hs : 1 ≤ s ∧ s ≤ (n : Int)) (p : Nat) (hp : ga (s - 1).toNat = some p) : ch_C l (eE D cI cL cR lo) M_X11_find (rM 0 0 0) [.ref lo, .int (iI s)] h hi (fun r0 h2 hi2 => r0 = some (.ref p) ∧ h = h2 ∧ hi = hi2) := by
  refine ch_C.of rfl (Nat.le_of_ble_eq_true rfl) ?_
  refine gx_iload_n 1 dX11_find_0 rfl rfl ?_
  refine gx_iconst (iI 1) dX11_find_1 rfl ?_
  refine gy_icmp_lt 13 dX11_find_2 (by decide) (by constructor <;> omega) (by decide) (fun c2 => absurd c2 (by omega)) (fun c2 => ?_)
  refine gx_iload_n 1 dX11_find_5 rfl rfl ?_
  refine gx_aload_n 0 dX11_find_6 rfl rfl ?_
  refine gx_get (ci := 10) (f := 3) (C := RX11) (T := TX11) (N := 7) rfl inX11 (by decide) mw_1_93 dX11_find_7 hZ rfl ?_
  refine gy_icmp_le 17 dX11_find_10 (by decide) (by constructor <;> omega) (by constructor <;> omega) (fun c10 => ?_) (fun c10 => absurd c10 (by omega))
  refine gx_aload_n 0 dX11_find_17 rfl rfl ?_
  refine gx_get (ci := 10) (f := 2) (C := RX11) (T := TX11) (N := 7) rfl inX11 (by decide) mw_1_92 dX11_find_18 hZ rfl ?_
  refine gx_iload_n 1 dX11_find_21 rfl rfl ?_
  refine gx_iconst (iI 1) dX11_find_22 rfl ?_
  refine gy_isub dX11_find_23 ?_
  refine gy_aald dX11_find_24 hG (by omega) (by omega) (by decide) ?_
  refine ch_Gst (st2 := [.ref p]) (by rw [hp]; try rfl) ?_
  refine gx_aret rfl (Or.inl ⟨_, rfl⟩) (Or.inr ⟨_, rfl⟩) dX11_find_25 (by first | exact Nat.le_of_ble_eq_true rfl | (simp only [rM]; omega)) (by first | exact Nat.le_of_ble_eq_true rfl | (simp only [rM]; omega)) ?_
  exact ⟨rfl, rfl, rfl⟩
set_option maxHeartbeats 4000000 in
set_option maxRecDepth 100000 in
theorem c_X11_keep (l : Launch) (D : va_G) (cI cL cR : ClassId) (lo : Nat) (h : ch_H) (hi : Nat) (c : Int) (n : Nat) (hn : n ≤ 60) (hZ : h lo = some (.inr (10, [.ref (lo + 1), .int (iI c), .ref (lo + 2), .int (iI (n : Int)), .ref (lo + 3), .ref (lo + 13), .ref (lo + 15)]))) (ga : Nat → Option Nat) (hG : h (lo + 2) = some (aR cR 60 ga)) (p ci : Nat) (vs : List Value) (hp : h p = some (.inr (ci, vs))) (hS : isS ci) (hpl : lo + 13 ≤ p) (hnf : n < 60) : ch_C l (eE D cI cL cR lo) M_X11_keep (rM 1 0 0) [.ref lo, .ref p] h hi (fun r0 h2 hi2 => r0 = some (.int (iI ((n : Int) + 1))) ∧ h2 = ch_set (ch_set h (lo + 2) (aR cR 60 (va_up ga n (some p)))) lo (.inr (10, [.ref (lo + 1), .int (iI c), .ref (lo + 2), .int (iI ((n : Int) + 1)), .ref (lo + 3), .ref (lo + 13), .ref (lo + 15)])) ∧ hi = hi2) := by
  refine ch_C.of rfl (Nat.le_of_ble_eq_true rfl) ?_
  obtain ⟨rS, hrS, hcS, -⟩ := hS
  have hnt : decide (60 ≤ n) = false := decide_eq_false (by omega)
  refine gx_aload_n 1 dX11_keep_0 rfl rfl ?_
  refine gx_ifnullA dX11_keep_1 ?_
  refine gx_aload_n 0 dX11_keep_4 rfl rfl ?_
  refine gx_callV (ci := 10) (c_X11_isFull l D cI cL cR lo h hi c n hn hZ) ok_X11_isFull mw_1_131 mw_1_133 mw_p_2 dX11_keep_5 rfl hZ rfl rfl (Nat.le_of_ble_eq_true rfl) (by first | exact Nat.le_of_ble_eq_true rfl | (simp only [rM]; omega)) (by first | exact Nat.le_of_ble_eq_true rfl | (simp only [rM]; omega)) (by first | exact Nat.le_of_ble_eq_true rfl | (simp only [rM]; omega)) (by first | exact Nat.le_of_ble_eq_true rfl | (simp only [rM]; omega)) (fun r1 h2 u3 q4 g5 => ?_)
  obtain ⟨rfl, rfl, rfl⟩ := q4
  refine ch_Gst (st2 := [.int (iI (bI (decide (60 ≤ n))))]) rfl ?_
  refine gy_if_eq 13 dX11_keep_8 (by decide) ir_bI (fun c8 => ?_) (fun c8 => absurd c8 (by rw [hnt]; decide))
  refine gx_aload_n 0 dX11_keep_13 rfl rfl ?_
  refine gx_get (ci := 10) (f := 2) (C := RX11) (T := TX11) (N := 7) rfl inX11 (by decide) mw_1_92 dX11_keep_14 hZ rfl ?_
  refine gx_aload_n 0 dX11_keep_17 rfl rfl ?_
  refine gx_get (ci := 10) (f := 3) (C := RX11) (T := TX11) (N := 7) rfl inX11 (by decide) mw_1_93 dX11_keep_18 hZ rfl ?_
  refine gx_aload_n 1 dX11_keep_21 rfl rfl ?_
  refine gy_aast (ci := ci) hrS hcS dX11_keep_22 hG hp (by omega) (by omega) (by decide) (fun h6 eh6 => ?_)
  have k7 : h6 lo = some (.inr (10, [.ref (lo + 1), .int (iI c), .ref (lo + 2), .int (iI (n : Int)), .ref (lo + 3), .ref (lo + 13), .ref (lo + 15)])) := by rw [eh6, ch_set_ne (ch_ne hZ hG (by intro q; cases q))]; exact hZ
  have k8 : h6 p = some (.inr (ci, vs)) := by rw [eh6, ch_set_ne (by first | assumption | exact Ne.symm (by assumption) | omega)]; exact hp
  have k9 : h6 (lo + 2) = some (aR cR 60 (va_up ga (n : Int).toNat (some p))) := by rw [eh6]; exact ch_set_self
  refine gx_aload_n 0 dX11_keep_23 rfl rfl ?_
  refine gx_dup dX11_keep_24 rfl ?_
  refine gx_get (ci := 10) (f := 3) (C := RX11) (T := TX11) (N := 7) rfl inX11 (by decide) mw_1_93 dX11_keep_25 k7 rfl ?_
  refine gx_iconst (iI 1) dX11_keep_28 rfl ?_
  refine gy_iadd dX11_keep_29 ?_
  refine gy_put (ci := 10) (f := 3) (C := RX11) (T := TX11) (N := 7) (ty := .int) (fs2 := [.ref (lo + 1), .int (iI c), .ref (lo + 2), .int (iI ((n : Int) + 1)), .ref (lo + 3), .ref (lo + 13), .ref (lo + 15)]) tyX11 rfl inX11 tyX11_ok nmX11 (by decide) mw_1_93 (Or.inl rfl) (by decide +kernel) rfl rfl dX11_keep_30 k7 (by simp) rfl (fun h10 eh10 => ?_)
  have k11 : h10 p = some (.inr (ci, vs)) := by rw [eh10, ch_set_ne (by first | assumption | exact Ne.symm (by assumption) | omega)]; exact k8
  have k12 : h10 (lo + 2) = some (aR cR 60 (va_up ga (n : Int).toNat (some p))) := by rw [eh10, ch_set_ne (by first | assumption | exact Ne.symm (by assumption) | omega)]; exact k9
  have k13 : h10 lo = some (.inr (10, [.ref (lo + 1), .int (iI c), .ref (lo + 2), .int (iI ((n : Int) + 1)), .ref (lo + 3), .ref (lo + 13), .ref (lo + 15)])) := by rw [eh10]; exact ch_set_self
  refine gx_aload_n 0 dX11_keep_33 rfl rfl ?_
  refine gx_get (ci := 10) (f := 3) (C := RX11) (T := TX11) (N := 7) rfl inX11 (by decide) mw_1_93 dX11_keep_34 k13 rfl ?_
  refine gx_iret rfl dX11_keep_37 (by first | exact Nat.le_of_ble_eq_true rfl | (simp only [rM]; omega)) (by first | exact Nat.le_of_ble_eq_true rfl | (simp only [rM]; omega)) ?_
  exact ⟨rfl, by rw [eh10, eh6, Int.toNat_natCast], rfl⟩
def szN (k : Int) : Int := if k = 0 then 6 else if k = 1 then 5 else if k = 2 then 4 else if k = 3 then 5 else -1
def rdO (fz : Nat → Int) (k : Int) : Int := if k = 1 then fz 2 else if k = 2 then fz 3 else if k = 3 then fz 2 else 0
set_option maxHeartbeats 4000000 in
set_option maxRecDepth 100000 in
theorem c_X11_sizesNeeded (l : Launch) (D : va_G) (cI cL cR : ClassId) (lo : Nat) (h : ch_H) (hi : Nat) (k : Int) (hk : ir k) : ch_C l (eE D cI cL cR lo) M_X11_sizesNeeded (rM 0 0 0) [.int (iI k)] h hi (fun r0 h2 hi2 => r0 = some (.int (iI (szN k))) ∧ h = h2 ∧ hi = hi2) := by
  refine ch_C.of rfl (Nat.le_of_ble_eq_true rfl) ?_
  refine gx_iload_n 0 dX11_sizesNeeded_0 rfl rfl ?_
  by_cases w1_0 : k = 0
  · refine gy_tin 0 w1_0 32 dX11_sizesNeeded_1 (by decide) (by decide) (by decide) rfl (by decide) ?_
    refine gx_bipush (iI 6) dX11_sizesNeeded_32 (by decide) ?_
    refine gx_iret rfl dX11_sizesNeeded_34 (by first | exact Nat.le_of_ble_eq_true rfl | (simp only [rM]; omega)) (by first | exact Nat.le_of_ble_eq_true rfl | (simp only [rM]; omega)) ?_
    exact ⟨by unfold szN; rw [if_pos w1_0], rfl, rfl⟩
  · skip
    by_cases w1_1 : k = 1
    · refine gy_tin 1 w1_1 35 dX11_sizesNeeded_1 (by decide) (by decide) (by decide) rfl (by decide) ?_
      refine gx_iconst (iI 5) dX11_sizesNeeded_35 rfl ?_
      refine gx_iret rfl dX11_sizesNeeded_36 (by first | exact Nat.le_of_ble_eq_true rfl | (simp only [rM]; omega)) (by first | exact Nat.le_of_ble_eq_true rfl | (simp only [rM]; omega)) ?_
      exact ⟨by unfold szN; rw [if_neg (by omega), if_pos w1_1], rfl, rfl⟩
    · skip
      by_cases w1_2 : k = 2
      · refine gy_tin 2 w1_2 37 dX11_sizesNeeded_1 (by decide) (by decide) (by decide) rfl (by decide) ?_
        refine gx_iconst (iI 4) dX11_sizesNeeded_37 rfl ?_
        refine gx_iret rfl dX11_sizesNeeded_38 (by first | exact Nat.le_of_ble_eq_true rfl | (simp only [rM]; omega)) (by first | exact Nat.le_of_ble_eq_true rfl | (simp only [rM]; omega)) ?_
        exact ⟨by unfold szN; rw [if_neg (by omega), if_neg (by omega), if_pos w1_2], rfl, rfl⟩
      · skip
        by_cases w1_3 : k = 3
        · refine gy_tin 3 w1_3 35 dX11_sizesNeeded_1 (by decide) (by decide) (by decide) rfl (by decide) ?_
          refine gx_iconst (iI 5) dX11_sizesNeeded_35 rfl ?_
          refine gx_iret rfl dX11_sizesNeeded_36 (by first | exact Nat.le_of_ble_eq_true rfl | (simp only [rM]; omega)) (by first | exact Nat.le_of_ble_eq_true rfl | (simp only [rM]; omega)) ?_
          exact ⟨by unfold szN; rw [if_neg (by omega), if_neg (by omega), if_neg (by omega), if_pos w1_3], rfl, rfl⟩
        · skip
          refine gy_tout 39 dX11_sizesNeeded_1 (by constructor <;> omega) (by omega) (by decide) ?_
          refine gx_iconst (iI (-1)) dX11_sizesNeeded_39 rfl ?_
          refine gx_iret rfl dX11_sizesNeeded_40 (by first | exact Nat.le_of_ble_eq_true rfl | (simp only [rM]; omega)) (by first | exact Nat.le_of_ble_eq_true rfl | (simp only [rM]; omega)) ?_
          exact ⟨by unfold szN; rw [if_neg (by omega), if_neg (by omega), if_neg (by omega), if_neg (by omega)], rfl, rfl⟩
set_option maxHeartbeats 4000000 in
set_option maxRecDepth 100000 in
theorem c_X11_radiusOf (l : Launch) (D : va_G) (cI cL cR : ClassId) (lo : Nat) (h : ch_H) (hi : Nat) (c : Int) (n : Nat) (hn : n ≤ 60) (hZ : h lo = some (.inr (10, [.ref (lo + 1), .int (iI c), .ref (lo + 2), .int (iI (n : Int)), .ref (lo + 3), .ref (lo + 13), .ref (lo + 15)]))) (fz : Nat → Int) (hF : h (lo + 1) = some (aI cI 6 fz)) (k : Int) (hk : ir k) : ch_C l (eE D cI cL cR lo) M_X11_radiusOf (rM 0 0 0) [.ref lo, .int (iI k)] h hi (fun r0 h2 hi2 => r0 = some (.int (iI (rdO fz k))) ∧ h = h2 ∧ hi = hi2) := by
  refine ch_C.of rfl (Nat.le_of_ble_eq_true rfl) ?_
  refine gx_iload_n 1 dX11_radiusOf_0 rfl rfl ?_
  by_cases w1_1 : k = 1
  · refine gy_tin 1 w1_1 28 dX11_radiusOf_1 (by decide) (by decide) (by decide) rfl (by decide) ?_
    refine gx_aload_n 0 dX11_radiusOf_28 rfl rfl ?_
    refine gx_get (ci := 10) (f := 0) (C := RX11) (T := TX11) (N := 7) rfl inX11 (by decide) mw_1_90 dX11_radiusOf_29 hZ rfl ?_
    refine gx_iconst (iI 2) dX11_radiusOf_32 rfl ?_
    refine gy_iald dX11_radiusOf_33 hF (by decide) (by decide) (by decide) ?_
    refine ch_Gst (st2 := [.int (iI (fz 2))]) rfl ?_
    refine gx_iret rfl dX11_radiusOf_34 (by first | exact Nat.le_of_ble_eq_true rfl | (simp only [rM]; omega)) (by first | exact Nat.le_of_ble_eq_true rfl | (simp only [rM]; omega)) ?_
    exact ⟨by unfold rdO; rw [if_pos w1_1], rfl, rfl⟩
  · skip
    by_cases w1_2 : k = 2
    · refine gy_tin 2 w1_2 35 dX11_radiusOf_1 (by decide) (by decide) (by decide) rfl (by decide) ?_
      refine gx_aload_n 0 dX11_radiusOf_35 rfl rfl ?_
      refine gx_get (ci := 10) (f := 0) (C := RX11) (T := TX11) (N := 7) rfl inX11 (by decide) mw_1_90 dX11_radiusOf_36 hZ rfl ?_
      refine gx_iconst (iI 3) dX11_radiusOf_39 rfl ?_
      refine gy_iald dX11_radiusOf_40 hF (by decide) (by decide) (by decide) ?_
      refine ch_Gst (st2 := [.int (iI (fz 3))]) rfl ?_
      refine gx_iret rfl dX11_radiusOf_41 (by first | exact Nat.le_of_ble_eq_true rfl | (simp only [rM]; omega)) (by first | exact Nat.le_of_ble_eq_true rfl | (simp only [rM]; omega)) ?_
      exact ⟨by unfold rdO; rw [if_neg (by omega), if_pos w1_2], rfl, rfl⟩
    · skip
      by_cases w1_3 : k = 3
      · refine gy_tin 3 w1_3 28 dX11_radiusOf_1 (by decide) (by decide) (by decide) rfl (by decide) ?_
        refine gx_aload_n 0 dX11_radiusOf_28 rfl rfl ?_
        refine gx_get (ci := 10) (f := 0) (C := RX11) (T := TX11) (N := 7) rfl inX11 (by decide) mw_1_90 dX11_radiusOf_29 hZ rfl ?_
        refine gx_iconst (iI 2) dX11_radiusOf_32 rfl ?_
        refine gy_iald dX11_radiusOf_33 hF (by decide) (by decide) (by decide) ?_
        refine ch_Gst (st2 := [.int (iI (fz 2))]) rfl ?_
        refine gx_iret rfl dX11_radiusOf_34 (by first | exact Nat.le_of_ble_eq_true rfl | (simp only [rM]; omega)) (by first | exact Nat.le_of_ble_eq_true rfl | (simp only [rM]; omega)) ?_
        exact ⟨by unfold rdO; rw [if_neg (by omega), if_neg (by omega), if_pos w1_3], rfl, rfl⟩
      · skip
        refine gy_tout 42 dX11_radiusOf_1 (by constructor <;> omega) (by omega) (by decide) ?_
        refine gx_iconst (iI 0) dX11_radiusOf_42 rfl ?_
        refine gx_iret rfl dX11_radiusOf_43 (by first | exact Nat.le_of_ble_eq_true rfl | (simp only [rM]; omega)) (by first | exact Nat.le_of_ble_eq_true rfl | (simp only [rM]; omega)) ?_
        exact ⟨by unfold rdO; rw [if_neg (by omega), if_neg (by omega), if_neg (by omega)], rfl, rfl⟩
set_option maxHeartbeats 4000000 in
set_option maxRecDepth 100000 in
theorem c_X11_newShape_0 (l : Launch) (D : va_G) (cI cL cR : ClassId) (lo : Nat) (h : ch_H) (hi : Nat) (c : Int) (n : Nat) (hn : n ≤ 60) (hZ : h lo = some (.inr (10, [.ref (lo + 1), .int (iI c), .ref (lo + 2), .int (iI (n : Int)), .ref (lo + 3), .ref (lo + 13), .ref (lo + 15)]))) (fz : Nat → Int) (hF : h (lo + 1) = some (aI cI 6 fz)) (hhi : lo + 26 ≤ hi) : ch_C l (eE D cI cL cR lo) M_X11_newShape (rM 3 1 7) [.ref lo, .int (iI 0)] h hi (fun r0 h2 hi2 => r0 = some (.ref hi) ∧ h2 = ch_set h hi (.inr (1, [.int (iI 1), .int (iI (fz 0)), .int (iI (fz 1)), .int (iI (fz 2)), .int (iI (fz 3)), .int (iI (fz 4)), .int (iI (fz 5))])) ∧ hi + 1 = hi2) := by
  refine ch_C.of rfl (Nat.le_of_ble_eq_true rfl) ?_
  refine gx_iload_n 1 dX11_newShape_0 rfl rfl ?_
  refine gy_tin 0 rfl 32 dX11_newShape_1 (by decide) (by decide) (by decide) rfl (by decide) ?_
  refine gy_new (ci := 1) (C := RX1) (T := TX1) (N := 7) [.int (iI 0), .int (iI 0), .int (iI 0), .int (iI 0), .int (iI 0), .int (iI 0), .int (iI 0)] tyX1 rfl inX1 tyX1_ok mw_1_139 mw_1_140 mw_1_7 (fun j hj => by rcases (show j = 0 ∨ j = 1 ∨ j = 2 ∨ j = 3 ∨ j = 4 ∨ j = 5 ∨ j = 6 by omega) with rfl | rfl | rfl | rfl | rfl | rfl | rfl <;> rfl) (by first | exact Nat.le_of_ble_eq_true rfl | (simp only [rM]; omega)) (by first | exact Nat.le_of_ble_eq_true rfl | (simp only [rM]; omega)) dX11_newShape_32 (fun h1 eh1 => ?_)
  have k2 : h1 lo = some (.inr (10, [.ref (lo + 1), .int (iI c), .ref (lo + 2), .int (iI (n : Int)), .ref (lo + 3), .ref (lo + 13), .ref (lo + 15)])) := by rw [eh1, ch_set_ne (by first | assumption | omega)]; exact hZ
  have k3 : h1 (lo + 1) = some (aI cI 6 fz) := by rw [eh1, ch_set_ne (by first | assumption | omega)]; exact hF
  have k4 : h1 hi = some (.inr (1, [.int (iI 0), .int (iI 0), .int (iI 0), .int (iI 0), .int (iI 0), .int (iI 0), .int (iI 0)])) := by rw [eh1]; exact ch_set_self
  refine gx_dup dX11_newShape_35 rfl ?_
  refine gx_aload_n 0 dX11_newShape_36 rfl rfl ?_
  refine gx_get (ci := 10) (f := 0) (C := RX11) (T := TX11) (N := 7) rfl inX11 (by decide) mw_1_90 dX11_newShape_37 k2 rfl ?_
  refine gx_iconst (iI 0) dX11_newShape_40 rfl ?_
  refine gy_iald dX11_newShape_41 k3 (by decide) (by decide) (by decide) ?_
  refine ch_Gst (st2 := [.int (iI (fz 0)), .ref hi, .ref hi]) rfl ?_
  refine gx_aload_n 0 dX11_newShape_42 rfl rfl ?_
  refine gx_get (ci := 10) (f := 0) (C := RX11) (T := TX11) (N := 7) rfl inX11 (by decide) mw_1_90 dX11_newShape_43 k2 rfl ?_
  refine gx_iconst (iI 1) dX11_newShape_46 rfl ?_
  refine gy_iald dX11_newShape_47 k3 (by decide) (by decide) (by decide) ?_
  refine ch_Gst (st2 := [.int (iI (fz 1)), .int (iI (fz 0)), .ref hi, .ref hi]) rfl ?_
  refine gx_aload_n 0 dX11_newShape_48 rfl rfl ?_
  refine gx_get (ci := 10) (f := 0) (C := RX11) (T := TX11) (N := 7) rfl inX11 (by decide) mw_1_90 dX11_newShape_49 k2 rfl ?_
  refine gx_iconst (iI 2) dX11_newShape_52 rfl ?_
  refine gy_iald dX11_newShape_53 k3 (by decide) (by decide) (by decide) ?_
  refine ch_Gst (st2 := [.int (iI (fz 2)), .int (iI (fz 1)), .int (iI (fz 0)), .ref hi, .ref hi]) rfl ?_
  refine gx_aload_n 0 dX11_newShape_54 rfl rfl ?_
  refine gx_get (ci := 10) (f := 0) (C := RX11) (T := TX11) (N := 7) rfl inX11 (by decide) mw_1_90 dX11_newShape_55 k2 rfl ?_
  refine gx_iconst (iI 3) dX11_newShape_58 rfl ?_
  refine gy_iald dX11_newShape_59 k3 (by decide) (by decide) (by decide) ?_
  refine ch_Gst (st2 := [.int (iI (fz 3)), .int (iI (fz 2)), .int (iI (fz 1)), .int (iI (fz 0)), .ref hi, .ref hi]) rfl ?_
  refine gx_aload_n 0 dX11_newShape_60 rfl rfl ?_
  refine gx_get (ci := 10) (f := 0) (C := RX11) (T := TX11) (N := 7) rfl inX11 (by decide) mw_1_90 dX11_newShape_61 k2 rfl ?_
  refine gx_iconst (iI 4) dX11_newShape_64 rfl ?_
  refine gy_iald dX11_newShape_65 k3 (by decide) (by decide) (by decide) ?_
  refine ch_Gst (st2 := [.int (iI (fz 4)), .int (iI (fz 3)), .int (iI (fz 2)), .int (iI (fz 1)), .int (iI (fz 0)), .ref hi, .ref hi]) rfl ?_
  refine gx_aload_n 0 dX11_newShape_66 rfl rfl ?_
  refine gx_get (ci := 10) (f := 0) (C := RX11) (T := TX11) (N := 7) rfl inX11 (by decide) mw_1_90 dX11_newShape_67 k2 rfl ?_
  refine gx_iconst (iI 5) dX11_newShape_70 rfl ?_
  refine gy_iald dX11_newShape_71 k3 (by decide) (by decide) (by decide) ?_
  refine ch_Gst (st2 := [.int (iI (fz 5)), .int (iI (fz 4)), .int (iI (fz 3)), .int (iI (fz 2)), .int (iI (fz 1)), .int (iI (fz 0)), .ref hi, .ref hi]) rfl ?_
  refine gx_callI (c_X1_init l D cI cL cR lo h1 (hi + 1) hi (fz 0) (fz 1) (fz 2) (fz 3) (fz 4) (fz 5) k4) ok_X1_init mw_1_141 mw_1_142 rfl rfl dX11_newShape_72 rfl rfl (Nat.le_of_ble_eq_true rfl) (by first | exact Nat.le_of_ble_eq_true rfl | (simp only [rM]; omega)) (by first | exact Nat.le_of_ble_eq_true rfl | (simp only [rM]; omega)) (by first | exact Nat.le_of_ble_eq_true rfl | (simp only [rM]; omega)) (by first | exact Nat.le_of_ble_eq_true rfl | (simp only [rM]; omega)) (fun r5 h6 u7 q8 g9 => ?_)
  obtain ⟨rfl, eh0, rfl⟩ := q8
  have k10 : h6 lo = some (.inr (10, [.ref (lo + 1), .int (iI c), .ref (lo + 2), .int (iI (n : Int)), .ref (lo + 3), .ref (lo + 13), .ref (lo + 15)])) := by rw [eh0, ch_set_ne (ch_ne k2 k4 (by intro q; cases q))]; exact k2
  have k11 : h6 (lo + 1) = some (aI cI 6 fz) := by rw [eh0, ch_set_ne (by first | assumption | exact Ne.symm (by assumption) | omega)]; exact k3
  have k12 : h6 hi = some (.inr (1, [.int (iI 1), .int (iI (fz 0)), .int (iI (fz 1)), .int (iI (fz 2)), .int (iI (fz 3)), .int (iI (fz 4)), .int (iI (fz 5))])) := by rw [eh0]; exact ch_set_self
  refine ch_Gst (st2 := [.ref hi]) rfl ?_
  refine gx_aret rfl (Or.inl ⟨_, rfl⟩) (Or.inr ⟨_, rfl⟩) dX11_newShape_75 (by first | exact Nat.le_of_ble_eq_true rfl | (simp only [rM]; omega)) (by first | exact Nat.le_of_ble_eq_true rfl | (simp only [rM]; omega)) ?_
  exact ⟨rfl, by rw [eh0, eh1, ch_set_set], rfl⟩
set_option maxHeartbeats 4000000 in
set_option maxRecDepth 100000 in
theorem c_X11_newShape_1 (l : Launch) (D : va_G) (cI cL cR : ClassId) (lo : Nat) (h : ch_H) (hi : Nat) (c : Int) (n : Nat) (hn : n ≤ 60) (hZ : h lo = some (.inr (10, [.ref (lo + 1), .int (iI c), .ref (lo + 2), .int (iI (n : Int)), .ref (lo + 3), .ref (lo + 13), .ref (lo + 15)]))) (fz : Nat → Int) (hF : h (lo + 1) = some (aI cI 6 fz)) (hhi : lo + 26 ≤ hi) : ch_C l (eE D cI cL cR lo) M_X11_newShape (rM 3 1 7) [.ref lo, .int (iI 1)] h hi (fun r0 h2 hi2 => r0 = some (.ref hi) ∧ h2 = ch_set h hi (.inr (6, [.int (iI 1), .int (iI (fz 0)), .int (iI (fz 1)), .int (iI (fz 2)), .int (iI (fz 3)), .int (iI (fz 4))])) ∧ hi + 1 = hi2) := by
  refine ch_C.of rfl (Nat.le_of_ble_eq_true rfl) ?_
  refine gx_iload_n 1 dX11_newShape_0 rfl rfl ?_
  refine gy_tin 1 rfl 76 dX11_newShape_1 (by decide) (by decide) (by decide) rfl (by decide) ?_
  refine gy_new (ci := 6) (C := RX6) (T := TX6) (N := 6) [.int (iI 0), .int (iI 0), .int (iI 0), .int (iI 0), .int (iI 0), .int (iI 0)] tyX6 rfl inX6 tyX6_ok mw_1_174 mw_1_175 mw_1_8 (fun j hj => by rcases (show j = 0 ∨ j = 1 ∨ j = 2 ∨ j = 3 ∨ j = 4 ∨ j = 5 by omega) with rfl | rfl | rfl | rfl | rfl | rfl <;> rfl) (by first | exact Nat.le_of_ble_eq_true rfl | (simp only [rM]; omega)) (by first | exact Nat.le_of_ble_eq_true rfl | (simp only [rM]; omega)) dX11_newShape_76 (fun h1 eh1 => ?_)
  have k2 : h1 lo = some (.inr (10, [.ref (lo + 1), .int (iI c), .ref (lo + 2), .int (iI (n : Int)), .ref (lo + 3), .ref (lo + 13), .ref (lo + 15)])) := by rw [eh1, ch_set_ne (by first | assumption | omega)]; exact hZ
  have k3 : h1 (lo + 1) = some (aI cI 6 fz) := by rw [eh1, ch_set_ne (by first | assumption | omega)]; exact hF
  have k4 : h1 hi = some (.inr (6, [.int (iI 0), .int (iI 0), .int (iI 0), .int (iI 0), .int (iI 0), .int (iI 0)])) := by rw [eh1]; exact ch_set_self
  refine gx_dup dX11_newShape_79 rfl ?_
  refine gx_aload_n 0 dX11_newShape_80 rfl rfl ?_
  refine gx_get (ci := 10) (f := 0) (C := RX11) (T := TX11) (N := 7) rfl inX11 (by decide) mw_1_90 dX11_newShape_81 k2 rfl ?_
  refine gx_iconst (iI 0) dX11_newShape_84 rfl ?_
  refine gy_iald dX11_newShape_85 k3 (by decide) (by decide) (by decide) ?_
  refine ch_Gst (st2 := [.int (iI (fz 0)), .ref hi, .ref hi]) rfl ?_
  refine gx_aload_n 0 dX11_newShape_86 rfl rfl ?_
  refine gx_get (ci := 10) (f := 0) (C := RX11) (T := TX11) (N := 7) rfl inX11 (by decide) mw_1_90 dX11_newShape_87 k2 rfl ?_
  refine gx_iconst (iI 1) dX11_newShape_90 rfl ?_
  refine gy_iald dX11_newShape_91 k3 (by decide) (by decide) (by decide) ?_
  refine ch_Gst (st2 := [.int (iI (fz 1)), .int (iI (fz 0)), .ref hi, .ref hi]) rfl ?_
  refine gx_aload_n 0 dX11_newShape_92 rfl rfl ?_
  refine gx_get (ci := 10) (f := 0) (C := RX11) (T := TX11) (N := 7) rfl inX11 (by decide) mw_1_90 dX11_newShape_93 k2 rfl ?_
  refine gx_iconst (iI 2) dX11_newShape_96 rfl ?_
  refine gy_iald dX11_newShape_97 k3 (by decide) (by decide) (by decide) ?_
  refine ch_Gst (st2 := [.int (iI (fz 2)), .int (iI (fz 1)), .int (iI (fz 0)), .ref hi, .ref hi]) rfl ?_
  refine gx_aload_n 0 dX11_newShape_98 rfl rfl ?_
  refine gx_get (ci := 10) (f := 0) (C := RX11) (T := TX11) (N := 7) rfl inX11 (by decide) mw_1_90 dX11_newShape_99 k2 rfl ?_
  refine gx_iconst (iI 3) dX11_newShape_102 rfl ?_
  refine gy_iald dX11_newShape_103 k3 (by decide) (by decide) (by decide) ?_
  refine ch_Gst (st2 := [.int (iI (fz 3)), .int (iI (fz 2)), .int (iI (fz 1)), .int (iI (fz 0)), .ref hi, .ref hi]) rfl ?_
  refine gx_aload_n 0 dX11_newShape_104 rfl rfl ?_
  refine gx_get (ci := 10) (f := 0) (C := RX11) (T := TX11) (N := 7) rfl inX11 (by decide) mw_1_90 dX11_newShape_105 k2 rfl ?_
  refine gx_iconst (iI 4) dX11_newShape_108 rfl ?_
  refine gy_iald dX11_newShape_109 k3 (by decide) (by decide) (by decide) ?_
  refine ch_Gst (st2 := [.int (iI (fz 4)), .int (iI (fz 3)), .int (iI (fz 2)), .int (iI (fz 1)), .int (iI (fz 0)), .ref hi, .ref hi]) rfl ?_
  refine gx_callI (c_X6_init l D cI cL cR lo h1 (hi + 1) hi (fz 0) (fz 1) (fz 2) (fz 3) (fz 4) k4) ok_X6_init mw_1_176 mw_1_177 rfl rfl dX11_newShape_110 rfl rfl (Nat.le_of_ble_eq_true rfl) (by first | exact Nat.le_of_ble_eq_true rfl | (simp only [rM]; omega)) (by first | exact Nat.le_of_ble_eq_true rfl | (simp only [rM]; omega)) (by first | exact Nat.le_of_ble_eq_true rfl | (simp only [rM]; omega)) (by first | exact Nat.le_of_ble_eq_true rfl | (simp only [rM]; omega)) (fun r5 h6 u7 q8 g9 => ?_)
  obtain ⟨rfl, eh0, rfl⟩ := q8
  have k10 : h6 lo = some (.inr (10, [.ref (lo + 1), .int (iI c), .ref (lo + 2), .int (iI (n : Int)), .ref (lo + 3), .ref (lo + 13), .ref (lo + 15)])) := by rw [eh0, ch_set_ne (ch_ne k2 k4 (by intro q; cases q))]; exact k2
  have k11 : h6 (lo + 1) = some (aI cI 6 fz) := by rw [eh0, ch_set_ne (by first | assumption | exact Ne.symm (by assumption) | omega)]; exact k3
  have k12 : h6 hi = some (.inr (6, [.int (iI 1), .int (iI (fz 0)), .int (iI (fz 1)), .int (iI (fz 2)), .int (iI (fz 3)), .int (iI (fz 4))])) := by rw [eh0]; exact ch_set_self
  refine ch_Gst (st2 := [.ref hi]) rfl ?_
  refine gx_aret rfl (Or.inl ⟨_, rfl⟩) (Or.inr ⟨_, rfl⟩) dX11_newShape_113 (by first | exact Nat.le_of_ble_eq_true rfl | (simp only [rM]; omega)) (by first | exact Nat.le_of_ble_eq_true rfl | (simp only [rM]; omega)) ?_
  exact ⟨rfl, by rw [eh0, eh1, ch_set_set], rfl⟩
set_option maxHeartbeats 4000000 in
set_option maxRecDepth 100000 in
theorem c_X11_newShape_2 (l : Launch) (D : va_G) (cI cL cR : ClassId) (lo : Nat) (h : ch_H) (hi : Nat) (c : Int) (n : Nat) (hn : n ≤ 60) (hZ : h lo = some (.inr (10, [.ref (lo + 1), .int (iI c), .ref (lo + 2), .int (iI (n : Int)), .ref (lo + 3), .ref (lo + 13), .ref (lo + 15)]))) (fz : Nat → Int) (hF : h (lo + 1) = some (aI cI 6 fz)) (hhi : lo + 26 ≤ hi) : ch_C l (eE D cI cL cR lo) M_X11_newShape (rM 3 1 7) [.ref lo, .int (iI 2)] h hi (fun r0 h2 hi2 => r0 = some (.ref hi) ∧ h2 = ch_set h hi (.inr (0, [.int (iI 1), .int (iI (fz 0)), .int (iI (fz 1)), .int (iI (fz 2)), .int (iI (fz 3))])) ∧ hi + 1 = hi2) := by
  refine ch_C.of rfl (Nat.le_of_ble_eq_true rfl) ?_
  refine gx_iload_n 1 dX11_newShape_0 rfl rfl ?_
  refine gy_tin 2 rfl 114 dX11_newShape_1 (by decide) (by decide) (by decide) rfl (by decide) ?_
  refine gy_new (ci := 0) (C := RX0) (T := TX0) (N := 5) [.int (iI 0), .int (iI 0), .int (iI 0), .int (iI 0), .int (iI 0)] tyX0 rfl inX0 tyX0_ok mw_1_197 mw_1_198 mw_1_9 (fun j hj => by rcases (show j = 0 ∨ j = 1 ∨ j = 2 ∨ j = 3 ∨ j = 4 by omega) with rfl | rfl | rfl | rfl | rfl <;> rfl) (by first | exact Nat.le_of_ble_eq_true rfl | (simp only [rM]; omega)) (by first | exact Nat.le_of_ble_eq_true rfl | (simp only [rM]; omega)) dX11_newShape_114 (fun h1 eh1 => ?_)
  have k2 : h1 lo = some (.inr (10, [.ref (lo + 1), .int (iI c), .ref (lo + 2), .int (iI (n : Int)), .ref (lo + 3), .ref (lo + 13), .ref (lo + 15)])) := by rw [eh1, ch_set_ne (by first | assumption | omega)]; exact hZ
  have k3 : h1 (lo + 1) = some (aI cI 6 fz) := by rw [eh1, ch_set_ne (by first | assumption | omega)]; exact hF
  have k4 : h1 hi = some (.inr (0, [.int (iI 0), .int (iI 0), .int (iI 0), .int (iI 0), .int (iI 0)])) := by rw [eh1]; exact ch_set_self
  refine gx_dup dX11_newShape_117 rfl ?_
  refine gx_aload_n 0 dX11_newShape_118 rfl rfl ?_
  refine gx_get (ci := 10) (f := 0) (C := RX11) (T := TX11) (N := 7) rfl inX11 (by decide) mw_1_90 dX11_newShape_119 k2 rfl ?_
  refine gx_iconst (iI 0) dX11_newShape_122 rfl ?_
  refine gy_iald dX11_newShape_123 k3 (by decide) (by decide) (by decide) ?_
  refine ch_Gst (st2 := [.int (iI (fz 0)), .ref hi, .ref hi]) rfl ?_
  refine gx_aload_n 0 dX11_newShape_124 rfl rfl ?_
  refine gx_get (ci := 10) (f := 0) (C := RX11) (T := TX11) (N := 7) rfl inX11 (by decide) mw_1_90 dX11_newShape_125 k2 rfl ?_
  refine gx_iconst (iI 1) dX11_newShape_128 rfl ?_
  refine gy_iald dX11_newShape_129 k3 (by decide) (by decide) (by decide) ?_
  refine ch_Gst (st2 := [.int (iI (fz 1)), .int (iI (fz 0)), .ref hi, .ref hi]) rfl ?_
  refine gx_aload_n 0 dX11_newShape_130 rfl rfl ?_
  refine gx_get (ci := 10) (f := 0) (C := RX11) (T := TX11) (N := 7) rfl inX11 (by decide) mw_1_90 dX11_newShape_131 k2 rfl ?_
  refine gx_iconst (iI 2) dX11_newShape_134 rfl ?_
  refine gy_iald dX11_newShape_135 k3 (by decide) (by decide) (by decide) ?_
  refine ch_Gst (st2 := [.int (iI (fz 2)), .int (iI (fz 1)), .int (iI (fz 0)), .ref hi, .ref hi]) rfl ?_
  refine gx_aload_n 0 dX11_newShape_136 rfl rfl ?_
  refine gx_get (ci := 10) (f := 0) (C := RX11) (T := TX11) (N := 7) rfl inX11 (by decide) mw_1_90 dX11_newShape_137 k2 rfl ?_
  refine gx_iconst (iI 3) dX11_newShape_140 rfl ?_
  refine gy_iald dX11_newShape_141 k3 (by decide) (by decide) (by decide) ?_
  refine ch_Gst (st2 := [.int (iI (fz 3)), .int (iI (fz 2)), .int (iI (fz 1)), .int (iI (fz 0)), .ref hi, .ref hi]) rfl ?_
  refine gx_callI (c_X0_init l D cI cL cR lo h1 (hi + 1) hi (fz 0) (fz 1) (fz 2) (fz 3) k4) ok_X0_init mw_1_199 mw_1_200 rfl rfl dX11_newShape_142 rfl rfl (Nat.le_of_ble_eq_true rfl) (by first | exact Nat.le_of_ble_eq_true rfl | (simp only [rM]; omega)) (by first | exact Nat.le_of_ble_eq_true rfl | (simp only [rM]; omega)) (by first | exact Nat.le_of_ble_eq_true rfl | (simp only [rM]; omega)) (by first | exact Nat.le_of_ble_eq_true rfl | (simp only [rM]; omega)) (fun r5 h6 u7 q8 g9 => ?_)
  obtain ⟨rfl, eh0, rfl⟩ := q8
  have k10 : h6 lo = some (.inr (10, [.ref (lo + 1), .int (iI c), .ref (lo + 2), .int (iI (n : Int)), .ref (lo + 3), .ref (lo + 13), .ref (lo + 15)])) := by rw [eh0, ch_set_ne (ch_ne k2 k4 (by intro q; cases q))]; exact k2
  have k11 : h6 (lo + 1) = some (aI cI 6 fz) := by rw [eh0, ch_set_ne (by first | assumption | exact Ne.symm (by assumption) | omega)]; exact k3
  have k12 : h6 hi = some (.inr (0, [.int (iI 1), .int (iI (fz 0)), .int (iI (fz 1)), .int (iI (fz 2)), .int (iI (fz 3))])) := by rw [eh0]; exact ch_set_self
  refine ch_Gst (st2 := [.ref hi]) rfl ?_
  refine gx_aret rfl (Or.inl ⟨_, rfl⟩) (Or.inr ⟨_, rfl⟩) dX11_newShape_145 (by first | exact Nat.le_of_ble_eq_true rfl | (simp only [rM]; omega)) (by first | exact Nat.le_of_ble_eq_true rfl | (simp only [rM]; omega)) ?_
  exact ⟨rfl, by rw [eh0, eh1, ch_set_set], rfl⟩
set_option maxHeartbeats 4000000 in
set_option maxRecDepth 100000 in
theorem c_X11_newShape_3 (l : Launch) (D : va_G) (cI cL cR : ClassId) (lo : Nat) (h : ch_H) (hi : Nat) (c : Int) (n : Nat) (hn : n ≤ 60) (hZ : h lo = some (.inr (10, [.ref (lo + 1), .int (iI c), .ref (lo + 2), .int (iI (n : Int)), .ref (lo + 3), .ref (lo + 13), .ref (lo + 15)]))) (fz : Nat → Int) (hF : h (lo + 1) = some (aI cI 6 fz)) (hhi : lo + 26 ≤ hi) : ch_C l (eE D cI cL cR lo) M_X11_newShape (rM 3 1 7) [.ref lo, .int (iI 3)] h hi (fun r0 h2 hi2 => r0 = some (.ref hi) ∧ h2 = ch_set h hi (.inr (2, [.int (iI 1), .int (iI (fz 0)), .int (iI (fz 1)), .int (iI (fz 2)), .int (iI (fz 3)), .int (iI (fz 4))])) ∧ hi + 1 = hi2) := by
  refine ch_C.of rfl (Nat.le_of_ble_eq_true rfl) ?_
  refine gx_iload_n 1 dX11_newShape_0 rfl rfl ?_
  refine gy_tin 3 rfl 146 dX11_newShape_1 (by decide) (by decide) (by decide) rfl (by decide) ?_
  refine gy_new (ci := 2) (C := RX2) (T := TX2) (N := 6) [.int (iI 0), .int (iI 0), .int (iI 0), .int (iI 0), .int (iI 0), .int (iI 0)] tyX2 rfl inX2 tyX2_ok mw_1_217 mw_1_218 mw_1_10 (fun j hj => by rcases (show j = 0 ∨ j = 1 ∨ j = 2 ∨ j = 3 ∨ j = 4 ∨ j = 5 by omega) with rfl | rfl | rfl | rfl | rfl | rfl <;> rfl) (by first | exact Nat.le_of_ble_eq_true rfl | (simp only [rM]; omega)) (by first | exact Nat.le_of_ble_eq_true rfl | (simp only [rM]; omega)) dX11_newShape_146 (fun h1 eh1 => ?_)
  have k2 : h1 lo = some (.inr (10, [.ref (lo + 1), .int (iI c), .ref (lo + 2), .int (iI (n : Int)), .ref (lo + 3), .ref (lo + 13), .ref (lo + 15)])) := by rw [eh1, ch_set_ne (by first | assumption | omega)]; exact hZ
  have k3 : h1 (lo + 1) = some (aI cI 6 fz) := by rw [eh1, ch_set_ne (by first | assumption | omega)]; exact hF
  have k4 : h1 hi = some (.inr (2, [.int (iI 0), .int (iI 0), .int (iI 0), .int (iI 0), .int (iI 0), .int (iI 0)])) := by rw [eh1]; exact ch_set_self
  refine gx_dup dX11_newShape_149 rfl ?_
  refine gx_aload_n 0 dX11_newShape_150 rfl rfl ?_
  refine gx_get (ci := 10) (f := 0) (C := RX11) (T := TX11) (N := 7) rfl inX11 (by decide) mw_1_90 dX11_newShape_151 k2 rfl ?_
  refine gx_iconst (iI 0) dX11_newShape_154 rfl ?_
  refine gy_iald dX11_newShape_155 k3 (by decide) (by decide) (by decide) ?_
  refine ch_Gst (st2 := [.int (iI (fz 0)), .ref hi, .ref hi]) rfl ?_
  refine gx_aload_n 0 dX11_newShape_156 rfl rfl ?_
  refine gx_get (ci := 10) (f := 0) (C := RX11) (T := TX11) (N := 7) rfl inX11 (by decide) mw_1_90 dX11_newShape_157 k2 rfl ?_
  refine gx_iconst (iI 1) dX11_newShape_160 rfl ?_
  refine gy_iald dX11_newShape_161 k3 (by decide) (by decide) (by decide) ?_
  refine ch_Gst (st2 := [.int (iI (fz 1)), .int (iI (fz 0)), .ref hi, .ref hi]) rfl ?_
  refine gx_aload_n 0 dX11_newShape_162 rfl rfl ?_
  refine gx_get (ci := 10) (f := 0) (C := RX11) (T := TX11) (N := 7) rfl inX11 (by decide) mw_1_90 dX11_newShape_163 k2 rfl ?_
  refine gx_iconst (iI 2) dX11_newShape_166 rfl ?_
  refine gy_iald dX11_newShape_167 k3 (by decide) (by decide) (by decide) ?_
  refine ch_Gst (st2 := [.int (iI (fz 2)), .int (iI (fz 1)), .int (iI (fz 0)), .ref hi, .ref hi]) rfl ?_
  refine gx_aload_n 0 dX11_newShape_168 rfl rfl ?_
  refine gx_get (ci := 10) (f := 0) (C := RX11) (T := TX11) (N := 7) rfl inX11 (by decide) mw_1_90 dX11_newShape_169 k2 rfl ?_
  refine gx_iconst (iI 3) dX11_newShape_172 rfl ?_
  refine gy_iald dX11_newShape_173 k3 (by decide) (by decide) (by decide) ?_
  refine ch_Gst (st2 := [.int (iI (fz 3)), .int (iI (fz 2)), .int (iI (fz 1)), .int (iI (fz 0)), .ref hi, .ref hi]) rfl ?_
  refine gx_aload_n 0 dX11_newShape_174 rfl rfl ?_
  refine gx_get (ci := 10) (f := 0) (C := RX11) (T := TX11) (N := 7) rfl inX11 (by decide) mw_1_90 dX11_newShape_175 k2 rfl ?_
  refine gx_iconst (iI 4) dX11_newShape_178 rfl ?_
  refine gy_iald dX11_newShape_179 k3 (by decide) (by decide) (by decide) ?_
  refine ch_Gst (st2 := [.int (iI (fz 4)), .int (iI (fz 3)), .int (iI (fz 2)), .int (iI (fz 1)), .int (iI (fz 0)), .ref hi, .ref hi]) rfl ?_
  refine gx_callI (c_X2_init l D cI cL cR lo h1 (hi + 1) hi (fz 0) (fz 1) (fz 2) (fz 3) (fz 4) k4) ok_X2_init mw_1_219 mw_1_220 rfl rfl dX11_newShape_180 rfl rfl (Nat.le_of_ble_eq_true rfl) (by first | exact Nat.le_of_ble_eq_true rfl | (simp only [rM]; omega)) (by first | exact Nat.le_of_ble_eq_true rfl | (simp only [rM]; omega)) (by first | exact Nat.le_of_ble_eq_true rfl | (simp only [rM]; omega)) (by first | exact Nat.le_of_ble_eq_true rfl | (simp only [rM]; omega)) (fun r5 h6 u7 q8 g9 => ?_)
  obtain ⟨rfl, eh0, rfl⟩ := q8
  have k10 : h6 lo = some (.inr (10, [.ref (lo + 1), .int (iI c), .ref (lo + 2), .int (iI (n : Int)), .ref (lo + 3), .ref (lo + 13), .ref (lo + 15)])) := by rw [eh0, ch_set_ne (ch_ne k2 k4 (by intro q; cases q))]; exact k2
  have k11 : h6 (lo + 1) = some (aI cI 6 fz) := by rw [eh0, ch_set_ne (by first | assumption | exact Ne.symm (by assumption) | omega)]; exact k3
  have k12 : h6 hi = some (.inr (2, [.int (iI 1), .int (iI (fz 0)), .int (iI (fz 1)), .int (iI (fz 2)), .int (iI (fz 3)), .int (iI (fz 4))])) := by rw [eh0]; exact ch_set_self
  refine ch_Gst (st2 := [.ref hi]) rfl ?_
  refine gx_aret rfl (Or.inl ⟨_, rfl⟩) (Or.inr ⟨_, rfl⟩) dX11_newShape_183 (by first | exact Nat.le_of_ble_eq_true rfl | (simp only [rM]; omega)) (by first | exact Nat.le_of_ble_eq_true rfl | (simp only [rM]; omega)) ?_
  exact ⟨rfl, by rw [eh0, eh1, ch_set_set], rfl⟩
/-- the edges that a look finds: none beyond the bound -/
def edN (Kf Nf : Nat → Int) (s : Nat) (x y : Int) : List Int := if nearB x = true ∧ nearB y = true then ed Kf Nf s x y 0 else []
set_option maxHeartbeats 4000000 in
set_option maxRecDepth 100000 in
theorem c_X11_lookOver (l : Launch) (D : va_G) (cI cL cR : ClassId) (lo : Nat) (h : ch_H) (hi : Nat) (gw : Nat → Option Nat) (fx fy fl fh : Nat → Int) (wc : Int) (Ls : List (List Int)) (W : wwP cI cR lo h gw fx fy fl fh wc Ls) (c : Int) (r g : Nat) (nr : Int) (fg : Nat → Int) (hr : h r = some (.inr (7, [.ref g, .int (iI nr)]))) (hg : h g = some (aI cI 100 fg)) (hrl : lo + 13 ≤ r) (hgl : lo + 13 ≤ g) (n : Nat) (Ad : Nat → Nat) (Kf Nf Wf : Nat → Int) (hn : n ≤ 60) (hZ : h lo = some (.inr (10, [.ref (lo + 1), .int (iI c), .ref (lo + 2), .int (iI (n : Int)), .ref (lo + 3), .ref (lo + 13), .ref (lo + 15)]))) (HA : soA lo h n Ad Kf Nf Wf) (hrA : ∀ s, 1 ≤ s → s ≤ n → Ad s ≠ r ∧ Ad s ≠ g) (s : Nat) (hs1 : 1 ≤ s) (hs2 : s ≤ n) (x y : Int) (hx : ir x) (hy : ir y) : ch_C l (eE D cI cL cR lo) M_X11_lookOver (rM 5 0 0) [.ref lo, .ref (Ad s), .int (iI x), .int (iI y), .ref r] h hi (fun r0 h2 hi2 => r0 = none ∧ wwE cI cR lo h2 ∧ ruP cI h2 r g (edN Kf Nf s x y) ∧ ch_fr (r :: g :: wwL lo) h h2 ∧ hi = hi2) := by
  refine ch_C.of rfl (Nat.le_of_ble_eq_true rfl) ?_
  obtain ⟨vK, hK⟩ := wwP_K W
  refine gx_iload_n 2 dX11_lookOver_0 rfl rfl ?_
  refine gx_callS (c_X11_isBeyond l D cI cL cR lo h hi x (by constructor <;> omega)) ok_X11_isBeyond mw_2_76 mw_2_77 dX11_lookOver_1 rfl rfl (Nat.le_of_ble_eq_true rfl) (by first | exact Nat.le_of_ble_eq_true rfl | (simp only [rM]; omega)) (by first | exact Nat.le_of_ble_eq_true rfl | (simp only [rM]; omega)) (by first | exact Nat.le_of_ble_eq_true rfl | (simp only [rM]; omega)) (by first | exact Nat.le_of_ble_eq_true rfl | (simp only [rM]; omega)) (fun r1 h2 u3 q4 g5 => ?_)
  obtain ⟨rfl, rfl, rfl⟩ := q4
  refine ch_Gst (st2 := [.int (iI (bI (!nearB x)))]) rfl ?_
  refine gy_if_ne 14 dX11_lookOver_4 (by decide) ir_bI (fun c4 => ?_) (fun c4 => ?_)
  · refine gx_aload 4 dX11_lookOver_14 rfl ?_
    refine gx_callV (ci := 7) (c_X7_clear l D cI cL cR lo h hi r g nr hr) ok_X7_clear mw_2_85 mw_2_86 mw_2_87 dX11_lookOver_16 rfl hr rfl rfl (Nat.le_of_ble_eq_true rfl) (by first | exact Nat.le_of_ble_eq_true rfl | (simp only [rM]; omega)) (by first | exact Nat.le_of_ble_eq_true rfl | (simp only [rM]; omega)) (by first | exact Nat.le_of_ble_eq_true rfl | (simp only [rM]; omega)) (by first | exact Nat.le_of_ble_eq_true rfl | (simp only [rM]; omega)) (fun r6 h7 u8 q9 g10 => ?_)
    obtain ⟨rfl, eh0, rfl⟩ := q9
    have k11 : h7 lo = some (.inr (10, [.ref (lo + 1), .int (iI c), .ref (lo + 2), .int (iI (n : Int)), .ref (lo + 3), .ref (lo + 13), .ref (lo + 15)])) := by rw [eh0, ch_set_ne (ch_ne hZ hr (by intro q; cases q))]; exact hZ
    have k12 : h7 (lo + 3) = some (.inr (9, vK)) := by rw [eh0, ch_set_ne (by first | assumption | exact Ne.symm (by assumption) | omega)]; exact hK
    have k13 : h7 g = some (aI cI 100 fg) := by rw [eh0, ch_set_ne (ch_ne hg hr (by intro q; cases q))]; exact hg
    have k14 : h7 r = some (.inr (7, [.ref g, .int (iI 0)])) := by rw [eh0]; exact ch_set_self
    refine ch_Gst (st2 := []) rfl ?_
    refine gx_goto 34 dX11_lookOver_19 (by decide) ?_
    refine gx_vret rfl dX11_lookOver_34 (by first | exact Nat.le_of_ble_eq_true rfl | (simp only [rM]; omega)) (by first | exact Nat.le_of_ble_eq_true rfl | (simp only [rM]; omega)) ?_
    have nx : nearB x = false := by have := bI_1 c4; simpa using this
    refine ⟨rfl, ⟨gw, fx, fy, fl, fh, wc, Ls, wwP_fr W (fun b b1 b2 => by rw [eh0, ch_set_ne (by omega)])⟩, ?_, ?_, rfl⟩
    · unfold edN; rw [if_neg (by rw [nx]; simp)]; exact ⟨fg, k14, k13, by simp, fun j hj => absurd hj (by simp), fun j hj => absurd hj (by simp)⟩
    · intro b hb; simp only [List.mem_cons, not_or] at hb; rw [eh0, ch_set_ne hb.1]
  · refine gx_iload_n 3 dX11_lookOver_7 rfl rfl ?_
    refine gx_callS (c_X11_isBeyond l D cI cL cR lo h hi y (by constructor <;> omega)) ok_X11_isBeyond mw_2_76 mw_2_77 dX11_lookOver_8 rfl rfl (Nat.le_of_ble_eq_true rfl) (by first | exact Nat.le_of_ble_eq_true rfl | (simp only [rM]; omega)) (by first | exact Nat.le_of_ble_eq_true rfl | (simp only [rM]; omega)) (by first | exact Nat.le_of_ble_eq_true rfl | (simp only [rM]; omega)) (by first | exact Nat.le_of_ble_eq_true rfl | (simp only [rM]; omega)) (fun r15 h16 u17 q18 g19 => ?_)
    obtain ⟨rfl, rfl, rfl⟩ := q18
    refine ch_Gst (st2 := [.int (iI (bI (!nearB y)))]) rfl ?_
    refine gy_if_eq 22 dX11_lookOver_11 (by decide) ir_bI (fun c11 => ?_) (fun c11 => ?_)
    · refine gx_aload_n 0 dX11_lookOver_22 rfl rfl ?_
      refine gx_get (ci := 10) (f := 4) (C := RX11) (T := TX11) (N := 7) rfl inX11 (by decide) mw_1_94 dX11_lookOver_23 hZ rfl ?_
      refine gx_aload_n 1 dX11_lookOver_26 rfl rfl ?_
      refine gx_iload_n 2 dX11_lookOver_27 rfl rfl ?_
      refine gx_iload_n 3 dX11_lookOver_28 rfl rfl ?_
      refine gx_aload 4 dX11_lookOver_29 rfl ?_
      have nx : nearB x = true := by have := bI_0 c4; simpa using this
      have ny : nearB y = true := by have := bI_0 c11; simpa using this
      have nx2 := of_decide_eq_true nx
      have ny2 := of_decide_eq_true ny
      refine gx_callV (ci := 9) (c_X10_over l D cI cL cR lo h hi gw fx fy fl fh wc Ls W r g nr fg hr hg hrl hgl n Ad Kf Nf Wf hn HA hrA s hs1 hs2 x y nx2 ny2) ok_X10_over mw_2_89 mw_2_90 mw_2_91 dX11_lookOver_31 rfl hK rfl rfl (Nat.le_of_ble_eq_true rfl) (by first | exact Nat.le_of_ble_eq_true rfl | (simp only [rM]; omega)) (by first | exact Nat.le_of_ble_eq_true rfl | (simp only [rM]; omega)) (by first | exact Nat.le_of_ble_eq_true rfl | (simp only [rM]; omega)) (by first | exact Nat.le_of_ble_eq_true rfl | (simp only [rM]; omega)) (fun r20 h21 u22 q23 g24 => ?_)
      obtain ⟨rfl, WE, RU, FR, rfl⟩ := q23
      refine ch_Gst (st2 := []) rfl ?_
      refine gx_vret rfl dX11_lookOver_34 (by first | exact Nat.le_of_ble_eq_true rfl | (simp only [rM]; omega)) (by first | exact Nat.le_of_ble_eq_true rfl | (simp only [rM]; omega)) ?_
      exact ⟨rfl, WE, by unfold edN; rw [if_pos ⟨nx, ny⟩]; exact RU, FR, rfl⟩
    · refine gx_aload 4 dX11_lookOver_14 rfl ?_
      refine gx_callV (ci := 7) (c_X7_clear l D cI cL cR lo h hi r g nr hr) ok_X7_clear mw_2_85 mw_2_86 mw_2_87 dX11_lookOver_16 rfl hr rfl rfl (Nat.le_of_ble_eq_true rfl) (by first | exact Nat.le_of_ble_eq_true rfl | (simp only [rM]; omega)) (by first | exact Nat.le_of_ble_eq_true rfl | (simp only [rM]; omega)) (by first | exact Nat.le_of_ble_eq_true rfl | (simp only [rM]; omega)) (by first | exact Nat.le_of_ble_eq_true rfl | (simp only [rM]; omega)) (fun r25 h26 u27 q28 g29 => ?_)
      obtain ⟨rfl, eh0, rfl⟩ := q28
      have k30 : h26 lo = some (.inr (10, [.ref (lo + 1), .int (iI c), .ref (lo + 2), .int (iI (n : Int)), .ref (lo + 3), .ref (lo + 13), .ref (lo + 15)])) := by rw [eh0, ch_set_ne (ch_ne hZ hr (by intro q; cases q))]; exact hZ
      have k31 : h26 (lo + 3) = some (.inr (9, vK)) := by rw [eh0, ch_set_ne (by first | assumption | exact Ne.symm (by assumption) | omega)]; exact hK
      have k32 : h26 g = some (aI cI 100 fg) := by rw [eh0, ch_set_ne (ch_ne hg hr (by intro q; cases q))]; exact hg
      have k33 : h26 r = some (.inr (7, [.ref g, .int (iI 0)])) := by rw [eh0]; exact ch_set_self
      refine ch_Gst (st2 := []) rfl ?_
      refine gx_goto 34 dX11_lookOver_19 (by decide) ?_
      refine gx_vret rfl dX11_lookOver_34 (by first | exact Nat.le_of_ble_eq_true rfl | (simp only [rM]; omega)) (by first | exact Nat.le_of_ble_eq_true rfl | (simp only [rM]; omega)) ?_
      have nx : nearB y = false := by have := bI_1 c11; simpa using this
      refine ⟨rfl, ⟨gw, fx, fy, fl, fh, wc, Ls, wwP_fr W (fun b b1 b2 => by rw [eh0, ch_set_ne (by omega)])⟩, ?_, ?_, rfl⟩
      · unfold edN; rw [if_neg (by rw [nx]; simp)]; exact ⟨fg, k33, k32, by simp, fun j hj => absurd hj (by simp), fun j hj => absurd hj (by simp)⟩
      · intro b hb; simp only [List.mem_cons, not_or] at hb; rw [eh0, ch_set_ne hb.1]
end
end
section
section
/-- the whole of a SpanSolids at lo: sizes, solids, the walk's cells, the spans seen and told -/
def ssP (cI cR : ClassId) (lo : Nat) (h : ch_H) (hi : Nat) (fz : Nat → Int) (c : Int) (n : Nat) (Ad : Nat → Nat) (Kf Nf Wf : Nat → Int) (Es Et : List Int) : Prop :=
  h lo = some (.inr (10, [.ref (lo + 1), .int (iI c), .ref (lo + 2), .int (iI (n : Int)), .ref (lo + 3), .ref (lo + 13), .ref (lo + 15)])) ∧ h (lo + 1) = some (aI cI 6 fz) ∧ (∃ ga, h (lo + 2) = some (aR cR 60 ga) ∧ ∀ i, i < n → ga i = some (Ad (i + 1))) ∧ wwE cI cR lo h ∧ ruP cI h (lo + 13) (lo + 14) Es ∧ ruP cI h (lo + 15) (lo + 16) Et ∧ soA lo h n Ad Kf Nf Wf ∧ (0 ≤ c ∧ c ≤ 6) ∧ n ≤ 60 ∧ (∀ j, -5000 ≤ fz j ∧ fz j ≤ 5000) ∧ lo + 26 ≤ hi ∧ ∀ s, 1 ≤ s → s ≤ n → Ad s < hi
/-- what isn't the object's own stays -/
def xfr (lo hi : Nat) (h h2 : ch_H) : Prop := ∀ b, lo + 17 ≤ b → b < hi → h2 b = h b
theorem soA_x {lo hi : Nat} {h h2 : ch_H} {n : Nat} {Ad : Nat → Nat} {Kf Nf Wf : Nat → Int} (H : soA lo h n Ad Kf Nf Wf) (hA : ∀ s, 1 ≤ s → s ≤ n → Ad s < hi) (x : xfr lo hi h h2) : soA lo h2 n Ad Kf Nf Wf := by
  intro s h1 h3
  obtain ⟨a, b, c⟩ := H s h1 h3
  exact ⟨a, by rw [x _ (by omega) (hA s h1 h3)]; exact b, c⟩
theorem wwE_fr {cI cR : ClassId} {lo : Nat} {h h2 : ch_H} (W : wwE cI cR lo h) (fr : ∀ b, lo + 3 ≤ b → b ≤ lo + 12 → h2 b = h b) : wwE cI cR lo h2 := by
  obtain ⟨gw, fx, fy, fl, fh, wc, Ls, W⟩ := W
  exact ⟨gw, fx, fy, fl, fh, wc, Ls, wwP_fr W fr⟩
theorem ruP_fr {cI : ClassId} {h h2 : ch_H} {r g : Nat} {L : List Int} (H : ruP cI h r g L) (e1 : h2 r = h r) (e2 : h2 g = h g) : ruP cI h2 r g L := by
  obtain ⟨f, a, b, c, d, e⟩ := H
  exact ⟨f, by rw [e1]; exact a, by rw [e2]; exact b, c, d, e⟩
theorem nin_w {lo r g b : Nat} (h : b < lo + 3 ∨ lo + 13 ≤ b) (h1 : b ≠ r) (h2 : b ≠ g) : b ∉ r :: g :: wwL lo := by
  simp only [List.mem_cons, not_or, wwL_in]
  exact ⟨h1, h2, by omega⟩
theorem ssP_seen {cI cR : ClassId} {lo : Nat} {h : ch_H} {hi : Nat} {fz : Nat → Int} {c : Int} {n : Nat} {Ad : Nat → Nat} {Kf Nf Wf : Nat → Int} {Es Et : List Int} (SS : ssP cI cR lo h hi fz c n Ad Kf Nf Wf Es Et) {h2 : ch_H} {L : List Int} (WE : wwE cI cR lo h2) (RU : ruP cI h2 (lo + 13) (lo + 14) L) (FR : ch_fr ((lo + 13) :: (lo + 14) :: wwL lo) h h2) : ssP cI cR lo h2 hi fz c n Ad Kf Nf Wf L Et ∧ xfr lo hi h h2 := by
  obtain ⟨Z0, Z1, ⟨ga, Z2, hga⟩, -, RS, RT, HA, hc, hn, hfz, hhi, hAd⟩ := SS
  have X : xfr lo hi h h2 := fun b b1 _ => FR b (nin_w (by omega) (by omega) (by omega))
  exact ⟨⟨by rw [FR _ (nin_w (by omega) (by omega) (by omega))]; exact Z0, by rw [FR _ (nin_w (by omega) (by omega) (by omega))]; exact Z1, ⟨ga, by rw [FR _ (nin_w (by omega) (by omega) (by omega))]; exact Z2, hga⟩, WE, RU, ruP_fr RT (FR _ (nin_w (by omega) (by omega) (by omega))) (FR _ (nin_w (by omega) (by omega) (by omega))), soA_x HA hAd X, hc, hn, hfz, hhi, hAd⟩, X⟩
theorem ssP_told {cI cR : ClassId} {lo : Nat} {h : ch_H} {hi : Nat} {fz : Nat → Int} {c : Int} {n : Nat} {Ad : Nat → Nat} {Kf Nf Wf : Nat → Int} {Es Et : List Int} (SS : ssP cI cR lo h hi fz c n Ad Kf Nf Wf Es Et) {h2 : ch_H} {L : List Int} (WE : wwE cI cR lo h2) (RU : ruP cI h2 (lo + 15) (lo + 16) L) (FR : ch_fr ((lo + 15) :: (lo + 16) :: wwL lo) h h2) : ssP cI cR lo h2 hi fz c n Ad Kf Nf Wf Es L ∧ xfr lo hi h h2 := by
  obtain ⟨Z0, Z1, ⟨ga, Z2, hga⟩, -, RS, RT, HA, hc, hn, hfz, hhi, hAd⟩ := SS
  have X : xfr lo hi h h2 := fun b b1 _ => FR b (nin_w (by omega) (by omega) (by omega))
  exact ⟨⟨by rw [FR _ (nin_w (by omega) (by omega) (by omega))]; exact Z0, by rw [FR _ (nin_w (by omega) (by omega) (by omega))]; exact Z1, ⟨ga, by rw [FR _ (nin_w (by omega) (by omega) (by omega))]; exact Z2, hga⟩, WE, ruP_fr RS (FR _ (nin_w (by omega) (by omega) (by omega))) (FR _ (nin_w (by omega) (by omega) (by omega))), RU, soA_x HA hAd X, hc, hn, hfz, hhi, hAd⟩, X⟩
/-- rows of edges by lists -/
def gD (L : List Int) (j : Nat) : Int := L.getD j 0
def spF (L : List Int) (k : Int) : Int := if 0 ≤ k ∧ k < (L.length : Int) / 2 then gD L (2 * k).toNat else 0
def spL (L : List Int) (k : Int) : Int := if 0 ≤ k ∧ k < (L.length : Int) / 2 then gD L (2 * k + 1).toNat - 1 else 0
theorem gD_e {L : List Int} {f : Nat → Int} (H : ∀ j, j < L.length → L[j]? = some (f j)) {j : Nat} (hj : j < L.length) : f j = gD L j := by
  unfold gD
  rw [List.getD_eq_getElem?_getD, H j hj]; rfl
theorem spF_e {L : List Int} {f : Nat → Int} (H : ∀ j, j < L.length → L[j]? = some (f j)) (k : Int) : ruF f (L.length : Int) k = spF L k := by
  unfold ruF spF
  by_cases h : 0 ≤ k ∧ k < (L.length : Int) / 2
  · rw [if_pos h, if_pos h, gD_e H (by omega)]
  · rw [if_neg h, if_neg h]
theorem spL_e {L : List Int} {f : Nat → Int} (H : ∀ j, j < L.length → L[j]? = some (f j)) (k : Int) : ruL f (L.length : Int) k = spL L k := by
  unfold ruL spL
  by_cases h : 0 ≤ k ∧ k < (L.length : Int) / 2
  · rw [if_pos h, if_pos h, gD_e H (by omega)]
  · rw [if_neg h, if_neg h]
theorem cntR_e {L : List Int} {f : Nat → Int} (H : ∀ j, j < L.length → L[j]? = some (f j)) (a b : Int) : ∀ k : Nat, 2 * k ≤ L.length → cntR f a b k = cntR (gD L) a b k := by
  intro k
  induction k with
  | zero => intro _; rfl
  | succ k ih => intro hk; rw [cntR, cntR, ih (by omega), gD_e H (show 2 * k < L.length by omega), gD_e H (show 2 * k + 1 < L.length by omega)]
theorem agR_e {L : List Int} {f : Nat → Int} (H : ∀ j, j < L.length → L[j]? = some (f j)) : ∀ k : Nat, 2 * k ≤ L.length → agR f k = agR (gD L) k := by
  intro k
  induction k with
  | zero => intro _; rfl
  | succ k ih => intro hk; rw [agR, agR, ih (by omega), gD_e H (show 2 * k < L.length by omega), gD_e H (show 2 * k + 1 < L.length by omega)]
theorem half_t (n : Nat) : ((n : Int) / 2).toNat = n / 2 := by omega
theorem half_l (n : Nat) : 2 * (n / 2) ≤ n := by omega
def cnL (L : List Int) (a b : Int) : Int := cntR (gD L) a b (L.length / 2)
def agL (L : List Int) : Int := agR (gD L) (L.length / 2)
set_option maxHeartbeats 4000000 in
set_option maxRecDepth 100000 in
theorem c_X11_size (l : Launch) (D : va_G) (cI cL cR : ClassId) (lo : Nat) (h : ch_H) (hi : Nat) (fz : Nat → Int) (c : Int) (n : Nat) (Ad : Nat → Nat) (Kf Nf Wf : Nat → Int) (Es Et : List Int) (SS : ssP cI cR lo h hi fz c n Ad Kf Nf Wf Es Et) (v : Int) (hv : ir v) : ch_C l (eE D cI cL cR lo) M_X11_size (rM 0 0 0) [.ref lo, .int (iI v)] h hi (fun r0 h2 hi2 => r0 = some (.int (iI (if -5000 ≤ v ∧ v ≤ 5000 ∧ c < 6 then c + 1 else -1))) ∧ ssP cI cR lo h2 hi (if -5000 ≤ v ∧ v ≤ 5000 ∧ c < 6 then updI fz c.toNat v else fz) (if -5000 ≤ v ∧ v ≤ 5000 ∧ c < 6 then c + 1 else c) n Ad Kf Nf Wf Es Et ∧ xfr lo hi h h2 ∧ hi = hi2) := by
  refine ch_C.of rfl (Nat.le_of_ble_eq_true rfl) ?_
  have SS0 := SS
  obtain ⟨Z0, Z1, ⟨ga, Z2, hga⟩, ⟨gw, fx, fy, fl, fh, wc, Ls, W⟩, RS, RT, HA, hc, hn, hfz, hhi, hAd⟩ := SS
  refine gx_iload_n 1 dX11_size_0 rfl rfl ?_
  refine gx_sipush (iI (-5000)) dX11_size_1 (by decide) ?_
  refine gy_icmp_lt 23 dX11_size_4 (by decide) (by constructor <;> omega) (by decide) (fun c4 => ?_) (fun c4 => ?_)
  · refine gx_iconst (iI (-1)) dX11_size_23 rfl ?_
    refine gx_iret rfl dX11_size_24 (by first | exact Nat.le_of_ble_eq_true rfl | (simp only [rM]; omega)) (by first | exact Nat.le_of_ble_eq_true rfl | (simp only [rM]; omega)) ?_
    exact ⟨by rw [if_neg (by omega)], by rw [if_neg (by omega), if_neg (by omega)]; exact SS0, fun b _ _ => rfl, rfl⟩
  · refine gx_iload_n 1 dX11_size_7 rfl rfl ?_
    refine gx_sipush (iI 5000) dX11_size_8 (by decide) ?_
    refine gy_icmp_gt 23 dX11_size_11 (by decide) (by constructor <;> omega) (by decide) (fun c11 => ?_) (fun c11 => ?_)
    · refine gx_iconst (iI (-1)) dX11_size_23 rfl ?_
      refine gx_iret rfl dX11_size_24 (by first | exact Nat.le_of_ble_eq_true rfl | (simp only [rM]; omega)) (by first | exact Nat.le_of_ble_eq_true rfl | (simp only [rM]; omega)) ?_
      exact ⟨by rw [if_neg (by omega)], by rw [if_neg (by omega), if_neg (by omega)]; exact SS0, fun b _ _ => rfl, rfl⟩
    · refine gx_aload_n 0 dX11_size_14 rfl rfl ?_
      refine gx_get (ci := 10) (f := 1) (C := RX11) (T := TX11) (N := 7) rfl inX11 (by decide) mw_1_91 dX11_size_15 Z0 rfl ?_
      refine gx_bipush (iI 6) dX11_size_18 (by decide) ?_
      refine gy_icmp_lt 25 dX11_size_20 (by decide) (by constructor <;> omega) (by decide) (fun c20 => ?_) (fun c20 => ?_)
      · refine gx_aload_n 0 dX11_size_25 rfl rfl ?_
        refine gx_get (ci := 10) (f := 0) (C := RX11) (T := TX11) (N := 7) rfl inX11 (by decide) mw_1_90 dX11_size_26 Z0 rfl ?_
        refine gx_aload_n 0 dX11_size_29 rfl rfl ?_
        refine gx_get (ci := 10) (f := 1) (C := RX11) (T := TX11) (N := 7) rfl inX11 (by decide) mw_1_91 dX11_size_30 Z0 rfl ?_
        refine gx_iload_n 1 dX11_size_33 rfl rfl ?_
        refine gy_iast dX11_size_34 Z1 (by omega) (by omega) (by decide) (fun h1 eh1 => ?_)
        have k2 : h1 lo = some (.inr (10, [.ref (lo + 1), .int (iI c), .ref (lo + 2), .int (iI (n : Int)), .ref (lo + 3), .ref (lo + 13), .ref (lo + 15)])) := by rw [eh1, ch_set_ne (ch_ne Z0 Z1 (by intro q; cases q))]; exact Z0
        have k3 : h1 (lo + 2) = some (aR cR 60 ga) := by rw [eh1, ch_set_ne (by first | assumption | exact Ne.symm (by assumption) | omega)]; exact Z2
        have k4 : h1 (lo + 1) = some (aI cI 6 (updI fz c.toNat v)) := by rw [eh1]; exact ch_set_self
        refine gx_aload_n 0 dX11_size_35 rfl rfl ?_
        refine gx_dup dX11_size_36 rfl ?_
        refine gx_get (ci := 10) (f := 1) (C := RX11) (T := TX11) (N := 7) rfl inX11 (by decide) mw_1_91 dX11_size_37 k2 rfl ?_
        refine gx_iconst (iI 1) dX11_size_40 rfl ?_
        refine gy_iadd dX11_size_41 ?_
        refine gy_put (ci := 10) (f := 1) (C := RX11) (T := TX11) (N := 7) (ty := .int) (fs2 := [.ref (lo + 1), .int (iI (c + 1)), .ref (lo + 2), .int (iI (n : Int)), .ref (lo + 3), .ref (lo + 13), .ref (lo + 15)]) tyX11 rfl inX11 tyX11_ok nmX11 (by decide) mw_1_91 (Or.inl rfl) (by decide +kernel) rfl rfl dX11_size_42 k2 (by simp) rfl (fun h5 eh5 => ?_)
        have k6 : h5 (lo + 2) = some (aR cR 60 ga) := by rw [eh5, ch_set_ne (by first | assumption | exact Ne.symm (by assumption) | omega)]; exact k3
        have k7 : h5 (lo + 1) = some (aI cI 6 (updI fz c.toNat v)) := by rw [eh5, ch_set_ne (by first | assumption | exact Ne.symm (by assumption) | omega)]; exact k4
        have k8 : h5 lo = some (.inr (10, [.ref (lo + 1), .int (iI (c + 1)), .ref (lo + 2), .int (iI (n : Int)), .ref (lo + 3), .ref (lo + 13), .ref (lo + 15)])) := by rw [eh5]; exact ch_set_self
        refine gx_aload_n 0 dX11_size_45 rfl rfl ?_
        refine gx_get (ci := 10) (f := 1) (C := RX11) (T := TX11) (N := 7) rfl inX11 (by decide) mw_1_91 dX11_size_46 k8 rfl ?_
        refine gx_iret rfl dX11_size_49 (by first | exact Nat.le_of_ble_eq_true rfl | (simp only [rM]; omega)) (by first | exact Nat.le_of_ble_eq_true rfl | (simp only [rM]; omega)) ?_
        have X : xfr lo hi h h5 := fun b b1 _ => by rw [eh5, ch_set_ne (by omega), eh1, ch_set_ne (by omega)]
        have Y : ∀ b, lo + 2 ≤ b → h5 b = h b := fun b b1 => by rw [eh5, ch_set_ne (by omega), eh1, ch_set_ne (by omega)]
        refine ⟨by rw [if_pos ⟨by omega, by omega, by omega⟩], ?_, X, rfl⟩
        rw [if_pos ⟨by omega, by omega, by omega⟩, if_pos ⟨by omega, by omega, by omega⟩]
        refine ⟨k8, k7, ⟨ga, k6, hga⟩, wwE_fr ⟨gw, fx, fy, fl, fh, wc, Ls, W⟩ (fun b b1 b2 => Y b (by omega)), ruP_fr RS (Y _ (by omega)) (Y _ (by omega)), ruP_fr RT (Y _ (by omega)) (Y _ (by omega)), soA_x HA hAd X, by omega, hn, fun j => ?_, hhi, hAd⟩
        by_cases q : j = c.toNat
        · rw [q, updI_s]; omega
        · rw [updI_n q]; exact hfz j
      · refine gx_iconst (iI (-1)) dX11_size_23 rfl ?_
        refine gx_iret rfl dX11_size_24 (by first | exact Nat.le_of_ble_eq_true rfl | (simp only [rM]; omega)) (by first | exact Nat.le_of_ble_eq_true rfl | (simp only [rM]; omega)) ?_
        exact ⟨by rw [if_neg (by omega)], by rw [if_neg (by omega), if_neg (by omega)]; exact SS0, fun b _ _ => rfl, rfl⟩
set_option maxHeartbeats 4000000 in
set_option maxRecDepth 100000 in
theorem c_X11_weight (l : Launch) (D : va_G) (cI cL cR : ClassId) (lo : Nat) (h : ch_H) (hi : Nat) (fz : Nat → Int) (c : Int) (n : Nat) (Ad : Nat → Nat) (Kf Nf Wf : Nat → Int) (Es Et : List Int) (SS : ssP cI cR lo h hi fz c n Ad Kf Nf Wf Es Et) (s : Int) (hs : ir s) : ch_C l (eE D cI cL cR lo) M_X11_weight (rM 1 0 0) [.ref lo, .int (iI s)] h hi (fun r0 h2 hi2 => r0 = some (.int (iI (if 1 ≤ s ∧ s ≤ (n : Int) then Wf s.toNat else -1))) ∧ h = h2 ∧ hi = hi2) := by
  refine ch_C.of rfl (Nat.le_of_ble_eq_true rfl) ?_
  have SS0 := SS
  obtain ⟨Z0, Z1, ⟨ga, Z2, hga⟩, ⟨gw, fx, fy, fl, fh, wc, Ls, W⟩, RS, RT, HA, hc, hn, hfz, hhi, hAd⟩ := SS
  refine gx_aload_n 0 dX11_weight_0 rfl rfl ?_
  refine gx_iload_n 1 dX11_weight_1 rfl rfl ?_
  by_cases hfd : 1 ≤ s ∧ s ≤ (n : Int)
  · have hgs : ga (s - 1).toNat = some (Ad s.toNat) := by rw [hga _ (by omega)]; congr 2; omega
    obtain ⟨hpl, hp, hwf⟩ := HA s.toNat (by omega) (by omega)
    obtain ⟨cS, vS, e1, sS⟩ := soC_S (Ad := Ad) hwf
    rw [e1] at hp
    have hWs := hwf.1
    have hAs := hAd s.toNat (by omega) (by omega)
    refine gx_callV (ci := 10) (c_X11_findY l D cI cL cR lo h hi c n hn Z0 ga Z2 s hfd _ hgs) ok_X11_find mw_2_8 mw_2_10 mw_p_5 dX11_weight_2 rfl Z0 rfl rfl (Nat.le_of_ble_eq_true rfl) (by first | exact Nat.le_of_ble_eq_true rfl | (simp only [rM]; omega)) (by first | exact Nat.le_of_ble_eq_true rfl | (simp only [rM]; omega)) (by first | exact Nat.le_of_ble_eq_true rfl | (simp only [rM]; omega)) (by first | exact Nat.le_of_ble_eq_true rfl | (simp only [rM]; omega)) (fun r1 h2 u3 q4 g5 => ?_)
    obtain ⟨rfl, rfl, rfl⟩ := q4
    refine ch_Gst (st2 := [.ref (Ad s.toNat)]) rfl ?_
    refine gx_astore_n [(2, .ref (Ad s.toNat)), (0, .ref lo), (1, .int (iI s))] dX11_weight_5 rfl (by decide) rfl ?_
    refine gx_aload_n 0 dX11_weight_6 rfl rfl ?_
    refine gx_ifnonnullA 14 dX11_weight_7 (by decide) ?_
    refine gx_aload_n 0 dX11_weight_14 rfl rfl ?_
    refine gy_getw sS mw_1_158 dX11_weight_15 hp ?_
    refine gx_iret rfl dX11_weight_18 (by first | exact Nat.le_of_ble_eq_true rfl | (simp only [rM]; omega)) (by first | exact Nat.le_of_ble_eq_true rfl | (simp only [rM]; omega)) ?_
    exact ⟨by rw [if_pos hfd], rfl, rfl⟩
  · refine gx_callV (ci := 10) (c_X11_findN l D cI cL cR lo h hi c n hn Z0 ga Z2 s (by constructor <;> omega) (by omega)) ok_X11_find mw_2_8 mw_2_10 mw_p_5 dX11_weight_2 rfl Z0 rfl rfl (Nat.le_of_ble_eq_true rfl) (by first | exact Nat.le_of_ble_eq_true rfl | (simp only [rM]; omega)) (by first | exact Nat.le_of_ble_eq_true rfl | (simp only [rM]; omega)) (by first | exact Nat.le_of_ble_eq_true rfl | (simp only [rM]; omega)) (by first | exact Nat.le_of_ble_eq_true rfl | (simp only [rM]; omega)) (fun r6 h7 u8 q9 g10 => ?_)
    obtain ⟨rfl, rfl, rfl⟩ := q9
    refine ch_Gst (st2 := [.null]) rfl ?_
    refine gx_astore_nN [(2, .null), (0, .ref lo), (1, .int (iI s))] dX11_weight_5 rfl (by decide) rfl ?_
    refine gx_aload_nN 0 dX11_weight_6 rfl rfl ?_
    refine gx_ifnonnullZ dX11_weight_7 ?_
    refine gx_iconst (iI (-1)) dX11_weight_10 rfl ?_
    refine gx_goto 18 dX11_weight_11 (by decide) ?_
    refine gx_iret rfl dX11_weight_18 (by first | exact Nat.le_of_ble_eq_true rfl | (simp only [rM]; omega)) (by first | exact Nat.le_of_ble_eq_true rfl | (simp only [rM]; omega)) ?_
    exact ⟨by rw [if_neg hfd], rfl, rfl⟩
theorem cnL_in {L : List Int} {f : Nat → Int} (H : ∀ j, j < L.length → L[j]? = some (f j)) (a b : Int) : cntR f a b ((L.length : Int) / 2).toNat = cnL L a b := by
  unfold cnL
  rw [half_t]
  exact cntR_e H a b _ (half_l _)
theorem agL_in {L : List Int} {f : Nat → Int} (H : ∀ j, j < L.length → L[j]? = some (f j)) : agR f ((L.length : Int) / 2).toNat = agL L := by
  unfold agL
  rw [half_t]
  exact agR_e H _ (half_l _)
theorem cntR_b {f : Nat → Int} {z : Int} : ∀ k : Nat, 0 ≤ cntR f z z k ∧ cntR f z z k ≤ k := by
  intro k
  induction k with
  | zero => rw [cntR]; omega
  | succ k ih => rw [cntR]; split <;> omega
set_option maxHeartbeats 4000000 in
set_option maxRecDepth 100000 in
theorem c_X11_inside (l : Launch) (D : va_G) (cI cL cR : ClassId) (lo : Nat) (h : ch_H) (hi : Nat) (fz : Nat → Int) (c : Int) (n : Nat) (Ad : Nat → Nat) (Kf Nf Wf : Nat → Int) (Es Et : List Int) (SS : ssP cI cR lo h hi fz c n Ad Kf Nf Wf Es Et) (s x y : Int) (hs : ir s) (hx : ir x) (hy : ir y) (z : Int) (hz : ir z) : ch_C l (eE D cI cL cR lo) M_X11_inside (rM 6 0 0) [.ref lo, .int (iI s), .int (iI x), .int (iI y), .int (iI z)] h hi (fun r0 h2 hi2 => r0 = some (.int (iI (bI (decide (1 ≤ s ∧ s ≤ (n : Int) ∧ nearB z = true ∧ 0 < cnL (edN Kf Nf s.toNat x y) z z))))) ∧ ssP cI cR lo h2 hi fz c n Ad Kf Nf Wf (if 1 ≤ s ∧ s ≤ (n : Int) ∧ nearB z = true then edN Kf Nf s.toNat x y else Es) Et ∧ xfr lo hi h h2 ∧ hi = hi2) := by
  refine ch_C.of rfl (Nat.le_of_ble_eq_true rfl) ?_
  have SS0 := SS
  obtain ⟨Z0, Z1, ⟨ga, Z2, hga⟩, ⟨gw, fx, fy, fl, fh, wc, Ls, W⟩, RS, RT, HA, hc, hn, hfz, hhi, hAd⟩ := SS
  refine gx_aload_n 0 dX11_inside_0 rfl rfl ?_
  refine gx_iload_n 1 dX11_inside_1 rfl rfl ?_
  by_cases hfd : 1 ≤ s ∧ s ≤ (n : Int)
  · have hgs : ga (s - 1).toNat = some (Ad s.toNat) := by rw [hga _ (by omega)]; congr 2; omega
    obtain ⟨hpl, hp, hwf⟩ := HA s.toNat (by omega) (by omega)
    obtain ⟨cS, vS, e1, sS⟩ := soC_S (Ad := Ad) hwf
    rw [e1] at hp
    have hWs := hwf.1
    have hAs := hAd s.toNat (by omega) (by omega)
    refine gx_callV (ci := 10) (c_X11_findY l D cI cL cR lo h hi c n hn Z0 ga Z2 s hfd _ hgs) ok_X11_find mw_2_8 mw_2_10 mw_p_5 dX11_inside_2 rfl Z0 rfl rfl (Nat.le_of_ble_eq_true rfl) (by first | exact Nat.le_of_ble_eq_true rfl | (simp only [rM]; omega)) (by first | exact Nat.le_of_ble_eq_true rfl | (simp only [rM]; omega)) (by first | exact Nat.le_of_ble_eq_true rfl | (simp only [rM]; omega)) (by first | exact Nat.le_of_ble_eq_true rfl | (simp only [rM]; omega)) (fun r1 h2 u3 q4 g5 => ?_)
    obtain ⟨rfl, rfl, rfl⟩ := q4
    refine ch_Gst (st2 := [.ref (Ad s.toNat)]) rfl ?_
    refine gx_astore [(5, .ref (Ad s.toNat)), (0, .ref lo), (1, .int (iI s)), (2, .int (iI x)), (3, .int (iI y)), (4, .int (iI z))] dX11_inside_5 (by decide) rfl ?_
    refine gx_aload 0 dX11_inside_7 rfl ?_
    refine gx_ifnullA dX11_inside_9 ?_
    refine gx_iload 5 dX11_inside_12 rfl ?_
    refine gx_callS (c_X11_isBeyond l D cI cL cR lo h hi z (by constructor <;> omega)) ok_X11_isBeyond mw_2_76 mw_2_77 dX11_inside_14 rfl rfl (Nat.le_of_ble_eq_true rfl) (by first | exact Nat.le_of_ble_eq_true rfl | (simp only [rM]; omega)) (by first | exact Nat.le_of_ble_eq_true rfl | (simp only [rM]; omega)) (by first | exact Nat.le_of_ble_eq_true rfl | (simp only [rM]; omega)) (by first | exact Nat.le_of_ble_eq_true rfl | (simp only [rM]; omega)) (fun r6 h7 u8 q9 g10 => ?_)
    obtain ⟨rfl, rfl, rfl⟩ := q9
    refine ch_Gst (st2 := [.int (iI (bI (!nearB z)))]) rfl ?_
    refine gy_if_eq 22 dX11_inside_17 (by decide) ir_bI (fun c17 => ?_) (fun c17 => ?_)
    · refine gx_aload_n 1 dX11_inside_22 rfl rfl ?_
      refine gx_aload 0 dX11_inside_23 rfl ?_
      refine gx_iload_n 3 dX11_inside_25 rfl rfl ?_
      refine gx_iload_n 4 dX11_inside_26 rfl rfl ?_
      refine gx_aload_n 1 dX11_inside_27 rfl rfl ?_
      refine gx_get (ci := 10) (f := 5) (C := RX11) (T := TX11) (N := 7) rfl inX11 (by decide) mw_1_95 dX11_inside_28 Z0 rfl ?_
      obtain ⟨fg, R0, R1, R2, R3, R4⟩ := RS
      refine gx_callV (ci := 10) (c_X11_lookOver l D cI cL cR lo h hi gw fx fy fl fh wc Ls W c (lo + 13) (lo + 14) _ fg R0 R1 (by omega) (by omega) n Ad Kf Nf Wf hn Z0 HA (fun q q1 q2 => by have := (HA q q1 q2).1; omega) s.toNat (by omega) (by omega) x y hx hy) ok_X11_lookOver mw_2_81 mw_2_83 mw_p_6 dX11_inside_31 rfl Z0 rfl rfl (Nat.le_of_ble_eq_true rfl) (by first | exact Nat.le_of_ble_eq_true rfl | (simp only [rM]; omega)) (by first | exact Nat.le_of_ble_eq_true rfl | (simp only [rM]; omega)) (by first | exact Nat.le_of_ble_eq_true rfl | (simp only [rM]; omega)) (by first | exact Nat.le_of_ble_eq_true rfl | (simp only [rM]; omega)) (fun r11 h12 u13 q14 g15 => ?_)
      obtain ⟨rfl, WE, RU, FR, rfl⟩ := q14
      obtain ⟨S2, X2⟩ := ssP_seen SS0 WE RU FR
      obtain ⟨f2, U0, U1, U2, U3, U4⟩ := RU
      have Z0b : h12 lo = some (.inr (10, [.ref (lo + 1), .int (iI c), .ref (lo + 2), .int (iI (n : Int)), .ref (lo + 3), .ref (lo + 13), .ref (lo + 15)])) := by rw [FR _ (nin_w (by omega) (by omega) (by omega))]; exact Z0
      refine ch_Gst (st2 := []) rfl ?_
      refine gx_aload_n 1 dX11_inside_34 rfl rfl ?_
      refine gx_get (ci := 10) (f := 5) (C := RX11) (T := TX11) (N := 7) rfl inX11 (by decide) mw_1_95 dX11_inside_35 Z0b rfl ?_
      refine gx_iload 5 dX11_inside_38 rfl ?_
      refine gx_iload 5 dX11_inside_40 rfl ?_
      refine gx_callV (ci := 7) (c_X7_countFrom l D cI cL cR lo h12 hi (lo + 13) (lo + 14) _ f2 U0 U1 ⟨by omega, by omega⟩ U4 z z (by constructor <;> omega) (by constructor <;> omega)) ok_X7_countFrom mw_2_193 mw_2_194 mw_2_195 dX11_inside_42 rfl U0 rfl rfl (Nat.le_of_ble_eq_true rfl) (by first | exact Nat.le_of_ble_eq_true rfl | (simp only [rM]; omega)) (by first | exact Nat.le_of_ble_eq_true rfl | (simp only [rM]; omega)) (by first | exact Nat.le_of_ble_eq_true rfl | (simp only [rM]; omega)) (by first | exact Nat.le_of_ble_eq_true rfl | (simp only [rM]; omega)) (fun r16 h17 u18 q19 g20 => ?_)
      obtain ⟨rfl, rfl, rfl⟩ := q19
      refine ch_Gst (st2 := [.long (lI (cntR f2 z z (((edN Kf Nf s.toNat x y).length : Int) / 2).toNat))]) rfl ?_
      have hcb := cntR_b (f := f2) (z := z) (((edN Kf Nf s.toNat x y).length : Int) / 2).toNat
      refine gx_lconst (lI 0) dX11_inside_45 rfl ?_
      refine gy_lcmp_le 54 dX11_inside_46 dX11_inside_47 (by decide) (by constructor <;> omega) (by decide) (fun c46 => ?_) (fun c46 => ?_)
      · refine gx_iconst (iI 0) dX11_inside_54 rfl ?_
        refine gx_zret rfl rfl dX11_inside_55 (by first | exact Nat.le_of_ble_eq_true rfl | (simp only [rM]; omega)) (by first | exact Nat.le_of_ble_eq_true rfl | (simp only [rM]; omega)) ?_
        have nz : nearB z = true := by have := bI_0 c17; simpa using this
        rw [cnL_in U3] at c46
        exact ⟨by rw [show decide (1 ≤ s ∧ s ≤ (n : Int) ∧ nearB z = true ∧ 0 < cnL (edN Kf Nf s.toNat x y) z z) = false from decide_eq_false (fun q => by omega)]; rfl, by rw [if_pos ⟨hfd.1, hfd.2, nz⟩]; exact S2, X2, rfl⟩
      · refine gx_iconst (iI 1) dX11_inside_50 rfl ?_
        refine gx_goto 55 dX11_inside_51 (by decide) ?_
        refine gx_zret rfl rfl dX11_inside_55 (by first | exact Nat.le_of_ble_eq_true rfl | (simp only [rM]; omega)) (by first | exact Nat.le_of_ble_eq_true rfl | (simp only [rM]; omega)) ?_
        have nz : nearB z = true := by have := bI_0 c17; simpa using this
        rw [cnL_in U3] at c46
        exact ⟨by rw [show decide (1 ≤ s ∧ s ≤ (n : Int) ∧ nearB z = true ∧ 0 < cnL (edN Kf Nf s.toNat x y) z z) = true from decide_eq_true ⟨hfd.1, hfd.2, nz, by omega⟩]; rfl, by rw [if_pos ⟨hfd.1, hfd.2, nz⟩]; exact S2, X2, rfl⟩
    · refine gx_iconst (iI 0) dX11_inside_20 rfl ?_
      refine gx_zret rfl rfl dX11_inside_21 (by first | exact Nat.le_of_ble_eq_true rfl | (simp only [rM]; omega)) (by first | exact Nat.le_of_ble_eq_true rfl | (simp only [rM]; omega)) ?_
      have hno : ¬ (1 ≤ s ∧ s ≤ (n : Int) ∧ nearB z = true) := fun q => by have := bI_1 c17; rw [q.2.2] at this; exact absurd this (by decide)
      exact ⟨by rw [show decide (1 ≤ s ∧ s ≤ (n : Int) ∧ nearB z = true ∧ 0 < cnL (edN Kf Nf s.toNat x y) z z) = false from decide_eq_false (fun q => hno ⟨q.1, q.2.1, q.2.2.1⟩)]; rfl, by rw [if_neg hno]; exact SS0, fun b _ _ => rfl, rfl⟩
  · refine gx_callV (ci := 10) (c_X11_findN l D cI cL cR lo h hi c n hn Z0 ga Z2 s (by constructor <;> omega) (by omega)) ok_X11_find mw_2_8 mw_2_10 mw_p_5 dX11_inside_2 rfl Z0 rfl rfl (Nat.le_of_ble_eq_true rfl) (by first | exact Nat.le_of_ble_eq_true rfl | (simp only [rM]; omega)) (by first | exact Nat.le_of_ble_eq_true rfl | (simp only [rM]; omega)) (by first | exact Nat.le_of_ble_eq_true rfl | (simp only [rM]; omega)) (by first | exact Nat.le_of_ble_eq_true rfl | (simp only [rM]; omega)) (fun r21 h22 u23 q24 g25 => ?_)
    obtain ⟨rfl, rfl, rfl⟩ := q24
    refine ch_Gst (st2 := [.null]) rfl ?_
    refine gx_astoreN [(5, .null), (0, .ref lo), (1, .int (iI s)), (2, .int (iI x)), (3, .int (iI y)), (4, .int (iI z))] dX11_inside_5 (by decide) rfl ?_
    refine gx_aloadN 0 dX11_inside_7 rfl ?_
    refine gx_ifnullZ 20 dX11_inside_9 (by decide) ?_
    refine gx_iconst (iI 0) dX11_inside_20 rfl ?_
    refine gx_zret rfl rfl dX11_inside_21 (by first | exact Nat.le_of_ble_eq_true rfl | (simp only [rM]; omega)) (by first | exact Nat.le_of_ble_eq_true rfl | (simp only [rM]; omega)) ?_
    have hno : ¬ (1 ≤ s ∧ s ≤ (n : Int) ∧ nearB z = true) := fun q => hfd ⟨q.1, q.2.1⟩
    exact ⟨by rw [show decide (1 ≤ s ∧ s ≤ (n : Int) ∧ nearB z = true ∧ 0 < cnL (edN Kf Nf s.toNat x y) z z) = false from decide_eq_false (fun q => hno ⟨q.1, q.2.1, q.2.2.1⟩)]; rfl, by rw [if_neg hno]; exact SS0, fun b _ _ => rfl, rfl⟩
set_option maxHeartbeats 4000000 in
set_option maxRecDepth 100000 in
theorem c_X11_top (l : Launch) (D : va_G) (cI cL cR : ClassId) (lo : Nat) (h : ch_H) (hi : Nat) (fz : Nat → Int) (c : Int) (n : Nat) (Ad : Nat → Nat) (Kf Nf Wf : Nat → Int) (Es Et : List Int) (SS : ssP cI cR lo h hi fz c n Ad Kf Nf Wf Es Et) (s x y : Int) (hs : ir s) (hx : ir x) (hy : ir y) : ch_C l (eE D cI cL cR lo) M_X11_top (rM 6 0 0) [.ref lo, .int (iI s), .int (iI x), .int (iI y)] h hi (fun r0 h2 hi2 => r0 = some (.int (iI (if 1 ≤ s ∧ s ≤ (n : Int) then agL (edN Kf Nf s.toNat x y) else -1))) ∧ ssP cI cR lo h2 hi fz c n Ad Kf Nf Wf (if 1 ≤ s ∧ s ≤ (n : Int) then edN Kf Nf s.toNat x y else Es) Et ∧ xfr lo hi h h2 ∧ hi = hi2) := by
  refine ch_C.of rfl (Nat.le_of_ble_eq_true rfl) ?_
  have SS0 := SS
  obtain ⟨Z0, Z1, ⟨ga, Z2, hga⟩, ⟨gw, fx, fy, fl, fh, wc, Ls, W⟩, RS, RT, HA, hc, hn, hfz, hhi, hAd⟩ := SS
  refine gx_aload_n 0 dX11_top_0 rfl rfl ?_
  refine gx_iload_n 1 dX11_top_1 rfl rfl ?_
  by_cases hfd : 1 ≤ s ∧ s ≤ (n : Int)
  · have hgs : ga (s - 1).toNat = some (Ad s.toNat) := by rw [hga _ (by omega)]; congr 2; omega
    obtain ⟨hpl, hp, hwf⟩ := HA s.toNat (by omega) (by omega)
    obtain ⟨cS, vS, e1, sS⟩ := soC_S (Ad := Ad) hwf
    rw [e1] at hp
    have hWs := hwf.1
    have hAs := hAd s.toNat (by omega) (by omega)
    refine gx_callV (ci := 10) (c_X11_findY l D cI cL cR lo h hi c n hn Z0 ga Z2 s hfd _ hgs) ok_X11_find mw_2_8 mw_2_10 mw_p_5 dX11_top_2 rfl Z0 rfl rfl (Nat.le_of_ble_eq_true rfl) (by first | exact Nat.le_of_ble_eq_true rfl | (simp only [rM]; omega)) (by first | exact Nat.le_of_ble_eq_true rfl | (simp only [rM]; omega)) (by first | exact Nat.le_of_ble_eq_true rfl | (simp only [rM]; omega)) (by first | exact Nat.le_of_ble_eq_true rfl | (simp only [rM]; omega)) (fun r1 h2 u3 q4 g5 => ?_)
    obtain ⟨rfl, rfl, rfl⟩ := q4
    refine ch_Gst (st2 := [.ref (Ad s.toNat)]) rfl ?_
    refine gx_astore [(4, .ref (Ad s.toNat)), (0, .ref lo), (1, .int (iI s)), (2, .int (iI x)), (3, .int (iI y))] dX11_top_5 (by decide) rfl ?_
    refine gx_aload 0 dX11_top_7 rfl ?_
    refine gx_ifnonnullA 14 dX11_top_9 (by decide) ?_
    refine gx_aload_n 1 dX11_top_14 rfl rfl ?_
    refine gx_aload 0 dX11_top_15 rfl ?_
    refine gx_iload_n 3 dX11_top_17 rfl rfl ?_
    refine gx_iload_n 4 dX11_top_18 rfl rfl ?_
    refine gx_aload_n 1 dX11_top_19 rfl rfl ?_
    refine gx_get (ci := 10) (f := 5) (C := RX11) (T := TX11) (N := 7) rfl inX11 (by decide) mw_1_95 dX11_top_20 Z0 rfl ?_
    obtain ⟨fg, R0, R1, R2, R3, R4⟩ := RS
    refine gx_callV (ci := 10) (c_X11_lookOver l D cI cL cR lo h hi gw fx fy fl fh wc Ls W c (lo + 13) (lo + 14) _ fg R0 R1 (by omega) (by omega) n Ad Kf Nf Wf hn Z0 HA (fun q q1 q2 => by have := (HA q q1 q2).1; omega) s.toNat (by omega) (by omega) x y hx hy) ok_X11_lookOver mw_2_81 mw_2_83 mw_p_6 dX11_top_23 rfl Z0 rfl rfl (Nat.le_of_ble_eq_true rfl) (by first | exact Nat.le_of_ble_eq_true rfl | (simp only [rM]; omega)) (by first | exact Nat.le_of_ble_eq_true rfl | (simp only [rM]; omega)) (by first | exact Nat.le_of_ble_eq_true rfl | (simp only [rM]; omega)) (by first | exact Nat.le_of_ble_eq_true rfl | (simp only [rM]; omega)) (fun r6 h7 u8 q9 g10 => ?_)
    obtain ⟨rfl, WE, RU, FR, rfl⟩ := q9
    obtain ⟨S2, X2⟩ := ssP_seen SS0 WE RU FR
    obtain ⟨f2, U0, U1, U2, U3, U4⟩ := RU
    have Z0b : h7 lo = some (.inr (10, [.ref (lo + 1), .int (iI c), .ref (lo + 2), .int (iI (n : Int)), .ref (lo + 3), .ref (lo + 13), .ref (lo + 15)])) := by rw [FR _ (nin_w (by omega) (by omega) (by omega))]; exact Z0
    refine ch_Gst (st2 := []) rfl ?_
    refine gx_aload_n 1 dX11_top_26 rfl rfl ?_
    refine gx_get (ci := 10) (f := 5) (C := RX11) (T := TX11) (N := 7) rfl inX11 (by decide) mw_1_95 dX11_top_27 Z0b rfl ?_
    refine gx_callV (ci := 7) (c_X7_afterGreatest l D cI cL cR lo h7 hi (lo + 13) (lo + 14) _ f2 U0 U1 ⟨by omega, by omega⟩ U4) ok_X7_afterGreatest mw_2_216 mw_2_217 mw_2_218 dX11_top_30 rfl U0 rfl rfl (Nat.le_of_ble_eq_true rfl) (by first | exact Nat.le_of_ble_eq_true rfl | (simp only [rM]; omega)) (by first | exact Nat.le_of_ble_eq_true rfl | (simp only [rM]; omega)) (by first | exact Nat.le_of_ble_eq_true rfl | (simp only [rM]; omega)) (by first | exact Nat.le_of_ble_eq_true rfl | (simp only [rM]; omega)) (fun r11 h12 u13 q14 g15 => ?_)
    obtain ⟨rfl, rfl, rfl⟩ := q14
    refine ch_Gst (st2 := [.int (iI (agR f2 (((edN Kf Nf s.toNat x y).length : Int) / 2).toNat))]) rfl ?_
    refine gx_iret rfl dX11_top_33 (by first | exact Nat.le_of_ble_eq_true rfl | (simp only [rM]; omega)) (by first | exact Nat.le_of_ble_eq_true rfl | (simp only [rM]; omega)) ?_
    exact ⟨by rw [if_pos hfd, agL_in U3], by rw [if_pos hfd]; exact S2, X2, rfl⟩
  · refine gx_callV (ci := 10) (c_X11_findN l D cI cL cR lo h hi c n hn Z0 ga Z2 s (by constructor <;> omega) (by omega)) ok_X11_find mw_2_8 mw_2_10 mw_p_5 dX11_top_2 rfl Z0 rfl rfl (Nat.le_of_ble_eq_true rfl) (by first | exact Nat.le_of_ble_eq_true rfl | (simp only [rM]; omega)) (by first | exact Nat.le_of_ble_eq_true rfl | (simp only [rM]; omega)) (by first | exact Nat.le_of_ble_eq_true rfl | (simp only [rM]; omega)) (by first | exact Nat.le_of_ble_eq_true rfl | (simp only [rM]; omega)) (fun r16 h17 u18 q19 g20 => ?_)
    obtain ⟨rfl, rfl, rfl⟩ := q19
    refine ch_Gst (st2 := [.null]) rfl ?_
    refine gx_astoreN [(4, .null), (0, .ref lo), (1, .int (iI s)), (2, .int (iI x)), (3, .int (iI y))] dX11_top_5 (by decide) rfl ?_
    refine gx_aloadN 0 dX11_top_7 rfl ?_
    refine gx_ifnonnullZ dX11_top_9 ?_
    refine gx_iconst (iI (-1)) dX11_top_12 rfl ?_
    refine gx_iret rfl dX11_top_13 (by first | exact Nat.le_of_ble_eq_true rfl | (simp only [rM]; omega)) (by first | exact Nat.le_of_ble_eq_true rfl | (simp only [rM]; omega)) ?_
    exact ⟨by rw [if_neg hfd], by rw [if_neg hfd]; exact SS0, fun b _ _ => rfl, rfl⟩
set_option maxHeartbeats 4000000 in
set_option maxRecDepth 100000 in
theorem c_X11_spans (l : Launch) (D : va_G) (cI cL cR : ClassId) (lo : Nat) (h : ch_H) (hi : Nat) (fz : Nat → Int) (c : Int) (n : Nat) (Ad : Nat → Nat) (Kf Nf Wf : Nat → Int) (Es Et : List Int) (SS : ssP cI cR lo h hi fz c n Ad Kf Nf Wf Es Et) (s x y : Int) (hs : ir s) (hx : ir x) (hy : ir y) : ch_C l (eE D cI cL cR lo) M_X11_spans (rM 6 0 0) [.ref lo, .int (iI s), .int (iI x), .int (iI y)] h hi (fun r0 h2 hi2 => r0 = some (.int (iI (if 1 ≤ s ∧ s ≤ (n : Int) then ((edN Kf Nf s.toNat x y).length : Int) / 2 else -1))) ∧ ssP cI cR lo h2 hi fz c n Ad Kf Nf Wf Es (if 1 ≤ s ∧ s ≤ (n : Int) then edN Kf Nf s.toNat x y else Et) ∧ xfr lo hi h h2 ∧ hi = hi2) := by
  refine ch_C.of rfl (Nat.le_of_ble_eq_true rfl) ?_
  have SS0 := SS
  obtain ⟨Z0, Z1, ⟨ga, Z2, hga⟩, ⟨gw, fx, fy, fl, fh, wc, Ls, W⟩, RS, RT, HA, hc, hn, hfz, hhi, hAd⟩ := SS
  refine gx_aload_n 0 dX11_spans_0 rfl rfl ?_
  refine gx_iload_n 1 dX11_spans_1 rfl rfl ?_
  by_cases hfd : 1 ≤ s ∧ s ≤ (n : Int)
  · have hgs : ga (s - 1).toNat = some (Ad s.toNat) := by rw [hga _ (by omega)]; congr 2; omega
    obtain ⟨hpl, hp, hwf⟩ := HA s.toNat (by omega) (by omega)
    obtain ⟨cS, vS, e1, sS⟩ := soC_S (Ad := Ad) hwf
    rw [e1] at hp
    have hWs := hwf.1
    have hAs := hAd s.toNat (by omega) (by omega)
    refine gx_callV (ci := 10) (c_X11_findY l D cI cL cR lo h hi c n hn Z0 ga Z2 s hfd _ hgs) ok_X11_find mw_2_8 mw_2_10 mw_p_5 dX11_spans_2 rfl Z0 rfl rfl (Nat.le_of_ble_eq_true rfl) (by first | exact Nat.le_of_ble_eq_true rfl | (simp only [rM]; omega)) (by first | exact Nat.le_of_ble_eq_true rfl | (simp only [rM]; omega)) (by first | exact Nat.le_of_ble_eq_true rfl | (simp only [rM]; omega)) (by first | exact Nat.le_of_ble_eq_true rfl | (simp only [rM]; omega)) (fun r1 h2 u3 q4 g5 => ?_)
    obtain ⟨rfl, rfl, rfl⟩ := q4
    refine ch_Gst (st2 := [.ref (Ad s.toNat)]) rfl ?_
    refine gx_astore [(4, .ref (Ad s.toNat)), (0, .ref lo), (1, .int (iI s)), (2, .int (iI x)), (3, .int (iI y))] dX11_spans_5 (by decide) rfl ?_
    refine gx_aload 0 dX11_spans_7 rfl ?_
    refine gx_ifnonnullA 14 dX11_spans_9 (by decide) ?_
    refine gx_aload_n 1 dX11_spans_14 rfl rfl ?_
    refine gx_aload 0 dX11_spans_15 rfl ?_
    refine gx_iload_n 3 dX11_spans_17 rfl rfl ?_
    refine gx_iload_n 4 dX11_spans_18 rfl rfl ?_
    refine gx_aload_n 1 dX11_spans_19 rfl rfl ?_
    refine gx_get (ci := 10) (f := 6) (C := RX11) (T := TX11) (N := 7) rfl inX11 (by decide) mw_1_96 dX11_spans_20 Z0 rfl ?_
    obtain ⟨fg, R0, R1, R2, R3, R4⟩ := RT
    refine gx_callV (ci := 10) (c_X11_lookOver l D cI cL cR lo h hi gw fx fy fl fh wc Ls W c (lo + 15) (lo + 16) _ fg R0 R1 (by omega) (by omega) n Ad Kf Nf Wf hn Z0 HA (fun q q1 q2 => by have := (HA q q1 q2).1; omega) s.toNat (by omega) (by omega) x y hx hy) ok_X11_lookOver mw_2_81 mw_2_83 mw_p_6 dX11_spans_23 rfl Z0 rfl rfl (Nat.le_of_ble_eq_true rfl) (by first | exact Nat.le_of_ble_eq_true rfl | (simp only [rM]; omega)) (by first | exact Nat.le_of_ble_eq_true rfl | (simp only [rM]; omega)) (by first | exact Nat.le_of_ble_eq_true rfl | (simp only [rM]; omega)) (by first | exact Nat.le_of_ble_eq_true rfl | (simp only [rM]; omega)) (fun r6 h7 u8 q9 g10 => ?_)
    obtain ⟨rfl, WE, RU, FR, rfl⟩ := q9
    obtain ⟨S2, X2⟩ := ssP_told SS0 WE RU FR
    obtain ⟨f2, U0, U1, U2, U3, U4⟩ := RU
    have Z0b : h7 lo = some (.inr (10, [.ref (lo + 1), .int (iI c), .ref (lo + 2), .int (iI (n : Int)), .ref (lo + 3), .ref (lo + 13), .ref (lo + 15)])) := by rw [FR _ (nin_w (by omega) (by omega) (by omega))]; exact Z0
    refine ch_Gst (st2 := []) rfl ?_
    refine gx_aload_n 1 dX11_spans_26 rfl rfl ?_
    refine gx_get (ci := 10) (f := 6) (C := RX11) (T := TX11) (N := 7) rfl inX11 (by decide) mw_1_96 dX11_spans_27 Z0b rfl ?_
    refine gx_callV (ci := 7) (c_X7_runCount l D cI cL cR lo h7 hi (lo + 15) (lo + 16) _ U0 ⟨by omega, by omega⟩) ok_X7_runCount mw_2_224 mw_2_198 mw_2_199 dX11_spans_30 rfl U0 rfl rfl (Nat.le_of_ble_eq_true rfl) (by first | exact Nat.le_of_ble_eq_true rfl | (simp only [rM]; omega)) (by first | exact Nat.le_of_ble_eq_true rfl | (simp only [rM]; omega)) (by first | exact Nat.le_of_ble_eq_true rfl | (simp only [rM]; omega)) (by first | exact Nat.le_of_ble_eq_true rfl | (simp only [rM]; omega)) (fun r11 h12 u13 q14 g15 => ?_)
    obtain ⟨rfl, rfl, rfl⟩ := q14
    refine ch_Gst (st2 := [.int (iI (((edN Kf Nf s.toNat x y).length : Int) / 2))]) rfl ?_
    refine gx_iret rfl dX11_spans_33 (by first | exact Nat.le_of_ble_eq_true rfl | (simp only [rM]; omega)) (by first | exact Nat.le_of_ble_eq_true rfl | (simp only [rM]; omega)) ?_
    exact ⟨by rw [if_pos hfd], by rw [if_pos hfd]; exact S2, X2, rfl⟩
  · refine gx_callV (ci := 10) (c_X11_findN l D cI cL cR lo h hi c n hn Z0 ga Z2 s (by constructor <;> omega) (by omega)) ok_X11_find mw_2_8 mw_2_10 mw_p_5 dX11_spans_2 rfl Z0 rfl rfl (Nat.le_of_ble_eq_true rfl) (by first | exact Nat.le_of_ble_eq_true rfl | (simp only [rM]; omega)) (by first | exact Nat.le_of_ble_eq_true rfl | (simp only [rM]; omega)) (by first | exact Nat.le_of_ble_eq_true rfl | (simp only [rM]; omega)) (by first | exact Nat.le_of_ble_eq_true rfl | (simp only [rM]; omega)) (fun r16 h17 u18 q19 g20 => ?_)
    obtain ⟨rfl, rfl, rfl⟩ := q19
    refine ch_Gst (st2 := [.null]) rfl ?_
    refine gx_astoreN [(4, .null), (0, .ref lo), (1, .int (iI s)), (2, .int (iI x)), (3, .int (iI y))] dX11_spans_5 (by decide) rfl ?_
    refine gx_aloadN 0 dX11_spans_7 rfl ?_
    refine gx_ifnonnullZ dX11_spans_9 ?_
    refine gx_iconst (iI (-1)) dX11_spans_12 rfl ?_
    refine gx_iret rfl dX11_spans_13 (by first | exact Nat.le_of_ble_eq_true rfl | (simp only [rM]; omega)) (by first | exact Nat.le_of_ble_eq_true rfl | (simp only [rM]; omega)) ?_
    exact ⟨by rw [if_neg hfd], by rw [if_neg hfd]; exact SS0, fun b _ _ => rfl, rfl⟩
set_option maxHeartbeats 4000000 in
set_option maxRecDepth 100000 in
theorem c_X11_span (l : Launch) (D : va_G) (cI cL cR : ClassId) (lo : Nat) (h : ch_H) (hi : Nat) (fz : Nat → Int) (c : Int) (n : Nat) (Ad : Nat → Nat) (Kf Nf Wf : Nat → Int) (Es Et : List Int) (SS : ssP cI cR lo h hi fz c n Ad Kf Nf Wf Es Et) (k w : Int) (hk : ir k) (hw : ir w) : ch_C l (eE D cI cL cR lo) M_X11_span (rM 2 0 0) [.ref lo, .int (iI k), .int (iI w)] h hi (fun r0 h2 hi2 => r0 = some (.int (iI (if w = 0 then spF Et k else if w = 1 then spL Et k else 0))) ∧ h = h2 ∧ hi = hi2) := by
  refine ch_C.of rfl (Nat.le_of_ble_eq_true rfl) ?_
  have SS0 := SS
  obtain ⟨Z0, Z1, ⟨ga, Z2, hga⟩, ⟨gw, fx, fy, fl, fh, wc, Ls, W⟩, RS, RT, HA, hc, hn, hfz, hhi, hAd⟩ := SS
  obtain ⟨f2, U0, U1, U2, U3, U4⟩ := RT
  refine gx_iload_n 2 dX11_span_0 rfl rfl ?_
  refine gy_if_ne 13 dX11_span_1 (by decide) (by constructor <;> omega) (fun c1 => ?_) (fun c1 => ?_)
  · refine gx_iload_n 2 dX11_span_13 rfl rfl ?_
    refine gx_iconst (iI 1) dX11_span_14 rfl ?_
    refine gy_icmp_ne 29 dX11_span_15 (by decide) (by constructor <;> omega) (by decide) (fun c15 => ?_) (fun c15 => ?_)
    · refine gx_iconst (iI 0) dX11_span_29 rfl ?_
      refine gx_iret rfl dX11_span_30 (by first | exact Nat.le_of_ble_eq_true rfl | (simp only [rM]; omega)) (by first | exact Nat.le_of_ble_eq_true rfl | (simp only [rM]; omega)) ?_
      exact ⟨by rw [if_neg (by omega), if_neg (by omega)], rfl, rfl⟩
    · refine gx_aload_n 0 dX11_span_18 rfl rfl ?_
      refine gx_get (ci := 10) (f := 6) (C := RX11) (T := TX11) (N := 7) rfl inX11 (by decide) mw_1_96 dX11_span_19 Z0 rfl ?_
      refine gx_iload_n 1 dX11_span_22 rfl rfl ?_
      refine gx_callV (ci := 7) (c_X7_lastOf l D cI cL cR lo h hi (lo + 15) (lo + 16) _ f2 U0 U1 ⟨by omega, by omega⟩ k (by constructor <;> omega)) ok_X7_lastOf mw_2_230 mw_2_209 mw_2_210 dX11_span_23 rfl U0 rfl rfl (Nat.le_of_ble_eq_true rfl) (by first | exact Nat.le_of_ble_eq_true rfl | (simp only [rM]; omega)) (by first | exact Nat.le_of_ble_eq_true rfl | (simp only [rM]; omega)) (by first | exact Nat.le_of_ble_eq_true rfl | (simp only [rM]; omega)) (by first | exact Nat.le_of_ble_eq_true rfl | (simp only [rM]; omega)) (fun r1 h2 u3 q4 g5 => ?_)
      obtain ⟨rfl, rfl, rfl⟩ := q4
      refine ch_Gst (st2 := [.int (iI (ruL f2 (Et.length : Int) k))]) rfl ?_
      refine gx_goto 30 dX11_span_26 (by decide) ?_
      refine gx_iret rfl dX11_span_30 (by first | exact Nat.le_of_ble_eq_true rfl | (simp only [rM]; omega)) (by first | exact Nat.le_of_ble_eq_true rfl | (simp only [rM]; omega)) ?_
      exact ⟨by rw [if_neg (by omega), if_pos (by omega), spL_e U3], rfl, rfl⟩
  · refine gx_aload_n 0 dX11_span_4 rfl rfl ?_
    refine gx_get (ci := 10) (f := 6) (C := RX11) (T := TX11) (N := 7) rfl inX11 (by decide) mw_1_96 dX11_span_5 Z0 rfl ?_
    refine gx_iload_n 1 dX11_span_8 rfl rfl ?_
    refine gx_callV (ci := 7) (c_X7_firstOf l D cI cL cR lo h hi (lo + 15) (lo + 16) _ f2 U0 U1 ⟨by omega, by omega⟩ k (by constructor <;> omega)) ok_X7_firstOf mw_2_229 mw_2_202 mw_2_203 dX11_span_9 rfl U0 rfl rfl (Nat.le_of_ble_eq_true rfl) (by first | exact Nat.le_of_ble_eq_true rfl | (simp only [rM]; omega)) (by first | exact Nat.le_of_ble_eq_true rfl | (simp only [rM]; omega)) (by first | exact Nat.le_of_ble_eq_true rfl | (simp only [rM]; omega)) (by first | exact Nat.le_of_ble_eq_true rfl | (simp only [rM]; omega)) (fun r6 h7 u8 q9 g10 => ?_)
    obtain ⟨rfl, rfl, rfl⟩ := q9
    refine ch_Gst (st2 := [.int (iI (ruF f2 (Et.length : Int) k))]) rfl ?_
    refine gx_iret rfl dX11_span_12 (by first | exact Nat.le_of_ble_eq_true rfl | (simp only [rM]; omega)) (by first | exact Nat.le_of_ble_eq_true rfl | (simp only [rM]; omega)) ?_
    exact ⟨by rw [if_pos (by omega), spF_e U3], rfl, rfl⟩
set_option maxHeartbeats 4000000 in
set_option maxRecDepth 100000 in
theorem c_X11_within (l : Launch) (D : va_G) (cI cL cR : ClassId) (lo : Nat) (h : ch_H) (hi : Nat) (fz : Nat → Int) (c : Int) (n : Nat) (Ad : Nat → Nat) (Kf Nf Wf : Nat → Int) (Es Et : List Int) (SS : ssP cI cR lo h hi fz c n Ad Kf Nf Wf Es Et) (a b : Int) (ha : ir a) (hb : ir b) : ch_C l (eE D cI cL cR lo) M_X11_within (rM 3 0 0) [.ref lo, .int (iI a), .int (iI b)] h hi (fun r0 h2 hi2 => r0 = some (.long (lI (cnL Et a b))) ∧ h = h2 ∧ hi = hi2) := by
  refine ch_C.of rfl (Nat.le_of_ble_eq_true rfl) ?_
  have SS0 := SS
  obtain ⟨Z0, Z1, ⟨ga, Z2, hga⟩, ⟨gw, fx, fy, fl, fh, wc, Ls, W⟩, RS, RT, HA, hc, hn, hfz, hhi, hAd⟩ := SS
  obtain ⟨f2, U0, U1, U2, U3, U4⟩ := RT
  refine gx_aload_n 0 dX11_within_0 rfl rfl ?_
  refine gx_get (ci := 10) (f := 6) (C := RX11) (T := TX11) (N := 7) rfl inX11 (by decide) mw_1_96 dX11_within_1 Z0 rfl ?_
  refine gx_iload_n 1 dX11_within_4 rfl rfl ?_
  refine gx_iload_n 2 dX11_within_5 rfl rfl ?_
  refine gx_callV (ci := 7) (c_X7_countFrom l D cI cL cR lo h hi (lo + 15) (lo + 16) _ f2 U0 U1 ⟨by omega, by omega⟩ U4 a b (by constructor <;> omega) (by constructor <;> omega)) ok_X7_countFrom mw_2_193 mw_2_194 mw_2_195 dX11_within_6 rfl U0 rfl rfl (Nat.le_of_ble_eq_true rfl) (by first | exact Nat.le_of_ble_eq_true rfl | (simp only [rM]; omega)) (by first | exact Nat.le_of_ble_eq_true rfl | (simp only [rM]; omega)) (by first | exact Nat.le_of_ble_eq_true rfl | (simp only [rM]; omega)) (by first | exact Nat.le_of_ble_eq_true rfl | (simp only [rM]; omega)) (fun r1 h2 u3 q4 g5 => ?_)
  obtain ⟨rfl, rfl, rfl⟩ := q4
  refine ch_Gst (st2 := [.long (lI (cntR f2 a b ((Et.length : Int) / 2).toNat))]) rfl ?_
  refine gx_lret rfl dX11_within_9 (by first | exact Nat.le_of_ble_eq_true rfl | (simp only [rM]; omega)) (by first | exact Nat.le_of_ble_eq_true rfl | (simp only [rM]; omega)) ?_
  exact ⟨by rw [cnL_in U3], rfl, rfl⟩
end
end
