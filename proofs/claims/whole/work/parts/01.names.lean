-- ===== PART A: goes FIRST, ahead of the names: the tables' words, and 'selects' of the private methods out of them =====
/-- a private method of a class that the tables say can be made, by its rows of tables_1 -/
def lw_okq (q : MethodName × Nat) : Prop := (q.1.cls ≠ "java/lang/invoke/MethodHandle" ∧ q.1.cls ≠ "java/lang/invoke/VarHandle") ∧ Cond.instantiable q.1.cls q.2 ∈ tables_1 ∧ Cond.privateMethod q.1 ∈ tables_1 ∧ Cond.instanceMethod q.1 ∈ tables_1
theorem lw_p0 : lw_okq (⟨"SpanSolids", "useUpSizes", "()I"⟩, 7) := ⟨⟨by decide +kernel, by decide +kernel⟩, List.mem_of_getElem? (i := 16) (by decide +kernel), List.mem_of_getElem? (i := 121) (by decide +kernel), List.mem_of_getElem? (i := 122) (by decide +kernel)⟩
theorem lw_p1 : lw_okq (⟨"SpanSolids", "radiusOf", "(I)I"⟩, 7) := ⟨⟨by decide +kernel, by decide +kernel⟩, List.mem_of_getElem? (i := 16) (by decide +kernel), List.mem_of_getElem? (i := 128) (by decide +kernel), List.mem_of_getElem? (i := 129) (by decide +kernel)⟩
theorem lw_p2 : lw_okq (⟨"SpanSolids", "isFull", "()Z"⟩, 7) := ⟨⟨by decide +kernel, by decide +kernel⟩, List.mem_of_getElem? (i := 16) (by decide +kernel), List.mem_of_getElem? (i := 132) (by decide +kernel), List.mem_of_getElem? (i := 133) (by decide +kernel)⟩
theorem lw_p3 : lw_okq (⟨"SpanSolids", "newShape", "(I)LSpanSolids$Solid;"⟩, 7) := ⟨⟨by decide +kernel, by decide +kernel⟩, List.mem_of_getElem? (i := 16) (by decide +kernel), List.mem_of_getElem? (i := 136) (by decide +kernel), List.mem_of_getElem? (i := 137) (by decide +kernel)⟩
theorem lw_p4 : lw_okq (⟨"SpanSolids", "keep", "(LSpanSolids$Solid;)I"⟩, 7) := ⟨⟨by decide +kernel, by decide +kernel⟩, List.mem_of_getElem? (i := 16) (by decide +kernel), List.mem_of_getElem? (i := 241) (by decide +kernel), List.mem_of_getElem? (i := 242) (by decide +kernel)⟩
theorem lw_p5 : lw_okq (⟨"SpanSolids", "find", "(I)LSpanSolids$Solid;"⟩, 7) := ⟨⟨by decide +kernel, by decide +kernel⟩, List.mem_of_getElem? (i := 16) (by decide +kernel), List.mem_of_getElem? (i := 249) (by decide +kernel), List.mem_of_getElem? (i := 250) (by decide +kernel)⟩
theorem lw_p6 : lw_okq (⟨"SpanSolids", "lookOver", "(LSpanSolids$Solid;IILSpanSolids$Runs;)V"⟩, 7) := ⟨⟨by decide +kernel, by decide +kernel⟩, List.mem_of_getElem? (i := 16) (by decide +kernel), List.mem_of_getElem? (i := 322) (by decide +kernel), List.mem_of_getElem? (i := 323) (by decide +kernel)⟩
theorem lw_p7 : lw_okq (⟨"SpanSolids$Walk", "lookAt", "(I)V"⟩, 7) := ⟨⟨by decide +kernel, by decide +kernel⟩, List.mem_of_getElem? (i := 26) (by decide +kernel), List.mem_of_getElem? (i := 342) (by decide +kernel), List.mem_of_getElem? (i := 343) (by decide +kernel)⟩
theorem lw_p8 : lw_okq (⟨"SpanSolids$FoundSets", "mix", "(III)I"⟩, 5) := ⟨⟨by decide +kernel, by decide +kernel⟩, List.mem_of_getElem? (i := 33) (by decide +kernel), List.mem_of_getElem? (i := 350) (by decide +kernel), List.mem_of_getElem? (i := 351) (by decide +kernel)⟩
theorem lw_p9 : lw_okq (⟨"SpanSolids$FoundSets", "nextEdge", "(III)I"⟩, 5) := ⟨⟨by decide +kernel, by decide +kernel⟩, List.mem_of_getElem? (i := 33) (by decide +kernel), List.mem_of_getElem? (i := 354) (by decide +kernel), List.mem_of_getElem? (i := 355) (by decide +kernel)⟩
theorem lw_p10 : lw_okq (⟨"SpanSolids$Cone", "leastDepth", "(J)I"⟩, 6) := ⟨⟨by decide +kernel, by decide +kernel⟩, List.mem_of_getElem? (i := 218) (by decide +kernel), List.mem_of_getElem? (i := 396) (by decide +kernel), List.mem_of_getElem? (i := 397) (by decide +kernel)⟩
theorem lw_p11 : lw_okq (⟨"SpanSolidsModel", "made", "(II)I"⟩, 12) := ⟨⟨by decide +kernel, by decide +kernel⟩, List.mem_of_getElem? (i := 476) (by decide +kernel), List.mem_of_getElem? (i := 528) (by decide +kernel), List.mem_of_getElem? (i := 529) (by decide +kernel)⟩
theorem lw_p12 : lw_okq (⟨"SpanSolidsModel", "isSolid", "(I)Z"⟩, 12) := ⟨⟨by decide +kernel, by decide +kernel⟩, List.mem_of_getElem? (i := 476) (by decide +kernel), List.mem_of_getElem? (i := 536) (by decide +kernel), List.mem_of_getElem? (i := 537) (by decide +kernel)⟩
theorem lw_p13 : lw_okq (⟨"SpanSolidsModel", "isIn", "(IJJJ)Z"⟩, 12) := ⟨⟨by decide +kernel, by decide +kernel⟩, List.mem_of_getElem? (i := 476) (by decide +kernel), List.mem_of_getElem? (i := 557) (by decide +kernel), List.mem_of_getElem? (i := 558) (by decide +kernel)⟩
theorem lw_p14 : lw_okq (⟨"SpanSolidsModel", "number", "(II)I"⟩, 12) := ⟨⟨by decide +kernel, by decide +kernel⟩, List.mem_of_getElem? (i := 476) (by decide +kernel), List.mem_of_getElem? (i := 561) (by decide +kernel), List.mem_of_getElem? (i := 562) (by decide +kernel)⟩
theorem lw_p15 : lw_okq (⟨"SpanSolidsModel", "isInKind", "(IJJJ)Z"⟩, 12) := ⟨⟨by decide +kernel, by decide +kernel⟩, List.mem_of_getElem? (i := 476) (by decide +kernel), List.mem_of_getElem? (i := 565) (by decide +kernel), List.mem_of_getElem? (i := 566) (by decide +kernel)⟩
def lw_privs_1 : List (MethodName × Nat) := [(⟨"SpanSolids", "useUpSizes", "()I"⟩, 7), (⟨"SpanSolids", "radiusOf", "(I)I"⟩, 7), (⟨"SpanSolids", "isFull", "()Z"⟩, 7), (⟨"SpanSolids", "newShape", "(I)LSpanSolids$Solid;"⟩, 7), (⟨"SpanSolids", "keep", "(LSpanSolids$Solid;)I"⟩, 7), (⟨"SpanSolids", "find", "(I)LSpanSolids$Solid;"⟩, 7), (⟨"SpanSolids", "lookOver", "(LSpanSolids$Solid;IILSpanSolids$Runs;)V"⟩, 7), (⟨"SpanSolids$Walk", "lookAt", "(I)V"⟩, 7), (⟨"SpanSolids$FoundSets", "mix", "(III)I"⟩, 5), (⟨"SpanSolids$FoundSets", "nextEdge", "(III)I"⟩, 5), (⟨"SpanSolids$Cone", "leastDepth", "(J)I"⟩, 6), (⟨"SpanSolidsModel", "made", "(II)I"⟩, 12), (⟨"SpanSolidsModel", "isSolid", "(I)Z"⟩, 12), (⟨"SpanSolidsModel", "isIn", "(IJJJ)Z"⟩, 12), (⟨"SpanSolidsModel", "number", "(II)I"⟩, 12), (⟨"SpanSolidsModel", "isInKind", "(IJJJ)Z"⟩, 12)]
theorem lw_r1 : ∀ q ∈ lw_privs_1, lw_okq q := List.forall_mem_cons.mpr ⟨lw_p0, List.forall_mem_cons.mpr ⟨lw_p1, List.forall_mem_cons.mpr ⟨lw_p2, List.forall_mem_cons.mpr ⟨lw_p3, List.forall_mem_cons.mpr ⟨lw_p4, List.forall_mem_cons.mpr ⟨lw_p5, List.forall_mem_cons.mpr ⟨lw_p6, List.forall_mem_cons.mpr ⟨lw_p7, List.forall_mem_cons.mpr ⟨lw_p8, List.forall_mem_cons.mpr ⟨lw_p9, List.forall_mem_cons.mpr ⟨lw_p10, List.forall_mem_cons.mpr ⟨lw_p11, List.forall_mem_cons.mpr ⟨lw_p12, List.forall_mem_cons.mpr ⟨lw_p13, List.forall_mem_cons.mpr ⟨lw_p14, List.forall_mem_cons.mpr ⟨lw_p15, fun _ h => absurd h List.not_mem_nil⟩⟩⟩⟩⟩⟩⟩⟩⟩⟩⟩⟩⟩⟩⟩⟩
theorem lw_p16 : lw_okq (⟨"SpanSolidsModel", "topOf", "(III)I"⟩, 12) := ⟨⟨by decide +kernel, by decide +kernel⟩, List.mem_of_getElem? (i := 476) (by decide +kernel), List.mem_of_getElem? (i := 576) (by decide +kernel), List.mem_of_getElem? (i := 577) (by decide +kernel)⟩
theorem lw_p17 : lw_okq (⟨"SpanSolidsModel", "rise", "(IJJII)V"⟩, 12) := ⟨⟨by decide +kernel, by decide +kernel⟩, List.mem_of_getElem? (i := 476) (by decide +kernel), List.mem_of_getElem? (i := 580) (by decide +kernel), List.mem_of_getElem? (i := 581) (by decide +kernel)⟩
theorem lw_p18 : lw_okq (⟨"SpanSolidsModel", "ends", "(IJJJ)V"⟩, 12) := ⟨⟨by decide +kernel, by decide +kernel⟩, List.mem_of_getElem? (i := 476) (by decide +kernel), List.mem_of_getElem? (i := 593) (by decide +kernel), List.mem_of_getElem? (i := 594) (by decide +kernel)⟩
theorem lw_p19 : lw_okq (⟨"SpanSolidsModel", "last", "(IJJJ)J"⟩, 12) := ⟨⟨by decide +kernel, by decide +kernel⟩, List.mem_of_getElem? (i := 476) (by decide +kernel), List.mem_of_getElem? (i := 597) (by decide +kernel), List.mem_of_getElem? (i := 598) (by decide +kernel)⟩
theorem lw_p20 : lw_okq (⟨"SpanSolidsModel", "height", "(J)V"⟩, 12) := ⟨⟨by decide +kernel, by decide +kernel⟩, List.mem_of_getElem? (i := 476) (by decide +kernel), List.mem_of_getElem? (i := 603) (by decide +kernel), List.mem_of_getElem? (i := 604) (by decide +kernel)⟩
theorem lw_p21 : lw_okq (⟨"SpanSolidsModel", "sort", "()V"⟩, 12) := ⟨⟨by decide +kernel, by decide +kernel⟩, List.mem_of_getElem? (i := 476) (by decide +kernel), List.mem_of_getElem? (i := 607) (by decide +kernel), List.mem_of_getElem? (i := 608) (by decide +kernel)⟩
def lw_privs_2 : List (MethodName × Nat) := [(⟨"SpanSolidsModel", "topOf", "(III)I"⟩, 12), (⟨"SpanSolidsModel", "rise", "(IJJII)V"⟩, 12), (⟨"SpanSolidsModel", "ends", "(IJJJ)V"⟩, 12), (⟨"SpanSolidsModel", "last", "(IJJJ)J"⟩, 12), (⟨"SpanSolidsModel", "height", "(J)V"⟩, 12), (⟨"SpanSolidsModel", "sort", "()V"⟩, 12)]
theorem lw_r2 : ∀ q ∈ lw_privs_2, lw_okq q := List.forall_mem_cons.mpr ⟨lw_p16, List.forall_mem_cons.mpr ⟨lw_p17, List.forall_mem_cons.mpr ⟨lw_p18, List.forall_mem_cons.mpr ⟨lw_p19, List.forall_mem_cons.mpr ⟨lw_p20, List.forall_mem_cons.mpr ⟨lw_p21, fun _ h => absurd h List.not_mem_nil⟩⟩⟩⟩⟩⟩
def lw_privs : List (MethodName × Nat) := lw_privs_1 ++ (lw_privs_2)
def lw_tbl : List Cond := k2_sels lw_privs ++ tables_1
theorem lw_privs_ok : ∀ q ∈ lw_privs, lw_okq q := by
  show ∀ q ∈ lw_privs_1 ++ (lw_privs_2), lw_okq q
  exact List.forall_mem_append.mpr ⟨lw_r1, lw_r2⟩
-- ===== end of PART A =====
theorem goodIn_r {big : List Cond} (ws : List Cond) (ps : List Nat) (hp : ws = ps.filterMap (fun i => big[i]?)) (h : ws.all goodWord = true) : GoodIn big ws := by
  intro w hw
  have h1 := List.all_eq_true.mp h w hw
  rw [hp] at hw
  obtain ⟨i, -, hi⟩ := List.mem_filterMap.mp hw
  have hm : w ∈ big := by first | exact List.mem_of_getElem? hi | exact List.getElem?_mem hi
  exact ⟨hm, good_of_word h1⟩
theorem goodIn_app {big a b : List Cond} (ha : GoodIn big a) (hb : GoodIn big b) : GoodIn big (a ++ b) := fun w h => (List.mem_append.mp h).elim (ha w) (hb w)
theorem goodIn_ca {big a b : List Cond} {c : Cond} (ha : GoodIn big (c :: a)) (hb : GoodIn big b) : GoodIn big (c :: (a ++ b)) := fun w h => (List.mem_cons.mp h).elim (fun e => ha w (List.mem_cons.mpr (Or.inl e))) (fun h => (List.mem_append.mp h).elim (fun h => ha w (List.mem_cons.mpr (Or.inr h))) (hb w))
theorem goodIn_sub {big ws : List Cond} (hm : ∀ w ∈ ws, w ∈ big) (h : ws.all goodWord = true) : GoodIn big ws := fun w hw => ⟨hm w hw, good_of_word (List.all_eq_true.mp h w hw)⟩
def RX0 : String := "SpanSolids$Ball"
def TX0 : u_T := fun k => match k with
  | 0 => ("SpanSolids$Solid", "weight", "I", true)
  | 1 => ("SpanSolids$Ball", "x", "I", true)
  | 2 => ("SpanSolids$Ball", "y", "I", true)
  | 3 => ("SpanSolids$Ball", "z", "I", true)
  | _ => ("SpanSolids$Ball", "\x72", "I", true)
def tyX0 : Nat → FieldType := fun k => match k with
  | 0 => .int
  | 1 => .int
  | 2 => .int
  | 3 => .int
  | _ => .int
abbrev wsX00 : List Cond := u_ws RX0 TX0 5
theorem nmX0 : ∀ a, a < 5 → ∀ b, b < 5 → a ≠ b → (TX0 a).2.1 ≠ (TX0 b).2.1 := by decide +kernel
theorem tyX0_ok : ∀ k, k < 5 → parseFieldDescriptor (TX0 k).2.2.1 = some (tyX0 k) := by decide +kernel
abbrev cX0_init : ByteArray := prog_2_method_1_code
def yX0_init : MethodName := ⟨RX0, "<init>", "(IIII)V"⟩
abbrev cX0_lookFrom : ByteArray := prog_2_method_2_code
def yX0_lookFrom : MethodName := ⟨RX0, "lookFrom", "(IIILSpanSolids$Walk;)V"⟩
def RX1 : String := "SpanSolids$Box"
def TX1 : u_T := fun k => match k with
  | 0 => ("SpanSolids$Solid", "weight", "I", true)
  | 1 => ("SpanSolids$Box", "x", "I", true)
  | 2 => ("SpanSolids$Box", "y", "I", true)
  | 3 => ("SpanSolids$Box", "z", "I", true)
  | 4 => ("SpanSolids$Box", "endX", "I", true)
  | 5 => ("SpanSolids$Box", "endY", "I", true)
  | _ => ("SpanSolids$Box", "endZ", "I", true)
def tyX1 : Nat → FieldType := fun k => match k with
  | 0 => .int
  | 1 => .int
  | 2 => .int
  | 3 => .int
  | 4 => .int
  | 5 => .int
  | _ => .int
abbrev wsX10 : List Cond := u_ws RX1 TX1 7
theorem nmX1 : ∀ a, a < 7 → ∀ b, b < 7 → a ≠ b → (TX1 a).2.1 ≠ (TX1 b).2.1 := by decide +kernel
theorem tyX1_ok : ∀ k, k < 7 → parseFieldDescriptor (TX1 k).2.2.1 = some (tyX1 k) := by decide +kernel
abbrev cX1_init : ByteArray := prog_3_method_1_code
def yX1_init : MethodName := ⟨RX1, "<init>", "(IIIIII)V"⟩
abbrev cX1_lookFrom : ByteArray := prog_3_method_2_code
def yX1_lookFrom : MethodName := ⟨RX1, "lookFrom", "(IIILSpanSolids$Walk;)V"⟩
def RX2 : String := "SpanSolids$Cone"
def TX2 : u_T := fun k => match k with
  | 0 => ("SpanSolids$Solid", "weight", "I", true)
  | 1 => ("SpanSolids$Cone", "x", "I", true)
  | 2 => ("SpanSolids$Cone", "y", "I", true)
  | 3 => ("SpanSolids$Cone", "\x72", "I", true)
  | 4 => ("SpanSolids$Cone", "z", "I", true)
  | _ => ("SpanSolids$Cone", "endZ", "I", true)
def tyX2 : Nat → FieldType := fun k => match k with
  | 0 => .int
  | 1 => .int
  | 2 => .int
  | 3 => .int
  | 4 => .int
  | _ => .int
abbrev wsX20 : List Cond := u_ws RX2 TX2 6
theorem nmX2 : ∀ a, a < 6 → ∀ b, b < 6 → a ≠ b → (TX2 a).2.1 ≠ (TX2 b).2.1 := by decide +kernel
theorem tyX2_ok : ∀ k, k < 6 → parseFieldDescriptor (TX2 k).2.2.1 = some (tyX2 k) := by decide +kernel
abbrev cX2_init : ByteArray := prog_4_method_1_code
def yX2_init : MethodName := ⟨RX2, "<init>", "(IIIII)V"⟩
abbrev cX2_lookFrom : ByteArray := prog_4_method_2_code
def yX2_lookFrom : MethodName := ⟨RX2, "lookFrom", "(IIILSpanSolids$Walk;)V"⟩
abbrev cX2_leastDepth : ByteArray := prog_4_method_3_code
def yX2_leastDepth : MethodName := ⟨RX2, "leastDepth", "(J)I"⟩
def RX3 : String := "SpanSolids$FoundSets"
def TX3 : u_T := fun k => match k with
  | 0 => ("SpanSolids$FoundSets", "edges", "[I", true)
  | 1 => ("SpanSolids$FoundSets", "starts", "[I", true)
  | 2 => ("SpanSolids$FoundSets", "mixed", "[I", true)
  | 3 => ("SpanSolids$FoundSets", "edgeCount", "I", false)
  | _ => ("SpanSolids$FoundSets", "setCount", "I", false)
def tyX3 : Nat → FieldType := fun k => match k with
  | 0 => .array .int
  | 1 => .array .int
  | 2 => .array .int
  | 3 => .int
  | _ => .int
abbrev wsX30 : List Cond := u_ws RX3 TX3 5
theorem nmX3 : ∀ a, a < 5 → ∀ b, b < 5 → a ≠ b → (TX3 a).2.1 ≠ (TX3 b).2.1 := by decide +kernel
theorem tyX3_ok : ∀ k, k < 5 → parseFieldDescriptor (TX3 k).2.2.1 = some (tyX3 k) := by decide +kernel
abbrev cX3_init : ByteArray := prog_5_method_1_code
def yX3_init : MethodName := ⟨RX3, "<init>", "()V"⟩
abbrev cX3_clear : ByteArray := prog_5_method_2_code
def yX3_clear : MethodName := ⟨RX3, "clear", "()V"⟩
abbrev cX3_add : ByteArray := prog_5_method_3_code
def yX3_add : MethodName := ⟨RX3, "add", "(II)V"⟩
abbrev cX3_joinNewest : ByteArray := prog_5_method_4_code
def yX3_joinNewest : MethodName := ⟨RX3, "joinNewest", "(I)V"⟩
abbrev cX3_mix : ByteArray := prog_5_method_5_code
def yX3_mix : MethodName := ⟨RX3, "mix", "(III)I"⟩
abbrev cX3_nextEdge : ByteArray := prog_5_method_6_code
def yX3_nextEdge : MethodName := ⟨RX3, "nextEdge", "(III)I"⟩
abbrev cX3_isJoined : ByteArray := prog_5_method_7_code
def yX3_isJoined : MethodName := ⟨RX3, "isJoined", "(ZZI)Z"⟩
abbrev cX3_copyTo : ByteArray := prog_5_method_8_code
def yX3_copyTo : MethodName := ⟨RX3, "copyTo", "(LSpanSolids$Runs;)V"⟩
def RX4 : String := "SpanSolids$Joined"
def TX4 : u_T := fun k => match k with
  | 0 => ("SpanSolids$Solid", "weight", "I", true)
  | 1 => ("SpanSolids$Joined", "first", "LSpanSolids$Solid;", true)
  | 2 => ("SpanSolids$Joined", "second", "LSpanSolids$Solid;", true)
  | _ => ("SpanSolids$Joined", "how", "I", true)
def tyX4 : Nat → FieldType := fun k => match k with
  | 0 => .int
  | 1 => .object "SpanSolids$Solid"
  | 2 => .object "SpanSolids$Solid"
  | _ => .int
abbrev wsX40 : List Cond := u_ws RX4 TX4 4
theorem nmX4 : ∀ a, a < 4 → ∀ b, b < 4 → a ≠ b → (TX4 a).2.1 ≠ (TX4 b).2.1 := by decide +kernel
theorem tyX4_ok : ∀ k, k < 4 → parseFieldDescriptor (TX4 k).2.2.1 = some (tyX4 k) := by decide +kernel
abbrev cX4_init : ByteArray := prog_6_method_1_code
def yX4_init : MethodName := ⟨RX4, "<init>", "(LSpanSolids$Solid;LSpanSolids$Solid;I)V"⟩
abbrev cX4_lookFrom : ByteArray := prog_6_method_2_code
def yX4_lookFrom : MethodName := ⟨RX4, "lookFrom", "(IIILSpanSolids$Walk;)V"⟩
def RX5 : String := "SpanSolids$Moved"
def TX5 : u_T := fun k => match k with
  | 0 => ("SpanSolids$Solid", "weight", "I", true)
  | 1 => ("SpanSolids$Moved", "part", "LSpanSolids$Solid;", true)
  | 2 => ("SpanSolids$Moved", "byX", "I", true)
  | 3 => ("SpanSolids$Moved", "byY", "I", true)
  | _ => ("SpanSolids$Moved", "byZ", "I", true)
def tyX5 : Nat → FieldType := fun k => match k with
  | 0 => .int
  | 1 => .object "SpanSolids$Solid"
  | 2 => .int
  | 3 => .int
  | _ => .int
abbrev wsX50 : List Cond := u_ws RX5 TX5 5
theorem nmX5 : ∀ a, a < 5 → ∀ b, b < 5 → a ≠ b → (TX5 a).2.1 ≠ (TX5 b).2.1 := by decide +kernel
theorem tyX5_ok : ∀ k, k < 5 → parseFieldDescriptor (TX5 k).2.2.1 = some (tyX5 k) := by decide +kernel
abbrev cX5_init : ByteArray := prog_7_method_1_code
def yX5_init : MethodName := ⟨RX5, "<init>", "(LSpanSolids$Solid;III)V"⟩
abbrev cX5_lookFrom : ByteArray := prog_7_method_2_code
def yX5_lookFrom : MethodName := ⟨RX5, "lookFrom", "(IIILSpanSolids$Walk;)V"⟩
def RX6 : String := "SpanSolids$Post"
def TX6 : u_T := fun k => match k with
  | 0 => ("SpanSolids$Solid", "weight", "I", true)
  | 1 => ("SpanSolids$Post", "x", "I", true)
  | 2 => ("SpanSolids$Post", "y", "I", true)
  | 3 => ("SpanSolids$Post", "\x72", "I", true)
  | 4 => ("SpanSolids$Post", "z", "I", true)
  | _ => ("SpanSolids$Post", "endZ", "I", true)
def tyX6 : Nat → FieldType := fun k => match k with
  | 0 => .int
  | 1 => .int
  | 2 => .int
  | 3 => .int
  | 4 => .int
  | _ => .int
abbrev wsX60 : List Cond := u_ws RX6 TX6 6
theorem nmX6 : ∀ a, a < 6 → ∀ b, b < 6 → a ≠ b → (TX6 a).2.1 ≠ (TX6 b).2.1 := by decide +kernel
theorem tyX6_ok : ∀ k, k < 6 → parseFieldDescriptor (TX6 k).2.2.1 = some (tyX6 k) := by decide +kernel
abbrev cX6_init : ByteArray := prog_8_method_1_code
def yX6_init : MethodName := ⟨RX6, "<init>", "(IIIII)V"⟩
abbrev cX6_lookFrom : ByteArray := prog_8_method_2_code
def yX6_lookFrom : MethodName := ⟨RX6, "lookFrom", "(IIILSpanSolids$Walk;)V"⟩
def RX7 : String := "SpanSolids$Runs"
def TX7 : u_T := fun k => match k with
  | 0 => ("SpanSolids$Runs", "edges", "[I", true)
  | _ => ("SpanSolids$Runs", "edgeCount", "I", false)
def tyX7 : Nat → FieldType := fun k => match k with
  | 0 => .array .int
  | _ => .int
abbrev wsX70 : List Cond := u_ws RX7 TX7 2
theorem nmX7 : ∀ a, a < 2 → ∀ b, b < 2 → a ≠ b → (TX7 a).2.1 ≠ (TX7 b).2.1 := by decide +kernel
theorem tyX7_ok : ∀ k, k < 2 → parseFieldDescriptor (TX7 k).2.2.1 = some (tyX7 k) := by decide +kernel
abbrev cX7_init : ByteArray := prog_9_method_1_code
def yX7_init : MethodName := ⟨RX7, "<init>", "()V"⟩
abbrev cX7_clear : ByteArray := prog_9_method_2_code
def yX7_clear : MethodName := ⟨RX7, "clear", "()V"⟩
abbrev cX7_copyFrom : ByteArray := prog_9_method_3_code
def yX7_copyFrom : MethodName := ⟨RX7, "copyFrom", "([II)V"⟩
abbrev cX7_runCount : ByteArray := prog_9_method_4_code
def yX7_runCount : MethodName := ⟨RX7, "runCount", "()I"⟩
abbrev cX7_firstOf : ByteArray := prog_9_method_5_code
def yX7_firstOf : MethodName := ⟨RX7, "firstOf", "(I)I"⟩
abbrev cX7_lastOf : ByteArray := prog_9_method_6_code
def yX7_lastOf : MethodName := ⟨RX7, "lastOf", "(I)I"⟩
abbrev cX7_countFrom : ByteArray := prog_9_method_7_code
def yX7_countFrom : MethodName := ⟨RX7, "countFrom", "(II)J"⟩
abbrev cX7_afterGreatest : ByteArray := prog_9_method_8_code
def yX7_afterGreatest : MethodName := ⟨RX7, "afterGreatest", "()I"⟩
def RX8 : String := "SpanSolids$Solid"
def TX8 : u_T := fun k => match k with
  | _ => ("", "", "", false)
def tyX8 : Nat → FieldType := fun k => match k with
  | _ => .int
abbrev wsX80 : List Cond := u_ws RX8 TX8 0
theorem nmX8 : ∀ a, a < 0 → ∀ b, b < 0 → a ≠ b → (TX8 a).2.1 ≠ (TX8 b).2.1 := by decide +kernel
theorem tyX8_ok : ∀ k, k < 0 → parseFieldDescriptor (TX8 k).2.2.1 = some (tyX8 k) := by decide +kernel
abbrev cX8_init : ByteArray := prog_10_method_1_code
def yX8_init : MethodName := ⟨RX8, "<init>", "(I)V"⟩
def RX9 : String := "SpanSolids$Turned"
def TX9 : u_T := fun k => match k with
  | 0 => ("SpanSolids$Solid", "weight", "I", true)
  | _ => ("SpanSolids$Turned", "part", "LSpanSolids$Solid;", true)
def tyX9 : Nat → FieldType := fun k => match k with
  | 0 => .int
  | _ => .object "SpanSolids$Solid"
abbrev wsX90 : List Cond := u_ws RX9 TX9 2
theorem nmX9 : ∀ a, a < 2 → ∀ b, b < 2 → a ≠ b → (TX9 a).2.1 ≠ (TX9 b).2.1 := by decide +kernel
theorem tyX9_ok : ∀ k, k < 2 → parseFieldDescriptor (TX9 k).2.2.1 = some (tyX9 k) := by decide +kernel
abbrev cX9_init : ByteArray := prog_11_method_1_code
def yX9_init : MethodName := ⟨RX9, "<init>", "(LSpanSolids$Solid;)V"⟩
abbrev cX9_lookFrom : ByteArray := prog_11_method_2_code
def yX9_lookFrom : MethodName := ⟨RX9, "lookFrom", "(IIILSpanSolids$Walk;)V"⟩
def RX10 : String := "SpanSolids$Walk"
def TX10 : u_T := fun k => match k with
  | 0 => ("SpanSolids$Walk", "waiting", "[LSpanSolids$Solid;", true)
  | 1 => ("SpanSolids$Walk", "xs", "[I", true)
  | 2 => ("SpanSolids$Walk", "ys", "[I", true)
  | 3 => ("SpanSolids$Walk", "lifts", "[I", true)
  | 4 => ("SpanSolids$Walk", "hows", "[I", true)
  | 5 => ("SpanSolids$Walk", "waitingCount", "I", false)
  | _ => ("SpanSolids$Walk", "found", "LSpanSolids$FoundSets;", true)
def tyX10 : Nat → FieldType := fun k => match k with
  | 0 => .array (.object "SpanSolids$Solid")
  | 1 => .array .int
  | 2 => .array .int
  | 3 => .array .int
  | 4 => .array .int
  | 5 => .int
  | _ => .object "SpanSolids$FoundSets"
abbrev wsX100 : List Cond := u_ws RX10 TX10 7
theorem nmX10 : ∀ a, a < 7 → ∀ b, b < 7 → a ≠ b → (TX10 a).2.1 ≠ (TX10 b).2.1 := by decide +kernel
theorem tyX10_ok : ∀ k, k < 7 → parseFieldDescriptor (TX10 k).2.2.1 = some (tyX10 k) := by decide +kernel
abbrev cX10_init : ByteArray := prog_12_method_1_code
def yX10_init : MethodName := ⟨RX10, "<init>", "()V"⟩
abbrev cX10_over : ByteArray := prog_12_method_2_code
def yX10_over : MethodName := ⟨RX10, "over", "(LSpanSolids$Solid;IILSpanSolids$Runs;)V"⟩
abbrev cX10_lookAt : ByteArray := prog_12_method_3_code
def yX10_lookAt : MethodName := ⟨RX10, "lookAt", "(I)V"⟩
abbrev cX10_await : ByteArray := prog_12_method_4_code
def yX10_await : MethodName := ⟨RX10, "await", "(LSpanSolids$Solid;III)V"⟩
abbrev cX10_awaitJoin : ByteArray := prog_12_method_5_code
def yX10_awaitJoin : MethodName := ⟨RX10, "awaitJoin", "(I)V"⟩
abbrev cX10_give : ByteArray := prog_12_method_6_code
def yX10_give : MethodName := ⟨RX10, "give", "(II)V"⟩
abbrev cX10_giveNone : ByteArray := prog_12_method_7_code
def yX10_giveNone : MethodName := ⟨RX10, "giveNone", "()V"⟩
def RX11 : String := "SpanSolids"
def TX11 : u_T := fun k => match k with
  | 0 => ("SpanSolids", "sizes", "[I", true)
  | 1 => ("SpanSolids", "sizeCount", "I", false)
  | 2 => ("SpanSolids", "solids", "[LSpanSolids$Solid;", true)
  | 3 => ("SpanSolids", "solidCount", "I", false)
  | 4 => ("SpanSolids", "walk", "LSpanSolids$Walk;", true)
  | 5 => ("SpanSolids", "seen", "LSpanSolids$Runs;", true)
  | _ => ("SpanSolids", "told", "LSpanSolids$Runs;", true)
def tyX11 : Nat → FieldType := fun k => match k with
  | 0 => .array .int
  | 1 => .int
  | 2 => .array (.object "SpanSolids$Solid")
  | 3 => .int
  | 4 => .object "SpanSolids$Walk"
  | 5 => .object "SpanSolids$Runs"
  | _ => .object "SpanSolids$Runs"
abbrev wsX110 : List Cond := u_ws RX11 TX11 7
theorem nmX11 : ∀ a, a < 7 → ∀ b, b < 7 → a ≠ b → (TX11 a).2.1 ≠ (TX11 b).2.1 := by decide +kernel
theorem tyX11_ok : ∀ k, k < 7 → parseFieldDescriptor (TX11 k).2.2.1 = some (tyX11 k) := by decide +kernel
abbrev cX11_init : ByteArray := prog_1_method_1_code
def yX11_init : MethodName := ⟨RX11, "<init>", "()V"⟩
abbrev cX11_size : ByteArray := prog_1_method_2_code
def yX11_size : MethodName := ⟨RX11, "size", "(I)I"⟩
abbrev cX11_solid : ByteArray := prog_1_method_3_code
def yX11_solid : MethodName := ⟨RX11, "solid", "(I)I"⟩
abbrev cX11_join : ByteArray := prog_1_method_4_code
def yX11_join : MethodName := ⟨RX11, "join", "(III)I"⟩
abbrev cX11_moved : ByteArray := prog_1_method_5_code
def yX11_moved : MethodName := ⟨RX11, "moved", "(I)I"⟩
abbrev cX11_turned : ByteArray := prog_1_method_6_code
def yX11_turned : MethodName := ⟨RX11, "turned", "(I)I"⟩
abbrev cX11_weight : ByteArray := prog_1_method_7_code
def yX11_weight : MethodName := ⟨RX11, "weight", "(I)I"⟩
abbrev cX11_inside : ByteArray := prog_1_method_8_code
def yX11_inside : MethodName := ⟨RX11, "inside", "(IIII)Z"⟩
abbrev cX11_top : ByteArray := prog_1_method_9_code
def yX11_top : MethodName := ⟨RX11, "top", "(III)I"⟩
abbrev cX11_spans : ByteArray := prog_1_method_10_code
def yX11_spans : MethodName := ⟨RX11, "spans", "(III)I"⟩
abbrev cX11_span : ByteArray := prog_1_method_11_code
def yX11_span : MethodName := ⟨RX11, "span", "(II)I"⟩
abbrev cX11_within : ByteArray := prog_1_method_12_code
def yX11_within : MethodName := ⟨RX11, "within", "(II)J"⟩
abbrev cX11_find : ByteArray := prog_1_method_13_code
def yX11_find : MethodName := ⟨RX11, "find", "(I)LSpanSolids$Solid;"⟩
abbrev cX11_isFull : ByteArray := prog_1_method_14_code
def yX11_isFull : MethodName := ⟨RX11, "isFull", "()Z"⟩
abbrev cX11_keep : ByteArray := prog_1_method_15_code
def yX11_keep : MethodName := ⟨RX11, "keep", "(LSpanSolids$Solid;)I"⟩
abbrev cX11_useUpSizes : ByteArray := prog_1_method_16_code
def yX11_useUpSizes : MethodName := ⟨RX11, "useUpSizes", "()I"⟩
abbrev cX11_sizesNeeded : ByteArray := prog_1_method_17_code
def yX11_sizesNeeded : MethodName := ⟨RX11, "sizesNeeded", "(I)I"⟩
abbrev cX11_radiusOf : ByteArray := prog_1_method_18_code
def yX11_radiusOf : MethodName := ⟨RX11, "radiusOf", "(I)I"⟩
abbrev cX11_newShape : ByteArray := prog_1_method_19_code
def yX11_newShape : MethodName := ⟨RX11, "newShape", "(I)LSpanSolids$Solid;"⟩
abbrev cX11_lookOver : ByteArray := prog_1_method_20_code
def yX11_lookOver : MethodName := ⟨RX11, "lookOver", "(LSpanSolids$Solid;IILSpanSolids$Runs;)V"⟩
abbrev cX11_isBeyond : ByteArray := prog_1_method_21_code
def yX11_isBeyond : MethodName := ⟨RX11, "isBeyond", "(I)Z"⟩
abbrev cX11_square : ByteArray := prog_1_method_22_code
def yX11_square : MethodName := ⟨RX11, "square", "(J)J"⟩
abbrev cX11_rootBelow : ByteArray := prog_1_method_23_code
def yX11_rootBelow : MethodName := ⟨RX11, "rootBelow", "(JI)I"⟩
def RX12 : String := "SpanSolidsModel"
def TX12 : u_T := fun k => match k with
  | 0 => ("SpanSolidsModel", "kinds", "[I", true)
  | 1 => ("SpanSolidsModel", "numbers", "[I", true)
  | 2 => ("SpanSolidsModel", "weights", "[I", true)
  | 3 => ("SpanSolidsModel", "solids", "I", false)
  | 4 => ("SpanSolidsModel", "sizes", "[I", true)
  | 5 => ("SpanSolidsModel", "sizeCount", "I", false)
  | 6 => ("SpanSolidsModel", "bits", "[J", true)
  | 7 => ("SpanSolidsModel", "heights", "[J", true)
  | 8 => ("SpanSolidsModel", "heightCount", "I", false)
  | 9 => ("SpanSolidsModel", "firsts", "[J", true)
  | 10 => ("SpanSolidsModel", "lasts", "[J", true)
  | _ => ("SpanSolidsModel", "spanCount", "I", false)
def tyX12 : Nat → FieldType := fun k => match k with
  | 0 => .array .int
  | 1 => .array .int
  | 2 => .array .int
  | 3 => .int
  | 4 => .array .int
  | 5 => .int
  | 6 => .array .long
  | 7 => .array .long
  | 8 => .int
  | 9 => .array .long
  | 10 => .array .long
  | _ => .int
abbrev wsX120 : List Cond := u_ws RX12 TX12 12
theorem nmX12 : ∀ a, a < 12 → ∀ b, b < 12 → a ≠ b → (TX12 a).2.1 ≠ (TX12 b).2.1 := by decide +kernel
theorem tyX12_ok : ∀ k, k < 12 → parseFieldDescriptor (TX12 k).2.2.1 = some (tyX12 k) := by decide +kernel
abbrev cX12_init : ByteArray := prog_14_method_1_code
def yX12_init : MethodName := ⟨RX12, "<init>", "()V"⟩
abbrev cX12_size : ByteArray := prog_14_method_3_code
def yX12_size : MethodName := ⟨RX12, "size", "(I)I"⟩
abbrev cX12_isSolid : ByteArray := prog_14_method_4_code
def yX12_isSolid : MethodName := ⟨RX12, "isSolid", "(I)Z"⟩
abbrev cX12_made : ByteArray := prog_14_method_5_code
def yX12_made : MethodName := ⟨RX12, "made", "(II)I"⟩
abbrev cX12_number : ByteArray := prog_14_method_6_code
def yX12_number : MethodName := ⟨RX12, "number", "(II)I"⟩
abbrev cX12_solid : ByteArray := prog_14_method_7_code
def yX12_solid : MethodName := ⟨RX12, "solid", "(I)I"⟩
abbrev cX12_join : ByteArray := prog_14_method_8_code
def yX12_join : MethodName := ⟨RX12, "join", "(III)I"⟩
abbrev cX12_moved : ByteArray := prog_14_method_9_code
def yX12_moved : MethodName := ⟨RX12, "moved", "(I)I"⟩
abbrev cX12_turned : ByteArray := prog_14_method_10_code
def yX12_turned : MethodName := ⟨RX12, "turned", "(I)I"⟩
abbrev cX12_square : ByteArray := prog_14_method_11_code
def yX12_square : MethodName := ⟨RX12, "square", "(J)J"⟩
abbrev cX12_isInKind : ByteArray := prog_14_method_12_code
def yX12_isInKind : MethodName := ⟨RX12, "isInKind", "(IJJJ)Z"⟩
abbrev cX12_isIn : ByteArray := prog_14_method_13_code
def yX12_isIn : MethodName := ⟨RX12, "isIn", "(IJJJ)Z"⟩
abbrev cX12_isNear : ByteArray := prog_14_method_14_code
def yX12_isNear : MethodName := ⟨RX12, "isNear", "(I)Z"⟩
abbrev cX12_inside : ByteArray := prog_14_method_15_code
def yX12_inside : MethodName := ⟨RX12, "inside", "(IIII)Z"⟩
abbrev cX12_rise : ByteArray := prog_14_method_16_code
def yX12_rise : MethodName := ⟨RX12, "rise", "(IJJII)V"⟩
abbrev cX12_topOf : ByteArray := prog_14_method_17_code
def yX12_topOf : MethodName := ⟨RX12, "topOf", "(III)I"⟩
abbrev cX12_top : ByteArray := prog_14_method_18_code
def yX12_top : MethodName := ⟨RX12, "top", "(III)I"⟩
abbrev cX12_weight : ByteArray := prog_14_method_19_code
def yX12_weight : MethodName := ⟨RX12, "weight", "(I)I"⟩
abbrev cX12_height : ByteArray := prog_14_method_21_code
def yX12_height : MethodName := ⟨RX12, "height", "(J)V"⟩
abbrev cX12_last : ByteArray := prog_14_method_22_code
def yX12_last : MethodName := ⟨RX12, "last", "(IJJJ)J"⟩
abbrev cX12_ends : ByteArray := prog_14_method_23_code
def yX12_ends : MethodName := ⟨RX12, "ends", "(IJJJ)V"⟩
abbrev cX12_sort : ByteArray := prog_14_method_24_code
def yX12_sort : MethodName := ⟨RX12, "sort", "()V"⟩
abbrev cX12_spans : ByteArray := prog_14_method_25_code
def yX12_spans : MethodName := ⟨RX12, "spans", "(III)I"⟩
abbrev cX12_span : ByteArray := prog_14_method_26_code
def yX12_span : MethodName := ⟨RX12, "span", "(II)I"⟩
abbrev cX12_within : ByteArray := prog_14_method_27_code
def yX12_within : MethodName := ⟨RX12, "within", "(II)J"⟩
def RJ9 : String := "java/lang/Math"
def TJ9 : u_T := fun k => match k with
  | _ => ("", "", "", false)
def tyJ9 : Nat → FieldType := fun k => match k with
  | _ => .int
abbrev wsJ90 : List Cond := u_ws RJ9 TJ9 0
theorem nmJ9 : ∀ a, a < 0 → ∀ b, b < 0 → a ≠ b → (TJ9 a).2.1 ≠ (TJ9 b).2.1 := by decide +kernel
theorem tyJ9_ok : ∀ k, k < 0 → parseFieldDescriptor (TJ9 k).2.2.1 = some (tyJ9 k) := by decide +kernel
abbrev cJ9_max_7cf53 : ByteArray := prog_15_method_65_code
def yJ9_max_7cf53 : MethodName := ⟨RJ9, "max", "(II)I"⟩
abbrev cJ9_max_f86c9 : ByteArray := prog_15_method_66_code
def yJ9_max_f86c9 : MethodName := ⟨RJ9, "max", "(JJ)J"⟩
abbrev cJ9_min_7cf53 : ByteArray := prog_15_method_69_code
def yJ9_min_7cf53 : MethodName := ⟨RJ9, "min", "(II)I"⟩
abbrev cJ9_min_f86c9 : ByteArray := prog_15_method_70_code
def yJ9_min_f86c9 : MethodName := ⟨RJ9, "min", "(JJ)J"⟩
def RL : String := "SpanSolidsLaw"
abbrev cL_law : ByteArray := code
def yL_law : MethodName := ⟨RL, "law", "([I)Z"⟩
abbrev vwCl : List vw_C := [(RX0, TX0, 5), (RX1, TX1, 7), (RX2, TX2, 6), (RX3, TX3, 5), (RX4, TX4, 4), (RX5, TX5, 5), (RX6, TX6, 6), (RX7, TX7, 2), (RX9, TX9, 2), (RX10, TX10, 7), (RX11, TX11, 7), (RX12, TX12, 12)]
def ch_tb : List Cond := lw_tbl.filter goodWord
theorem ch_tbG : ∀ w ∈ ch_tb, (w.onTables && w.keeps) = true ∨ ∃ ty, w = .arrayClass ty := fun w h => good_of_word (List.mem_filter.mp h).2
theorem ch_tbL : ∀ w ∈ ch_tb, w ∈ lw_tbl := fun w h => (List.mem_filter.mp h).1
theorem wi_1 {w : Cond} (h : w ∈ tables_1_1) (g : goodWord w = true) : w ∈ ch_tb := List.mem_filter.mpr ⟨List.mem_append_right _ (List.mem_append_left _ h), g⟩
theorem wi_2 {w : Cond} (h : w ∈ tables_1_2) (g : goodWord w = true) : w ∈ ch_tb := List.mem_filter.mpr ⟨List.mem_append_right _ (List.mem_append_right _ (List.mem_append_left _ h)), g⟩
theorem wi_3 {w : Cond} (h : w ∈ tables_1_3) (g : goodWord w = true) : w ∈ ch_tb := List.mem_filter.mpr ⟨List.mem_append_right _ (List.mem_append_right _ (List.mem_append_right _ h)), g⟩
theorem wi_p {w : Cond} (h : w ∈ k2_sels lw_privs) (g : goodWord w = true) : w ∈ ch_tb := List.mem_filter.mpr ⟨List.mem_append_left _ h, g⟩
theorem mw_1_0 : Cond.initialized RL ∈ ch_tb := wi_1 (List.mem_of_getElem? (i := 0) rfl) rfl
theorem mw_1_1 : Cond.initialized RX11 ∈ ch_tb := wi_1 (List.mem_of_getElem? (i := 1) rfl) rfl
theorem mw_1_2 : Cond.initialized RX10 ∈ ch_tb := wi_1 (List.mem_of_getElem? (i := 2) rfl) rfl
theorem mw_1_3 : Cond.initialized RX3 ∈ ch_tb := wi_1 (List.mem_of_getElem? (i := 3) rfl) rfl
theorem mw_1_4 : Cond.initialized RX7 ∈ ch_tb := wi_1 (List.mem_of_getElem? (i := 4) rfl) rfl
theorem mw_1_5 : Cond.initialized RX12 ∈ ch_tb := wi_1 (List.mem_of_getElem? (i := 5) rfl) rfl
theorem mw_1_6 : Cond.initialized RX8 ∈ ch_tb := wi_1 (List.mem_of_getElem? (i := 6) rfl) rfl
theorem mw_1_7 : Cond.initialized RX1 ∈ ch_tb := wi_1 (List.mem_of_getElem? (i := 7) rfl) rfl
theorem mw_1_8 : Cond.initialized RX6 ∈ ch_tb := wi_1 (List.mem_of_getElem? (i := 8) rfl) rfl
theorem mw_1_9 : Cond.initialized RX0 ∈ ch_tb := wi_1 (List.mem_of_getElem? (i := 9) rfl) rfl
theorem mw_1_10 : Cond.initialized RX2 ∈ ch_tb := wi_1 (List.mem_of_getElem? (i := 10) rfl) rfl
theorem mw_1_11 : Cond.initialized RX4 ∈ ch_tb := wi_1 (List.mem_of_getElem? (i := 11) rfl) rfl
theorem mw_1_12 : Cond.initialized RX5 ∈ ch_tb := wi_1 (List.mem_of_getElem? (i := 12) rfl) rfl
theorem mw_1_13 : Cond.initialized RX9 ∈ ch_tb := wi_1 (List.mem_of_getElem? (i := 13) rfl) rfl
theorem mw_1_14 : Cond.initialized RJ9 ∈ ch_tb := wi_1 (List.mem_of_getElem? (i := 14) rfl) rfl
theorem mw_1_15 : Cond.classLink RL 7 RX11 ∈ ch_tb := wi_1 (List.mem_of_getElem? (i := 15) rfl) rfl
theorem mw_1_16 : Cond.instantiable RX11 7 ∈ ch_tb := wi_1 (List.mem_of_getElem? (i := 16) rfl) rfl
theorem mw_1_17 : Cond.methodLink RL 9 yX11_init ∈ ch_tb := wi_1 (List.mem_of_getElem? (i := 17) rfl) rfl
theorem mw_1_18 : Cond.instanceMethod yX11_init ∈ ch_tb := wi_1 (List.mem_of_getElem? (i := 18) rfl) rfl
theorem mw_1_19 : Cond.code yX11_init cX11_init 1 none ∈ ch_tb := wi_1 (List.mem_of_getElem? (i := 19) rfl) rfl
theorem mw_1_20 : Cond.methodLink RX11 3 objectInit ∈ ch_tb := wi_1 (List.mem_of_getElem? (i := 20) rfl) rfl
theorem mw_1_21 : Cond.instanceMethod objectInit ∈ ch_tb := wi_1 (List.mem_of_getElem? (i := 21) rfl) rfl
theorem mw_1_22 : Cond.code objectInit object_method_1_code 1 none ∈ ch_tb := wi_1 (List.mem_of_getElem? (i := 22) rfl) rfl
theorem mw_1_23 : Cond.classLink RX11 17 RX8 ∈ ch_tb := wi_1 (List.mem_of_getElem? (i := 23) rfl) rfl
theorem mw_1_25 : Cond.classLink RX11 26 RX10 ∈ ch_tb := wi_1 (List.mem_of_getElem? (i := 25) rfl) rfl
theorem mw_1_26 : Cond.instantiable RX10 7 ∈ ch_tb := wi_1 (List.mem_of_getElem? (i := 26) rfl) rfl
theorem mw_1_27 : Cond.methodLink RX11 28 yX10_init ∈ ch_tb := wi_1 (List.mem_of_getElem? (i := 27) rfl) rfl
theorem mw_1_28 : Cond.instanceMethod yX10_init ∈ ch_tb := wi_1 (List.mem_of_getElem? (i := 28) rfl) rfl
theorem mw_1_29 : Cond.code yX10_init cX10_init 1 none ∈ ch_tb := wi_1 (List.mem_of_getElem? (i := 29) rfl) rfl
theorem mw_1_30 : Cond.methodLink RX10 3 objectInit ∈ ch_tb := wi_1 (List.mem_of_getElem? (i := 30) rfl) rfl
theorem mw_1_31 : Cond.classLink RX10 11 RX8 ∈ ch_tb := wi_1 (List.mem_of_getElem? (i := 31) rfl) rfl
theorem mw_1_32 : Cond.classLink RX10 34 RX3 ∈ ch_tb := wi_1 (List.mem_of_getElem? (i := 32) rfl) rfl
theorem mw_1_33 : Cond.instantiable RX3 5 ∈ ch_tb := wi_1 (List.mem_of_getElem? (i := 33) rfl) rfl
theorem mw_1_34 : Cond.methodLink RX10 36 yX3_init ∈ ch_tb := wi_1 (List.mem_of_getElem? (i := 34) rfl) rfl
theorem mw_1_35 : Cond.instanceMethod yX3_init ∈ ch_tb := wi_1 (List.mem_of_getElem? (i := 35) rfl) rfl
theorem mw_1_36 : Cond.code yX3_init cX3_init 1 none ∈ ch_tb := wi_1 (List.mem_of_getElem? (i := 36) rfl) rfl
theorem mw_1_37 : Cond.methodLink RX3 3 objectInit ∈ ch_tb := wi_1 (List.mem_of_getElem? (i := 37) rfl) rfl
theorem mw_1_38 : Cond.fieldLink RX3 9 "SpanSolids$FoundSets" "edges" "[I" ∈ ch_tb := wi_1 (List.mem_of_getElem? (i := 38) rfl) rfl
theorem mw_1_39 : Cond.fieldLink RX3 15 "SpanSolids$FoundSets" "starts" "[I" ∈ ch_tb := wi_1 (List.mem_of_getElem? (i := 39) rfl) rfl
theorem mw_1_40 : Cond.fieldLink RX3 18 "SpanSolids$FoundSets" "mixed" "[I" ∈ ch_tb := wi_1 (List.mem_of_getElem? (i := 40) rfl) rfl
theorem mw_1_41 : Cond.fieldLink RX3 21 "SpanSolids$FoundSets" "edgeCount" "I" ∈ ch_tb := wi_1 (List.mem_of_getElem? (i := 41) rfl) rfl
theorem mw_1_42 : Cond.fieldLink RX3 25 "SpanSolids$FoundSets" "setCount" "I" ∈ ch_tb := wi_1 (List.mem_of_getElem? (i := 42) rfl) rfl
theorem mw_1_43 : Cond.laysFinal RX3 "SpanSolids$FoundSets" "edges" "[I" ∈ ch_tb := wi_1 (List.mem_of_getElem? (i := 43) rfl) rfl
theorem mw_1_45 : Cond.laysFinal RX3 "SpanSolids$FoundSets" "starts" "[I" ∈ ch_tb := wi_1 (List.mem_of_getElem? (i := 45) rfl) rfl
theorem mw_1_47 : Cond.laysFinal RX3 "SpanSolids$FoundSets" "mixed" "[I" ∈ ch_tb := wi_1 (List.mem_of_getElem? (i := 47) rfl) rfl
theorem mw_1_49 : Cond.lays RX3 "SpanSolids$FoundSets" "edgeCount" "I" ∈ ch_tb := wi_1 (List.mem_of_getElem? (i := 49) rfl) rfl
theorem mw_1_51 : Cond.lays RX3 "SpanSolids$FoundSets" "setCount" "I" ∈ ch_tb := wi_1 (List.mem_of_getElem? (i := 51) rfl) rfl
theorem mw_1_53 : Cond.superclass RX3 "java/lang/Object" ∈ ch_tb := wi_1 (List.mem_of_getElem? (i := 53) rfl) rfl
theorem mw_1_54 : Cond.arrayClass FieldType.int ∈ ch_tb := wi_1 (List.mem_of_getElem? (i := 54) rfl) rfl
theorem mw_1_55 : Cond.fieldLink RX10 13 "SpanSolids$Walk" "waiting" "[LSpanSolids$Solid;" ∈ ch_tb := wi_1 (List.mem_of_getElem? (i := 55) rfl) rfl
theorem mw_1_56 : Cond.fieldLink RX10 17 "SpanSolids$Walk" "xs" "[I" ∈ ch_tb := wi_1 (List.mem_of_getElem? (i := 56) rfl) rfl
theorem mw_1_57 : Cond.fieldLink RX10 21 "SpanSolids$Walk" "ys" "[I" ∈ ch_tb := wi_1 (List.mem_of_getElem? (i := 57) rfl) rfl
theorem mw_1_58 : Cond.fieldLink RX10 24 "SpanSolids$Walk" "lifts" "[I" ∈ ch_tb := wi_1 (List.mem_of_getElem? (i := 58) rfl) rfl
theorem mw_1_59 : Cond.fieldLink RX10 27 "SpanSolids$Walk" "hows" "[I" ∈ ch_tb := wi_1 (List.mem_of_getElem? (i := 59) rfl) rfl
theorem mw_1_60 : Cond.fieldLink RX10 30 "SpanSolids$Walk" "waitingCount" "I" ∈ ch_tb := wi_1 (List.mem_of_getElem? (i := 60) rfl) rfl
theorem mw_1_61 : Cond.fieldLink RX10 37 "SpanSolids$Walk" "found" "LSpanSolids$FoundSets;" ∈ ch_tb := wi_1 (List.mem_of_getElem? (i := 61) rfl) rfl
theorem mw_1_62 : Cond.laysFinal RX10 "SpanSolids$Walk" "waiting" "[LSpanSolids$Solid;" ∈ ch_tb := wi_1 (List.mem_of_getElem? (i := 62) rfl) rfl
theorem mw_1_64 : Cond.laysFinal RX10 "SpanSolids$Walk" "xs" "[I" ∈ ch_tb := wi_1 (List.mem_of_getElem? (i := 64) rfl) rfl
theorem mw_1_66 : Cond.laysFinal RX10 "SpanSolids$Walk" "ys" "[I" ∈ ch_tb := wi_1 (List.mem_of_getElem? (i := 66) rfl) rfl
theorem mw_1_68 : Cond.laysFinal RX10 "SpanSolids$Walk" "lifts" "[I" ∈ ch_tb := wi_1 (List.mem_of_getElem? (i := 68) rfl) rfl
theorem mw_1_70 : Cond.laysFinal RX10 "SpanSolids$Walk" "hows" "[I" ∈ ch_tb := wi_1 (List.mem_of_getElem? (i := 70) rfl) rfl
theorem mw_1_72 : Cond.lays RX10 "SpanSolids$Walk" "waitingCount" "I" ∈ ch_tb := wi_1 (List.mem_of_getElem? (i := 72) rfl) rfl
theorem mw_1_74 : Cond.laysFinal RX10 "SpanSolids$Walk" "found" "LSpanSolids$FoundSets;" ∈ ch_tb := wi_1 (List.mem_of_getElem? (i := 74) rfl) rfl
theorem mw_1_76 : Cond.superclass RX10 "java/lang/Object" ∈ ch_tb := wi_1 (List.mem_of_getElem? (i := 76) rfl) rfl
theorem mw_1_77 : Cond.classLink RX11 33 RX7 ∈ ch_tb := wi_1 (List.mem_of_getElem? (i := 77) rfl) rfl
theorem mw_1_78 : Cond.instantiable RX7 2 ∈ ch_tb := wi_1 (List.mem_of_getElem? (i := 78) rfl) rfl
theorem mw_1_79 : Cond.methodLink RX11 35 yX7_init ∈ ch_tb := wi_1 (List.mem_of_getElem? (i := 79) rfl) rfl
theorem mw_1_80 : Cond.instanceMethod yX7_init ∈ ch_tb := wi_1 (List.mem_of_getElem? (i := 80) rfl) rfl
theorem mw_1_81 : Cond.code yX7_init cX7_init 1 none ∈ ch_tb := wi_1 (List.mem_of_getElem? (i := 81) rfl) rfl
theorem mw_1_82 : Cond.methodLink RX7 3 objectInit ∈ ch_tb := wi_1 (List.mem_of_getElem? (i := 82) rfl) rfl
theorem mw_1_83 : Cond.fieldLink RX7 9 "SpanSolids$Runs" "edges" "[I" ∈ ch_tb := wi_1 (List.mem_of_getElem? (i := 83) rfl) rfl
theorem mw_1_84 : Cond.fieldLink RX7 15 "SpanSolids$Runs" "edgeCount" "I" ∈ ch_tb := wi_1 (List.mem_of_getElem? (i := 84) rfl) rfl
theorem mw_1_85 : Cond.laysFinal RX7 "SpanSolids$Runs" "edges" "[I" ∈ ch_tb := wi_1 (List.mem_of_getElem? (i := 85) rfl) rfl
theorem mw_1_87 : Cond.lays RX7 "SpanSolids$Runs" "edgeCount" "I" ∈ ch_tb := wi_1 (List.mem_of_getElem? (i := 87) rfl) rfl
theorem mw_1_89 : Cond.superclass RX7 "java/lang/Object" ∈ ch_tb := wi_1 (List.mem_of_getElem? (i := 89) rfl) rfl
theorem mw_1_90 : Cond.fieldLink RX11 9 "SpanSolids" "sizes" "[I" ∈ ch_tb := wi_1 (List.mem_of_getElem? (i := 90) rfl) rfl
theorem mw_1_91 : Cond.fieldLink RX11 13 "SpanSolids" "sizeCount" "I" ∈ ch_tb := wi_1 (List.mem_of_getElem? (i := 91) rfl) rfl
theorem mw_1_92 : Cond.fieldLink RX11 19 "SpanSolids" "solids" "[LSpanSolids$Solid;" ∈ ch_tb := wi_1 (List.mem_of_getElem? (i := 92) rfl) rfl
theorem mw_1_93 : Cond.fieldLink RX11 23 "SpanSolids" "solidCount" "I" ∈ ch_tb := wi_1 (List.mem_of_getElem? (i := 93) rfl) rfl
theorem mw_1_94 : Cond.fieldLink RX11 29 "SpanSolids" "walk" "LSpanSolids$Walk;" ∈ ch_tb := wi_1 (List.mem_of_getElem? (i := 94) rfl) rfl
theorem mw_1_95 : Cond.fieldLink RX11 36 "SpanSolids" "seen" "LSpanSolids$Runs;" ∈ ch_tb := wi_1 (List.mem_of_getElem? (i := 95) rfl) rfl
theorem mw_1_96 : Cond.fieldLink RX11 40 "SpanSolids" "told" "LSpanSolids$Runs;" ∈ ch_tb := wi_1 (List.mem_of_getElem? (i := 96) rfl) rfl
theorem mw_1_97 : Cond.laysFinal RX11 "SpanSolids" "sizes" "[I" ∈ ch_tb := wi_1 (List.mem_of_getElem? (i := 97) rfl) rfl
theorem mw_1_99 : Cond.lays RX11 "SpanSolids" "sizeCount" "I" ∈ ch_tb := wi_1 (List.mem_of_getElem? (i := 99) rfl) rfl
theorem mw_1_101 : Cond.laysFinal RX11 "SpanSolids" "solids" "[LSpanSolids$Solid;" ∈ ch_tb := wi_1 (List.mem_of_getElem? (i := 101) rfl) rfl
theorem mw_1_103 : Cond.lays RX11 "SpanSolids" "solidCount" "I" ∈ ch_tb := wi_1 (List.mem_of_getElem? (i := 103) rfl) rfl
theorem mw_1_105 : Cond.laysFinal RX11 "SpanSolids" "walk" "LSpanSolids$Walk;" ∈ ch_tb := wi_1 (List.mem_of_getElem? (i := 105) rfl) rfl
theorem mw_1_107 : Cond.laysFinal RX11 "SpanSolids" "seen" "LSpanSolids$Runs;" ∈ ch_tb := wi_1 (List.mem_of_getElem? (i := 107) rfl) rfl
theorem mw_1_109 : Cond.laysFinal RX11 "SpanSolids" "told" "LSpanSolids$Runs;" ∈ ch_tb := wi_1 (List.mem_of_getElem? (i := 109) rfl) rfl
theorem mw_1_111 : Cond.superclass RX11 "java/lang/Object" ∈ ch_tb := wi_1 (List.mem_of_getElem? (i := 111) rfl) rfl
theorem mw_1_112 : Cond.methodLink RL 13 yX11_size ∈ ch_tb := wi_1 (List.mem_of_getElem? (i := 112) rfl) rfl
theorem mw_1_113 : Cond.instanceMethod yX11_size ∈ ch_tb := wi_1 (List.mem_of_getElem? (i := 113) rfl) rfl
theorem mw_1_114 : Cond.selects RX11 yX11_size yX11_size ∈ ch_tb := wi_1 (List.mem_of_getElem? (i := 114) rfl) rfl
theorem mw_1_115 : Cond.code yX11_size cX11_size 2 (Option.some FieldType.int) ∈ ch_tb := wi_1 (List.mem_of_getElem? (i := 115) rfl) rfl
theorem mw_1_116 : Cond.methodLink RL 18 yX11_solid ∈ ch_tb := wi_1 (List.mem_of_getElem? (i := 116) rfl) rfl
theorem mw_1_117 : Cond.instanceMethod yX11_solid ∈ ch_tb := wi_1 (List.mem_of_getElem? (i := 117) rfl) rfl
theorem mw_1_118 : Cond.selects RX11 yX11_solid yX11_solid ∈ ch_tb := wi_1 (List.mem_of_getElem? (i := 118) rfl) rfl
theorem mw_1_119 : Cond.code yX11_solid cX11_solid 3 (Option.some FieldType.int) ∈ ch_tb := wi_1 (List.mem_of_getElem? (i := 119) rfl) rfl
theorem mw_1_120 : Cond.methodLink RX11 43 yX11_useUpSizes ∈ ch_tb := wi_1 (List.mem_of_getElem? (i := 120) rfl) rfl
theorem mw_1_122 : Cond.instanceMethod yX11_useUpSizes ∈ ch_tb := wi_1 (List.mem_of_getElem? (i := 122) rfl) rfl
theorem mw_1_123 : Cond.code yX11_useUpSizes cX11_useUpSizes 2 (Option.some FieldType.int) ∈ ch_tb := wi_1 (List.mem_of_getElem? (i := 123) rfl) rfl
theorem mw_1_124 : Cond.methodLink RX11 47 yX11_sizesNeeded ∈ ch_tb := wi_1 (List.mem_of_getElem? (i := 124) rfl) rfl
theorem mw_1_125 : Cond.static yX11_sizesNeeded ∈ ch_tb := wi_1 (List.mem_of_getElem? (i := 125) rfl) rfl
theorem mw_1_126 : Cond.code yX11_sizesNeeded cX11_sizesNeeded 1 (Option.some FieldType.int) ∈ ch_tb := wi_1 (List.mem_of_getElem? (i := 126) rfl) rfl
theorem mw_1_127 : Cond.methodLink RX11 51 yX11_radiusOf ∈ ch_tb := wi_1 (List.mem_of_getElem? (i := 127) rfl) rfl
theorem mw_1_129 : Cond.instanceMethod yX11_radiusOf ∈ ch_tb := wi_1 (List.mem_of_getElem? (i := 129) rfl) rfl
theorem mw_1_130 : Cond.code yX11_radiusOf cX11_radiusOf 2 (Option.some FieldType.int) ∈ ch_tb := wi_1 (List.mem_of_getElem? (i := 130) rfl) rfl
theorem mw_1_131 : Cond.methodLink RX11 54 yX11_isFull ∈ ch_tb := wi_1 (List.mem_of_getElem? (i := 131) rfl) rfl
theorem mw_1_133 : Cond.instanceMethod yX11_isFull ∈ ch_tb := wi_1 (List.mem_of_getElem? (i := 133) rfl) rfl
theorem mw_1_134 : Cond.code yX11_isFull cX11_isFull 1 (Option.some FieldType.boolean) ∈ ch_tb := wi_1 (List.mem_of_getElem? (i := 134) rfl) rfl
theorem mw_1_135 : Cond.methodLink RX11 58 yX11_newShape ∈ ch_tb := wi_1 (List.mem_of_getElem? (i := 135) rfl) rfl
theorem mw_1_137 : Cond.instanceMethod yX11_newShape ∈ ch_tb := wi_1 (List.mem_of_getElem? (i := 137) rfl) rfl
theorem mw_1_138 : Cond.code yX11_newShape cX11_newShape 2 (Option.some (FieldType.object "SpanSolids$Solid")) ∈ ch_tb := wi_1 (List.mem_of_getElem? (i := 138) rfl) rfl
theorem mw_1_139 : Cond.classLink RX11 111 RX1 ∈ ch_tb := wi_1 (List.mem_of_getElem? (i := 139) rfl) rfl
theorem mw_1_140 : Cond.instantiable RX1 7 ∈ ch_tb := wi_1 (List.mem_of_getElem? (i := 140) rfl) rfl
theorem mw_1_141 : Cond.methodLink RX11 113 yX1_init ∈ ch_tb := wi_1 (List.mem_of_getElem? (i := 141) rfl) rfl
theorem mw_1_142 : Cond.instanceMethod yX1_init ∈ ch_tb := wi_1 (List.mem_of_getElem? (i := 142) rfl) rfl
theorem mw_1_143 : Cond.code yX1_init cX1_init 7 none ∈ ch_tb := wi_1 (List.mem_of_getElem? (i := 143) rfl) rfl
theorem mw_1_144 : Cond.methodLink RX1 1 yX8_init ∈ ch_tb := wi_1 (List.mem_of_getElem? (i := 144) rfl) rfl
theorem mw_1_145 : Cond.instanceMethod yX8_init ∈ ch_tb := wi_1 (List.mem_of_getElem? (i := 145) rfl) rfl
theorem mw_1_146 : Cond.code yX8_init cX8_init 2 none ∈ ch_tb := wi_1 (List.mem_of_getElem? (i := 146) rfl) rfl
theorem mw_1_147 : Cond.methodLink RX8 1 objectInit ∈ ch_tb := wi_1 (List.mem_of_getElem? (i := 147) rfl) rfl
theorem mw_1_148 : Cond.fieldLink RX1 7 "SpanSolids$Box" "x" "I" ∈ ch_tb := wi_1 (List.mem_of_getElem? (i := 148) rfl) rfl
theorem mw_1_149 : Cond.fieldLink RX1 13 "SpanSolids$Box" "y" "I" ∈ ch_tb := wi_1 (List.mem_of_getElem? (i := 149) rfl) rfl
theorem mw_1_150 : Cond.fieldLink RX1 16 "SpanSolids$Box" "z" "I" ∈ ch_tb := wi_1 (List.mem_of_getElem? (i := 150) rfl) rfl
theorem mw_1_151 : Cond.fieldLink RX1 19 "SpanSolids$Box" "endX" "I" ∈ ch_tb := wi_1 (List.mem_of_getElem? (i := 151) rfl) rfl
theorem mw_1_152 : Cond.fieldLink RX1 22 "SpanSolids$Box" "endY" "I" ∈ ch_tb := wi_1 (List.mem_of_getElem? (i := 152) rfl) rfl
theorem mw_1_153 : Cond.fieldLink RX1 25 "SpanSolids$Box" "endZ" "I" ∈ ch_tb := wi_1 (List.mem_of_getElem? (i := 153) rfl) rfl
theorem mw_1_154 : Cond.fieldLink RX4 1 "SpanSolids$Solid" "weight" "I" ∈ ch_tb := wi_1 (List.mem_of_getElem? (i := 154) rfl) rfl
theorem mw_1_155 : Cond.fieldLink RX5 1 "SpanSolids$Solid" "weight" "I" ∈ ch_tb := wi_1 (List.mem_of_getElem? (i := 155) rfl) rfl
theorem mw_1_156 : Cond.fieldLink RX9 1 "SpanSolids$Solid" "weight" "I" ∈ ch_tb := wi_1 (List.mem_of_getElem? (i := 156) rfl) rfl
theorem mw_1_157 : Cond.fieldLink RX8 7 "SpanSolids$Solid" "weight" "I" ∈ ch_tb := wi_1 (List.mem_of_getElem? (i := 157) rfl) rfl
theorem mw_1_158 : Cond.fieldLink RX11 69 "SpanSolids$Solid" "weight" "I" ∈ ch_tb := wi_1 (List.mem_of_getElem? (i := 158) rfl) rfl
theorem mw_1_159 : Cond.laysFinal RX1 "SpanSolids$Box" "x" "I" ∈ ch_tb := wi_1 (List.mem_of_getElem? (i := 159) rfl) rfl
theorem mw_1_161 : Cond.laysFinal RX1 "SpanSolids$Box" "y" "I" ∈ ch_tb := wi_1 (List.mem_of_getElem? (i := 161) rfl) rfl
theorem mw_1_163 : Cond.laysFinal RX1 "SpanSolids$Box" "z" "I" ∈ ch_tb := wi_1 (List.mem_of_getElem? (i := 163) rfl) rfl
theorem mw_1_165 : Cond.laysFinal RX1 "SpanSolids$Box" "endX" "I" ∈ ch_tb := wi_1 (List.mem_of_getElem? (i := 165) rfl) rfl
theorem mw_1_167 : Cond.laysFinal RX1 "SpanSolids$Box" "endY" "I" ∈ ch_tb := wi_1 (List.mem_of_getElem? (i := 167) rfl) rfl
theorem mw_1_169 : Cond.laysFinal RX1 "SpanSolids$Box" "endZ" "I" ∈ ch_tb := wi_1 (List.mem_of_getElem? (i := 169) rfl) rfl
theorem mw_1_171 : Cond.laysFinal RX1 "SpanSolids$Solid" "weight" "I" ∈ ch_tb := wi_1 (List.mem_of_getElem? (i := 171) rfl) rfl
theorem mw_1_173 : Cond.superclass RX1 "SpanSolids$Solid" ∈ ch_tb := wi_1 (List.mem_of_getElem? (i := 173) rfl) rfl
theorem mw_1_174 : Cond.classLink RX11 116 RX6 ∈ ch_tb := wi_1 (List.mem_of_getElem? (i := 174) rfl) rfl
theorem mw_1_175 : Cond.instantiable RX6 6 ∈ ch_tb := wi_1 (List.mem_of_getElem? (i := 175) rfl) rfl
theorem mw_1_176 : Cond.methodLink RX11 118 yX6_init ∈ ch_tb := wi_1 (List.mem_of_getElem? (i := 176) rfl) rfl
theorem mw_1_177 : Cond.instanceMethod yX6_init ∈ ch_tb := wi_1 (List.mem_of_getElem? (i := 177) rfl) rfl
theorem mw_1_178 : Cond.code yX6_init cX6_init 6 none ∈ ch_tb := wi_1 (List.mem_of_getElem? (i := 178) rfl) rfl
theorem mw_1_179 : Cond.methodLink RX6 1 yX8_init ∈ ch_tb := wi_1 (List.mem_of_getElem? (i := 179) rfl) rfl
theorem mw_1_180 : Cond.fieldLink RX6 7 "SpanSolids$Post" "x" "I" ∈ ch_tb := wi_1 (List.mem_of_getElem? (i := 180) rfl) rfl
theorem mw_1_181 : Cond.fieldLink RX6 13 "SpanSolids$Post" "y" "I" ∈ ch_tb := wi_1 (List.mem_of_getElem? (i := 181) rfl) rfl
theorem mw_1_182 : Cond.fieldLink RX6 16 "SpanSolids$Post" "\x72" "I" ∈ ch_tb := wi_1 (List.mem_of_getElem? (i := 182) rfl) rfl
theorem mw_1_183 : Cond.fieldLink RX6 19 "SpanSolids$Post" "z" "I" ∈ ch_tb := wi_1 (List.mem_of_getElem? (i := 183) rfl) rfl
theorem mw_1_184 : Cond.fieldLink RX6 22 "SpanSolids$Post" "endZ" "I" ∈ ch_tb := wi_1 (List.mem_of_getElem? (i := 184) rfl) rfl
theorem mw_1_185 : Cond.laysFinal RX6 "SpanSolids$Post" "x" "I" ∈ ch_tb := wi_1 (List.mem_of_getElem? (i := 185) rfl) rfl
theorem mw_1_187 : Cond.laysFinal RX6 "SpanSolids$Post" "y" "I" ∈ ch_tb := wi_1 (List.mem_of_getElem? (i := 187) rfl) rfl
theorem mw_1_189 : Cond.laysFinal RX6 "SpanSolids$Post" "\x72" "I" ∈ ch_tb := wi_1 (List.mem_of_getElem? (i := 189) rfl) rfl
theorem mw_1_191 : Cond.laysFinal RX6 "SpanSolids$Post" "z" "I" ∈ ch_tb := wi_1 (List.mem_of_getElem? (i := 191) rfl) rfl
theorem mw_1_193 : Cond.laysFinal RX6 "SpanSolids$Post" "endZ" "I" ∈ ch_tb := wi_1 (List.mem_of_getElem? (i := 193) rfl) rfl
theorem mw_1_195 : Cond.laysFinal RX6 "SpanSolids$Solid" "weight" "I" ∈ ch_tb := wi_1 (List.mem_of_getElem? (i := 195) rfl) rfl
theorem mw_1_196 : Cond.superclass RX6 "SpanSolids$Solid" ∈ ch_tb := wi_1 (List.mem_of_getElem? (i := 196) rfl) rfl
theorem mw_1_197 : Cond.classLink RX11 121 RX0 ∈ ch_tb := wi_1 (List.mem_of_getElem? (i := 197) rfl) rfl
theorem mw_1_198 : Cond.instantiable RX0 5 ∈ ch_tb := wi_1 (List.mem_of_getElem? (i := 198) rfl) rfl
theorem mw_1_199 : Cond.methodLink RX11 123 yX0_init ∈ ch_tb := wi_1 (List.mem_of_getElem? (i := 199) rfl) rfl
theorem mw_1_200 : Cond.instanceMethod yX0_init ∈ ch_tb := wi_1 (List.mem_of_getElem? (i := 200) rfl) rfl
theorem mw_1_201 : Cond.code yX0_init cX0_init 5 none ∈ ch_tb := wi_1 (List.mem_of_getElem? (i := 201) rfl) rfl
theorem mw_1_202 : Cond.methodLink RX0 1 yX8_init ∈ ch_tb := wi_1 (List.mem_of_getElem? (i := 202) rfl) rfl
theorem mw_1_203 : Cond.fieldLink RX0 7 "SpanSolids$Ball" "x" "I" ∈ ch_tb := wi_1 (List.mem_of_getElem? (i := 203) rfl) rfl
theorem mw_1_204 : Cond.fieldLink RX0 13 "SpanSolids$Ball" "y" "I" ∈ ch_tb := wi_1 (List.mem_of_getElem? (i := 204) rfl) rfl
theorem mw_1_205 : Cond.fieldLink RX0 16 "SpanSolids$Ball" "z" "I" ∈ ch_tb := wi_1 (List.mem_of_getElem? (i := 205) rfl) rfl
theorem mw_1_206 : Cond.fieldLink RX0 19 "SpanSolids$Ball" "\x72" "I" ∈ ch_tb := wi_1 (List.mem_of_getElem? (i := 206) rfl) rfl
theorem mw_1_207 : Cond.laysFinal RX0 "SpanSolids$Ball" "x" "I" ∈ ch_tb := wi_1 (List.mem_of_getElem? (i := 207) rfl) rfl
theorem mw_1_209 : Cond.laysFinal RX0 "SpanSolids$Ball" "y" "I" ∈ ch_tb := wi_1 (List.mem_of_getElem? (i := 209) rfl) rfl
theorem mw_1_211 : Cond.laysFinal RX0 "SpanSolids$Ball" "z" "I" ∈ ch_tb := wi_1 (List.mem_of_getElem? (i := 211) rfl) rfl
theorem mw_1_213 : Cond.laysFinal RX0 "SpanSolids$Ball" "\x72" "I" ∈ ch_tb := wi_1 (List.mem_of_getElem? (i := 213) rfl) rfl
theorem mw_1_215 : Cond.laysFinal RX0 "SpanSolids$Solid" "weight" "I" ∈ ch_tb := wi_1 (List.mem_of_getElem? (i := 215) rfl) rfl
theorem mw_1_216 : Cond.superclass RX0 "SpanSolids$Solid" ∈ ch_tb := wi_1 (List.mem_of_getElem? (i := 216) rfl) rfl
theorem mw_1_217 : Cond.classLink RX11 126 RX2 ∈ ch_tb := wi_1 (List.mem_of_getElem? (i := 217) rfl) rfl
theorem mw_1_218 : Cond.instantiable RX2 6 ∈ ch_tb := wi_1 (List.mem_of_getElem? (i := 218) rfl) rfl
theorem mw_1_219 : Cond.methodLink RX11 128 yX2_init ∈ ch_tb := wi_1 (List.mem_of_getElem? (i := 219) rfl) rfl
theorem mw_1_220 : Cond.instanceMethod yX2_init ∈ ch_tb := wi_1 (List.mem_of_getElem? (i := 220) rfl) rfl
theorem mw_1_221 : Cond.code yX2_init cX2_init 6 none ∈ ch_tb := wi_1 (List.mem_of_getElem? (i := 221) rfl) rfl
theorem mw_1_222 : Cond.methodLink RX2 1 yX8_init ∈ ch_tb := wi_1 (List.mem_of_getElem? (i := 222) rfl) rfl
theorem mw_1_223 : Cond.fieldLink RX2 7 "SpanSolids$Cone" "x" "I" ∈ ch_tb := wi_1 (List.mem_of_getElem? (i := 223) rfl) rfl
theorem mw_1_224 : Cond.fieldLink RX2 13 "SpanSolids$Cone" "y" "I" ∈ ch_tb := wi_1 (List.mem_of_getElem? (i := 224) rfl) rfl
theorem mw_1_225 : Cond.fieldLink RX2 16 "SpanSolids$Cone" "\x72" "I" ∈ ch_tb := wi_1 (List.mem_of_getElem? (i := 225) rfl) rfl
theorem mw_1_226 : Cond.fieldLink RX2 19 "SpanSolids$Cone" "z" "I" ∈ ch_tb := wi_1 (List.mem_of_getElem? (i := 226) rfl) rfl
theorem mw_1_227 : Cond.fieldLink RX2 22 "SpanSolids$Cone" "endZ" "I" ∈ ch_tb := wi_1 (List.mem_of_getElem? (i := 227) rfl) rfl
theorem mw_1_228 : Cond.laysFinal RX2 "SpanSolids$Cone" "x" "I" ∈ ch_tb := wi_1 (List.mem_of_getElem? (i := 228) rfl) rfl
theorem mw_1_230 : Cond.laysFinal RX2 "SpanSolids$Cone" "y" "I" ∈ ch_tb := wi_1 (List.mem_of_getElem? (i := 230) rfl) rfl
theorem mw_1_232 : Cond.laysFinal RX2 "SpanSolids$Cone" "\x72" "I" ∈ ch_tb := wi_1 (List.mem_of_getElem? (i := 232) rfl) rfl
theorem mw_1_234 : Cond.laysFinal RX2 "SpanSolids$Cone" "z" "I" ∈ ch_tb := wi_1 (List.mem_of_getElem? (i := 234) rfl) rfl
theorem mw_1_236 : Cond.laysFinal RX2 "SpanSolids$Cone" "endZ" "I" ∈ ch_tb := wi_1 (List.mem_of_getElem? (i := 236) rfl) rfl
theorem mw_1_238 : Cond.laysFinal RX2 "SpanSolids$Solid" "weight" "I" ∈ ch_tb := wi_1 (List.mem_of_getElem? (i := 238) rfl) rfl
theorem mw_1_239 : Cond.superclass RX2 "SpanSolids$Solid" ∈ ch_tb := wi_1 (List.mem_of_getElem? (i := 239) rfl) rfl
theorem mw_2_0 : Cond.methodLink RX11 62 yX11_keep ∈ ch_tb := wi_2 (List.mem_of_getElem? (i := 0) rfl) rfl
theorem mw_2_2 : Cond.instanceMethod yX11_keep ∈ ch_tb := wi_2 (List.mem_of_getElem? (i := 2) rfl) rfl
theorem mw_2_3 : Cond.code yX11_keep cX11_keep 2 (Option.some FieldType.int) ∈ ch_tb := wi_2 (List.mem_of_getElem? (i := 3) rfl) rfl
theorem mw_2_4 : Cond.methodLink RL 22 yX11_join ∈ ch_tb := wi_2 (List.mem_of_getElem? (i := 4) rfl) rfl
theorem mw_2_5 : Cond.instanceMethod yX11_join ∈ ch_tb := wi_2 (List.mem_of_getElem? (i := 5) rfl) rfl
theorem mw_2_6 : Cond.selects RX11 yX11_join yX11_join ∈ ch_tb := wi_2 (List.mem_of_getElem? (i := 6) rfl) rfl
theorem mw_2_7 : Cond.code yX11_join cX11_join 6 (Option.some FieldType.int) ∈ ch_tb := wi_2 (List.mem_of_getElem? (i := 7) rfl) rfl
theorem mw_2_8 : Cond.methodLink RX11 66 yX11_find ∈ ch_tb := wi_2 (List.mem_of_getElem? (i := 8) rfl) rfl
theorem mw_2_10 : Cond.instanceMethod yX11_find ∈ ch_tb := wi_2 (List.mem_of_getElem? (i := 10) rfl) rfl
theorem mw_2_11 : Cond.code yX11_find cX11_find 2 (Option.some (FieldType.object "SpanSolids$Solid")) ∈ ch_tb := wi_2 (List.mem_of_getElem? (i := 11) rfl) rfl
theorem mw_2_12 : Cond.classLink RX11 72 RX4 ∈ ch_tb := wi_2 (List.mem_of_getElem? (i := 12) rfl) rfl
theorem mw_2_13 : Cond.instantiable RX4 4 ∈ ch_tb := wi_2 (List.mem_of_getElem? (i := 13) rfl) rfl
theorem mw_2_14 : Cond.methodLink RX11 74 yX4_init ∈ ch_tb := wi_2 (List.mem_of_getElem? (i := 14) rfl) rfl
theorem mw_2_15 : Cond.instanceMethod yX4_init ∈ ch_tb := wi_2 (List.mem_of_getElem? (i := 15) rfl) rfl
theorem mw_2_16 : Cond.code yX4_init cX4_init 4 none ∈ ch_tb := wi_2 (List.mem_of_getElem? (i := 16) rfl) rfl
theorem mw_2_17 : Cond.methodLink RX4 7 yX8_init ∈ ch_tb := wi_2 (List.mem_of_getElem? (i := 17) rfl) rfl
theorem mw_2_18 : Cond.fieldLink RX4 11 "SpanSolids$Joined" "first" "LSpanSolids$Solid;" ∈ ch_tb := wi_2 (List.mem_of_getElem? (i := 18) rfl) rfl
theorem mw_2_19 : Cond.fieldLink RX4 17 "SpanSolids$Joined" "second" "LSpanSolids$Solid;" ∈ ch_tb := wi_2 (List.mem_of_getElem? (i := 19) rfl) rfl
theorem mw_2_20 : Cond.fieldLink RX4 20 "SpanSolids$Joined" "how" "I" ∈ ch_tb := wi_2 (List.mem_of_getElem? (i := 20) rfl) rfl
theorem mw_2_21 : Cond.laysFinal RX4 "SpanSolids$Joined" "first" "LSpanSolids$Solid;" ∈ ch_tb := wi_2 (List.mem_of_getElem? (i := 21) rfl) rfl
theorem mw_2_23 : Cond.laysFinal RX4 "SpanSolids$Joined" "second" "LSpanSolids$Solid;" ∈ ch_tb := wi_2 (List.mem_of_getElem? (i := 23) rfl) rfl
theorem mw_2_25 : Cond.laysFinal RX4 "SpanSolids$Joined" "how" "I" ∈ ch_tb := wi_2 (List.mem_of_getElem? (i := 25) rfl) rfl
theorem mw_2_27 : Cond.laysFinal RX4 "SpanSolids$Solid" "weight" "I" ∈ ch_tb := wi_2 (List.mem_of_getElem? (i := 27) rfl) rfl
theorem mw_2_28 : Cond.superclass RX4 "SpanSolids$Solid" ∈ ch_tb := wi_2 (List.mem_of_getElem? (i := 28) rfl) rfl
theorem mw_2_29 : Cond.methodLink RL 27 yX11_moved ∈ ch_tb := wi_2 (List.mem_of_getElem? (i := 29) rfl) rfl
theorem mw_2_30 : Cond.instanceMethod yX11_moved ∈ ch_tb := wi_2 (List.mem_of_getElem? (i := 30) rfl) rfl
theorem mw_2_31 : Cond.selects RX11 yX11_moved yX11_moved ∈ ch_tb := wi_2 (List.mem_of_getElem? (i := 31) rfl) rfl
theorem mw_2_32 : Cond.code yX11_moved cX11_moved 4 (Option.some FieldType.int) ∈ ch_tb := wi_2 (List.mem_of_getElem? (i := 32) rfl) rfl
theorem mw_2_33 : Cond.classLink RX11 77 RX5 ∈ ch_tb := wi_2 (List.mem_of_getElem? (i := 33) rfl) rfl
theorem mw_2_34 : Cond.instantiable RX5 5 ∈ ch_tb := wi_2 (List.mem_of_getElem? (i := 34) rfl) rfl
theorem mw_2_35 : Cond.methodLink RX11 79 yX5_init ∈ ch_tb := wi_2 (List.mem_of_getElem? (i := 35) rfl) rfl
theorem mw_2_36 : Cond.instanceMethod yX5_init ∈ ch_tb := wi_2 (List.mem_of_getElem? (i := 36) rfl) rfl
theorem mw_2_37 : Cond.code yX5_init cX5_init 5 none ∈ ch_tb := wi_2 (List.mem_of_getElem? (i := 37) rfl) rfl
theorem mw_2_38 : Cond.methodLink RX5 7 yX8_init ∈ ch_tb := wi_2 (List.mem_of_getElem? (i := 38) rfl) rfl
theorem mw_2_39 : Cond.fieldLink RX5 11 "SpanSolids$Moved" "part" "LSpanSolids$Solid;" ∈ ch_tb := wi_2 (List.mem_of_getElem? (i := 39) rfl) rfl
theorem mw_2_40 : Cond.fieldLink RX5 17 "SpanSolids$Moved" "byX" "I" ∈ ch_tb := wi_2 (List.mem_of_getElem? (i := 40) rfl) rfl
theorem mw_2_41 : Cond.fieldLink RX5 20 "SpanSolids$Moved" "byY" "I" ∈ ch_tb := wi_2 (List.mem_of_getElem? (i := 41) rfl) rfl
theorem mw_2_42 : Cond.fieldLink RX5 23 "SpanSolids$Moved" "byZ" "I" ∈ ch_tb := wi_2 (List.mem_of_getElem? (i := 42) rfl) rfl
theorem mw_2_43 : Cond.laysFinal RX5 "SpanSolids$Moved" "part" "LSpanSolids$Solid;" ∈ ch_tb := wi_2 (List.mem_of_getElem? (i := 43) rfl) rfl
theorem mw_2_45 : Cond.laysFinal RX5 "SpanSolids$Moved" "byX" "I" ∈ ch_tb := wi_2 (List.mem_of_getElem? (i := 45) rfl) rfl
theorem mw_2_47 : Cond.laysFinal RX5 "SpanSolids$Moved" "byY" "I" ∈ ch_tb := wi_2 (List.mem_of_getElem? (i := 47) rfl) rfl
theorem mw_2_49 : Cond.laysFinal RX5 "SpanSolids$Moved" "byZ" "I" ∈ ch_tb := wi_2 (List.mem_of_getElem? (i := 49) rfl) rfl
theorem mw_2_51 : Cond.laysFinal RX5 "SpanSolids$Solid" "weight" "I" ∈ ch_tb := wi_2 (List.mem_of_getElem? (i := 51) rfl) rfl
theorem mw_2_52 : Cond.superclass RX5 "SpanSolids$Solid" ∈ ch_tb := wi_2 (List.mem_of_getElem? (i := 52) rfl) rfl
theorem mw_2_53 : Cond.methodLink RL 31 yX11_turned ∈ ch_tb := wi_2 (List.mem_of_getElem? (i := 53) rfl) rfl
theorem mw_2_54 : Cond.instanceMethod yX11_turned ∈ ch_tb := wi_2 (List.mem_of_getElem? (i := 54) rfl) rfl
theorem mw_2_55 : Cond.selects RX11 yX11_turned yX11_turned ∈ ch_tb := wi_2 (List.mem_of_getElem? (i := 55) rfl) rfl
theorem mw_2_56 : Cond.code yX11_turned cX11_turned 3 (Option.some FieldType.int) ∈ ch_tb := wi_2 (List.mem_of_getElem? (i := 56) rfl) rfl
theorem mw_2_57 : Cond.classLink RX11 82 RX9 ∈ ch_tb := wi_2 (List.mem_of_getElem? (i := 57) rfl) rfl
theorem mw_2_58 : Cond.instantiable RX9 2 ∈ ch_tb := wi_2 (List.mem_of_getElem? (i := 58) rfl) rfl
theorem mw_2_59 : Cond.methodLink RX11 84 yX9_init ∈ ch_tb := wi_2 (List.mem_of_getElem? (i := 59) rfl) rfl
theorem mw_2_60 : Cond.instanceMethod yX9_init ∈ ch_tb := wi_2 (List.mem_of_getElem? (i := 60) rfl) rfl
theorem mw_2_61 : Cond.code yX9_init cX9_init 2 none ∈ ch_tb := wi_2 (List.mem_of_getElem? (i := 61) rfl) rfl
theorem mw_2_62 : Cond.methodLink RX9 7 yX8_init ∈ ch_tb := wi_2 (List.mem_of_getElem? (i := 62) rfl) rfl
theorem mw_2_63 : Cond.fieldLink RX9 11 "SpanSolids$Turned" "part" "LSpanSolids$Solid;" ∈ ch_tb := wi_2 (List.mem_of_getElem? (i := 63) rfl) rfl
theorem mw_2_64 : Cond.laysFinal RX9 "SpanSolids$Turned" "part" "LSpanSolids$Solid;" ∈ ch_tb := wi_2 (List.mem_of_getElem? (i := 64) rfl) rfl
theorem mw_2_66 : Cond.laysFinal RX9 "SpanSolids$Solid" "weight" "I" ∈ ch_tb := wi_2 (List.mem_of_getElem? (i := 66) rfl) rfl
theorem mw_2_67 : Cond.superclass RX9 "SpanSolids$Solid" ∈ ch_tb := wi_2 (List.mem_of_getElem? (i := 67) rfl) rfl
theorem mw_2_68 : Cond.methodLink RL 35 yX11_weight ∈ ch_tb := wi_2 (List.mem_of_getElem? (i := 68) rfl) rfl
theorem mw_2_69 : Cond.instanceMethod yX11_weight ∈ ch_tb := wi_2 (List.mem_of_getElem? (i := 69) rfl) rfl
theorem mw_2_70 : Cond.selects RX11 yX11_weight yX11_weight ∈ ch_tb := wi_2 (List.mem_of_getElem? (i := 70) rfl) rfl
theorem mw_2_71 : Cond.code yX11_weight cX11_weight 3 (Option.some FieldType.int) ∈ ch_tb := wi_2 (List.mem_of_getElem? (i := 71) rfl) rfl
theorem mw_2_72 : Cond.methodLink RL 39 yX11_inside ∈ ch_tb := wi_2 (List.mem_of_getElem? (i := 72) rfl) rfl
theorem mw_2_73 : Cond.instanceMethod yX11_inside ∈ ch_tb := wi_2 (List.mem_of_getElem? (i := 73) rfl) rfl
theorem mw_2_74 : Cond.selects RX11 yX11_inside yX11_inside ∈ ch_tb := wi_2 (List.mem_of_getElem? (i := 74) rfl) rfl
theorem mw_2_75 : Cond.code yX11_inside cX11_inside 6 (Option.some FieldType.boolean) ∈ ch_tb := wi_2 (List.mem_of_getElem? (i := 75) rfl) rfl
theorem mw_2_76 : Cond.methodLink RX11 87 yX11_isBeyond ∈ ch_tb := wi_2 (List.mem_of_getElem? (i := 76) rfl) rfl
theorem mw_2_77 : Cond.static yX11_isBeyond ∈ ch_tb := wi_2 (List.mem_of_getElem? (i := 77) rfl) rfl
theorem mw_2_78 : Cond.code yX11_isBeyond cX11_isBeyond 1 (Option.some FieldType.boolean) ∈ ch_tb := wi_2 (List.mem_of_getElem? (i := 78) rfl) rfl
theorem mw_2_79 : Cond.constant RX11 135 (-100000) ∈ ch_tb := wi_2 (List.mem_of_getElem? (i := 79) rfl) rfl
theorem mw_2_80 : Cond.constant RX11 136 (100000) ∈ ch_tb := wi_2 (List.mem_of_getElem? (i := 80) rfl) rfl
theorem mw_2_81 : Cond.methodLink RX11 91 yX11_lookOver ∈ ch_tb := wi_2 (List.mem_of_getElem? (i := 81) rfl) rfl
theorem mw_2_83 : Cond.instanceMethod yX11_lookOver ∈ ch_tb := wi_2 (List.mem_of_getElem? (i := 83) rfl) rfl
theorem mw_2_84 : Cond.code yX11_lookOver cX11_lookOver 5 none ∈ ch_tb := wi_2 (List.mem_of_getElem? (i := 84) rfl) rfl
theorem mw_2_85 : Cond.methodLink RX11 129 yX7_clear ∈ ch_tb := wi_2 (List.mem_of_getElem? (i := 85) rfl) rfl
theorem mw_2_86 : Cond.instanceMethod yX7_clear ∈ ch_tb := wi_2 (List.mem_of_getElem? (i := 86) rfl) rfl
theorem mw_2_87 : Cond.selects RX7 yX7_clear yX7_clear ∈ ch_tb := wi_2 (List.mem_of_getElem? (i := 87) rfl) rfl
theorem mw_2_88 : Cond.code yX7_clear cX7_clear 1 none ∈ ch_tb := wi_2 (List.mem_of_getElem? (i := 88) rfl) rfl
theorem mw_2_89 : Cond.methodLink RX11 132 yX10_over ∈ ch_tb := wi_2 (List.mem_of_getElem? (i := 89) rfl) rfl
theorem mw_2_90 : Cond.instanceMethod yX10_over ∈ ch_tb := wi_2 (List.mem_of_getElem? (i := 90) rfl) rfl
theorem mw_2_91 : Cond.selects RX10 yX10_over yX10_over ∈ ch_tb := wi_2 (List.mem_of_getElem? (i := 91) rfl) rfl
theorem mw_2_92 : Cond.code yX10_over cX10_over 6 none ∈ ch_tb := wi_2 (List.mem_of_getElem? (i := 92) rfl) rfl
theorem mw_2_93 : Cond.methodLink RX10 41 yX3_clear ∈ ch_tb := wi_2 (List.mem_of_getElem? (i := 93) rfl) rfl
theorem mw_2_94 : Cond.instanceMethod yX3_clear ∈ ch_tb := wi_2 (List.mem_of_getElem? (i := 94) rfl) rfl
theorem mw_2_95 : Cond.selects RX3 yX3_clear yX3_clear ∈ ch_tb := wi_2 (List.mem_of_getElem? (i := 95) rfl) rfl
theorem mw_2_96 : Cond.code yX3_clear cX3_clear 1 none ∈ ch_tb := wi_2 (List.mem_of_getElem? (i := 96) rfl) rfl
theorem mw_2_97 : Cond.methodLink RX10 44 yX10_await ∈ ch_tb := wi_2 (List.mem_of_getElem? (i := 97) rfl) rfl
theorem mw_2_98 : Cond.instanceMethod yX10_await ∈ ch_tb := wi_2 (List.mem_of_getElem? (i := 98) rfl) rfl
theorem mw_2_99 : Cond.selects RX10 yX10_await yX10_await ∈ ch_tb := wi_2 (List.mem_of_getElem? (i := 99) rfl) rfl
theorem mw_2_100 : Cond.code yX10_await cX10_await 5 none ∈ ch_tb := wi_2 (List.mem_of_getElem? (i := 100) rfl) rfl
theorem mw_2_101 : Cond.methodLink RX10 48 yX10_lookAt ∈ ch_tb := wi_2 (List.mem_of_getElem? (i := 101) rfl) rfl
theorem mw_2_103 : Cond.instanceMethod yX10_lookAt ∈ ch_tb := wi_2 (List.mem_of_getElem? (i := 103) rfl) rfl
theorem mw_2_104 : Cond.code yX10_lookAt cX10_lookAt 3 none ∈ ch_tb := wi_2 (List.mem_of_getElem? (i := 104) rfl) rfl
theorem mw_2_105 : Cond.methodLink RX10 56 yX3_joinNewest ∈ ch_tb := wi_2 (List.mem_of_getElem? (i := 105) rfl) rfl
theorem mw_2_106 : Cond.instanceMethod yX3_joinNewest ∈ ch_tb := wi_2 (List.mem_of_getElem? (i := 106) rfl) rfl
theorem mw_2_107 : Cond.selects RX3 yX3_joinNewest yX3_joinNewest ∈ ch_tb := wi_2 (List.mem_of_getElem? (i := 107) rfl) rfl
theorem mw_2_108 : Cond.code yX3_joinNewest cX3_joinNewest 5 none ∈ ch_tb := wi_2 (List.mem_of_getElem? (i := 108) rfl) rfl
theorem mw_2_109 : Cond.methodLink RX3 28 yX3_mix ∈ ch_tb := wi_2 (List.mem_of_getElem? (i := 109) rfl) rfl
theorem mw_2_111 : Cond.instanceMethod yX3_mix ∈ ch_tb := wi_2 (List.mem_of_getElem? (i := 111) rfl) rfl
theorem mw_2_112 : Cond.code yX3_mix cX3_mix 12 (Option.some FieldType.int) ∈ ch_tb := wi_2 (List.mem_of_getElem? (i := 112) rfl) rfl
theorem mw_2_113 : Cond.methodLink RX3 32 yX3_nextEdge ∈ ch_tb := wi_2 (List.mem_of_getElem? (i := 113) rfl) rfl
theorem mw_2_115 : Cond.instanceMethod yX3_nextEdge ∈ ch_tb := wi_2 (List.mem_of_getElem? (i := 115) rfl) rfl
theorem mw_2_116 : Cond.code yX3_nextEdge cX3_nextEdge 4 (Option.some FieldType.int) ∈ ch_tb := wi_2 (List.mem_of_getElem? (i := 116) rfl) rfl
theorem mw_2_117 : Cond.methodLink RX3 35 yX3_isJoined ∈ ch_tb := wi_2 (List.mem_of_getElem? (i := 117) rfl) rfl
theorem mw_2_118 : Cond.static yX3_isJoined ∈ ch_tb := wi_2 (List.mem_of_getElem? (i := 118) rfl) rfl
theorem mw_2_119 : Cond.code yX3_isJoined cX3_isJoined 3 (Option.some FieldType.boolean) ∈ ch_tb := wi_2 (List.mem_of_getElem? (i := 119) rfl) rfl
theorem mw_2_120 : Cond.methodLink RX10 59 ⟨"SpanSolids$Solid", "lookFrom", "(IIILSpanSolids$Walk;)V"⟩ ∈ ch_tb := wi_2 (List.mem_of_getElem? (i := 120) rfl) rfl
theorem mw_2_122 : Cond.sameMethod RX8 "SpanSolids$Solid" "lookFrom" "(IIILSpanSolids$Walk;)V" ∈ ch_tb := wi_2 (List.mem_of_getElem? (i := 122) rfl) rfl
theorem mw_2_123 : Cond.selects RX0 ⟨"SpanSolids$Solid", "lookFrom", "(IIILSpanSolids$Walk;)V"⟩ yX0_lookFrom ∈ ch_tb := wi_2 (List.mem_of_getElem? (i := 123) rfl) rfl
theorem mw_2_124 : Cond.instanceMethod yX0_lookFrom ∈ ch_tb := wi_2 (List.mem_of_getElem? (i := 124) rfl) rfl
theorem mw_2_125 : Cond.code yX0_lookFrom cX0_lookFrom 8 none ∈ ch_tb := wi_2 (List.mem_of_getElem? (i := 125) rfl) rfl
theorem mw_2_127 : Cond.static yX11_square ∈ ch_tb := wi_2 (List.mem_of_getElem? (i := 127) rfl) rfl
theorem mw_2_128 : Cond.code yX11_square cX11_square 2 (Option.some FieldType.long) ∈ ch_tb := wi_2 (List.mem_of_getElem? (i := 128) rfl) rfl
theorem mw_2_129 : Cond.methodLink RX0 28 yX10_giveNone ∈ ch_tb := wi_2 (List.mem_of_getElem? (i := 129) rfl) rfl
theorem mw_2_130 : Cond.instanceMethod yX10_giveNone ∈ ch_tb := wi_2 (List.mem_of_getElem? (i := 130) rfl) rfl
theorem mw_2_131 : Cond.selects RX10 yX10_giveNone yX10_giveNone ∈ ch_tb := wi_2 (List.mem_of_getElem? (i := 131) rfl) rfl
theorem mw_2_132 : Cond.code yX10_giveNone cX10_giveNone 1 none ∈ ch_tb := wi_2 (List.mem_of_getElem? (i := 132) rfl) rfl
theorem mw_2_133 : Cond.methodLink RX10 63 yX3_add ∈ ch_tb := wi_2 (List.mem_of_getElem? (i := 133) rfl) rfl
theorem mw_2_134 : Cond.instanceMethod yX3_add ∈ ch_tb := wi_2 (List.mem_of_getElem? (i := 134) rfl) rfl
theorem mw_2_135 : Cond.selects RX3 yX3_add yX3_add ∈ ch_tb := wi_2 (List.mem_of_getElem? (i := 135) rfl) rfl
theorem mw_2_136 : Cond.code yX3_add cX3_add 3 none ∈ ch_tb := wi_2 (List.mem_of_getElem? (i := 136) rfl) rfl
theorem mw_2_138 : Cond.static yX11_rootBelow ∈ ch_tb := wi_2 (List.mem_of_getElem? (i := 138) rfl) rfl
theorem mw_2_139 : Cond.code yX11_rootBelow cX11_rootBelow 7 (Option.some FieldType.int) ∈ ch_tb := wi_2 (List.mem_of_getElem? (i := 139) rfl) rfl
theorem mw_2_140 : Cond.methodLink RX11 137 yX11_square ∈ ch_tb := wi_2 (List.mem_of_getElem? (i := 140) rfl) rfl
theorem mw_2_141 : Cond.methodLink RX0 38 yX10_give ∈ ch_tb := wi_2 (List.mem_of_getElem? (i := 141) rfl) rfl
theorem mw_2_142 : Cond.instanceMethod yX10_give ∈ ch_tb := wi_2 (List.mem_of_getElem? (i := 142) rfl) rfl
theorem mw_2_143 : Cond.selects RX10 yX10_give yX10_give ∈ ch_tb := wi_2 (List.mem_of_getElem? (i := 143) rfl) rfl
theorem mw_2_144 : Cond.code yX10_give cX10_give 3 none ∈ ch_tb := wi_2 (List.mem_of_getElem? (i := 144) rfl) rfl
theorem mw_2_145 : Cond.selects RX1 ⟨"SpanSolids$Solid", "lookFrom", "(IIILSpanSolids$Walk;)V"⟩ yX1_lookFrom ∈ ch_tb := wi_2 (List.mem_of_getElem? (i := 145) rfl) rfl
theorem mw_2_146 : Cond.instanceMethod yX1_lookFrom ∈ ch_tb := wi_2 (List.mem_of_getElem? (i := 146) rfl) rfl
theorem mw_2_147 : Cond.code yX1_lookFrom cX1_lookFrom 5 none ∈ ch_tb := wi_2 (List.mem_of_getElem? (i := 147) rfl) rfl
theorem mw_2_148 : Cond.methodLink RX1 28 yX10_give ∈ ch_tb := wi_2 (List.mem_of_getElem? (i := 148) rfl) rfl
theorem mw_2_149 : Cond.methodLink RX1 34 yX10_giveNone ∈ ch_tb := wi_2 (List.mem_of_getElem? (i := 149) rfl) rfl
theorem mw_2_150 : Cond.selects RX2 ⟨"SpanSolids$Solid", "lookFrom", "(IIILSpanSolids$Walk;)V"⟩ yX2_lookFrom ∈ ch_tb := wi_2 (List.mem_of_getElem? (i := 150) rfl) rfl
theorem mw_2_151 : Cond.instanceMethod yX2_lookFrom ∈ ch_tb := wi_2 (List.mem_of_getElem? (i := 151) rfl) rfl
theorem mw_2_152 : Cond.code yX2_lookFrom cX2_lookFrom 7 none ∈ ch_tb := wi_2 (List.mem_of_getElem? (i := 152) rfl) rfl
theorem mw_2_154 : Cond.methodLink RX2 31 yX10_giveNone ∈ ch_tb := wi_2 (List.mem_of_getElem? (i := 154) rfl) rfl
theorem mw_2_155 : Cond.methodLink RX2 37 yX2_leastDepth ∈ ch_tb := wi_2 (List.mem_of_getElem? (i := 155) rfl) rfl
theorem mw_2_157 : Cond.instanceMethod yX2_leastDepth ∈ ch_tb := wi_2 (List.mem_of_getElem? (i := 157) rfl) rfl
theorem mw_2_158 : Cond.code yX2_leastDepth cX2_leastDepth 9 (Option.some FieldType.int) ∈ ch_tb := wi_2 (List.mem_of_getElem? (i := 158) rfl) rfl
theorem mw_2_159 : Cond.methodLink RX2 41 yX10_give ∈ ch_tb := wi_2 (List.mem_of_getElem? (i := 159) rfl) rfl
theorem mw_2_160 : Cond.selects RX4 ⟨"SpanSolids$Solid", "lookFrom", "(IIILSpanSolids$Walk;)V"⟩ yX4_lookFrom ∈ ch_tb := wi_2 (List.mem_of_getElem? (i := 160) rfl) rfl
theorem mw_2_161 : Cond.instanceMethod yX4_lookFrom ∈ ch_tb := wi_2 (List.mem_of_getElem? (i := 161) rfl) rfl
theorem mw_2_162 : Cond.code yX4_lookFrom cX4_lookFrom 5 none ∈ ch_tb := wi_2 (List.mem_of_getElem? (i := 162) rfl) rfl
theorem mw_2_163 : Cond.methodLink RX4 23 yX10_awaitJoin ∈ ch_tb := wi_2 (List.mem_of_getElem? (i := 163) rfl) rfl
theorem mw_2_164 : Cond.instanceMethod yX10_awaitJoin ∈ ch_tb := wi_2 (List.mem_of_getElem? (i := 164) rfl) rfl
theorem mw_2_165 : Cond.selects RX10 yX10_awaitJoin yX10_awaitJoin ∈ ch_tb := wi_2 (List.mem_of_getElem? (i := 165) rfl) rfl
theorem mw_2_166 : Cond.code yX10_awaitJoin cX10_awaitJoin 2 none ∈ ch_tb := wi_2 (List.mem_of_getElem? (i := 166) rfl) rfl
theorem mw_2_167 : Cond.methodLink RX4 28 yX10_await ∈ ch_tb := wi_2 (List.mem_of_getElem? (i := 167) rfl) rfl
theorem mw_2_168 : Cond.selects RX5 ⟨"SpanSolids$Solid", "lookFrom", "(IIILSpanSolids$Walk;)V"⟩ yX5_lookFrom ∈ ch_tb := wi_2 (List.mem_of_getElem? (i := 168) rfl) rfl
theorem mw_2_169 : Cond.instanceMethod yX5_lookFrom ∈ ch_tb := wi_2 (List.mem_of_getElem? (i := 169) rfl) rfl
theorem mw_2_170 : Cond.code yX5_lookFrom cX5_lookFrom 5 none ∈ ch_tb := wi_2 (List.mem_of_getElem? (i := 170) rfl) rfl
theorem mw_2_171 : Cond.methodLink RX5 26 yX10_await ∈ ch_tb := wi_2 (List.mem_of_getElem? (i := 171) rfl) rfl
theorem mw_2_172 : Cond.selects RX6 ⟨"SpanSolids$Solid", "lookFrom", "(IIILSpanSolids$Walk;)V"⟩ yX6_lookFrom ∈ ch_tb := wi_2 (List.mem_of_getElem? (i := 172) rfl) rfl
theorem mw_2_173 : Cond.instanceMethod yX6_lookFrom ∈ ch_tb := wi_2 (List.mem_of_getElem? (i := 173) rfl) rfl
theorem mw_2_174 : Cond.code yX6_lookFrom cX6_lookFrom 5 none ∈ ch_tb := wi_2 (List.mem_of_getElem? (i := 174) rfl) rfl
theorem mw_2_176 : Cond.methodLink RX6 31 yX10_give ∈ ch_tb := wi_2 (List.mem_of_getElem? (i := 176) rfl) rfl
theorem mw_2_177 : Cond.methodLink RX6 37 yX10_giveNone ∈ ch_tb := wi_2 (List.mem_of_getElem? (i := 177) rfl) rfl
theorem mw_2_178 : Cond.selects RX9 ⟨"SpanSolids$Solid", "lookFrom", "(IIILSpanSolids$Walk;)V"⟩ yX9_lookFrom ∈ ch_tb := wi_2 (List.mem_of_getElem? (i := 178) rfl) rfl
theorem mw_2_179 : Cond.instanceMethod yX9_lookFrom ∈ ch_tb := wi_2 (List.mem_of_getElem? (i := 179) rfl) rfl
theorem mw_2_180 : Cond.code yX9_lookFrom cX9_lookFrom 5 none ∈ ch_tb := wi_2 (List.mem_of_getElem? (i := 180) rfl) rfl
theorem mw_2_181 : Cond.methodLink RX9 17 yX10_await ∈ ch_tb := wi_2 (List.mem_of_getElem? (i := 181) rfl) rfl
theorem mw_2_182 : Cond.methodLink RX10 52 yX3_copyTo ∈ ch_tb := wi_2 (List.mem_of_getElem? (i := 182) rfl) rfl
theorem mw_2_183 : Cond.instanceMethod yX3_copyTo ∈ ch_tb := wi_2 (List.mem_of_getElem? (i := 183) rfl) rfl
theorem mw_2_184 : Cond.selects RX3 yX3_copyTo yX3_copyTo ∈ ch_tb := wi_2 (List.mem_of_getElem? (i := 184) rfl) rfl
theorem mw_2_185 : Cond.code yX3_copyTo cX3_copyTo 2 none ∈ ch_tb := wi_2 (List.mem_of_getElem? (i := 185) rfl) rfl
theorem mw_2_186 : Cond.methodLink RX3 39 yX7_copyFrom ∈ ch_tb := wi_2 (List.mem_of_getElem? (i := 186) rfl) rfl
theorem mw_2_187 : Cond.instanceMethod yX7_copyFrom ∈ ch_tb := wi_2 (List.mem_of_getElem? (i := 187) rfl) rfl
theorem mw_2_188 : Cond.selects RX7 yX7_copyFrom yX7_copyFrom ∈ ch_tb := wi_2 (List.mem_of_getElem? (i := 188) rfl) rfl
theorem mw_2_189 : Cond.code yX7_copyFrom cX7_copyFrom 4 none ∈ ch_tb := wi_2 (List.mem_of_getElem? (i := 189) rfl) rfl
theorem mw_2_190 : Cond.methodLink RX7 19 yJ9_min_7cf53 ∈ ch_tb := wi_2 (List.mem_of_getElem? (i := 190) rfl) rfl
theorem mw_2_191 : Cond.static yJ9_min_7cf53 ∈ ch_tb := wi_2 (List.mem_of_getElem? (i := 191) rfl) rfl
theorem mw_2_192 : Cond.code yJ9_min_7cf53 cJ9_min_7cf53 2 (Option.some FieldType.int) ∈ ch_tb := wi_2 (List.mem_of_getElem? (i := 192) rfl) rfl
theorem mw_2_193 : Cond.methodLink RX11 95 yX7_countFrom ∈ ch_tb := wi_2 (List.mem_of_getElem? (i := 193) rfl) rfl
theorem mw_2_194 : Cond.instanceMethod yX7_countFrom ∈ ch_tb := wi_2 (List.mem_of_getElem? (i := 194) rfl) rfl
theorem mw_2_195 : Cond.selects RX7 yX7_countFrom yX7_countFrom ∈ ch_tb := wi_2 (List.mem_of_getElem? (i := 195) rfl) rfl
theorem mw_2_196 : Cond.code yX7_countFrom cX7_countFrom 10 (Option.some FieldType.long) ∈ ch_tb := wi_2 (List.mem_of_getElem? (i := 196) rfl) rfl
theorem mw_2_197 : Cond.methodLink RX7 25 yX7_runCount ∈ ch_tb := wi_2 (List.mem_of_getElem? (i := 197) rfl) rfl
theorem mw_2_198 : Cond.instanceMethod yX7_runCount ∈ ch_tb := wi_2 (List.mem_of_getElem? (i := 198) rfl) rfl
theorem mw_2_199 : Cond.selects RX7 yX7_runCount yX7_runCount ∈ ch_tb := wi_2 (List.mem_of_getElem? (i := 199) rfl) rfl
theorem mw_2_200 : Cond.code yX7_runCount cX7_runCount 1 (Option.some FieldType.int) ∈ ch_tb := wi_2 (List.mem_of_getElem? (i := 200) rfl) rfl
theorem mw_2_201 : Cond.methodLink RX7 29 yX7_firstOf ∈ ch_tb := wi_2 (List.mem_of_getElem? (i := 201) rfl) rfl
theorem mw_2_202 : Cond.instanceMethod yX7_firstOf ∈ ch_tb := wi_2 (List.mem_of_getElem? (i := 202) rfl) rfl
theorem mw_2_203 : Cond.selects RX7 yX7_firstOf yX7_firstOf ∈ ch_tb := wi_2 (List.mem_of_getElem? (i := 203) rfl) rfl
theorem mw_2_204 : Cond.code yX7_firstOf cX7_firstOf 2 (Option.some FieldType.int) ∈ ch_tb := wi_2 (List.mem_of_getElem? (i := 204) rfl) rfl
theorem mw_2_205 : Cond.methodLink RX7 33 yJ9_max_7cf53 ∈ ch_tb := wi_2 (List.mem_of_getElem? (i := 205) rfl) rfl
theorem mw_2_206 : Cond.static yJ9_max_7cf53 ∈ ch_tb := wi_2 (List.mem_of_getElem? (i := 206) rfl) rfl
theorem mw_2_207 : Cond.code yJ9_max_7cf53 cJ9_max_7cf53 2 (Option.some FieldType.int) ∈ ch_tb := wi_2 (List.mem_of_getElem? (i := 207) rfl) rfl
theorem mw_2_208 : Cond.methodLink RX7 36 yX7_lastOf ∈ ch_tb := wi_2 (List.mem_of_getElem? (i := 208) rfl) rfl
theorem mw_2_209 : Cond.instanceMethod yX7_lastOf ∈ ch_tb := wi_2 (List.mem_of_getElem? (i := 209) rfl) rfl
theorem mw_2_210 : Cond.selects RX7 yX7_lastOf yX7_lastOf ∈ ch_tb := wi_2 (List.mem_of_getElem? (i := 210) rfl) rfl
theorem mw_2_211 : Cond.code yX7_lastOf cX7_lastOf 2 (Option.some FieldType.int) ∈ ch_tb := wi_2 (List.mem_of_getElem? (i := 211) rfl) rfl
theorem mw_2_212 : Cond.methodLink RL 44 yX11_top ∈ ch_tb := wi_2 (List.mem_of_getElem? (i := 212) rfl) rfl
theorem mw_2_213 : Cond.instanceMethod yX11_top ∈ ch_tb := wi_2 (List.mem_of_getElem? (i := 213) rfl) rfl
theorem mw_2_214 : Cond.selects RX11 yX11_top yX11_top ∈ ch_tb := wi_2 (List.mem_of_getElem? (i := 214) rfl) rfl
theorem mw_2_215 : Cond.code yX11_top cX11_top 5 (Option.some FieldType.int) ∈ ch_tb := wi_2 (List.mem_of_getElem? (i := 215) rfl) rfl
theorem mw_2_216 : Cond.methodLink RX11 99 yX7_afterGreatest ∈ ch_tb := wi_2 (List.mem_of_getElem? (i := 216) rfl) rfl
theorem mw_2_217 : Cond.instanceMethod yX7_afterGreatest ∈ ch_tb := wi_2 (List.mem_of_getElem? (i := 217) rfl) rfl
theorem mw_2_218 : Cond.selects RX7 yX7_afterGreatest yX7_afterGreatest ∈ ch_tb := wi_2 (List.mem_of_getElem? (i := 218) rfl) rfl
theorem mw_2_219 : Cond.code yX7_afterGreatest cX7_afterGreatest 4 (Option.some FieldType.int) ∈ ch_tb := wi_2 (List.mem_of_getElem? (i := 219) rfl) rfl
theorem mw_2_220 : Cond.methodLink RL 48 yX11_spans ∈ ch_tb := wi_2 (List.mem_of_getElem? (i := 220) rfl) rfl
theorem mw_2_221 : Cond.instanceMethod yX11_spans ∈ ch_tb := wi_2 (List.mem_of_getElem? (i := 221) rfl) rfl
theorem mw_2_222 : Cond.selects RX11 yX11_spans yX11_spans ∈ ch_tb := wi_2 (List.mem_of_getElem? (i := 222) rfl) rfl
theorem mw_2_223 : Cond.code yX11_spans cX11_spans 5 (Option.some FieldType.int) ∈ ch_tb := wi_2 (List.mem_of_getElem? (i := 223) rfl) rfl
theorem mw_2_224 : Cond.methodLink RX11 102 yX7_runCount ∈ ch_tb := wi_2 (List.mem_of_getElem? (i := 224) rfl) rfl
theorem mw_2_225 : Cond.methodLink RL 52 yX11_span ∈ ch_tb := wi_2 (List.mem_of_getElem? (i := 225) rfl) rfl
theorem mw_2_226 : Cond.instanceMethod yX11_span ∈ ch_tb := wi_2 (List.mem_of_getElem? (i := 226) rfl) rfl
theorem mw_2_227 : Cond.selects RX11 yX11_span yX11_span ∈ ch_tb := wi_2 (List.mem_of_getElem? (i := 227) rfl) rfl
theorem mw_2_228 : Cond.code yX11_span cX11_span 3 (Option.some FieldType.int) ∈ ch_tb := wi_2 (List.mem_of_getElem? (i := 228) rfl) rfl
theorem mw_2_229 : Cond.methodLink RX11 105 yX7_firstOf ∈ ch_tb := wi_2 (List.mem_of_getElem? (i := 229) rfl) rfl
theorem mw_2_230 : Cond.methodLink RX11 108 yX7_lastOf ∈ ch_tb := wi_2 (List.mem_of_getElem? (i := 230) rfl) rfl
theorem mw_2_231 : Cond.methodLink RL 57 yX11_within ∈ ch_tb := wi_2 (List.mem_of_getElem? (i := 231) rfl) rfl
theorem mw_2_232 : Cond.instanceMethod yX11_within ∈ ch_tb := wi_2 (List.mem_of_getElem? (i := 232) rfl) rfl
theorem mw_2_233 : Cond.selects RX11 yX11_within yX11_within ∈ ch_tb := wi_2 (List.mem_of_getElem? (i := 233) rfl) rfl
theorem mw_2_234 : Cond.code yX11_within cX11_within 3 (Option.some FieldType.long) ∈ ch_tb := wi_2 (List.mem_of_getElem? (i := 234) rfl) rfl
theorem mw_2_235 : Cond.classLink RL 10 RX12 ∈ ch_tb := wi_2 (List.mem_of_getElem? (i := 235) rfl) rfl
theorem mw_2_236 : Cond.instantiable RX12 12 ∈ ch_tb := wi_2 (List.mem_of_getElem? (i := 236) rfl) rfl
theorem mw_2_237 : Cond.methodLink RL 12 yX12_init ∈ ch_tb := wi_2 (List.mem_of_getElem? (i := 237) rfl) rfl
theorem mw_2_238 : Cond.instanceMethod yX12_init ∈ ch_tb := wi_2 (List.mem_of_getElem? (i := 238) rfl) rfl
theorem mw_2_239 : Cond.code yX12_init cX12_init 1 none ∈ ch_tb := wi_2 (List.mem_of_getElem? (i := 239) rfl) rfl
theorem mw_3_0 : Cond.methodLink RX12 1 objectInit ∈ ch_tb := wi_3 (List.mem_of_getElem? (i := 0) rfl) rfl
theorem mw_3_1 : Cond.fieldLink RX12 9 "SpanSolidsModel" "kinds" "[I" ∈ ch_tb := wi_3 (List.mem_of_getElem? (i := 1) rfl) rfl
theorem mw_3_2 : Cond.fieldLink RX12 13 "SpanSolidsModel" "numbers" "[I" ∈ ch_tb := wi_3 (List.mem_of_getElem? (i := 2) rfl) rfl
theorem mw_3_3 : Cond.fieldLink RX12 16 "SpanSolidsModel" "weights" "[I" ∈ ch_tb := wi_3 (List.mem_of_getElem? (i := 3) rfl) rfl
theorem mw_3_4 : Cond.fieldLink RX12 39 "SpanSolidsModel" "solids" "I" ∈ ch_tb := wi_3 (List.mem_of_getElem? (i := 4) rfl) rfl
theorem mw_3_5 : Cond.fieldLink RX12 19 "SpanSolidsModel" "sizes" "[I" ∈ ch_tb := wi_3 (List.mem_of_getElem? (i := 5) rfl) rfl
theorem mw_3_6 : Cond.fieldLink RX12 35 "SpanSolidsModel" "sizeCount" "I" ∈ ch_tb := wi_3 (List.mem_of_getElem? (i := 6) rfl) rfl
theorem mw_3_7 : Cond.fieldLink RX12 22 "SpanSolidsModel" "bits" "[J" ∈ ch_tb := wi_3 (List.mem_of_getElem? (i := 7) rfl) rfl
theorem mw_3_8 : Cond.fieldLink RX12 26 "SpanSolidsModel" "heights" "[J" ∈ ch_tb := wi_3 (List.mem_of_getElem? (i := 8) rfl) rfl
theorem mw_3_9 : Cond.fieldLink RX12 83 "SpanSolidsModel" "heightCount" "I" ∈ ch_tb := wi_3 (List.mem_of_getElem? (i := 9) rfl) rfl
theorem mw_3_10 : Cond.fieldLink RX12 29 "SpanSolidsModel" "firsts" "[J" ∈ ch_tb := wi_3 (List.mem_of_getElem? (i := 10) rfl) rfl
theorem mw_3_11 : Cond.fieldLink RX12 32 "SpanSolidsModel" "lasts" "[J" ∈ ch_tb := wi_3 (List.mem_of_getElem? (i := 11) rfl) rfl
theorem mw_3_12 : Cond.fieldLink RX12 100 "SpanSolidsModel" "spanCount" "I" ∈ ch_tb := wi_3 (List.mem_of_getElem? (i := 12) rfl) rfl
theorem mw_3_13 : Cond.laysFinal RX12 "SpanSolidsModel" "kinds" "[I" ∈ ch_tb := wi_3 (List.mem_of_getElem? (i := 13) rfl) rfl
theorem mw_3_15 : Cond.laysFinal RX12 "SpanSolidsModel" "numbers" "[I" ∈ ch_tb := wi_3 (List.mem_of_getElem? (i := 15) rfl) rfl
theorem mw_3_17 : Cond.laysFinal RX12 "SpanSolidsModel" "weights" "[I" ∈ ch_tb := wi_3 (List.mem_of_getElem? (i := 17) rfl) rfl
theorem mw_3_19 : Cond.lays RX12 "SpanSolidsModel" "solids" "I" ∈ ch_tb := wi_3 (List.mem_of_getElem? (i := 19) rfl) rfl
theorem mw_3_21 : Cond.laysFinal RX12 "SpanSolidsModel" "sizes" "[I" ∈ ch_tb := wi_3 (List.mem_of_getElem? (i := 21) rfl) rfl
theorem mw_3_23 : Cond.lays RX12 "SpanSolidsModel" "sizeCount" "I" ∈ ch_tb := wi_3 (List.mem_of_getElem? (i := 23) rfl) rfl
theorem mw_3_25 : Cond.laysFinal RX12 "SpanSolidsModel" "bits" "[J" ∈ ch_tb := wi_3 (List.mem_of_getElem? (i := 25) rfl) rfl
theorem mw_3_27 : Cond.laysFinal RX12 "SpanSolidsModel" "heights" "[J" ∈ ch_tb := wi_3 (List.mem_of_getElem? (i := 27) rfl) rfl
theorem mw_3_29 : Cond.lays RX12 "SpanSolidsModel" "heightCount" "I" ∈ ch_tb := wi_3 (List.mem_of_getElem? (i := 29) rfl) rfl
theorem mw_3_31 : Cond.laysFinal RX12 "SpanSolidsModel" "firsts" "[J" ∈ ch_tb := wi_3 (List.mem_of_getElem? (i := 31) rfl) rfl
theorem mw_3_33 : Cond.laysFinal RX12 "SpanSolidsModel" "lasts" "[J" ∈ ch_tb := wi_3 (List.mem_of_getElem? (i := 33) rfl) rfl
theorem mw_3_35 : Cond.lays RX12 "SpanSolidsModel" "spanCount" "I" ∈ ch_tb := wi_3 (List.mem_of_getElem? (i := 35) rfl) rfl
theorem mw_3_37 : Cond.superclass RX12 "java/lang/Object" ∈ ch_tb := wi_3 (List.mem_of_getElem? (i := 37) rfl) rfl
theorem mw_3_38 : Cond.arrayClass FieldType.long ∈ ch_tb := wi_3 (List.mem_of_getElem? (i := 38) rfl) rfl
theorem mw_3_39 : Cond.methodLink RL 17 yX12_size ∈ ch_tb := wi_3 (List.mem_of_getElem? (i := 39) rfl) rfl
theorem mw_3_40 : Cond.instanceMethod yX12_size ∈ ch_tb := wi_3 (List.mem_of_getElem? (i := 40) rfl) rfl
theorem mw_3_41 : Cond.selects RX12 yX12_size yX12_size ∈ ch_tb := wi_3 (List.mem_of_getElem? (i := 41) rfl) rfl
theorem mw_3_42 : Cond.code yX12_size cX12_size 2 (Option.some FieldType.int) ∈ ch_tb := wi_3 (List.mem_of_getElem? (i := 42) rfl) rfl
theorem mw_3_43 : Cond.methodLink RL 21 yX12_solid ∈ ch_tb := wi_3 (List.mem_of_getElem? (i := 43) rfl) rfl
theorem mw_3_44 : Cond.instanceMethod yX12_solid ∈ ch_tb := wi_3 (List.mem_of_getElem? (i := 44) rfl) rfl
theorem mw_3_45 : Cond.selects RX12 yX12_solid yX12_solid ∈ ch_tb := wi_3 (List.mem_of_getElem? (i := 45) rfl) rfl
theorem mw_3_46 : Cond.code yX12_solid cX12_solid 4 (Option.some FieldType.int) ∈ ch_tb := wi_3 (List.mem_of_getElem? (i := 46) rfl) rfl
theorem mw_3_47 : Cond.methodLink RX12 42 yX12_made ∈ ch_tb := wi_3 (List.mem_of_getElem? (i := 47) rfl) rfl
theorem mw_3_49 : Cond.instanceMethod yX12_made ∈ ch_tb := wi_3 (List.mem_of_getElem? (i := 49) rfl) rfl
theorem mw_3_50 : Cond.code yX12_made cX12_made 4 (Option.some FieldType.int) ∈ ch_tb := wi_3 (List.mem_of_getElem? (i := 50) rfl) rfl
theorem mw_3_51 : Cond.methodLink RL 26 yX12_join ∈ ch_tb := wi_3 (List.mem_of_getElem? (i := 51) rfl) rfl
theorem mw_3_52 : Cond.instanceMethod yX12_join ∈ ch_tb := wi_3 (List.mem_of_getElem? (i := 52) rfl) rfl
theorem mw_3_53 : Cond.selects RX12 yX12_join yX12_join ∈ ch_tb := wi_3 (List.mem_of_getElem? (i := 53) rfl) rfl
theorem mw_3_54 : Cond.code yX12_join cX12_join 5 (Option.some FieldType.int) ∈ ch_tb := wi_3 (List.mem_of_getElem? (i := 54) rfl) rfl
theorem mw_3_55 : Cond.methodLink RX12 46 yX12_isSolid ∈ ch_tb := wi_3 (List.mem_of_getElem? (i := 55) rfl) rfl
theorem mw_3_57 : Cond.instanceMethod yX12_isSolid ∈ ch_tb := wi_3 (List.mem_of_getElem? (i := 57) rfl) rfl
theorem mw_3_58 : Cond.code yX12_isSolid cX12_isSolid 2 (Option.some FieldType.boolean) ∈ ch_tb := wi_3 (List.mem_of_getElem? (i := 58) rfl) rfl
theorem mw_3_59 : Cond.methodLink RL 30 yX12_moved ∈ ch_tb := wi_3 (List.mem_of_getElem? (i := 59) rfl) rfl
theorem mw_3_60 : Cond.instanceMethod yX12_moved ∈ ch_tb := wi_3 (List.mem_of_getElem? (i := 60) rfl) rfl
theorem mw_3_61 : Cond.selects RX12 yX12_moved yX12_moved ∈ ch_tb := wi_3 (List.mem_of_getElem? (i := 61) rfl) rfl
theorem mw_3_62 : Cond.code yX12_moved cX12_moved 4 (Option.some FieldType.int) ∈ ch_tb := wi_3 (List.mem_of_getElem? (i := 62) rfl) rfl
theorem mw_3_63 : Cond.methodLink RL 34 yX12_turned ∈ ch_tb := wi_3 (List.mem_of_getElem? (i := 63) rfl) rfl
theorem mw_3_64 : Cond.instanceMethod yX12_turned ∈ ch_tb := wi_3 (List.mem_of_getElem? (i := 64) rfl) rfl
theorem mw_3_65 : Cond.selects RX12 yX12_turned yX12_turned ∈ ch_tb := wi_3 (List.mem_of_getElem? (i := 65) rfl) rfl
theorem mw_3_66 : Cond.code yX12_turned cX12_turned 3 (Option.some FieldType.int) ∈ ch_tb := wi_3 (List.mem_of_getElem? (i := 66) rfl) rfl
theorem mw_3_67 : Cond.methodLink RL 43 yX12_inside ∈ ch_tb := wi_3 (List.mem_of_getElem? (i := 67) rfl) rfl
theorem mw_3_68 : Cond.instanceMethod yX12_inside ∈ ch_tb := wi_3 (List.mem_of_getElem? (i := 68) rfl) rfl
theorem mw_3_69 : Cond.selects RX12 yX12_inside yX12_inside ∈ ch_tb := wi_3 (List.mem_of_getElem? (i := 69) rfl) rfl
theorem mw_3_70 : Cond.code yX12_inside cX12_inside 5 (Option.some FieldType.boolean) ∈ ch_tb := wi_3 (List.mem_of_getElem? (i := 70) rfl) rfl
theorem mw_3_71 : Cond.methodLink RX12 66 yX12_isNear ∈ ch_tb := wi_3 (List.mem_of_getElem? (i := 71) rfl) rfl
theorem mw_3_72 : Cond.static yX12_isNear ∈ ch_tb := wi_3 (List.mem_of_getElem? (i := 72) rfl) rfl
theorem mw_3_73 : Cond.code yX12_isNear cX12_isNear 1 (Option.some FieldType.boolean) ∈ ch_tb := wi_3 (List.mem_of_getElem? (i := 73) rfl) rfl
theorem mw_3_74 : Cond.constant RX12 64 (-100000) ∈ ch_tb := wi_3 (List.mem_of_getElem? (i := 74) rfl) rfl
theorem mw_3_75 : Cond.constant RX12 65 (100000) ∈ ch_tb := wi_3 (List.mem_of_getElem? (i := 75) rfl) rfl
theorem mw_3_76 : Cond.methodLink RX12 57 yX12_isIn ∈ ch_tb := wi_3 (List.mem_of_getElem? (i := 76) rfl) rfl
theorem mw_3_78 : Cond.instanceMethod yX12_isIn ∈ ch_tb := wi_3 (List.mem_of_getElem? (i := 78) rfl) rfl
theorem mw_3_79 : Cond.code yX12_isIn cX12_isIn 10 (Option.some FieldType.boolean) ∈ ch_tb := wi_3 (List.mem_of_getElem? (i := 79) rfl) rfl
theorem mw_3_80 : Cond.methodLink RX12 50 yX12_number ∈ ch_tb := wi_3 (List.mem_of_getElem? (i := 80) rfl) rfl
theorem mw_3_82 : Cond.instanceMethod yX12_number ∈ ch_tb := wi_3 (List.mem_of_getElem? (i := 82) rfl) rfl
theorem mw_3_83 : Cond.code yX12_number cX12_number 3 (Option.some FieldType.int) ∈ ch_tb := wi_3 (List.mem_of_getElem? (i := 83) rfl) rfl
theorem mw_3_84 : Cond.methodLink RX12 61 yX12_isInKind ∈ ch_tb := wi_3 (List.mem_of_getElem? (i := 84) rfl) rfl
theorem mw_3_86 : Cond.instanceMethod yX12_isInKind ∈ ch_tb := wi_3 (List.mem_of_getElem? (i := 86) rfl) rfl
theorem mw_3_87 : Cond.code yX12_isInKind cX12_isInKind 12 (Option.some FieldType.boolean) ∈ ch_tb := wi_3 (List.mem_of_getElem? (i := 87) rfl) rfl
theorem mw_3_88 : Cond.methodLink RX12 53 yX12_square ∈ ch_tb := wi_3 (List.mem_of_getElem? (i := 88) rfl) rfl
theorem mw_3_89 : Cond.static yX12_square ∈ ch_tb := wi_3 (List.mem_of_getElem? (i := 89) rfl) rfl
theorem mw_3_90 : Cond.code yX12_square cX12_square 2 (Option.some FieldType.long) ∈ ch_tb := wi_3 (List.mem_of_getElem? (i := 90) rfl) rfl
theorem mw_3_91 : Cond.methodLink RL 47 yX12_top ∈ ch_tb := wi_3 (List.mem_of_getElem? (i := 91) rfl) rfl
theorem mw_3_92 : Cond.instanceMethod yX12_top ∈ ch_tb := wi_3 (List.mem_of_getElem? (i := 92) rfl) rfl
theorem mw_3_93 : Cond.selects RX12 yX12_top yX12_top ∈ ch_tb := wi_3 (List.mem_of_getElem? (i := 93) rfl) rfl
theorem mw_3_94 : Cond.code yX12_top cX12_top 4 (Option.some FieldType.int) ∈ ch_tb := wi_3 (List.mem_of_getElem? (i := 94) rfl) rfl
theorem mw_3_95 : Cond.methodLink RX12 75 yX12_topOf ∈ ch_tb := wi_3 (List.mem_of_getElem? (i := 95) rfl) rfl
theorem mw_3_97 : Cond.instanceMethod yX12_topOf ∈ ch_tb := wi_3 (List.mem_of_getElem? (i := 97) rfl) rfl
theorem mw_3_98 : Cond.code yX12_topOf cX12_topOf 5 (Option.some FieldType.int) ∈ ch_tb := wi_3 (List.mem_of_getElem? (i := 98) rfl) rfl
theorem mw_3_99 : Cond.methodLink RX12 69 yX12_rise ∈ ch_tb := wi_3 (List.mem_of_getElem? (i := 99) rfl) rfl
theorem mw_3_101 : Cond.instanceMethod yX12_rise ∈ ch_tb := wi_3 (List.mem_of_getElem? (i := 101) rfl) rfl
theorem mw_3_102 : Cond.code yX12_rise cX12_rise 14 none ∈ ch_tb := wi_3 (List.mem_of_getElem? (i := 102) rfl) rfl
theorem mw_3_103 : Cond.constantLong RX12 73 (-1) ∈ ch_tb := wi_3 (List.mem_of_getElem? (i := 103) rfl) rfl
theorem mw_3_104 : Cond.methodLink RL 38 yX12_weight ∈ ch_tb := wi_3 (List.mem_of_getElem? (i := 104) rfl) rfl
theorem mw_3_105 : Cond.instanceMethod yX12_weight ∈ ch_tb := wi_3 (List.mem_of_getElem? (i := 105) rfl) rfl
theorem mw_3_106 : Cond.selects RX12 yX12_weight yX12_weight ∈ ch_tb := wi_3 (List.mem_of_getElem? (i := 106) rfl) rfl
theorem mw_3_107 : Cond.code yX12_weight cX12_weight 2 (Option.some FieldType.int) ∈ ch_tb := wi_3 (List.mem_of_getElem? (i := 107) rfl) rfl
theorem mw_3_108 : Cond.methodLink RL 51 yX12_spans ∈ ch_tb := wi_3 (List.mem_of_getElem? (i := 108) rfl) rfl
theorem mw_3_109 : Cond.instanceMethod yX12_spans ∈ ch_tb := wi_3 (List.mem_of_getElem? (i := 109) rfl) rfl
theorem mw_3_110 : Cond.selects RX12 yX12_spans yX12_spans ∈ ch_tb := wi_3 (List.mem_of_getElem? (i := 110) rfl) rfl
theorem mw_3_111 : Cond.code yX12_spans cX12_spans 7 (Option.some FieldType.int) ∈ ch_tb := wi_3 (List.mem_of_getElem? (i := 111) rfl) rfl
theorem mw_3_112 : Cond.methodLink RX12 88 yX12_ends ∈ ch_tb := wi_3 (List.mem_of_getElem? (i := 112) rfl) rfl
theorem mw_3_114 : Cond.instanceMethod yX12_ends ∈ ch_tb := wi_3 (List.mem_of_getElem? (i := 114) rfl) rfl
theorem mw_3_115 : Cond.code yX12_ends cX12_ends 12 none ∈ ch_tb := wi_3 (List.mem_of_getElem? (i := 115) rfl) rfl
theorem mw_3_116 : Cond.methodLink RX12 92 yX12_last ∈ ch_tb := wi_3 (List.mem_of_getElem? (i := 116) rfl) rfl
theorem mw_3_118 : Cond.instanceMethod yX12_last ∈ ch_tb := wi_3 (List.mem_of_getElem? (i := 118) rfl) rfl
theorem mw_3_119 : Cond.code yX12_last cX12_last 14 (Option.some FieldType.long) ∈ ch_tb := wi_3 (List.mem_of_getElem? (i := 119) rfl) rfl
theorem mw_3_120 : Cond.constantLong RX12 86 (20001) ∈ ch_tb := wi_3 (List.mem_of_getElem? (i := 120) rfl) rfl
theorem mw_3_121 : Cond.constantLong RX12 81 (2) ∈ ch_tb := wi_3 (List.mem_of_getElem? (i := 121) rfl) rfl
theorem mw_3_122 : Cond.methodLink RX12 96 yX12_height ∈ ch_tb := wi_3 (List.mem_of_getElem? (i := 122) rfl) rfl
theorem mw_3_124 : Cond.instanceMethod yX12_height ∈ ch_tb := wi_3 (List.mem_of_getElem? (i := 124) rfl) rfl
theorem mw_3_125 : Cond.code yX12_height cX12_height 3 none ∈ ch_tb := wi_3 (List.mem_of_getElem? (i := 125) rfl) rfl
theorem mw_3_126 : Cond.methodLink RX12 103 yX12_sort ∈ ch_tb := wi_3 (List.mem_of_getElem? (i := 126) rfl) rfl
theorem mw_3_128 : Cond.instanceMethod yX12_sort ∈ ch_tb := wi_3 (List.mem_of_getElem? (i := 128) rfl) rfl
theorem mw_3_129 : Cond.code yX12_sort cX12_sort 5 none ∈ ch_tb := wi_3 (List.mem_of_getElem? (i := 129) rfl) rfl
theorem mw_3_130 : Cond.methodLink RL 56 yX12_span ∈ ch_tb := wi_3 (List.mem_of_getElem? (i := 130) rfl) rfl
theorem mw_3_131 : Cond.instanceMethod yX12_span ∈ ch_tb := wi_3 (List.mem_of_getElem? (i := 131) rfl) rfl
theorem mw_3_132 : Cond.selects RX12 yX12_span yX12_span ∈ ch_tb := wi_3 (List.mem_of_getElem? (i := 132) rfl) rfl
theorem mw_3_133 : Cond.code yX12_span cX12_span 3 (Option.some FieldType.int) ∈ ch_tb := wi_3 (List.mem_of_getElem? (i := 133) rfl) rfl
theorem mw_3_134 : Cond.methodLink RL 61 yX12_within ∈ ch_tb := wi_3 (List.mem_of_getElem? (i := 134) rfl) rfl
theorem mw_3_135 : Cond.instanceMethod yX12_within ∈ ch_tb := wi_3 (List.mem_of_getElem? (i := 135) rfl) rfl
theorem mw_3_136 : Cond.selects RX12 yX12_within yX12_within ∈ ch_tb := wi_3 (List.mem_of_getElem? (i := 136) rfl) rfl
theorem mw_3_137 : Cond.code yX12_within cX12_within 10 (Option.some FieldType.long) ∈ ch_tb := wi_3 (List.mem_of_getElem? (i := 137) rfl) rfl
theorem mw_3_138 : Cond.methodLink RX12 106 yJ9_max_f86c9 ∈ ch_tb := wi_3 (List.mem_of_getElem? (i := 138) rfl) rfl
theorem mw_3_139 : Cond.static yJ9_max_f86c9 ∈ ch_tb := wi_3 (List.mem_of_getElem? (i := 139) rfl) rfl
theorem mw_3_140 : Cond.code yJ9_max_f86c9 cJ9_max_f86c9 4 (Option.some FieldType.long) ∈ ch_tb := wi_3 (List.mem_of_getElem? (i := 140) rfl) rfl
theorem mw_3_141 : Cond.methodLink RX12 112 yJ9_min_f86c9 ∈ ch_tb := wi_3 (List.mem_of_getElem? (i := 141) rfl) rfl
theorem mw_3_142 : Cond.static yJ9_min_f86c9 ∈ ch_tb := wi_3 (List.mem_of_getElem? (i := 142) rfl) rfl
theorem mw_3_143 : Cond.code yJ9_min_f86c9 cJ9_min_f86c9 4 (Option.some FieldType.long) ∈ ch_tb := wi_3 (List.mem_of_getElem? (i := 143) rfl) rfl
theorem mw_p_0 : Cond.selects RX11 yX11_useUpSizes yX11_useUpSizes ∈ ch_tb := wi_p (List.mem_of_getElem? (i := 0) rfl) rfl
theorem mw_p_1 : Cond.selects RX11 yX11_radiusOf yX11_radiusOf ∈ ch_tb := wi_p (List.mem_of_getElem? (i := 1) rfl) rfl
theorem mw_p_2 : Cond.selects RX11 yX11_isFull yX11_isFull ∈ ch_tb := wi_p (List.mem_of_getElem? (i := 2) rfl) rfl
theorem mw_p_3 : Cond.selects RX11 yX11_newShape yX11_newShape ∈ ch_tb := wi_p (List.mem_of_getElem? (i := 3) rfl) rfl
theorem mw_p_4 : Cond.selects RX11 yX11_keep yX11_keep ∈ ch_tb := wi_p (List.mem_of_getElem? (i := 4) rfl) rfl
theorem mw_p_5 : Cond.selects RX11 yX11_find yX11_find ∈ ch_tb := wi_p (List.mem_of_getElem? (i := 5) rfl) rfl
theorem mw_p_6 : Cond.selects RX11 yX11_lookOver yX11_lookOver ∈ ch_tb := wi_p (List.mem_of_getElem? (i := 6) rfl) rfl
theorem mw_p_7 : Cond.selects RX10 yX10_lookAt yX10_lookAt ∈ ch_tb := wi_p (List.mem_of_getElem? (i := 7) rfl) rfl
theorem mw_p_8 : Cond.selects RX3 yX3_mix yX3_mix ∈ ch_tb := wi_p (List.mem_of_getElem? (i := 8) rfl) rfl
theorem mw_p_9 : Cond.selects RX3 yX3_nextEdge yX3_nextEdge ∈ ch_tb := wi_p (List.mem_of_getElem? (i := 9) rfl) rfl
theorem mw_p_10 : Cond.selects RX2 yX2_leastDepth yX2_leastDepth ∈ ch_tb := wi_p (List.mem_of_getElem? (i := 10) rfl) rfl
theorem mw_p_11 : Cond.selects RX12 yX12_made yX12_made ∈ ch_tb := wi_p (List.mem_of_getElem? (i := 11) rfl) rfl
theorem mw_p_12 : Cond.selects RX12 yX12_isSolid yX12_isSolid ∈ ch_tb := wi_p (List.mem_of_getElem? (i := 12) rfl) rfl
theorem mw_p_13 : Cond.selects RX12 yX12_isIn yX12_isIn ∈ ch_tb := wi_p (List.mem_of_getElem? (i := 13) rfl) rfl
theorem mw_p_14 : Cond.selects RX12 yX12_number yX12_number ∈ ch_tb := wi_p (List.mem_of_getElem? (i := 14) rfl) rfl
theorem mw_p_15 : Cond.selects RX12 yX12_isInKind yX12_isInKind ∈ ch_tb := wi_p (List.mem_of_getElem? (i := 15) rfl) rfl
theorem mw_p_16 : Cond.selects RX12 yX12_topOf yX12_topOf ∈ ch_tb := wi_p (List.mem_of_getElem? (i := 16) rfl) rfl
theorem mw_p_17 : Cond.selects RX12 yX12_rise yX12_rise ∈ ch_tb := wi_p (List.mem_of_getElem? (i := 17) rfl) rfl
theorem mw_p_18 : Cond.selects RX12 yX12_ends yX12_ends ∈ ch_tb := wi_p (List.mem_of_getElem? (i := 18) rfl) rfl
theorem mw_p_19 : Cond.selects RX12 yX12_last yX12_last ∈ ch_tb := wi_p (List.mem_of_getElem? (i := 19) rfl) rfl
theorem mw_p_20 : Cond.selects RX12 yX12_height yX12_height ∈ ch_tb := wi_p (List.mem_of_getElem? (i := 20) rfl) rfl
theorem mw_p_21 : Cond.selects RX12 yX12_sort yX12_sort ∈ ch_tb := wi_p (List.mem_of_getElem? (i := 21) rfl) rfl
/-- words of the tables that are kept in their own way -/
def ch_N (U : State) : Prop := va_AO "SpanSolids$Solid" U ∧ va_Nw (Cond.declares ⟨"SpanSolids$Solid", "lookFrom", "(IIILSpanSolids$Walk;)V"⟩) U ∧ va_Nw (Cond.methodLinkNest RX0 22 yX11_square "SpanSolids") U ∧ va_Nw (Cond.methodLinkNest RX0 34 yX11_rootBelow "SpanSolids") U ∧ va_Nw (Cond.methodLinkNest RX2 25 yX11_square "SpanSolids") U ∧ va_Nw (Cond.methodLinkNest RX6 25 yX11_square "SpanSolids") U ∧ va_Nw (Cond.castable RX0 "SpanSolids$Solid") U ∧ va_Nw (Cond.castable RX1 "SpanSolids$Solid") U ∧ va_Nw (Cond.castable RX2 "SpanSolids$Solid") U ∧ va_Nw (Cond.castable RX4 "SpanSolids$Solid") U ∧ va_Nw (Cond.castable RX5 "SpanSolids$Solid") U ∧ va_Nw (Cond.castable RX6 "SpanSolids$Solid") U ∧ va_Nw (Cond.castable RX9 "SpanSolids$Solid") U
theorem nw_0 : ∀ U, ch_N U → va_AO "SpanSolids$Solid" U := fun U h => h.1
theorem nw_1 : ∀ U, ch_N U → va_Nw (Cond.declares ⟨"SpanSolids$Solid", "lookFrom", "(IIILSpanSolids$Walk;)V"⟩) U := fun U h => h.2.1
theorem nw_2 : ∀ U, ch_N U → va_Nw (Cond.methodLinkNest RX0 22 yX11_square "SpanSolids") U := fun U h => h.2.2.1
theorem nw_3 : ∀ U, ch_N U → va_Nw (Cond.methodLinkNest RX0 34 yX11_rootBelow "SpanSolids") U := fun U h => h.2.2.2.1
theorem nw_4 : ∀ U, ch_N U → va_Nw (Cond.methodLinkNest RX2 25 yX11_square "SpanSolids") U := fun U h => h.2.2.2.2.1
theorem nw_5 : ∀ U, ch_N U → va_Nw (Cond.methodLinkNest RX6 25 yX11_square "SpanSolids") U := fun U h => h.2.2.2.2.2.1
theorem nw_6 : ∀ U, ch_N U → va_Nw (Cond.castable RX0 "SpanSolids$Solid") U := fun U h => h.2.2.2.2.2.2.1
theorem nw_7 : ∀ U, ch_N U → va_Nw (Cond.castable RX1 "SpanSolids$Solid") U := fun U h => h.2.2.2.2.2.2.2.1
theorem nw_8 : ∀ U, ch_N U → va_Nw (Cond.castable RX2 "SpanSolids$Solid") U := fun U h => h.2.2.2.2.2.2.2.2.1
theorem nw_9 : ∀ U, ch_N U → va_Nw (Cond.castable RX4 "SpanSolids$Solid") U := fun U h => h.2.2.2.2.2.2.2.2.2.1
theorem nw_10 : ∀ U, ch_N U → va_Nw (Cond.castable RX5 "SpanSolids$Solid") U := fun U h => h.2.2.2.2.2.2.2.2.2.2.1
theorem nw_11 : ∀ U, ch_N U → va_Nw (Cond.castable RX6 "SpanSolids$Solid") U := fun U h => h.2.2.2.2.2.2.2.2.2.2.2.1
theorem nw_12 : ∀ U, ch_N U → va_Nw (Cond.castable RX9 "SpanSolids$Solid") U := fun U h => h.2.2.2.2.2.2.2.2.2.2.2.2
theorem ch_N.warm {s U : State} (hW : s.WarmedH U.vm) (h : ch_N s) : ch_N U := ⟨va_AO.moved (hW).alike h.1, va_Nw.warmD hW h.2.1, va_Nw.warmM hW h.2.2.1, va_Nw.warmM hW h.2.2.2.1, va_Nw.warmM hW h.2.2.2.2.1, va_Nw.warmM hW h.2.2.2.2.2.1, va_Nw.warmC hW h.2.2.2.2.2.2.1, va_Nw.warmC hW h.2.2.2.2.2.2.2.1, va_Nw.warmC hW h.2.2.2.2.2.2.2.2.1, va_Nw.warmC hW h.2.2.2.2.2.2.2.2.2.1, va_Nw.warmC hW h.2.2.2.2.2.2.2.2.2.2.1, va_Nw.warmC hW h.2.2.2.2.2.2.2.2.2.2.2.1, va_Nw.warmC hW h.2.2.2.2.2.2.2.2.2.2.2.2⟩
theorem ch_N.same {s U : State} (e : s.vm = U.vm) (h : ch_N s) : ch_N U := ⟨va_AO.moved (by rw [e]; exact Vm.Alike.refl _) h.1, va_Nw.same rfl e h.2.1, va_Nw.same rfl e h.2.2.1, va_Nw.same rfl e h.2.2.2.1, va_Nw.same rfl e h.2.2.2.2.1, va_Nw.same rfl e h.2.2.2.2.2.1, va_Nw.same rfl e h.2.2.2.2.2.2.1, va_Nw.same rfl e h.2.2.2.2.2.2.2.1, va_Nw.same rfl e h.2.2.2.2.2.2.2.2.1, va_Nw.same rfl e h.2.2.2.2.2.2.2.2.2.1, va_Nw.same rfl e h.2.2.2.2.2.2.2.2.2.2.1, va_Nw.same rfl e h.2.2.2.2.2.2.2.2.2.2.2.1, va_Nw.same rfl e h.2.2.2.2.2.2.2.2.2.2.2.2⟩
theorem ch_N.of {A : Array Value} {U : State} (hts : ∀ w ∈ lw_tbl, w.before A U = true) : ch_N U := ⟨va_AO.of (hts _ (List.mem_append_right _ (List.mem_append_left _ (List.mem_of_getElem? (i := 24) rfl : Cond.arrayOver (FieldType.object "SpanSolids$Solid") ∈ tables_1_1)))), va_Nw.of rfl (hts _ (List.mem_append_right _ (List.mem_append_right _ (List.mem_append_left _ (List.mem_of_getElem? (i := 121) rfl : Cond.declares ⟨"SpanSolids$Solid", "lookFrom", "(IIILSpanSolids$Walk;)V"⟩ ∈ tables_1_2))))), va_Nw.of rfl (hts _ (List.mem_append_right _ (List.mem_append_right _ (List.mem_append_left _ (List.mem_of_getElem? (i := 126) rfl : Cond.methodLinkNest RX0 22 yX11_square "SpanSolids" ∈ tables_1_2))))), va_Nw.of rfl (hts _ (List.mem_append_right _ (List.mem_append_right _ (List.mem_append_left _ (List.mem_of_getElem? (i := 137) rfl : Cond.methodLinkNest RX0 34 yX11_rootBelow "SpanSolids" ∈ tables_1_2))))), va_Nw.of rfl (hts _ (List.mem_append_right _ (List.mem_append_right _ (List.mem_append_left _ (List.mem_of_getElem? (i := 153) rfl : Cond.methodLinkNest RX2 25 yX11_square "SpanSolids" ∈ tables_1_2))))), va_Nw.of rfl (hts _ (List.mem_append_right _ (List.mem_append_right _ (List.mem_append_left _ (List.mem_of_getElem? (i := 175) rfl : Cond.methodLinkNest RX6 25 yX11_square "SpanSolids" ∈ tables_1_2))))), va_Nw.of rfl (hts _ (List.mem_append_right _ (List.mem_append_right _ (List.mem_append_right _ (List.mem_of_getElem? (i := 144) rfl : Cond.castable RX0 "SpanSolids$Solid" ∈ tables_1_3))))), va_Nw.of rfl (hts _ (List.mem_append_right _ (List.mem_append_right _ (List.mem_append_right _ (List.mem_of_getElem? (i := 145) rfl : Cond.castable RX1 "SpanSolids$Solid" ∈ tables_1_3))))), va_Nw.of rfl (hts _ (List.mem_append_right _ (List.mem_append_right _ (List.mem_append_right _ (List.mem_of_getElem? (i := 146) rfl : Cond.castable RX2 "SpanSolids$Solid" ∈ tables_1_3))))), va_Nw.of rfl (hts _ (List.mem_append_right _ (List.mem_append_right _ (List.mem_append_right _ (List.mem_of_getElem? (i := 147) rfl : Cond.castable RX4 "SpanSolids$Solid" ∈ tables_1_3))))), va_Nw.of rfl (hts _ (List.mem_append_right _ (List.mem_append_right _ (List.mem_append_right _ (List.mem_of_getElem? (i := 148) rfl : Cond.castable RX5 "SpanSolids$Solid" ∈ tables_1_3))))), va_Nw.of rfl (hts _ (List.mem_append_right _ (List.mem_append_right _ (List.mem_append_right _ (List.mem_of_getElem? (i := 149) rfl : Cond.castable RX6 "SpanSolids$Solid" ∈ tables_1_3))))), va_Nw.of rfl (hts _ (List.mem_append_right _ (List.mem_append_right _ (List.mem_append_right _ (List.mem_of_getElem? (i := 150) rfl : Cond.castable RX9 "SpanSolids$Solid" ∈ tables_1_3)))))⟩
theorem inX0 : ∀ w ∈ u_ws RX0 TX0 5, w ∈ ch_tb := List.forall_mem_cons.mpr ⟨mw_1_215, List.forall_mem_cons.mpr ⟨mw_1_207, List.forall_mem_cons.mpr ⟨mw_1_209, List.forall_mem_cons.mpr ⟨mw_1_211, List.forall_mem_cons.mpr ⟨mw_1_213, fun _ h => absurd h List.not_mem_nil⟩⟩⟩⟩⟩
theorem inX1 : ∀ w ∈ u_ws RX1 TX1 7, w ∈ ch_tb := List.forall_mem_cons.mpr ⟨mw_1_171, List.forall_mem_cons.mpr ⟨mw_1_159, List.forall_mem_cons.mpr ⟨mw_1_161, List.forall_mem_cons.mpr ⟨mw_1_163, List.forall_mem_cons.mpr ⟨mw_1_165, List.forall_mem_cons.mpr ⟨mw_1_167, List.forall_mem_cons.mpr ⟨mw_1_169, fun _ h => absurd h List.not_mem_nil⟩⟩⟩⟩⟩⟩⟩
theorem inX2 : ∀ w ∈ u_ws RX2 TX2 6, w ∈ ch_tb := List.forall_mem_cons.mpr ⟨mw_1_238, List.forall_mem_cons.mpr ⟨mw_1_228, List.forall_mem_cons.mpr ⟨mw_1_230, List.forall_mem_cons.mpr ⟨mw_1_232, List.forall_mem_cons.mpr ⟨mw_1_234, List.forall_mem_cons.mpr ⟨mw_1_236, fun _ h => absurd h List.not_mem_nil⟩⟩⟩⟩⟩⟩
theorem inX3 : ∀ w ∈ u_ws RX3 TX3 5, w ∈ ch_tb := List.forall_mem_cons.mpr ⟨mw_1_43, List.forall_mem_cons.mpr ⟨mw_1_45, List.forall_mem_cons.mpr ⟨mw_1_47, List.forall_mem_cons.mpr ⟨mw_1_49, List.forall_mem_cons.mpr ⟨mw_1_51, fun _ h => absurd h List.not_mem_nil⟩⟩⟩⟩⟩
theorem inX4 : ∀ w ∈ u_ws RX4 TX4 4, w ∈ ch_tb := List.forall_mem_cons.mpr ⟨mw_2_27, List.forall_mem_cons.mpr ⟨mw_2_21, List.forall_mem_cons.mpr ⟨mw_2_23, List.forall_mem_cons.mpr ⟨mw_2_25, fun _ h => absurd h List.not_mem_nil⟩⟩⟩⟩
theorem inX5 : ∀ w ∈ u_ws RX5 TX5 5, w ∈ ch_tb := List.forall_mem_cons.mpr ⟨mw_2_51, List.forall_mem_cons.mpr ⟨mw_2_43, List.forall_mem_cons.mpr ⟨mw_2_45, List.forall_mem_cons.mpr ⟨mw_2_47, List.forall_mem_cons.mpr ⟨mw_2_49, fun _ h => absurd h List.not_mem_nil⟩⟩⟩⟩⟩
theorem inX6 : ∀ w ∈ u_ws RX6 TX6 6, w ∈ ch_tb := List.forall_mem_cons.mpr ⟨mw_1_195, List.forall_mem_cons.mpr ⟨mw_1_185, List.forall_mem_cons.mpr ⟨mw_1_187, List.forall_mem_cons.mpr ⟨mw_1_189, List.forall_mem_cons.mpr ⟨mw_1_191, List.forall_mem_cons.mpr ⟨mw_1_193, fun _ h => absurd h List.not_mem_nil⟩⟩⟩⟩⟩⟩
theorem inX7 : ∀ w ∈ u_ws RX7 TX7 2, w ∈ ch_tb := List.forall_mem_cons.mpr ⟨mw_1_85, List.forall_mem_cons.mpr ⟨mw_1_87, fun _ h => absurd h List.not_mem_nil⟩⟩
theorem inX9 : ∀ w ∈ u_ws RX9 TX9 2, w ∈ ch_tb := List.forall_mem_cons.mpr ⟨mw_2_66, List.forall_mem_cons.mpr ⟨mw_2_64, fun _ h => absurd h List.not_mem_nil⟩⟩
theorem inX10 : ∀ w ∈ u_ws RX10 TX10 7, w ∈ ch_tb := List.forall_mem_cons.mpr ⟨mw_1_62, List.forall_mem_cons.mpr ⟨mw_1_64, List.forall_mem_cons.mpr ⟨mw_1_66, List.forall_mem_cons.mpr ⟨mw_1_68, List.forall_mem_cons.mpr ⟨mw_1_70, List.forall_mem_cons.mpr ⟨mw_1_72, List.forall_mem_cons.mpr ⟨mw_1_74, fun _ h => absurd h List.not_mem_nil⟩⟩⟩⟩⟩⟩⟩
theorem inX11 : ∀ w ∈ u_ws RX11 TX11 7, w ∈ ch_tb := List.forall_mem_cons.mpr ⟨mw_1_97, List.forall_mem_cons.mpr ⟨mw_1_99, List.forall_mem_cons.mpr ⟨mw_1_101, List.forall_mem_cons.mpr ⟨mw_1_103, List.forall_mem_cons.mpr ⟨mw_1_105, List.forall_mem_cons.mpr ⟨mw_1_107, List.forall_mem_cons.mpr ⟨mw_1_109, fun _ h => absurd h List.not_mem_nil⟩⟩⟩⟩⟩⟩⟩
theorem inX12 : ∀ w ∈ u_ws RX12 TX12 12, w ∈ ch_tb := List.forall_mem_cons.mpr ⟨mw_3_13, List.forall_mem_cons.mpr ⟨mw_3_15, List.forall_mem_cons.mpr ⟨mw_3_17, List.forall_mem_cons.mpr ⟨mw_3_19, List.forall_mem_cons.mpr ⟨mw_3_21, List.forall_mem_cons.mpr ⟨mw_3_23, List.forall_mem_cons.mpr ⟨mw_3_25, List.forall_mem_cons.mpr ⟨mw_3_27, List.forall_mem_cons.mpr ⟨mw_3_29, List.forall_mem_cons.mpr ⟨mw_3_31, List.forall_mem_cons.mpr ⟨mw_3_33, List.forall_mem_cons.mpr ⟨mw_3_35, fun _ h => absurd h List.not_mem_nil⟩⟩⟩⟩⟩⟩⟩⟩⟩⟩⟩⟩
/-- a method: name, code, locals, return type -/
abbrev ch_D : Type := MethodName × ByteArray × Nat × Option FieldType

/-- what a call's words are: the callee's code is in the tables, its class is ready, how many arguments it has -/
def ch_ok (M2 : ch_D) (na : Nat) : Prop := Cond.code M2.1 M2.2.1 M2.2.2.1 M2.2.2.2 ∈ ch_tb ∧ Cond.initialized M2.1.cls ∈ ch_tb ∧ (M2.1.cls ≠ "java/lang/invoke/MethodHandle" ∧ M2.1.cls ≠ "java/lang/invoke/VarHandle") ∧ (parseMethodDescriptor M2.1.desc).map (fun d => d.parameters.length) = some na
abbrev M_X11_init : ch_D := (yX11_init, cX11_init, 1, none)
theorem ok_X11_init : ch_ok M_X11_init 0 := ⟨mw_1_19, mw_1_1, by decide +kernel, by decide +kernel⟩
abbrev M_X10_init : ch_D := (yX10_init, cX10_init, 1, none)
theorem ok_X10_init : ch_ok M_X10_init 0 := ⟨mw_1_29, mw_1_2, by decide +kernel, by decide +kernel⟩
abbrev M_X3_init : ch_D := (yX3_init, cX3_init, 1, none)
theorem ok_X3_init : ch_ok M_X3_init 0 := ⟨mw_1_36, mw_1_3, by decide +kernel, by decide +kernel⟩
abbrev M_X7_init : ch_D := (yX7_init, cX7_init, 1, none)
theorem ok_X7_init : ch_ok M_X7_init 0 := ⟨mw_1_81, mw_1_4, by decide +kernel, by decide +kernel⟩
abbrev M_X11_size : ch_D := (yX11_size, cX11_size, 2, (Option.some FieldType.int))
theorem ok_X11_size : ch_ok M_X11_size 1 := ⟨mw_1_115, mw_1_1, by decide +kernel, by decide +kernel⟩
abbrev M_X11_solid : ch_D := (yX11_solid, cX11_solid, 3, (Option.some FieldType.int))
theorem ok_X11_solid : ch_ok M_X11_solid 1 := ⟨mw_1_119, mw_1_1, by decide +kernel, by decide +kernel⟩
abbrev M_X11_useUpSizes : ch_D := (yX11_useUpSizes, cX11_useUpSizes, 2, (Option.some FieldType.int))
theorem ok_X11_useUpSizes : ch_ok M_X11_useUpSizes 0 := ⟨mw_1_123, mw_1_1, by decide +kernel, by decide +kernel⟩
abbrev M_X11_sizesNeeded : ch_D := (yX11_sizesNeeded, cX11_sizesNeeded, 1, (Option.some FieldType.int))
theorem ok_X11_sizesNeeded : ch_ok M_X11_sizesNeeded 1 := ⟨mw_1_126, mw_1_1, by decide +kernel, by decide +kernel⟩
abbrev M_X11_radiusOf : ch_D := (yX11_radiusOf, cX11_radiusOf, 2, (Option.some FieldType.int))
theorem ok_X11_radiusOf : ch_ok M_X11_radiusOf 1 := ⟨mw_1_130, mw_1_1, by decide +kernel, by decide +kernel⟩
abbrev M_X11_isFull : ch_D := (yX11_isFull, cX11_isFull, 1, (Option.some FieldType.boolean))
theorem ok_X11_isFull : ch_ok M_X11_isFull 0 := ⟨mw_1_134, mw_1_1, by decide +kernel, by decide +kernel⟩
abbrev M_X11_newShape : ch_D := (yX11_newShape, cX11_newShape, 2, (Option.some (FieldType.object "SpanSolids$Solid")))
theorem ok_X11_newShape : ch_ok M_X11_newShape 1 := ⟨mw_1_138, mw_1_1, by decide +kernel, by decide +kernel⟩
abbrev M_X1_init : ch_D := (yX1_init, cX1_init, 7, none)
theorem ok_X1_init : ch_ok M_X1_init 6 := ⟨mw_1_143, mw_1_7, by decide +kernel, by decide +kernel⟩
abbrev M_X8_init : ch_D := (yX8_init, cX8_init, 2, none)
theorem ok_X8_init : ch_ok M_X8_init 1 := ⟨mw_1_146, mw_1_6, by decide +kernel, by decide +kernel⟩
abbrev M_X6_init : ch_D := (yX6_init, cX6_init, 6, none)
theorem ok_X6_init : ch_ok M_X6_init 5 := ⟨mw_1_178, mw_1_8, by decide +kernel, by decide +kernel⟩
abbrev M_X0_init : ch_D := (yX0_init, cX0_init, 5, none)
theorem ok_X0_init : ch_ok M_X0_init 4 := ⟨mw_1_201, mw_1_9, by decide +kernel, by decide +kernel⟩
abbrev M_X2_init : ch_D := (yX2_init, cX2_init, 6, none)
theorem ok_X2_init : ch_ok M_X2_init 5 := ⟨mw_1_221, mw_1_10, by decide +kernel, by decide +kernel⟩
abbrev M_X11_keep : ch_D := (yX11_keep, cX11_keep, 2, (Option.some FieldType.int))
theorem ok_X11_keep : ch_ok M_X11_keep 1 := ⟨mw_2_3, mw_1_1, by decide +kernel, by decide +kernel⟩
abbrev M_X11_join : ch_D := (yX11_join, cX11_join, 6, (Option.some FieldType.int))
theorem ok_X11_join : ch_ok M_X11_join 3 := ⟨mw_2_7, mw_1_1, by decide +kernel, by decide +kernel⟩
abbrev M_X11_find : ch_D := (yX11_find, cX11_find, 2, (Option.some (FieldType.object "SpanSolids$Solid")))
theorem ok_X11_find : ch_ok M_X11_find 1 := ⟨mw_2_11, mw_1_1, by decide +kernel, by decide +kernel⟩
abbrev M_X4_init : ch_D := (yX4_init, cX4_init, 4, none)
theorem ok_X4_init : ch_ok M_X4_init 3 := ⟨mw_2_16, mw_1_11, by decide +kernel, by decide +kernel⟩
abbrev M_X11_moved : ch_D := (yX11_moved, cX11_moved, 4, (Option.some FieldType.int))
theorem ok_X11_moved : ch_ok M_X11_moved 1 := ⟨mw_2_32, mw_1_1, by decide +kernel, by decide +kernel⟩
abbrev M_X5_init : ch_D := (yX5_init, cX5_init, 5, none)
theorem ok_X5_init : ch_ok M_X5_init 4 := ⟨mw_2_37, mw_1_12, by decide +kernel, by decide +kernel⟩
abbrev M_X11_turned : ch_D := (yX11_turned, cX11_turned, 3, (Option.some FieldType.int))
theorem ok_X11_turned : ch_ok M_X11_turned 1 := ⟨mw_2_56, mw_1_1, by decide +kernel, by decide +kernel⟩
abbrev M_X9_init : ch_D := (yX9_init, cX9_init, 2, none)
theorem ok_X9_init : ch_ok M_X9_init 1 := ⟨mw_2_61, mw_1_13, by decide +kernel, by decide +kernel⟩
abbrev M_X11_weight : ch_D := (yX11_weight, cX11_weight, 3, (Option.some FieldType.int))
theorem ok_X11_weight : ch_ok M_X11_weight 1 := ⟨mw_2_71, mw_1_1, by decide +kernel, by decide +kernel⟩
abbrev M_X11_inside : ch_D := (yX11_inside, cX11_inside, 6, (Option.some FieldType.boolean))
theorem ok_X11_inside : ch_ok M_X11_inside 4 := ⟨mw_2_75, mw_1_1, by decide +kernel, by decide +kernel⟩
abbrev M_X11_isBeyond : ch_D := (yX11_isBeyond, cX11_isBeyond, 1, (Option.some FieldType.boolean))
theorem ok_X11_isBeyond : ch_ok M_X11_isBeyond 1 := ⟨mw_2_78, mw_1_1, by decide +kernel, by decide +kernel⟩
abbrev M_X11_lookOver : ch_D := (yX11_lookOver, cX11_lookOver, 5, none)
theorem ok_X11_lookOver : ch_ok M_X11_lookOver 4 := ⟨mw_2_84, mw_1_1, by decide +kernel, by decide +kernel⟩
abbrev M_X7_clear : ch_D := (yX7_clear, cX7_clear, 1, none)
theorem ok_X7_clear : ch_ok M_X7_clear 0 := ⟨mw_2_88, mw_1_4, by decide +kernel, by decide +kernel⟩
abbrev M_X10_over : ch_D := (yX10_over, cX10_over, 6, none)
theorem ok_X10_over : ch_ok M_X10_over 4 := ⟨mw_2_92, mw_1_2, by decide +kernel, by decide +kernel⟩
abbrev M_X3_clear : ch_D := (yX3_clear, cX3_clear, 1, none)
theorem ok_X3_clear : ch_ok M_X3_clear 0 := ⟨mw_2_96, mw_1_3, by decide +kernel, by decide +kernel⟩
abbrev M_X10_await : ch_D := (yX10_await, cX10_await, 5, none)
theorem ok_X10_await : ch_ok M_X10_await 4 := ⟨mw_2_100, mw_1_2, by decide +kernel, by decide +kernel⟩
abbrev M_X10_lookAt : ch_D := (yX10_lookAt, cX10_lookAt, 3, none)
theorem ok_X10_lookAt : ch_ok M_X10_lookAt 1 := ⟨mw_2_104, mw_1_2, by decide +kernel, by decide +kernel⟩
abbrev M_X3_joinNewest : ch_D := (yX3_joinNewest, cX3_joinNewest, 5, none)
theorem ok_X3_joinNewest : ch_ok M_X3_joinNewest 1 := ⟨mw_2_108, mw_1_3, by decide +kernel, by decide +kernel⟩
abbrev M_X3_mix : ch_D := (yX3_mix, cX3_mix, 12, (Option.some FieldType.int))
theorem ok_X3_mix : ch_ok M_X3_mix 3 := ⟨mw_2_112, mw_1_3, by decide +kernel, by decide +kernel⟩
abbrev M_X3_nextEdge : ch_D := (yX3_nextEdge, cX3_nextEdge, 4, (Option.some FieldType.int))
theorem ok_X3_nextEdge : ch_ok M_X3_nextEdge 3 := ⟨mw_2_116, mw_1_3, by decide +kernel, by decide +kernel⟩
abbrev M_X3_isJoined : ch_D := (yX3_isJoined, cX3_isJoined, 3, (Option.some FieldType.boolean))
theorem ok_X3_isJoined : ch_ok M_X3_isJoined 3 := ⟨mw_2_119, mw_1_3, by decide +kernel, by decide +kernel⟩
abbrev M_X0_lookFrom : ch_D := (yX0_lookFrom, cX0_lookFrom, 8, none)
theorem ok_X0_lookFrom : ch_ok M_X0_lookFrom 4 := ⟨mw_2_125, mw_1_9, by decide +kernel, by decide +kernel⟩
abbrev M_X11_square : ch_D := (yX11_square, cX11_square, 2, (Option.some FieldType.long))
theorem ok_X11_square : ch_ok M_X11_square 1 := ⟨mw_2_128, mw_1_1, by decide +kernel, by decide +kernel⟩
abbrev M_X10_giveNone : ch_D := (yX10_giveNone, cX10_giveNone, 1, none)
theorem ok_X10_giveNone : ch_ok M_X10_giveNone 0 := ⟨mw_2_132, mw_1_2, by decide +kernel, by decide +kernel⟩
abbrev M_X3_add : ch_D := (yX3_add, cX3_add, 3, none)
theorem ok_X3_add : ch_ok M_X3_add 2 := ⟨mw_2_136, mw_1_3, by decide +kernel, by decide +kernel⟩
abbrev M_X11_rootBelow : ch_D := (yX11_rootBelow, cX11_rootBelow, 7, (Option.some FieldType.int))
theorem ok_X11_rootBelow : ch_ok M_X11_rootBelow 2 := ⟨mw_2_139, mw_1_1, by decide +kernel, by decide +kernel⟩
abbrev M_X10_give : ch_D := (yX10_give, cX10_give, 3, none)
theorem ok_X10_give : ch_ok M_X10_give 2 := ⟨mw_2_144, mw_1_2, by decide +kernel, by decide +kernel⟩
abbrev M_X1_lookFrom : ch_D := (yX1_lookFrom, cX1_lookFrom, 5, none)
theorem ok_X1_lookFrom : ch_ok M_X1_lookFrom 4 := ⟨mw_2_147, mw_1_7, by decide +kernel, by decide +kernel⟩
abbrev M_X2_lookFrom : ch_D := (yX2_lookFrom, cX2_lookFrom, 7, none)
theorem ok_X2_lookFrom : ch_ok M_X2_lookFrom 4 := ⟨mw_2_152, mw_1_10, by decide +kernel, by decide +kernel⟩
abbrev M_X2_leastDepth : ch_D := (yX2_leastDepth, cX2_leastDepth, 9, (Option.some FieldType.int))
theorem ok_X2_leastDepth : ch_ok M_X2_leastDepth 1 := ⟨mw_2_158, mw_1_10, by decide +kernel, by decide +kernel⟩
abbrev M_X4_lookFrom : ch_D := (yX4_lookFrom, cX4_lookFrom, 5, none)
theorem ok_X4_lookFrom : ch_ok M_X4_lookFrom 4 := ⟨mw_2_162, mw_1_11, by decide +kernel, by decide +kernel⟩
abbrev M_X10_awaitJoin : ch_D := (yX10_awaitJoin, cX10_awaitJoin, 2, none)
theorem ok_X10_awaitJoin : ch_ok M_X10_awaitJoin 1 := ⟨mw_2_166, mw_1_2, by decide +kernel, by decide +kernel⟩
abbrev M_X5_lookFrom : ch_D := (yX5_lookFrom, cX5_lookFrom, 5, none)
theorem ok_X5_lookFrom : ch_ok M_X5_lookFrom 4 := ⟨mw_2_170, mw_1_12, by decide +kernel, by decide +kernel⟩
abbrev M_X6_lookFrom : ch_D := (yX6_lookFrom, cX6_lookFrom, 5, none)
theorem ok_X6_lookFrom : ch_ok M_X6_lookFrom 4 := ⟨mw_2_174, mw_1_8, by decide +kernel, by decide +kernel⟩
abbrev M_X9_lookFrom : ch_D := (yX9_lookFrom, cX9_lookFrom, 5, none)
theorem ok_X9_lookFrom : ch_ok M_X9_lookFrom 4 := ⟨mw_2_180, mw_1_13, by decide +kernel, by decide +kernel⟩
abbrev M_X3_copyTo : ch_D := (yX3_copyTo, cX3_copyTo, 2, none)
theorem ok_X3_copyTo : ch_ok M_X3_copyTo 1 := ⟨mw_2_185, mw_1_3, by decide +kernel, by decide +kernel⟩
abbrev M_X7_copyFrom : ch_D := (yX7_copyFrom, cX7_copyFrom, 4, none)
theorem ok_X7_copyFrom : ch_ok M_X7_copyFrom 2 := ⟨mw_2_189, mw_1_4, by decide +kernel, by decide +kernel⟩
abbrev M_J9_min_7cf53 : ch_D := (yJ9_min_7cf53, cJ9_min_7cf53, 2, (Option.some FieldType.int))
theorem ok_J9_min_7cf53 : ch_ok M_J9_min_7cf53 2 := ⟨mw_2_192, mw_1_14, by decide +kernel, by decide +kernel⟩
abbrev M_X7_countFrom : ch_D := (yX7_countFrom, cX7_countFrom, 10, (Option.some FieldType.long))
theorem ok_X7_countFrom : ch_ok M_X7_countFrom 2 := ⟨mw_2_196, mw_1_4, by decide +kernel, by decide +kernel⟩
abbrev M_X7_runCount : ch_D := (yX7_runCount, cX7_runCount, 1, (Option.some FieldType.int))
theorem ok_X7_runCount : ch_ok M_X7_runCount 0 := ⟨mw_2_200, mw_1_4, by decide +kernel, by decide +kernel⟩
abbrev M_X7_firstOf : ch_D := (yX7_firstOf, cX7_firstOf, 2, (Option.some FieldType.int))
theorem ok_X7_firstOf : ch_ok M_X7_firstOf 1 := ⟨mw_2_204, mw_1_4, by decide +kernel, by decide +kernel⟩
abbrev M_J9_max_7cf53 : ch_D := (yJ9_max_7cf53, cJ9_max_7cf53, 2, (Option.some FieldType.int))
theorem ok_J9_max_7cf53 : ch_ok M_J9_max_7cf53 2 := ⟨mw_2_207, mw_1_14, by decide +kernel, by decide +kernel⟩
abbrev M_X7_lastOf : ch_D := (yX7_lastOf, cX7_lastOf, 2, (Option.some FieldType.int))
theorem ok_X7_lastOf : ch_ok M_X7_lastOf 1 := ⟨mw_2_211, mw_1_4, by decide +kernel, by decide +kernel⟩
abbrev M_X11_top : ch_D := (yX11_top, cX11_top, 5, (Option.some FieldType.int))
theorem ok_X11_top : ch_ok M_X11_top 3 := ⟨mw_2_215, mw_1_1, by decide +kernel, by decide +kernel⟩
abbrev M_X7_afterGreatest : ch_D := (yX7_afterGreatest, cX7_afterGreatest, 4, (Option.some FieldType.int))
theorem ok_X7_afterGreatest : ch_ok M_X7_afterGreatest 0 := ⟨mw_2_219, mw_1_4, by decide +kernel, by decide +kernel⟩
abbrev M_X11_spans : ch_D := (yX11_spans, cX11_spans, 5, (Option.some FieldType.int))
theorem ok_X11_spans : ch_ok M_X11_spans 3 := ⟨mw_2_223, mw_1_1, by decide +kernel, by decide +kernel⟩
abbrev M_X11_span : ch_D := (yX11_span, cX11_span, 3, (Option.some FieldType.int))
theorem ok_X11_span : ch_ok M_X11_span 2 := ⟨mw_2_228, mw_1_1, by decide +kernel, by decide +kernel⟩
abbrev M_X11_within : ch_D := (yX11_within, cX11_within, 3, (Option.some FieldType.long))
theorem ok_X11_within : ch_ok M_X11_within 2 := ⟨mw_2_234, mw_1_1, by decide +kernel, by decide +kernel⟩
abbrev M_X12_init : ch_D := (yX12_init, cX12_init, 1, none)
theorem ok_X12_init : ch_ok M_X12_init 0 := ⟨mw_2_239, mw_1_5, by decide +kernel, by decide +kernel⟩
abbrev M_X12_size : ch_D := (yX12_size, cX12_size, 2, (Option.some FieldType.int))
theorem ok_X12_size : ch_ok M_X12_size 1 := ⟨mw_3_42, mw_1_5, by decide +kernel, by decide +kernel⟩
abbrev M_X12_solid : ch_D := (yX12_solid, cX12_solid, 4, (Option.some FieldType.int))
theorem ok_X12_solid : ch_ok M_X12_solid 1 := ⟨mw_3_46, mw_1_5, by decide +kernel, by decide +kernel⟩
abbrev M_X12_made : ch_D := (yX12_made, cX12_made, 4, (Option.some FieldType.int))
theorem ok_X12_made : ch_ok M_X12_made 2 := ⟨mw_3_50, mw_1_5, by decide +kernel, by decide +kernel⟩
abbrev M_X12_join : ch_D := (yX12_join, cX12_join, 5, (Option.some FieldType.int))
theorem ok_X12_join : ch_ok M_X12_join 3 := ⟨mw_3_54, mw_1_5, by decide +kernel, by decide +kernel⟩
abbrev M_X12_isSolid : ch_D := (yX12_isSolid, cX12_isSolid, 2, (Option.some FieldType.boolean))
theorem ok_X12_isSolid : ch_ok M_X12_isSolid 1 := ⟨mw_3_58, mw_1_5, by decide +kernel, by decide +kernel⟩
abbrev M_X12_moved : ch_D := (yX12_moved, cX12_moved, 4, (Option.some FieldType.int))
theorem ok_X12_moved : ch_ok M_X12_moved 1 := ⟨mw_3_62, mw_1_5, by decide +kernel, by decide +kernel⟩
abbrev M_X12_turned : ch_D := (yX12_turned, cX12_turned, 3, (Option.some FieldType.int))
theorem ok_X12_turned : ch_ok M_X12_turned 1 := ⟨mw_3_66, mw_1_5, by decide +kernel, by decide +kernel⟩
abbrev M_X12_inside : ch_D := (yX12_inside, cX12_inside, 5, (Option.some FieldType.boolean))
theorem ok_X12_inside : ch_ok M_X12_inside 4 := ⟨mw_3_70, mw_1_5, by decide +kernel, by decide +kernel⟩
abbrev M_X12_isNear : ch_D := (yX12_isNear, cX12_isNear, 1, (Option.some FieldType.boolean))
theorem ok_X12_isNear : ch_ok M_X12_isNear 1 := ⟨mw_3_73, mw_1_5, by decide +kernel, by decide +kernel⟩
abbrev M_X12_isIn : ch_D := (yX12_isIn, cX12_isIn, 10, (Option.some FieldType.boolean))
theorem ok_X12_isIn : ch_ok M_X12_isIn 4 := ⟨mw_3_79, mw_1_5, by decide +kernel, by decide +kernel⟩
abbrev M_X12_number : ch_D := (yX12_number, cX12_number, 3, (Option.some FieldType.int))
theorem ok_X12_number : ch_ok M_X12_number 2 := ⟨mw_3_83, mw_1_5, by decide +kernel, by decide +kernel⟩
abbrev M_X12_isInKind : ch_D := (yX12_isInKind, cX12_isInKind, 12, (Option.some FieldType.boolean))
theorem ok_X12_isInKind : ch_ok M_X12_isInKind 4 := ⟨mw_3_87, mw_1_5, by decide +kernel, by decide +kernel⟩
abbrev M_X12_square : ch_D := (yX12_square, cX12_square, 2, (Option.some FieldType.long))
theorem ok_X12_square : ch_ok M_X12_square 1 := ⟨mw_3_90, mw_1_5, by decide +kernel, by decide +kernel⟩
abbrev M_X12_top : ch_D := (yX12_top, cX12_top, 4, (Option.some FieldType.int))
theorem ok_X12_top : ch_ok M_X12_top 3 := ⟨mw_3_94, mw_1_5, by decide +kernel, by decide +kernel⟩
abbrev M_X12_topOf : ch_D := (yX12_topOf, cX12_topOf, 5, (Option.some FieldType.int))
theorem ok_X12_topOf : ch_ok M_X12_topOf 3 := ⟨mw_3_98, mw_1_5, by decide +kernel, by decide +kernel⟩
abbrev M_X12_rise : ch_D := (yX12_rise, cX12_rise, 14, none)
theorem ok_X12_rise : ch_ok M_X12_rise 5 := ⟨mw_3_102, mw_1_5, by decide +kernel, by decide +kernel⟩
abbrev M_X12_weight : ch_D := (yX12_weight, cX12_weight, 2, (Option.some FieldType.int))
theorem ok_X12_weight : ch_ok M_X12_weight 1 := ⟨mw_3_107, mw_1_5, by decide +kernel, by decide +kernel⟩
abbrev M_X12_spans : ch_D := (yX12_spans, cX12_spans, 7, (Option.some FieldType.int))
theorem ok_X12_spans : ch_ok M_X12_spans 3 := ⟨mw_3_111, mw_1_5, by decide +kernel, by decide +kernel⟩
abbrev M_X12_ends : ch_D := (yX12_ends, cX12_ends, 12, none)
theorem ok_X12_ends : ch_ok M_X12_ends 4 := ⟨mw_3_115, mw_1_5, by decide +kernel, by decide +kernel⟩
abbrev M_X12_last : ch_D := (yX12_last, cX12_last, 14, (Option.some FieldType.long))
theorem ok_X12_last : ch_ok M_X12_last 4 := ⟨mw_3_119, mw_1_5, by decide +kernel, by decide +kernel⟩
abbrev M_X12_height : ch_D := (yX12_height, cX12_height, 3, none)
theorem ok_X12_height : ch_ok M_X12_height 1 := ⟨mw_3_125, mw_1_5, by decide +kernel, by decide +kernel⟩
abbrev M_X12_sort : ch_D := (yX12_sort, cX12_sort, 5, none)
theorem ok_X12_sort : ch_ok M_X12_sort 0 := ⟨mw_3_129, mw_1_5, by decide +kernel, by decide +kernel⟩
abbrev M_X12_span : ch_D := (yX12_span, cX12_span, 3, (Option.some FieldType.int))
theorem ok_X12_span : ch_ok M_X12_span 2 := ⟨mw_3_133, mw_1_5, by decide +kernel, by decide +kernel⟩
abbrev M_X12_within : ch_D := (yX12_within, cX12_within, 10, (Option.some FieldType.long))
theorem ok_X12_within : ch_ok M_X12_within 2 := ⟨mw_3_137, mw_1_5, by decide +kernel, by decide +kernel⟩
abbrev M_J9_max_f86c9 : ch_D := (yJ9_max_f86c9, cJ9_max_f86c9, 4, (Option.some FieldType.long))
theorem ok_J9_max_f86c9 : ch_ok M_J9_max_f86c9 2 := ⟨mw_3_140, mw_1_14, by decide +kernel, by decide +kernel⟩
abbrev M_J9_min_f86c9 : ch_D := (yJ9_min_f86c9, cJ9_min_f86c9, 4, (Option.some FieldType.long))
theorem ok_J9_min_f86c9 : ch_ok M_J9_min_f86c9 2 := ⟨mw_3_143, mw_1_14, by decide +kernel, by decide +kernel⟩
