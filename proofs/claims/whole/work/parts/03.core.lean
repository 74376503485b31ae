/-! the heap as a function: what is known of our own cells -/
abbrev ch_H : Type := Nat → Option va_E
def ch_set (h : ch_H) (a : Nat) (e : va_E) : ch_H := fun b => if b = a then some e else h b
theorem ch_set_self {h : ch_H} {a : Nat} {e : va_E} : ch_set h a e a = some e := if_pos rfl
theorem ch_set_ne {h : ch_H} {a b : Nat} {e : va_E} (q : b ≠ a) : ch_set h a e b = h b := if_neg q
theorem ch_set_set {h : ch_H} {a : Nat} {e e' : va_E} : ch_set (ch_set h a e) a e' = ch_set h a e' := by
  funext b
  by_cases q : b = a
  · subst q; rw [ch_set_self, ch_set_self]
  · rw [ch_set_ne q, ch_set_ne q, ch_set_ne q]
theorem ch_set_same {h : ch_H} {a : Nat} {e : va_E} (q : h a = some e) : ch_set h a e = h := by
  funext b
  by_cases q2 : b = a
  · subst q2; rw [ch_set_self, q]
  · rw [ch_set_ne q2]
theorem ch_set_comm {h : ch_H} {a b : Nat} {e e' : va_E} (q : a ≠ b) : ch_set (ch_set h a e) b e' = ch_set (ch_set h b e') a e := by
  funext d
  by_cases q1 : d = a
  · subst q1; rw [ch_set_ne q, ch_set_self, ch_set_self]
  · by_cases q2 : d = b
    · subst q2; rw [ch_set_self, ch_set_ne q1, ch_set_self]
    · rw [ch_set_ne q2, ch_set_ne q1, ch_set_ne q1, ch_set_ne q2]
/-- class numbers and slots, array vwCl, where our cells begin -/
abbrev ch_E : Type := va_G × List (ClassId × FieldType) × Nat
def ch_M (E : ch_E) (h : ch_H) (hi : Nat) (H : Heap) : Prop := H.size = hi ∧ E.2.2 ≤ hi ∧ ∀ a e, h a = some e → E.2.2 ≤ a ∧ va_at E.1 vwCl (a, e) H
theorem ch_M.put {E : ch_E} {h : ch_H} {hi a : Nat} {e0 e : va_E} {H H1 : Heap} (hM : ch_M E h hi H) (h0 : h a = some e0) (he : va_at E.1 vwCl (a, e) H1) (z : H1.size = H.size) (oq : ∀ q : Nat, q ≠ a → H1[q]? = H[q]?) : ch_M E (ch_set h a e) hi H1 := by
  refine ⟨z.trans hM.1, hM.2.1, fun b eb hb => ?_⟩
  by_cases hba : b = a
  · subst hba
    rw [ch_set_self] at hb
    cases hb
    exact ⟨(hM.2.2 _ _ h0).1, he⟩
  · rw [ch_set_ne hba] at hb
    exact ⟨(hM.2.2 _ _ hb).1, (hM.2.2 _ _ hb).2.kept (oq b hba)⟩
theorem ch_M.new {E : ch_E} {h : ch_H} {hi : Nat} {e : va_E} {H H1 : Heap} (hM : ch_M E h hi H) (he : va_at E.1 vwCl (hi, e) H1) (z : H1.size = hi + 1) (oq : ∀ q : Nat, q < hi → H1[q]? = H[q]?) : ch_M E (ch_set h hi e) (hi + 1) H1 := by
  refine ⟨z, Nat.le_succ_of_le hM.2.1, fun b eb hb => ?_⟩
  by_cases hba : b = hi
  · subst hba
    rw [ch_set_self] at hb
    cases hb
    exact ⟨hM.2.1, he⟩
  · rw [ch_set_ne hba] at hb
    have h2 := (hM.2.2 _ _ hb).2
    exact ⟨(hM.2.2 _ _ hb).1, h2.kept (oq b (by have h3 := h2.lt; rw [hM.1] at h3; exact h3))⟩
theorem ch_M.lt {E : ch_E} {h : ch_H} {hi a : Nat} {e : va_E} {H : Heap} (hM : ch_M E h hi H) (h0 : h a = some e) : a < hi := by
  have h3 := (hM.2.2 _ _ h0).2.lt
  rw [hM.1] at h3
  exact h3
def ch_X (E : ch_E) (M : ch_D) (Xt : State → Array Value → Prop) (p : Program) (s : State) (m : MethodId) (args : Array Value) (meth : Method) (c : Code) : Prop :=
  p.tables.exec = Jvm.exec ∧ c.code = M.2.1 ∧ c.maxLocals = M.2.2.1 ∧ s.vm.findClass M.1.cls = some m.cls ∧ (∀ w ∈ ch_tb, w.before args s = true) ∧ meth.sig.returnType = M.2.2.2 ∧ meth.locks = false ∧ meth.name = M.1.name ∧ va_K E.1 vwCl E.2.1 s ∧ E.2.2 ≤ s.heap.size ∧ ch_N s ∧ Xt s args
/-- from here the machine comes to Z -/
def ch_G (l : Launch) (E : ch_E) (M : ch_D) (Xt : State → Array Value → Prop) (R : Room) (Z : List Frame → Array Value → State → State → Prop) (k n : Nat) (h : ch_H) (hi pc : Nat) (lv : List (Nat × Value)) (st : List Value) : Prop :=
  ∀ (p : Program) (e : Env) (s : State) (m : MethodId) (args : Array Value) (below : List Frame) (meth : Method) (c : Code) (H : Heap) (locs : List Loc) (ls : Array Slot), ch_X E M Xt p s m args meth c → ch_M E h hi H → va_S (fun q : Nat => E.2.2 ≤ q) s.heap H locs → lv_has ls M.2.2.1 lv → W p l e R s m args below meth c H locs k n (Z below args s) (F0 m pc ls st)
def ch_Qc (E : ch_E) (Q : Option Value → ch_H → Nat → Prop) : Array Value → State → Outcome → State → Prop := fun _ st oc t => (∃ (r : Option Value) (h' : ch_H) (hi' : Nat), oc = .returned r ∧ Q r h' hi' ∧ ch_M E h' hi' t.heap) ∧ va_F (fun q : Nat => E.2.2 ≤ q) st t
/-- a method's end -/
def ch_Z (E : ch_E) (mc ms : Nat) (Q : Option Value → ch_H → Nat → Prop) : List Frame → Array Value → State → State → Prop := fun below args s => MQ below (ch_Qc E Q) args s mc ms (fun q : Nat => E.2.2 ≤ q)
def ch_ws (M : ch_D) : List Cond := Cond.code M.1 M.2.1 M.2.2.1 M.2.2.2 :: ch_tb
/-- a method's contract -/
def ch_C (l : Launch) (E : ch_E) (M : ch_D) (rm : Room) (As : List Value) (h : ch_H) (hi : Nat) (Q : Option Value → ch_H → Nat → Prop) : Prop :=
  Met l M.1 (ch_ws M) rm (va_Pc As (fun U => ch_M E h hi U.heap ∧ va_K E.1 vwCl E.2.1 U ∧ ch_N U)) (ch_Qc E Q) rm.cells rm.slots (fun q : Nat => E.2.2 ≤ q)
def ch_T : State → Array Value → Prop := fun _ _ => True

section CORE
variable {l : Launch} {E : ch_E} {M : ch_D} {Xt : State → Array Value → Prop} {R : Room} {Z : List Frame → Array Value → State → State → Prop} {k n : Nat} {h : ch_H} {hi pc : Nat} {lv : List (Nat × Value)} {st : List Value}
theorem ch_Glv {lv' : List (Nat × Value)} (ks : List Nat) (e : lv_pick lv ks = lv') (kk : ch_G l E M Xt R Z k n h hi pc lv' st) : ch_G l E M Xt R Z k n h hi pc lv st := by
  intro p e1 s m args below meth c H locs ls X hM hS hl
  exact kk p e1 s m args below meth c H locs ls X hM hS (lv_sub hl ks e)
theorem ch_Gst {st2 : List Value} (e : st = st2) (kk : ch_G l E M Xt R Z k n h hi pc lv st2) : ch_G l E M Xt R Z k n h hi pc lv st := e ▸ kk
theorem ch_Ghp {h2 : ch_H} (e : h = h2) (kk : ch_G l E M Xt R Z k n h2 hi pc lv st) : ch_G l E M Xt R Z k n h hi pc lv st := e ▸ kk
theorem ch_Gwd {k2 n2 : Nat} (h1 : k ≤ k2) (h2 : n ≤ n2) (kk : ch_G l E M Xt R Z k2 n2 h hi pc lv st) : ch_G l E M Xt R Z k n h hi pc lv st := by
  intro p e s m args below meth c H locs ls X hM hS hl
  exact W.widen h1 h2 (kk p e s m args below meth c H locs ls X hM hS hl)
theorem gx_iadd {x y : Int32} (hd : decode M.2.1 pc = .ok (.iadd, 1)) (kk : ∀ v : Int32, v = x + y → ch_G l E M Xt R Z k n h hi (pc + 1) lv (.int v :: st)) : ch_G l E M Xt R Z k n h hi pc lv (.int y :: .int x :: st) := by
  intro p e s m args below meth c H locs ls X hM hS hl
  exact lv_iadd X.1 X.2.1 hd (kk _ rfl p e s m args below meth c H locs ls X hM hS hl)
theorem gx_isub {x y : Int32} (hd : decode M.2.1 pc = .ok (.isub, 1)) (kk : ∀ v : Int32, v = x - y → ch_G l E M Xt R Z k n h hi (pc + 1) lv (.int v :: st)) : ch_G l E M Xt R Z k n h hi pc lv (.int y :: .int x :: st) := by
  intro p e s m args below meth c H locs ls X hM hS hl
  exact lv_isub X.1 X.2.1 hd (kk _ rfl p e s m args below meth c H locs ls X hM hS hl)
theorem gx_imul {x y : Int32} (hd : decode M.2.1 pc = .ok (.imul, 1)) (kk : ∀ v : Int32, v = x * y → ch_G l E M Xt R Z k n h hi (pc + 1) lv (.int v :: st)) : ch_G l E M Xt R Z k n h hi pc lv (.int y :: .int x :: st) := by
  intro p e s m args below meth c H locs ls X hM hS hl
  exact lv_imul X.1 X.2.1 hd (kk _ rfl p e s m args below meth c H locs ls X hM hS hl)
theorem gx_iand {x y : Int32} (hd : decode M.2.1 pc = .ok (.iand, 1)) (kk : ∀ v : Int32, v = x &&& y → ch_G l E M Xt R Z k n h hi (pc + 1) lv (.int v :: st)) : ch_G l E M Xt R Z k n h hi pc lv (.int y :: .int x :: st) := by
  intro p e s m args below meth c H locs ls X hM hS hl
  exact lv_iand X.1 X.2.1 hd (kk _ rfl p e s m args below meth c H locs ls X hM hS hl)
theorem gx_ior {x y : Int32} (hd : decode M.2.1 pc = .ok (.ior, 1)) (kk : ∀ v : Int32, v = x ||| y → ch_G l E M Xt R Z k n h hi (pc + 1) lv (.int v :: st)) : ch_G l E M Xt R Z k n h hi pc lv (.int y :: .int x :: st) := by
  intro p e s m args below meth c H locs ls X hM hS hl
  exact lv_ior X.1 X.2.1 hd (kk _ rfl p e s m args below meth c H locs ls X hM hS hl)
theorem gx_ixor {x y : Int32} (hd : decode M.2.1 pc = .ok (.ixor, 1)) (kk : ∀ v : Int32, v = x ^^^ y → ch_G l E M Xt R Z k n h hi (pc + 1) lv (.int v :: st)) : ch_G l E M Xt R Z k n h hi pc lv (.int y :: .int x :: st) := by
  intro p e s m args below meth c H locs ls X hM hS hl
  exact lv_ixor X.1 X.2.1 hd (kk _ rfl p e s m args below meth c H locs ls X hM hS hl)
theorem gx_land {x y : Int64} (hd : decode M.2.1 pc = .ok (.land, 1)) (kk : ∀ v : Int64, v = x &&& y → ch_G l E M Xt R Z k n h hi (pc + 1) lv (.long v :: st)) : ch_G l E M Xt R Z k n h hi pc lv (.long y :: .long x :: st) := by
  intro p e s m args below meth c H locs ls X hM hS hl
  exact lv_land X.1 X.2.1 hd (kk _ rfl p e s m args below meth c H locs ls X hM hS hl)
theorem gx_lor {x y : Int64} (hd : decode M.2.1 pc = .ok (.lor, 1)) (kk : ∀ v : Int64, v = x ||| y → ch_G l E M Xt R Z k n h hi (pc + 1) lv (.long v :: st)) : ch_G l E M Xt R Z k n h hi pc lv (.long y :: .long x :: st) := by
  intro p e s m args below meth c H locs ls X hM hS hl
  exact lv_lor X.1 X.2.1 hd (kk _ rfl p e s m args below meth c H locs ls X hM hS hl)
theorem gx_lxor {x y : Int64} (hd : decode M.2.1 pc = .ok (.lxor, 1)) (kk : ∀ v : Int64, v = x ^^^ y → ch_G l E M Xt R Z k n h hi (pc + 1) lv (.long v :: st)) : ch_G l E M Xt R Z k n h hi pc lv (.long y :: .long x :: st) := by
  intro p e s m args below meth c H locs ls X hM hS hl
  exact lv_lxor X.1 X.2.1 hd (kk _ rfl p e s m args below meth c H locs ls X hM hS hl)
theorem gx_ladd {x y : Int64} (hd : decode M.2.1 pc = .ok (.ladd, 1)) (kk : ∀ v : Int64, v = x + y → ch_G l E M Xt R Z k n h hi (pc + 1) lv (.long v :: st)) : ch_G l E M Xt R Z k n h hi pc lv (.long y :: .long x :: st) := by
  intro p e s m args below meth c H locs ls X hM hS hl
  exact lv_ladd X.1 X.2.1 hd (kk _ rfl p e s m args below meth c H locs ls X hM hS hl)
theorem gx_lsub {x y : Int64} (hd : decode M.2.1 pc = .ok (.lsub, 1)) (kk : ∀ v : Int64, v = x - y → ch_G l E M Xt R Z k n h hi (pc + 1) lv (.long v :: st)) : ch_G l E M Xt R Z k n h hi pc lv (.long y :: .long x :: st) := by
  intro p e s m args below meth c H locs ls X hM hS hl
  exact lv_lsub X.1 X.2.1 hd (kk _ rfl p e s m args below meth c H locs ls X hM hS hl)
theorem gx_lmul {x y : Int64} (hd : decode M.2.1 pc = .ok (.lmul, 1)) (kk : ∀ v : Int64, v = x * y → ch_G l E M Xt R Z k n h hi (pc + 1) lv (.long v :: st)) : ch_G l E M Xt R Z k n h hi pc lv (.long y :: .long x :: st) := by
  intro p e s m args below meth c H locs ls X hM hS hl
  exact lv_lmul X.1 X.2.1 hd (kk _ rfl p e s m args below meth c H locs ls X hM hS hl)
theorem gx_idiv {x y : Int32} (hd : decode M.2.1 pc = .ok (.idiv, 1)) (hne : ¬ y = 0) (kk : ∀ v : Int32, v = x / y → ch_G l E M Xt R Z k n h hi (pc + 1) lv (.int v :: st)) : ch_G l E M Xt R Z k n h hi pc lv (.int y :: .int x :: st) := by
  intro p e s m args below meth c H locs ls X hM hS hl
  exact lv_idiv X.1 X.2.1 hd hne (kk _ rfl p e s m args below meth c H locs ls X hM hS hl)
theorem gx_irem {x y : Int32} (hd : decode M.2.1 pc = .ok (.irem, 1)) (hne : ¬ y = 0) (kk : ∀ v : Int32, v = x - x / y * y → ch_G l E M Xt R Z k n h hi (pc + 1) lv (.int v :: st)) : ch_G l E M Xt R Z k n h hi pc lv (.int y :: .int x :: st) := by
  intro p e s m args below meth c H locs ls X hM hS hl
  exact lv_irem X.1 X.2.1 hd hne (kk _ rfl p e s m args below meth c H locs ls X hM hS hl)
theorem gx_ldiv {x y : Int64} (hd : decode M.2.1 pc = .ok (.ldiv, 1)) (hne : ¬ y = 0) (kk : ∀ v : Int64, v = x / y → ch_G l E M Xt R Z k n h hi (pc + 1) lv (.long v :: st)) : ch_G l E M Xt R Z k n h hi pc lv (.long y :: .long x :: st) := by
  intro p e s m args below meth c H locs ls X hM hS hl
  exact lv_ldiv X.1 X.2.1 hd hne (kk _ rfl p e s m args below meth c H locs ls X hM hS hl)
theorem gx_lrem {x y : Int64} (hd : decode M.2.1 pc = .ok (.lrem, 1)) (hne : ¬ y = 0) (kk : ∀ v : Int64, v = x - x / y * y → ch_G l E M Xt R Z k n h hi (pc + 1) lv (.long v :: st)) : ch_G l E M Xt R Z k n h hi pc lv (.long y :: .long x :: st) := by
  intro p e s m args below meth c H locs ls X hM hS hl
  exact lv_lrem X.1 X.2.1 hd hne (kk _ rfl p e s m args below meth c H locs ls X hM hS hl)
theorem gx_ineg {x : Int32} (hd : decode M.2.1 pc = .ok (.ineg, 1)) (kk : ∀ v : Int32, v = -x → ch_G l E M Xt R Z k n h hi (pc + 1) lv (.int v :: st)) : ch_G l E M Xt R Z k n h hi pc lv (.int x :: st) := by
  intro p e s m args below meth c H locs ls X hM hS hl
  exact lv_ineg X.1 X.2.1 hd (kk _ rfl p e s m args below meth c H locs ls X hM hS hl)
theorem gx_lneg {x : Int64} (hd : decode M.2.1 pc = .ok (.lneg, 1)) (kk : ∀ v : Int64, v = -x → ch_G l E M Xt R Z k n h hi (pc + 1) lv (.long v :: st)) : ch_G l E M Xt R Z k n h hi pc lv (.long x :: st) := by
  intro p e s m args below meth c H locs ls X hM hS hl
  exact lv_lneg X.1 X.2.1 hd (kk _ rfl p e s m args below meth c H locs ls X hM hS hl)
theorem gx_i2l {x : Int32} (hd : decode M.2.1 pc = .ok (.i2l, 1)) (kk : ∀ v : Int64, v = x.toInt64 → ch_G l E M Xt R Z k n h hi (pc + 1) lv (.long v :: st)) : ch_G l E M Xt R Z k n h hi pc lv (.int x :: st) := by
  intro p e s m args below meth c H locs ls X hM hS hl
  exact lv_i2l X.1 X.2.1 hd rfl (kk _ rfl p e s m args below meth c H locs ls X hM hS hl)
theorem gx_l2i {x : Int64} (hd : decode M.2.1 pc = .ok (.l2i, 1)) (kk : ∀ v : Int32, v = x.toInt32 → ch_G l E M Xt R Z k n h hi (pc + 1) lv (.int v :: st)) : ch_G l E M Xt R Z k n h hi pc lv (.long x :: st) := by
  intro p e s m args below meth c H locs ls X hM hS hl
  exact lv_l2i X.1 X.2.1 hd rfl (kk _ rfl p e s m args below meth c H locs ls X hM hS hl)
theorem gx_lcmp {x y : Int64} (hd : decode M.2.1 pc = .ok (.lcmp, 1)) (kk : ch_G l E M Xt R Z k n h hi (pc + 1) lv (.int (lg_cmp x y) :: st)) : ch_G l E M Xt R Z k n h hi pc lv (.long y :: .long x :: st) := by
  intro p e s m args below meth c H locs ls X hM hS hl
  exact W.lcmp X.1 X.2.1 hd (kk p e s m args below meth c H locs ls X hM hS hl)
theorem gx_iconst {z : Int} (v : Int32) (hd : decode M.2.1 pc = .ok (.iconst z, 1)) (hv : Int32.ofInt z = v) (kk : ch_G l E M Xt R Z k n h hi (pc + 1) lv (.int v :: st)) : ch_G l E M Xt R Z k n h hi pc lv st := by
  intro p e s m args below meth c H locs ls X hM hS hl
  exact lv_iconst X.1 X.2.1 hd hv (kk p e s m args below meth c H locs ls X hM hS hl)
theorem gx_bipush {z : Int} (v : Int32) (hd : decode M.2.1 pc = .ok (.bipush z, 2)) (hv : (Int8.ofInt z).toInt32 = v) (kk : ch_G l E M Xt R Z k n h hi (pc + 2) lv (.int v :: st)) : ch_G l E M Xt R Z k n h hi pc lv st := by
  intro p e s m args below meth c H locs ls X hM hS hl
  exact lv_bipush X.1 X.2.1 hd hv (kk p e s m args below meth c H locs ls X hM hS hl)
theorem gx_sipush {z : Int} (v : Int32) (hd : decode M.2.1 pc = .ok (.sipush z, 3)) (hv : (Int16.ofInt z).toInt32 = v) (kk : ch_G l E M Xt R Z k n h hi (pc + 3) lv (.int v :: st)) : ch_G l E M Xt R Z k n h hi pc lv st := by
  intro p e s m args below meth c H locs ls X hM hS hl
  exact lv_sipush X.1 X.2.1 hd hv (kk p e s m args below meth c H locs ls X hM hS hl)
theorem gx_lconst {z : Fin 2} (v : Int64) (hd : decode M.2.1 pc = .ok (.lconst z, 1)) (hv : Int64.ofNat (z : Nat) = v) (kk : ch_G l E M Xt R Z k n h hi (pc + 1) lv (.long v :: st)) : ch_G l E M Xt R Z k n h hi pc lv st := by
  intro p e s m args below meth c H locs ls X hM hS hl
  exact lv_lconst X.1 X.2.1 hd hv (kk p e s m args below meth c H locs ls X hM hS hl)
theorem gx_ldc {idx : Nat} (v : Int32) (hc : Cond.constant M.1.cls idx v ∈ ch_tb) (hd : decode M.2.1 pc = .ok (.ldc idx, 2)) (kk : ch_G l E M Xt R Z k n h hi (pc + 2) lv (.int v :: st)) : ch_G l E M Xt R Z k n h hi pc lv st := by
  intro p e s m args below meth c H locs ls X hM hS hl
  exact lv_ldc X.1 X.2.1 X.2.2.2.1 (X.2.2.2.2.1 _ hc) hd (kk p e s m args below meth c H locs ls X hM hS hl)
theorem gx_ldc2 {idx : Nat} (v : Int64) (hc : Cond.constantLong M.1.cls idx v ∈ ch_tb) (hd : decode M.2.1 pc = .ok (.ldc2_w idx, 3)) (kk : ch_G l E M Xt R Z k n h hi (pc + 3) lv (.long v :: st)) : ch_G l E M Xt R Z k n h hi pc lv st := by
  intro p e s m args below meth c H locs ls X hM hS hl
  exact lv_ldc2 X.1 X.2.1 X.2.2.2.1 (X.2.2.2.2.1 _ hc) hd (kk p e s m args below meth c H locs ls X hM hS hl)
theorem gx_null (hd : decode M.2.1 pc = .ok (.aconst_null, 1)) (kk : ch_G l E M Xt R Z k n h hi (pc + 1) lv (.null :: st)) : ch_G l E M Xt R Z k n h hi pc lv st := by
  intro p e s m args below meth c H locs ls X hM hS hl
  exact lv_null X.1 X.2.1 hd (kk p e s m args below meth c H locs ls X hM hS hl)
theorem gx_iload_n {q : Fin 4} {i : Nat} {x : Int32} (j : Nat) (hd : decode M.2.1 pc = .ok (.iload_n q, 1)) (hq : (q : Nat) = i) (hj : lv[j]? = some (i, .int x)) (kk : ch_G l E M Xt R Z k n h hi (pc + 1) lv (.int x :: st)) : ch_G l E M Xt R Z k n h hi pc lv st := by
  intro p e s m args below meth c H locs ls X hM hS hl
  exact lv_iload_n X.1 X.2.1 hd hq (lv_at hl j hj) (kk p e s m args below meth c H locs ls X hM hS hl)
theorem gx_iload {i : Nat} {x : Int32} (j : Nat) (hd : decode M.2.1 pc = .ok (.iload i, 2)) (hj : lv[j]? = some (i, .int x)) (kk : ch_G l E M Xt R Z k n h hi (pc + 2) lv (.int x :: st)) : ch_G l E M Xt R Z k n h hi pc lv st := by
  intro p e s m args below meth c H locs ls X hM hS hl
  exact lv_iload X.1 X.2.1 hd (lv_at hl j hj) (kk p e s m args below meth c H locs ls X hM hS hl)
theorem gx_lload_n {q : Fin 4} {i : Nat} {x : Int64} (j : Nat) (hd : decode M.2.1 pc = .ok (.lload_n q, 1)) (hq : (q : Nat) = i) (hj : lv[j]? = some (i, .long x)) (kk : ch_G l E M Xt R Z k n h hi (pc + 1) lv (.long x :: st)) : ch_G l E M Xt R Z k n h hi pc lv st := by
  intro p e s m args below meth c H locs ls X hM hS hl
  exact lv_lload_n X.1 X.2.1 hd hq (lv_at hl j hj) (kk p e s m args below meth c H locs ls X hM hS hl)
theorem gx_lload {i : Nat} {x : Int64} (j : Nat) (hd : decode M.2.1 pc = .ok (.lload i, 2)) (hj : lv[j]? = some (i, .long x)) (kk : ch_G l E M Xt R Z k n h hi (pc + 2) lv (.long x :: st)) : ch_G l E M Xt R Z k n h hi pc lv st := by
  intro p e s m args below meth c H locs ls X hM hS hl
  exact lv_lload X.1 X.2.1 hd (lv_at hl j hj) (kk p e s m args below meth c H locs ls X hM hS hl)
theorem gx_aload_n {q : Fin 4} {i : Nat} {x : Nat} (j : Nat) (hd : decode M.2.1 pc = .ok (.aload_n q, 1)) (hq : (q : Nat) = i) (hj : lv[j]? = some (i, .ref x)) (kk : ch_G l E M Xt R Z k n h hi (pc + 1) lv (.ref x :: st)) : ch_G l E M Xt R Z k n h hi pc lv st := by
  intro p e s m args below meth c H locs ls X hM hS hl
  exact lv_aload_n X.1 X.2.1 hd hq (lv_at hl j hj) (kk p e s m args below meth c H locs ls X hM hS hl)
theorem gx_aload {i : Nat} {x : Nat} (j : Nat) (hd : decode M.2.1 pc = .ok (.aload i, 2)) (hj : lv[j]? = some (i, .ref x)) (kk : ch_G l E M Xt R Z k n h hi (pc + 2) lv (.ref x :: st)) : ch_G l E M Xt R Z k n h hi pc lv st := by
  intro p e s m args below meth c H locs ls X hM hS hl
  exact lv_aload X.1 X.2.1 hd (lv_at hl j hj) (kk p e s m args below meth c H locs ls X hM hS hl)
theorem gx_aload_nN {q : Fin 4} {i : Nat} (j : Nat) (hd : decode M.2.1 pc = .ok (.aload_n q, 1)) (hq : (q : Nat) = i) (hj : lv[j]? = some (i, .null)) (kk : ch_G l E M Xt R Z k n h hi (pc + 1) lv (.null :: st)) : ch_G l E M Xt R Z k n h hi pc lv st := by
  intro p e s m args below meth c H locs ls X hM hS hl
  exact lv_aload_nN X.1 X.2.1 hd hq (lv_at hl j hj) (kk p e s m args below meth c H locs ls X hM hS hl)
theorem gx_aloadN {i : Nat} (j : Nat) (hd : decode M.2.1 pc = .ok (.aload i, 2)) (hj : lv[j]? = some (i, .null)) (kk : ch_G l E M Xt R Z k n h hi (pc + 2) lv (.null :: st)) : ch_G l E M Xt R Z k n h hi pc lv st := by
  intro p e s m args below meth c H locs ls X hM hS hl
  exact lv_aloadN X.1 X.2.1 hd (lv_at hl j hj) (kk p e s m args below meth c H locs ls X hM hS hl)
theorem gx_istore_n {q0 : Fin 4} {i : Nat} {x : Int32} (lv' : List (Nat × Value)) (hd : decode M.2.1 pc = .ok (.istore_n q0, 1)) (hq : (q0 : Nat) = i) (hn : i < M.2.2.1) (hv : (i, Value.int x) :: lv.filter (fun q => !(q.1 == i) && !(q.1 + 1 == i && q.2.category == 2)) = lv') (kk : ch_G l E M Xt R Z k n h hi (pc + 1) lv' st) : ch_G l E M Xt R Z k n h hi pc lv (.int x :: st) := by
  intro p e s m args below meth c H locs ls X hM hS hl
  exact lv_istore_n X.1 X.2.1 hd hq hl hn hv (fun ls2 hl2 => kk p e s m args below meth c H locs ls2 X hM hS hl2)
theorem gx_istore {i : Nat} {x : Int32} (lv' : List (Nat × Value)) (hd : decode M.2.1 pc = .ok (.istore i, 2)) (hn : i < M.2.2.1) (hv : (i, Value.int x) :: lv.filter (fun q => !(q.1 == i) && !(q.1 + 1 == i && q.2.category == 2)) = lv') (kk : ch_G l E M Xt R Z k n h hi (pc + 2) lv' st) : ch_G l E M Xt R Z k n h hi pc lv (.int x :: st) := by
  intro p e s m args below meth c H locs ls X hM hS hl
  exact lv_istore X.1 X.2.1 hd hl hn hv (fun ls2 hl2 => kk p e s m args below meth c H locs ls2 X hM hS hl2)
theorem gx_lstore_n {q0 : Fin 4} {i : Nat} {x : Int64} (lv' : List (Nat × Value)) (hd : decode M.2.1 pc = .ok (.lstore_n q0, 1)) (hq : (q0 : Nat) = i) (hn : i + 1 < M.2.2.1) (hv : (i, Value.long x) :: lv.filter (fun q => !(q.1 == i) && (!(q.1 == i + 1) && !(q.1 + 1 == i && q.2.category == 2))) = lv') (kk : ch_G l E M Xt R Z k n h hi (pc + 1) lv' st) : ch_G l E M Xt R Z k n h hi pc lv (.long x :: st) := by
  intro p e s m args below meth c H locs ls X hM hS hl
  exact lv_lstore_n X.1 X.2.1 hd hq hl hn hv (fun ls2 hl2 => kk p e s m args below meth c H locs ls2 X hM hS hl2)
theorem gx_lstore {i : Nat} {x : Int64} (lv' : List (Nat × Value)) (hd : decode M.2.1 pc = .ok (.lstore i, 2)) (hn : i + 1 < M.2.2.1) (hv : (i, Value.long x) :: lv.filter (fun q => !(q.1 == i) && (!(q.1 == i + 1) && !(q.1 + 1 == i && q.2.category == 2))) = lv') (kk : ch_G l E M Xt R Z k n h hi (pc + 2) lv' st) : ch_G l E M Xt R Z k n h hi pc lv (.long x :: st) := by
  intro p e s m args below meth c H locs ls X hM hS hl
  exact lv_lstore X.1 X.2.1 hd hl hn hv (fun ls2 hl2 => kk p e s m args below meth c H locs ls2 X hM hS hl2)
theorem gx_astore_n {q0 : Fin 4} {i : Nat} {x : Nat} (lv' : List (Nat × Value)) (hd : decode M.2.1 pc = .ok (.astore_n q0, 1)) (hq : (q0 : Nat) = i) (hn : i < M.2.2.1) (hv : (i, Value.ref x) :: lv.filter (fun q => !(q.1 == i) && !(q.1 + 1 == i && q.2.category == 2)) = lv') (kk : ch_G l E M Xt R Z k n h hi (pc + 1) lv' st) : ch_G l E M Xt R Z k n h hi pc lv (.ref x :: st) := by
  intro p e s m args below meth c H locs ls X hM hS hl
  exact lv_astore_n X.1 X.2.1 hd hq hl hn hv (fun ls2 hl2 => kk p e s m args below meth c H locs ls2 X hM hS hl2)
theorem gx_astore {i : Nat} {x : Nat} (lv' : List (Nat × Value)) (hd : decode M.2.1 pc = .ok (.astore i, 2)) (hn : i < M.2.2.1) (hv : (i, Value.ref x) :: lv.filter (fun q => !(q.1 == i) && !(q.1 + 1 == i && q.2.category == 2)) = lv') (kk : ch_G l E M Xt R Z k n h hi (pc + 2) lv' st) : ch_G l E M Xt R Z k n h hi pc lv (.ref x :: st) := by
  intro p e s m args below meth c H locs ls X hM hS hl
  exact lv_astore X.1 X.2.1 hd hl hn hv (fun ls2 hl2 => kk p e s m args below meth c H locs ls2 X hM hS hl2)
theorem gx_astore_nN {q0 : Fin 4} {i : Nat} (lv' : List (Nat × Value)) (hd : decode M.2.1 pc = .ok (.astore_n q0, 1)) (hq : (q0 : Nat) = i) (hn : i < M.2.2.1) (hv : (i, Value.null) :: lv.filter (fun q => !(q.1 == i) && !(q.1 + 1 == i && q.2.category == 2)) = lv') (kk : ch_G l E M Xt R Z k n h hi (pc + 1) lv' st) : ch_G l E M Xt R Z k n h hi pc lv (.null :: st) := by
  intro p e s m args below meth c H locs ls X hM hS hl
  exact lv_astore_nN X.1 X.2.1 hd hq hl hn hv (fun ls2 hl2 => kk p e s m args below meth c H locs ls2 X hM hS hl2)
theorem gx_astoreN {i : Nat} (lv' : List (Nat × Value)) (hd : decode M.2.1 pc = .ok (.astore i, 2)) (hn : i < M.2.2.1) (hv : (i, Value.null) :: lv.filter (fun q => !(q.1 == i) && !(q.1 + 1 == i && q.2.category == 2)) = lv') (kk : ch_G l E M Xt R Z k n h hi (pc + 2) lv' st) : ch_G l E M Xt R Z k n h hi pc lv (.null :: st) := by
  intro p e s m args below meth c H locs ls X hM hS hl
  exact lv_astoreN X.1 X.2.1 hd hl hn hv (fun ls2 hl2 => kk p e s m args below meth c H locs ls2 X hM hS hl2)
theorem gx_iinc {i : Nat} {z : Int} {x : Int32} (j : Nat) (lv' : Int32 → List (Nat × Value)) (hd : decode M.2.1 pc = .ok (.iinc i z, 3)) (hj : lv[j]? = some (i, .int x)) (hn : i < M.2.2.1) (hv : ∀ v, (i, Value.int v) :: lv.filter (fun q => !(q.1 == i) && !(q.1 + 1 == i && q.2.category == 2)) = lv' v) (kk : ∀ v : Int32, v = x + Int32.ofInt z → ch_G l E M Xt R Z k n h hi (pc + 3) (lv' v) st) : ch_G l E M Xt R Z k n h hi pc lv st := by
  intro p e s m args below meth c H locs ls X hM hS hl
  exact lv_iinc (v := x + Int32.ofInt z) X.1 X.2.1 hd hl hj rfl hn (hv _) (fun ls2 hl2 => kk _ rfl p e s m args below meth c H locs ls2 X hM hS hl2)
theorem gx_dup {v : Value} (hd : decode M.2.1 pc = .ok (.dup, 1)) (hv : v.category = 1) (kk : ch_G l E M Xt R Z k n h hi (pc + 1) lv (v :: v :: st)) : ch_G l E M Xt R Z k n h hi pc lv (v :: st) := by
  intro p e s m args below meth c H locs ls X hM hS hl
  exact lv_dup X.1 X.2.1 hd hv (kk p e s m args below meth c H locs ls X hM hS hl)
theorem gx_pop {v : Value} (hd : decode M.2.1 pc = .ok (.pop, 1)) (hv : v.category = 1) (kk : ch_G l E M Xt R Z k n h hi (pc + 1) lv st) : ch_G l E M Xt R Z k n h hi pc lv (v :: st) := by
  intro p e s m args below meth c H locs ls X hM hS hl
  exact lv_pop X.1 X.2.1 hd hv (kk p e s m args below meth c H locs ls X hM hS hl)
theorem gx_dup_x1 {v u : Value} (hd : decode M.2.1 pc = .ok (.dup_x1, 1)) (hv : v.category = 1) (hu : u.category = 1) (kk : ch_G l E M Xt R Z k n h hi (pc + 1) lv (v :: u :: v :: st)) : ch_G l E M Xt R Z k n h hi pc lv (v :: u :: st) := by
  intro p e s m args below meth c H locs ls X hM hS hl
  exact lv_dup_x1 X.1 X.2.1 hd hv hu (kk p e s m args below meth c H locs ls X hM hS hl)
theorem gx_dup_x2 {v u t : Value} (hd : decode M.2.1 pc = .ok (.dup_x2, 1)) (hv : v.category = 1) (hu : u.category = 1) (ht : t.category = 1) (kk : ch_G l E M Xt R Z k n h hi (pc + 1) lv (v :: u :: t :: v :: st)) : ch_G l E M Xt R Z k n h hi pc lv (v :: u :: t :: st) := by
  intro p e s m args below meth c H locs ls X hM hS hl
  exact lv_dup_x2 X.1 X.2.1 hd hv hu ht (kk p e s m args below meth c H locs ls X hM hS hl)
theorem gx_dup2_11 {v u : Value} (hd : decode M.2.1 pc = .ok (.dup2, 1)) (hv : v.category = 1) (hu : u.category = 1) (kk : ch_G l E M Xt R Z k n h hi (pc + 1) lv (v :: u :: v :: u :: st)) : ch_G l E M Xt R Z k n h hi pc lv (v :: u :: st) := by
  intro p e s m args below meth c H locs ls X hM hS hl
  exact lv_dup2_11 X.1 X.2.1 hd hv hu (kk p e s m args below meth c H locs ls X hM hS hl)
theorem gx_dup2_2 {v : Value} (hd : decode M.2.1 pc = .ok (.dup2, 1)) (hv : v.category = 2) (kk : ch_G l E M Xt R Z k n h hi (pc + 1) lv (v :: v :: st)) : ch_G l E M Xt R Z k n h hi pc lv (v :: st) := by
  intro p e s m args below meth c H locs ls X hM hS hl
  exact lv_dup2_2 X.1 X.2.1 hd hv (kk p e s m args below meth c H locs ls X hM hS hl)
theorem gx_if_eq {x : Int32} {off : Int} (tgt : Nat) (hd : decode M.2.1 pc = .ok (.ifCond .eq off, 3)) (ht : (pc : Int) + off = (tgt : Int)) (kt : x = 0 → ch_G l E M Xt R Z k n h hi tgt lv st) (kf : ¬ x = 0 → ch_G l E M Xt R Z k n h hi (pc + 3) lv st) : ch_G l E M Xt R Z k n h hi pc lv (.int x :: st) := by
  intro p e s m args below meth c H locs ls X hM hS hl
  exact lv_if_eq X.1 X.2.1 hd ht (fun q => kt q p e s m args below meth c H locs ls X hM hS hl) (fun q => kf q p e s m args below meth c H locs ls X hM hS hl)
theorem gx_icmp_eq {x y : Int32} {off : Int} (tgt : Nat) (hd : decode M.2.1 pc = .ok (.if_icmp .eq off, 3)) (ht : (pc : Int) + off = (tgt : Int)) (kt : x = y → ch_G l E M Xt R Z k n h hi tgt lv st) (kf : ¬ x = y → ch_G l E M Xt R Z k n h hi (pc + 3) lv st) : ch_G l E M Xt R Z k n h hi pc lv (.int y :: .int x :: st) := by
  intro p e s m args below meth c H locs ls X hM hS hl
  exact lv_icmp_eq X.1 X.2.1 hd ht (fun q => kt q p e s m args below meth c H locs ls X hM hS hl) (fun q => kf q p e s m args below meth c H locs ls X hM hS hl)
theorem gx_if_ne {x : Int32} {off : Int} (tgt : Nat) (hd : decode M.2.1 pc = .ok (.ifCond .ne off, 3)) (ht : (pc : Int) + off = (tgt : Int)) (kt : ¬ x = 0 → ch_G l E M Xt R Z k n h hi tgt lv st) (kf : x = 0 → ch_G l E M Xt R Z k n h hi (pc + 3) lv st) : ch_G l E M Xt R Z k n h hi pc lv (.int x :: st) := by
  intro p e s m args below meth c H locs ls X hM hS hl
  exact lv_if_ne X.1 X.2.1 hd ht (fun q => kt q p e s m args below meth c H locs ls X hM hS hl) (fun q => kf q p e s m args below meth c H locs ls X hM hS hl)
theorem gx_icmp_ne {x y : Int32} {off : Int} (tgt : Nat) (hd : decode M.2.1 pc = .ok (.if_icmp .ne off, 3)) (ht : (pc : Int) + off = (tgt : Int)) (kt : ¬ x = y → ch_G l E M Xt R Z k n h hi tgt lv st) (kf : x = y → ch_G l E M Xt R Z k n h hi (pc + 3) lv st) : ch_G l E M Xt R Z k n h hi pc lv (.int y :: .int x :: st) := by
  intro p e s m args below meth c H locs ls X hM hS hl
  exact lv_icmp_ne X.1 X.2.1 hd ht (fun q => kt q p e s m args below meth c H locs ls X hM hS hl) (fun q => kf q p e s m args below meth c H locs ls X hM hS hl)
theorem gx_if_lt {x : Int32} {off : Int} (tgt : Nat) (hd : decode M.2.1 pc = .ok (.ifCond .lt off, 3)) (ht : (pc : Int) + off = (tgt : Int)) (kt : x < 0 → ch_G l E M Xt R Z k n h hi tgt lv st) (kf : ¬ x < 0 → ch_G l E M Xt R Z k n h hi (pc + 3) lv st) : ch_G l E M Xt R Z k n h hi pc lv (.int x :: st) := by
  intro p e s m args below meth c H locs ls X hM hS hl
  exact lv_if_lt X.1 X.2.1 hd ht (fun q => kt q p e s m args below meth c H locs ls X hM hS hl) (fun q => kf q p e s m args below meth c H locs ls X hM hS hl)
theorem gx_icmp_lt {x y : Int32} {off : Int} (tgt : Nat) (hd : decode M.2.1 pc = .ok (.if_icmp .lt off, 3)) (ht : (pc : Int) + off = (tgt : Int)) (kt : x < y → ch_G l E M Xt R Z k n h hi tgt lv st) (kf : ¬ x < y → ch_G l E M Xt R Z k n h hi (pc + 3) lv st) : ch_G l E M Xt R Z k n h hi pc lv (.int y :: .int x :: st) := by
  intro p e s m args below meth c H locs ls X hM hS hl
  exact lv_icmp_lt X.1 X.2.1 hd ht (fun q => kt q p e s m args below meth c H locs ls X hM hS hl) (fun q => kf q p e s m args below meth c H locs ls X hM hS hl)
theorem gx_if_ge {x : Int32} {off : Int} (tgt : Nat) (hd : decode M.2.1 pc = .ok (.ifCond .ge off, 3)) (ht : (pc : Int) + off = (tgt : Int)) (kt : 0 ≤ x → ch_G l E M Xt R Z k n h hi tgt lv st) (kf : ¬ 0 ≤ x → ch_G l E M Xt R Z k n h hi (pc + 3) lv st) : ch_G l E M Xt R Z k n h hi pc lv (.int x :: st) := by
  intro p e s m args below meth c H locs ls X hM hS hl
  exact lv_if_ge X.1 X.2.1 hd ht (fun q => kt q p e s m args below meth c H locs ls X hM hS hl) (fun q => kf q p e s m args below meth c H locs ls X hM hS hl)
theorem gx_icmp_ge {x y : Int32} {off : Int} (tgt : Nat) (hd : decode M.2.1 pc = .ok (.if_icmp .ge off, 3)) (ht : (pc : Int) + off = (tgt : Int)) (kt : y ≤ x → ch_G l E M Xt R Z k n h hi tgt lv st) (kf : ¬ y ≤ x → ch_G l E M Xt R Z k n h hi (pc + 3) lv st) : ch_G l E M Xt R Z k n h hi pc lv (.int y :: .int x :: st) := by
  intro p e s m args below meth c H locs ls X hM hS hl
  exact lv_icmp_ge X.1 X.2.1 hd ht (fun q => kt q p e s m args below meth c H locs ls X hM hS hl) (fun q => kf q p e s m args below meth c H locs ls X hM hS hl)
theorem gx_if_gt {x : Int32} {off : Int} (tgt : Nat) (hd : decode M.2.1 pc = .ok (.ifCond .gt off, 3)) (ht : (pc : Int) + off = (tgt : Int)) (kt : 0 < x → ch_G l E M Xt R Z k n h hi tgt lv st) (kf : ¬ 0 < x → ch_G l E M Xt R Z k n h hi (pc + 3) lv st) : ch_G l E M Xt R Z k n h hi pc lv (.int x :: st) := by
  intro p e s m args below meth c H locs ls X hM hS hl
  exact lv_if_gt X.1 X.2.1 hd ht (fun q => kt q p e s m args below meth c H locs ls X hM hS hl) (fun q => kf q p e s m args below meth c H locs ls X hM hS hl)
theorem gx_icmp_gt {x y : Int32} {off : Int} (tgt : Nat) (hd : decode M.2.1 pc = .ok (.if_icmp .gt off, 3)) (ht : (pc : Int) + off = (tgt : Int)) (kt : y < x → ch_G l E M Xt R Z k n h hi tgt lv st) (kf : ¬ y < x → ch_G l E M Xt R Z k n h hi (pc + 3) lv st) : ch_G l E M Xt R Z k n h hi pc lv (.int y :: .int x :: st) := by
  intro p e s m args below meth c H locs ls X hM hS hl
  exact lv_icmp_gt X.1 X.2.1 hd ht (fun q => kt q p e s m args below meth c H locs ls X hM hS hl) (fun q => kf q p e s m args below meth c H locs ls X hM hS hl)
theorem gx_if_le {x : Int32} {off : Int} (tgt : Nat) (hd : decode M.2.1 pc = .ok (.ifCond .le off, 3)) (ht : (pc : Int) + off = (tgt : Int)) (kt : x ≤ 0 → ch_G l E M Xt R Z k n h hi tgt lv st) (kf : ¬ x ≤ 0 → ch_G l E M Xt R Z k n h hi (pc + 3) lv st) : ch_G l E M Xt R Z k n h hi pc lv (.int x :: st) := by
  intro p e s m args below meth c H locs ls X hM hS hl
  exact lv_if_le X.1 X.2.1 hd ht (fun q => kt q p e s m args below meth c H locs ls X hM hS hl) (fun q => kf q p e s m args below meth c H locs ls X hM hS hl)
theorem gx_icmp_le {x y : Int32} {off : Int} (tgt : Nat) (hd : decode M.2.1 pc = .ok (.if_icmp .le off, 3)) (ht : (pc : Int) + off = (tgt : Int)) (kt : x ≤ y → ch_G l E M Xt R Z k n h hi tgt lv st) (kf : ¬ x ≤ y → ch_G l E M Xt R Z k n h hi (pc + 3) lv st) : ch_G l E M Xt R Z k n h hi pc lv (.int y :: .int x :: st) := by
  intro p e s m args below meth c H locs ls X hM hS hl
  exact lv_icmp_le X.1 X.2.1 hd ht (fun q => kt q p e s m args below meth c H locs ls X hM hS hl) (fun q => kf q p e s m args below meth c H locs ls X hM hS hl)
theorem gx_goto {off : Int} (tgt : Nat) (hd : decode M.2.1 pc = .ok (.goto off, 3)) (ht : (pc : Int) + off = (tgt : Int)) (kk : ch_G l E M Xt R Z k n h hi tgt lv st) : ch_G l E M Xt R Z k n h hi pc lv st := by
  intro p e s m args below meth c H locs ls X hM hS hl
  exact lv_goto X.1 X.2.1 hd ht (kk p e s m args below meth c H locs ls X hM hS hl)
theorem gx_ifnull {r : Option Nat} {off : Int} (tgt : Nat) (hd : decode M.2.1 pc = .ok (.ifnull off, 3)) (ht : (pc : Int) + off = (tgt : Int)) (kt : r = none → ch_G l E M Xt R Z k n h hi tgt lv st) (kf : ∀ a, r = some a → ch_G l E M Xt R Z k n h hi (pc + 3) lv st) : ch_G l E M Xt R Z k n h hi pc lv (va_rf r :: st) := by
  intro p e s m args below meth c H locs ls X hM hS hl
  cases r with
  | none => exact lv_ifnullN X.1 X.2.1 hd ht (kt rfl p e s m args below meth c H locs ls X hM hS hl)
  | some a => exact lv_ifnull X.1 X.2.1 hd (kf a rfl p e s m args below meth c H locs ls X hM hS hl)
theorem gx_ifnonnull {r : Option Nat} {off : Int} (tgt : Nat) (hd : decode M.2.1 pc = .ok (.ifnonnull off, 3)) (ht : (pc : Int) + off = (tgt : Int)) (kt : ∀ a, r = some a → ch_G l E M Xt R Z k n h hi tgt lv st) (kf : r = none → ch_G l E M Xt R Z k n h hi (pc + 3) lv st) : ch_G l E M Xt R Z k n h hi pc lv (va_rf r :: st) := by
  intro p e s m args below meth c H locs ls X hM hS hl
  cases r with
  | none => exact lv_ifnonnullN X.1 X.2.1 hd (kf rfl p e s m args below meth c H locs ls X hM hS hl)
  | some a => exact lv_ifnonnull X.1 X.2.1 hd ht (kt a rfl p e s m args below meth c H locs ls X hM hS hl)
theorem gx_lookup {dflt : Int} {ps : Array (Int × Int)} {len : Nat} {x : Int32} {off : Int} (tgt : Nat) (hd : decode M.2.1 pc = .ok (.lookupswitch dflt ps, len)) (hp : (ps.toList.zip (ps.toList.drop 1)).all (fun (a, next) => a.1 < next.1) = true) (ho : Op.lookupswitch.offset ps.toList dflt x.toInt = off) (ht : (pc : Int) + off = (tgt : Int)) (kk : ch_G l E M Xt R Z k n h hi tgt lv st) : ch_G l E M Xt R Z k n h hi pc lv (.int x :: st) := by
  intro p e s m args below meth c H locs ls X hM hS hl
  exact lv_lookup X.1 X.2.1 hd hp ho ht (kk p e s m args below meth c H locs ls X hM hS hl)
theorem gx_tableOut {dflt lo hh : Int} {offs : Array Int} {len : Nat} {x : Int32} (tgt : Nat) (hd : decode M.2.1 pc = .ok (.tableswitch dflt lo hh offs, len)) (hx : x.toInt < lo ∨ hh < x.toInt) (ht : (pc : Int) + dflt = (tgt : Int)) (kk : ch_G l E M Xt R Z k n h hi tgt lv st) : ch_G l E M Xt R Z k n h hi pc lv (.int x :: st) := by
  intro p e s m args below meth c H locs ls X hM hS hl
  exact lv_tableOut X.1 X.2.1 hd hx ht (kk p e s m args below meth c H locs ls X hM hS hl)
theorem gx_tableIn {dflt lo hh : Int} {offs : Array Int} {len : Nat} {x : Int32} {off : Int} (tgt : Nat) (hd : decode M.2.1 pc = .ok (.tableswitch dflt lo hh offs, len)) (h1 : ¬ x.toInt < lo) (h2 : ¬ hh < x.toInt) (ho : offs[(x.toInt - lo).toNat]? = some off) (ht : (pc : Int) + off = (tgt : Int)) (kk : ch_G l E M Xt R Z k n h hi tgt lv st) : ch_G l E M Xt R Z k n h hi pc lv (.int x :: st) := by
  intro p e s m args below meth c H locs ls X hM hS hl
  exact lv_tableIn X.1 X.2.1 hd h1 h2 ho ht (kk p e s m args below meth c H locs ls X hM hS hl)
/-- one of our cells, as a world of one -/
theorem ch_one {E : ch_E} {h : ch_H} {hi a : Nat} {e : va_E} {H : Heap} (hM : ch_M E h hi H) (ha : h a = some e) : va_P E.1 vwCl [(a, e)] H := by
  intro i q hq
  cases i with
  | zero => cases hq; exact (hM.2.2 _ _ ha).2
  | succ i => simp at hq

theorem gx_get {a ci idx f N : Nat} {C : String} {T : u_T} {fs : List Value} {v : Value} (hc : vwCl[ci]? = some (C, T, N)) (hin : ∀ w ∈ u_ws C T N, w ∈ ch_tb) (hf : f < N) (hlink : Cond.fieldLink M.1.cls idx (T f).1 (T f).2.1 (T f).2.2.1 ∈ ch_tb) (hd : decode M.2.1 pc = .ok (.getfield idx, 3)) (ha : h a = some (.inr (ci, fs))) (hv : fs[f]? = some v) (kk : ch_G l E M Xt R Z k n h hi (pc + 3) lv (v :: st)) : ch_G l E M Xt R Z k n h hi pc lv (.ref a :: st) := by
  intro p e s m args below meth c H locs ls X hM hS hl
  exact va_get X.1 X.2.1 X.2.2.2.2.1 hin X.2.2.2.1 X.2.2.2.2.2.2.2.2.1 (ch_one hM ha) 0 rfl hc f hf (X.2.2.2.2.1 _ hlink) (fun _ h9 => h9) hv hd (kk p e s m args below meth c H locs ls X hM hS hl)
theorem gx_put {a ci idx f N : Nat} {C : String} {T : u_T} {fs : List Value} {v : Value} {ty : FieldType} (ty0 : Nat → FieldType) (hc : vwCl[ci]? = some (C, T, N)) (hin : ∀ w ∈ u_ws C T N, w ∈ ch_tb) (hty : ∀ k, k < N → parseFieldDescriptor (T k).2.2.1 = some (ty0 k)) (hnm : ∀ a, a < N → ∀ b, b < N → a ≠ b → (T a).2.1 ≠ (T b).2.1) (hf : f < N) (hlink : Cond.fieldLink M.1.cls idx (T f).1 (T f).2.1 (T f).2.2.1 ∈ ch_tb) (hfin : (T f).2.2.2 = false ∨ ((T f).2.2.2 = true ∧ M.1.name = "<init>" ∧ (T f).1 = M.1.cls)) (hde : parseFieldDescriptor (T f).2.2.1 = some ty) (hn : narrow ty v = v) (hfit : fits ty v = true) (hd : decode M.2.1 pc = .ok (.putfield idx, 3)) (ha : h a = some (.inr (ci, fs))) (hlt : f < fs.length) (kk : ch_G l E M Xt R Z k n (ch_set h a (.inr (ci, fs.set f v))) hi (pc + 3) lv st) : ch_G l E M Xt R Z k n h hi pc lv (v :: .ref a :: st) := by
  intro p e s m args below meth c H locs ls X hM hS hl
  obtain ⟨hx, hb, -, hown, hts, -, -, hname, hK, -, hN, -⟩ := id X
  have hap := va_apart (own := M.1.cls) hts hin ty0 hty hnm hK hc
  obtain ⟨hA, r, h1, cell, q1, q2, q3, q4⟩ := hM.2.2 a _ ha
  have hr' : r = (C, T, N) := Option.some.inj (h1.symm.trans hc)
  subst hr'
  obtain ⟨hSl, hfc, kC, hkC, hkind⟩ := hK.1 ci _ hc
  obtain ⟨cf, kf, fi, fd, hi', hsl⟩ := hSl f hf
  have hst := (u_facts hfc hkC (u_lays hts hin hf) hi').1
  have done : ∀ H' : Heap, H'[a]? = some (cell.setSlot fd.slot v) → H'.size = H.size → (∀ q, q ≠ a → H'[q]? = H[q]?) → W p l e R s m args below meth c H' (locs ++ [⟨a, fd.slot⟩]) k n (Z below args s) (F0 m (pc + 3) ls st) := by
    intro H' e1 e2 e3
    rw [hsl] at e1 ⊢
    exact kk p e s m args below meth c H' _ ls X (hM.put ha ⟨_, hc, t_OB.to (V := updV (vp_V fs) f v) ⟨_, e1, q2, q3, t_set q4 hap hf v⟩ (fun j _ => vp_updV_set hlt v j)⟩ e2 e3) (hS.put e2 e3 hA) hl
  have hlay := hts _ (hin _ (u_in_lay hf))
  unfold u_lay at hlay
  rcases hfin with hfin | ⟨hfin, hin2, hdecl⟩
  · rw [if_neg (by rw [hfin]; decide)] at hlay
    have h6 := u_store hfc hkC hkind hlay hi' hde hn hfit
    exact W.putK hx hb (f := fd) ⟨hown, hts _ hlink, ⟨_, _, _, hi'⟩, hst⟩ (by rw [q2]; exact h6) q1 q3 (by rw [hsl]; exact k2_hasslot (q4 f hf)) rfl rfl hd done
  · rw [if_pos hfin] at hlay
    have hcf : m.cls = cf := by
      obtain ⟨_, _, c', _, _, _, -, -, hf', -, -, -, hown2, -⟩ := Cond.laysFinal_spec hlay
      have e1 : c' = cf := by have := hi'.symm.trans hf'; simp at this; exact this.1.symm
      rw [hdecl] at hown2
      rw [← e1]; exact Option.some.inj (hown.symm.trans hown2)
    have h6 := u_fits hfc hkC hkind (Or.inr hlay) hi' hde hn hfit
    exact W.putFinK hx hb hown (hts _ hlink) hi' hst hcf (hname.trans hin2) (by rw [q2]; exact h6) q1 q3 (by rw [hsl]; exact k2_hasslot (q4 f hf)) rfl rfl hd done
theorem gx_iald {a N : Nat} {cA : ClassId} {g : Nat → Int32} {i : Int32} (t : Nat) (ht : E.2.1[t]? = some (cA, .int)) (hd : decode M.2.1 pc = .ok (.iaload, 1)) (ha : h a = some (.inl (cA, N, .inl g))) (hin : vp_in i N) (kk : ∀ v : Int32, v = g i.toNatClampNeg → ch_G l E M Xt R Z k n h hi (pc + 1) lv (.int v :: st)) : ch_G l E M Xt R Z k n h hi pc lv (.int i :: .ref a :: st) := by
  intro p e s m args below meth c H locs ls X hM hS hl
  exact va_iald X.1 X.2.1 X.2.2.2.2.2.2.2.2.1 (ch_one hM ha) 0 t rfl ht hin hd (kk _ rfl p e s m args below meth c H locs ls X hM hS hl)
theorem gx_aald {a N : Nat} {cA : ClassId} {C : String} {g : Nat → Option Nat} {i : Int32} (t : Nat) (ht : E.2.1[t]? = some (cA, .object C)) (hd : decode M.2.1 pc = .ok (.aaload, 1)) (ha : h a = some (.inl (cA, N, .inr (.inr (.inr (.inr g)))))) (hin : vp_in i N) (kk : ∀ r : Option Nat, r = g i.toNatClampNeg → ch_G l E M Xt R Z k n h hi (pc + 1) lv (va_rf r :: st)) : ch_G l E M Xt R Z k n h hi pc lv (.int i :: .ref a :: st) := by
  intro p e s m args below meth c H locs ls X hM hS hl
  exact va_aldq X.1 X.2.1 X.2.2.2.2.2.2.2.2.1 (ch_one hM ha) 0 t rfl ht hin hd (kk _ rfl p e s m args below meth c H locs ls X hM hS hl)
theorem gx_alen {a : Nat} {cA : ClassId} {x : vp_A} {ty : FieldType} (t : Nat) (v : Int32) (ht : E.2.1[t]? = some (cA, ty)) (hd : decode M.2.1 pc = .ok (.arraylength, 1)) (ha : h a = some (.inl (cA, x))) (hv : Int32.ofNat x.1 = v) (kk : ch_G l E M Xt R Z k n h hi (pc + 1) lv (.int v :: st)) : ch_G l E M Xt R Z k n h hi pc lv (.ref a :: st) := by
  intro p e s m args below meth c H locs ls X hM hS hl
  exact va_alen X.1 X.2.1 X.2.2.2.2.2.2.2.2.1 (ch_one hM ha) 0 t rfl ht hv hd (kk p e s m args below meth c H locs ls X hM hS hl)
theorem gx_iast {a N : Nat} {cA : ClassId} {g : Nat → Int32} {i x : Int32} (t : Nat) (ht : E.2.1[t]? = some (cA, .int)) (hd : decode M.2.1 pc = .ok (.iastore, 1)) (ha : h a = some (.inl (cA, N, .inl g))) (hin : vp_in i N) (kk : ch_G l E M Xt R Z k n (ch_set h a (.inl (cA, N, .inl (upd g i.toNatClampNeg x)))) hi (pc + 1) lv st) : ch_G l E M Xt R Z k n h hi pc lv (.int x :: .int i :: .ref a :: st) := by
  intro p e s m args below meth c H locs ls X hM hS hl
  obtain ⟨hx, hb, -, hown, hts, -, -, hname, hK, -, hN, -⟩ := id X
  obtain ⟨hA, hcell⟩ := hM.2.2 a _ ha
  refine W.iast hx hb hcell ((hK.2 t _ ht).1 N (fun j => .int (g j))) (fun q => by cases q) (by show ¬ (i < 0 ∨ (arrV _ _ _).slots.size ≤ _); rw [arrV_size]; exact hin) rfl rfl hd fun H1 e1 z oq => ?_
  refine kk p e s m args below meth c H1 _ ls X (hM.put ha ?_ z oq) (hS.put z oq hA) hl
  show H1[a]? = some (vp_cell _ _)
  rw [e1]
  rw [vp_cell_i, vp_cell_i, arrV_store]
  congr 2
  funext q
  by_cases hq : q = i.toNatClampNeg
  · subst hq
    simp [updV, upd]
  · simp [updV, upd, hq]
theorem gx_aast {a N v ci : Nat} {cA : ClassId} {r : vw_C} {C : String} {vs : List Value} {g : Nat → Option Nat} {i : Int32} (t : Nat) (ht : E.2.1[t]? = some (cA, .object C)) (hc : vwCl[ci]? = some r) (hca : ∀ U, ch_N U → va_Nw (Cond.castable r.1 C) U) (hd : decode M.2.1 pc = .ok (.aastore, 1)) (ha : h a = some (.inl (cA, N, .inr (.inr (.inr (.inr g)))))) (hv : h v = some (.inr (ci, vs))) (hin : vp_in i N) (kk : ch_G l E M Xt R Z k n (ch_set h a (.inl (cA, N, .inr (.inr (.inr (.inr (va_up g i.toNatClampNeg (some v)))))))) hi (pc + 1) lv st) : ch_G l E M Xt R Z k n h hi pc lv (.ref v :: .int i :: .ref a :: st) := by
  intro p e s m args below meth c H locs ls X hM hS hl
  obtain ⟨hx, hb, -, hown, hts, -, -, hname, hK, -, hN, -⟩ := id X
  obtain ⟨hA, hcell⟩ := hM.2.2 a _ ha
  have hlt : i.toNatClampNeg < N := Nat.not_le.mp fun q => hin (Or.inr q)
  have h0 : ¬ i < 0 := fun q => hin (Or.inl q)
  obtain ⟨-, r', hr', cellV, g1, g2, g3, -⟩ := hM.2.2 v _ hv
  have hcls := (hK.1 ci r hc).2
  obtain ⟨kA, comp, k1, k2, k3, -⟩ := (hK.2 t _ ht).2
  obtain ⟨kE, hkE, -⟩ := Vm.findClass_spec k3
  obtain ⟨c0, t1, f1, f2, f3⟩ := Cond.castable_spec (va_Nw.use (A := args) rfl (hca s hN))
  cases hcls.1.symm.trans f1
  cases k3.symm.trans f2
  obtain ⟨kC, hkC, -⟩ := hcls.2
  refine W.aast hx hb hcell (fun q h => by cases h) (fun h => by cases h) k1 k2 rfl hkE ⟨h0, by show _ < (arrV _ _ _).slots.size; rw [arrV_size]; exact hlt⟩ g1 (fun q h => by rw [g3] at h; cases h) (by rw [g2]; exact hkC) (by rw [g2]; exact f3) rfl rfl hd fun H1 e1 z oq => ?_
  refine kk p e s m args below meth c H1 _ ls X (hM.put ha ?_ z oq) (hS.put z oq hA) hl
  show H1[a]? = some (vp_cell _ _)
  rw [e1]
  rw [vp_cell_q, vp_cell_q, arrV_store]
  congr 2
  funext q
  by_cases hq : q = i.toNatClampNeg
  · subst hq
    simp [updV, va_up, va_rf]
  · simp [updV, va_up, hq]
theorem gx_aastN {a N : Nat} {cA : ClassId} {C : String} {g : Nat → Option Nat} {i : Int32} (t : Nat) (ht : E.2.1[t]? = some (cA, .object C)) (hd : decode M.2.1 pc = .ok (.aastore, 1)) (ha : h a = some (.inl (cA, N, .inr (.inr (.inr (.inr g)))))) (hin : vp_in i N) (kk : ch_G l E M Xt R Z k n (ch_set h a (.inl (cA, N, .inr (.inr (.inr (.inr (va_up g i.toNatClampNeg none))))))) hi (pc + 1) lv st) : ch_G l E M Xt R Z k n h hi pc lv (.null :: .int i :: .ref a :: st) := by
  intro p e s m args below meth c H locs ls X hM hS hl
  obtain ⟨hx, hb, -, hown, hts, -, -, hname, hK, -, hN, -⟩ := id X
  obtain ⟨hA, hcell⟩ := hM.2.2 a _ ha
  refine va_WaastN (C := C) hx hb hcell ((hK.2 t _ ht).1 N (fun j => va_rf (g j))) (fun h => by cases h) (by show ¬ (i < 0 ∨ (arrV _ _ _).slots.size ≤ _); rw [arrV_size]; exact hin) rfl rfl hd fun H1 e1 z oq => ?_
  refine kk p e s m args below meth c H1 _ ls X (hM.put ha ?_ z oq) (hS.put z oq hA) hl
  show H1[a]? = some (vp_cell _ _)
  rw [e1]
  rw [vp_cell_q, vp_cell_q, arrV_store]
  congr 2
  funext q
  by_cases hq : q = i.toNatClampNeg
  · subst hq
    simp [updV, va_up, va_rf]
  · simp [updV, va_up, hq]
theorem gx_new {ci idx N : Nat} {C : String} {T : u_T} {fs : List Value} (ty0 : Nat → FieldType) (hc : vwCl[ci]? = some (C, T, N)) (hin : ∀ w ∈ u_ws C T N, w ∈ ch_tb) (hty : ∀ k, k < N → parseFieldDescriptor (T k).2.2.1 = some (ty0 k)) (hcl : Cond.classLink M.1.cls idx C ∈ ch_tb) (hinst : Cond.instantiable C N ∈ ch_tb) (hini : Cond.initialized C ∈ ch_tb) (hfs : ∀ j, j < N → defaultValue (ty0 j) = vp_V fs j) (hcells : k + 1 ≤ R.cells) (hslots : n + N ≤ R.slots) (hd : decode M.2.1 pc = .ok (.new idx, 3)) (kk : ch_G l E M Xt R Z (k + 1) (n + N) (ch_set h hi (.inr (ci, fs))) (hi + 1) (pc + 3) lv (.ref hi :: st)) : ch_G l E M Xt R Z k n h hi pc lv st := by
  intro p e s m args below meth c H locs ls X hM hS hl
  obtain ⟨hx, hb, -, hown, hts, -, -, hname, hK, hlo, hNw, -⟩ := id X
  have hKn := hK.1 ci _ hc
  refine W.newcK hx hb hown (hts _ hcl) (hts _ hinst) (hts _ hini) rfl hd hcells hslots hKn.2.1 hM.1 fun H1 kC hkC e1 z1 o1 => ?_
  refine kk p e s m args below meth c H1 _ ls X (hM.new ⟨_, hc, (u_born ty0 hts hin hKn hkC e1 hty).to hfs⟩ z1 o1) ⟨?_, fun x h1 h2 => ?_, hS.2.2⟩ hl
  · have := hS.1; have := hM.1; omega
  · have h3 := hS.1
    have h4 := hM.1
    exact (o1 x (by omega)).trans (hS.2.1 x h1 h2)
theorem gx_newi {z : Int32} {N : Nat} {cA : ClassId} (t : Nat) (ht : E.2.1[t]? = some (cA, .int)) (harr : Cond.arrayClass .int ∈ ch_tb) (hd : decode M.2.1 pc = .ok (.newarray .int, 2)) (hn : ¬ z < 0) (hN : z.toNatClampNeg = N) (hbytes : N * componentBytes .int ≤ 536870912) (hcells : k + 1 ≤ R.cells) (hslots : n + N ≤ R.slots) (kk : ch_G l E M Xt R Z (k + 1) (n + N) (ch_set h hi (.inl (cA, N, .inl (fun _ => 0)))) (hi + 1) (pc + 2) lv (.ref hi :: st)) : ch_G l E M Xt R Z k n h hi pc lv (.int z :: st) := by
  intro p e s m args below meth c H locs ls X hM hS hl
  obtain ⟨hx, hb, -, hown, hts, -, -, hname, hK, hlo, hNw, -⟩ := id X
  refine va_newaK hx hb (atype := .int) (hts _ harr) rfl hd rfl hn hN hbytes hcells hslots hM.1 fun H1 cB e1 z1 o1 hAr hNm => ?_
  have hcc : cB = cA := Option.some.inj (hNm.symm.trans (hK.2 t _ ht).2)
  subst hcc
  refine kk p e s m args below meth c H1 _ ls X (hM.new (by show H1[hi]? = some (vp_cell _ _); rw [e1]; rfl) z1 o1) ⟨?_, fun x h1 h2 => ?_, hS.2.2⟩ hl
  · have := hS.1; have := hM.1; omega
  · have h3 := hS.1
    have h4 := hM.1
    exact (o1 x (by omega)).trans (hS.2.1 x h1 h2)
theorem gx_anew {z : Int32} {N idx : Nat} {cA : ClassId} {C : String} (t : Nat) (ht : E.2.1[t]? = some (cA, .object C)) (hcl : Cond.classLink M.1.cls idx C ∈ ch_tb) (hov : ∀ U, ch_N U → va_AO C U) (hd : decode M.2.1 pc = .ok (.anewarray idx, 3)) (hn : ¬ z < 0) (hN : z.toNatClampNeg = N) (hbytes : N * 4 ≤ 536870912) (hcells : k + 1 ≤ R.cells) (hslots : n + N ≤ R.slots) (kk : ch_G l E M Xt R Z (k + 1) (n + N) (ch_set h hi (.inl (cA, N, .inr (.inr (.inr (.inr (fun _ => none))))))) (hi + 1) (pc + 3) lv (.ref hi :: st)) : ch_G l E M Xt R Z k n h hi pc lv (.int z :: st) := by
  intro p e s m args below meth c H locs ls X hM hS hl
  obtain ⟨hx, hb, -, hown, hts, -, -, hname, hK, hlo, hNw, -⟩ := id X
  subst hN
  refine W.anew hx hb hown (hts _ hcl) (va_AO.use (hov s hNw)) rfl hd rfl hn hbytes hcells hslots fun cB kA comp h1 h2 h3 h4 => ?_
  obtain ⟨kA', comp', k1, k2, k3, k4⟩ := (hK.2 t _ ht).2
  have hcc : cB = cA := Option.some.inj (h1.symm.trans k4)
  subst hcc
  rw [arrV_new]
  have hz := hM.1
  have hsz := hS.1
  subst hz
  refine kk p e s m args below meth c _ _ ls X (hM.new (by show (H.push _)[H.size]? = some (vp_cell _ _); rw [vp_cell_q]; simp [va_rf]) (by simp) (fun q hq => by rw [Array.getElem?_push, if_neg (Nat.ne_of_lt hq)])) ⟨?_, fun x h1 h2 => ?_, hS.2.2⟩ hl
  · simp; omega
  · rw [Array.getElem?_push, if_neg (by omega)]; exact hS.2.1 x h1 h2
theorem gx_objInit {a idx : Nat} (hlink : Cond.methodLink M.1.cls idx objectInit ∈ ch_tb) (hinst : Cond.instanceMethod objectInit ∈ ch_tb) (hcode : Cond.code objectInit ⟨#[0xb1]⟩ 1 none ∈ ch_tb) (hd : decode M.2.1 pc = .ok (.invokespecial idx, 3)) (hfr : 1 ≤ R.frames) (hlo : (st.map fun v => v.category).sum + 12 ≤ R.locals) (kk : ch_G l E M Xt R Z k n h hi (pc + 3) lv st) : ch_G l E M Xt R Z k n h hi pc lv (.ref a :: st) := by
  intro p e s m args below meth c H locs ls X hM hS hl
  obtain ⟨hx, hb, hml, hown, hts, -, -, hname, hK, -, hN, -⟩ := id X
  refine W.objInit hx hb hown (hts _ hlink) (hts _ hinst) (hts _ hcode) rfl (by rw [hml]; exact hl.1) rfl hd hfr (by show 2 * 0 + _ + 12 ≤ _; omega) ?_
  exact kk p e s m args below meth c H locs ls X hM hS hl
theorem gx_lshl {x : Int64} {y : Int32} (hd : decode M.2.1 pc = .ok (.lshl, 1)) (kk : ∀ v : Int64, v = x <<< (y.toInt64 &&& 63) → ch_G l E M Xt R Z k n h hi (pc + 1) lv (.long v :: st)) : ch_G l E M Xt R Z k n h hi pc lv (.int y :: .long x :: st) := by
  intro p e s m args below meth c H locs ls X hM hS hl
  exact lv_lshl X.1 X.2.1 hd rfl (kk _ rfl p e s m args below meth c H locs ls X hM hS hl)
theorem gx_lshr {x : Int64} {y : Int32} (hd : decode M.2.1 pc = .ok (.lshr, 1)) (kk : ∀ v : Int64, v = x >>> (y.toInt64 &&& 63) → ch_G l E M Xt R Z k n h hi (pc + 1) lv (.long v :: st)) : ch_G l E M Xt R Z k n h hi pc lv (.int y :: .long x :: st) := by
  intro p e s m args below meth c H locs ls X hM hS hl
  exact lv_lshr X.1 X.2.1 hd rfl (kk _ rfl p e s m args below meth c H locs ls X hM hS hl)
theorem gx_lald {a N : Nat} {cA : ClassId} {g : Nat → Int64} {i : Int32} (t : Nat) (ht : E.2.1[t]? = some (cA, .long)) (hd : decode M.2.1 pc = .ok (.laload, 1)) (ha : h a = some (.inl (cA, N, .inr (.inl g)))) (hin : vp_in i N) (kk : ∀ v : Int64, v = g i.toNatClampNeg → ch_G l E M Xt R Z k n h hi (pc + 1) lv (.long v :: st)) : ch_G l E M Xt R Z k n h hi pc lv (.int i :: .ref a :: st) := by
  intro p e s m args below meth c H locs ls X hM hS hl
  exact va_lald X.1 X.2.1 X.2.2.2.2.2.2.2.2.1 (ch_one hM ha) 0 t rfl ht hin hd (kk _ rfl p e s m args below meth c H locs ls X hM hS hl)
theorem gx_last {a N : Nat} {cA : ClassId} {g : Nat → Int64} {i : Int32} {x : Int64} (t : Nat) (ht : E.2.1[t]? = some (cA, .long)) (hd : decode M.2.1 pc = .ok (.lastore, 1)) (ha : h a = some (.inl (cA, N, .inr (.inl g)))) (hin : vp_in i N) (kk : ch_G l E M Xt R Z k n (ch_set h a (.inl (cA, N, .inr (.inl (vp_updL g i.toNatClampNeg x))))) hi (pc + 1) lv st) : ch_G l E M Xt R Z k n h hi pc lv (.long x :: .int i :: .ref a :: st) := by
  intro p e s m args below meth c H locs ls X hM hS hl
  obtain ⟨hx, hb, -, hown, hts, -, -, hname, hK, -, hN, -⟩ := id X
  obtain ⟨hA, hcell⟩ := hM.2.2 a _ ha
  refine W.last hx hb hcell ((hK.2 t _ ht).1 N (fun j => .long (g j))) (fun q => by cases q) (by show ¬ (i < 0 ∨ (arrV _ _ _).slots.size ≤ _); rw [arrV_size]; exact hin) rfl rfl hd fun H1 e1 z oq => ?_
  refine kk p e s m args below meth c H1 _ ls X (hM.put ha ?_ z oq) (hS.put z oq hA) hl
  show H1[a]? = some (vp_cell _ _)
  rw [e1]
  rw [vp_cell_l, vp_cell_l, arrV_store]
  congr 2
  funext q
  by_cases hq : q = i.toNatClampNeg
  · subst hq
    simp [updV, vp_updL]
  · simp [updV, vp_updL, hq]
theorem gx_newl {z : Int32} {N : Nat} {cA : ClassId} (t : Nat) (ht : E.2.1[t]? = some (cA, .long)) (harr : Cond.arrayClass .long ∈ ch_tb) (hd : decode M.2.1 pc = .ok (.newarray .long, 2)) (hn : ¬ z < 0) (hN : z.toNatClampNeg = N) (hbytes : N * componentBytes .long ≤ 536870912) (hcells : k + 1 ≤ R.cells) (hslots : n + N ≤ R.slots) (kk : ch_G l E M Xt R Z (k + 1) (n + N) (ch_set h hi (.inl (cA, N, .inr (.inl (fun _ => 0))))) (hi + 1) (pc + 2) lv (.ref hi :: st)) : ch_G l E M Xt R Z k n h hi pc lv (.int z :: st) := by
  intro p e s m args below meth c H locs ls X hM hS hl
  obtain ⟨hx, hb, -, hown, hts, -, -, hname, hK, hlo, hNw, -⟩ := id X
  refine va_newaK hx hb (atype := .long) (hts _ harr) rfl hd rfl hn hN hbytes hcells hslots hM.1 fun H1 cB e1 z1 o1 hAr hNm => ?_
  have hcc : cB = cA := Option.some.inj (hNm.symm.trans (hK.2 t _ ht).2)
  subst hcc
  refine kk p e s m args below meth c H1 _ ls X (hM.new (by show H1[hi]? = some (vp_cell _ _); rw [e1]; rfl) z1 o1) ⟨?_, fun x h1 h2 => ?_, hS.2.2⟩ hl
  · have := hS.1; have := hM.1; omega
  · have h3 := hS.1
    have h4 := hM.1
    exact (o1 x (by omega)).trans (hS.2.1 x h1 h2)
theorem gx_mmax {x y : Int32} {idx : Nat} (hlink : Cond.methodLink M.1.cls idx Lib.Math.max.name ∈ ch_tb) (hstat : Cond.static Lib.Math.max.name ∈ ch_tb) (hini : Cond.initialized "java/lang/Math" ∈ ch_tb) (hcode : Cond.code Lib.Math.max.name Lib.Math.max.code 2 (some .int) ∈ ch_tb) (hd : decode M.2.1 pc = .ok (.invokestatic idx, 3)) (hfr : 1 ≤ R.frames) (hlo : (st.map fun v => v.category).sum + 13 ≤ R.locals) (hk : k ≤ R.cells) (hn : n ≤ R.slots) (kk : ∀ v : Int32, v = (if x < y then y else x) → ch_G l E M Xt R Z k n h hi (pc + 3) lv (.int v :: st)) : ch_G l E M Xt R Z k n h hi pc lv (.int y :: .int x :: st) := by
  intro p e s m args below meth c H locs ls X hM hS hl
  obtain ⟨hx, hb, hml, hown, hts, -, -, hname, hK, -, hN, -⟩ := id X
  exact va_mmax hx hb (hml.trans hl.1.symm) hown (hts _ hlink) (hts _ hstat) (hts _ hini) (hts _ hcode) hfr hlo hk hn hd (kk _ rfl p e s m args below meth c H locs ls X hM hS hl)
theorem gx_mmin {x y : Int32} {idx : Nat} (hlink : Cond.methodLink M.1.cls idx Lib.Math.min.name ∈ ch_tb) (hstat : Cond.static Lib.Math.min.name ∈ ch_tb) (hini : Cond.initialized "java/lang/Math" ∈ ch_tb) (hcode : Cond.code Lib.Math.min.name Lib.Math.min.code 2 (some .int) ∈ ch_tb) (hd : decode M.2.1 pc = .ok (.invokestatic idx, 3)) (hfr : 1 ≤ R.frames) (hlo : (st.map fun v => v.category).sum + 13 ≤ R.locals) (hk : k ≤ R.cells) (hn : n ≤ R.slots) (kk : ∀ v : Int32, v = (if y < x then y else x) → ch_G l E M Xt R Z k n h hi (pc + 3) lv (.int v :: st)) : ch_G l E M Xt R Z k n h hi pc lv (.int y :: .int x :: st) := by
  intro p e s m args below meth c H locs ls X hM hS hl
  obtain ⟨hx, hb, hml, hown, hts, -, -, hname, hK, -, hN, -⟩ := id X
  exact va_mmin hx hb (hml.trans hl.1.symm) hown (hts _ hlink) (hts _ hstat) (hts _ hini) (hts _ hcode) hfr hlo hk hn hd (kk _ rfl p e s m args below meth c H locs ls X hM hS hl)
theorem gx_vret {mc ms : Nat} {Q : Option Value → ch_H → Nat → Prop} (hr : M.2.2.2 = none) (hd : decode M.2.1 pc = .ok (.return_, 1)) (hk : k ≤ mc) (hn : n ≤ ms) (hq : Q none h hi) : ch_G l E M Xt R (ch_Z E mc ms Q) k n h hi pc lv [] := by
  intro p e s m args below meth c H locs ls X hM hS hl
  obtain ⟨hx, hb, -, hown, hts, hrt, hlocks, -, hK, -, hN, -⟩ := X
  refine W.widen hk hn ?_
  exact W.vret hx hb (hrt.trans hr) (fun t ht hW => ⟨⟨_, h, hi, rfl, hq, by rw [ht]; exact hM⟩, hS.F ht⟩) hS.2.2 hd hlocks
theorem gx_iret {mc ms : Nat} {Q : Option Value → ch_H → Nat → Prop} {v : Int32} (hr : M.2.2.2 = some .int) (hd : decode M.2.1 pc = .ok (.ireturn, 1)) (hk : k ≤ mc) (hn : n ≤ ms) (hq : Q (some (.int v)) h hi) : ch_G l E M Xt R (ch_Z E mc ms Q) k n h hi pc lv [.int v] := by
  intro p e s m args below meth c H locs ls X hM hS hl
  obtain ⟨hx, hb, -, hown, hts, hrt, hlocks, -, hK, -, hN, -⟩ := X
  refine W.widen hk hn ?_
  exact W.iret hx hb (hrt.trans hr) (fun t ht hW => ⟨⟨_, h, hi, rfl, hq, by rw [ht]; exact hM⟩, hS.F ht⟩) hS.2.2 hd hlocks
theorem gx_zret {mc ms : Nat} {Q : Option Value → ch_H → Nat → Prop} {v : Int32} (hr : M.2.2.2 = some .boolean) (hv : narrow .boolean (.int v) = .int v) (hd : decode M.2.1 pc = .ok (.ireturn, 1)) (hk : k ≤ mc) (hn : n ≤ ms) (hq : Q (some (.int v)) h hi) : ch_G l E M Xt R (ch_Z E mc ms Q) k n h hi pc lv [.int v] := by
  intro p e s m args below meth c H locs ls X hM hS hl
  obtain ⟨hx, hb, -, hown, hts, hrt, hlocks, -, hK, -, hN, -⟩ := X
  refine W.widen hk hn ?_
  exact W.zret hx hb (hrt.trans hr) hv (fun t ht hW => ⟨⟨_, h, hi, rfl, hq, by rw [ht]; exact hM⟩, hS.F ht⟩) hS.2.2 hd hlocks
theorem gx_lret {mc ms : Nat} {Q : Option Value → ch_H → Nat → Prop} {v : Int64} (hr : M.2.2.2 = some .long) (hd : decode M.2.1 pc = .ok (.lreturn, 1)) (hk : k ≤ mc) (hn : n ≤ ms) (hq : Q (some (.long v)) h hi) : ch_G l E M Xt R (ch_Z E mc ms Q) k n h hi pc lv [.long v] := by
  intro p e s m args below meth c H locs ls X hM hS hl
  obtain ⟨hx, hb, -, hown, hts, hrt, hlocks, -, hK, -, hN, -⟩ := X
  refine W.widen hk hn ?_
  exact W.lret hx hb (hrt.trans hr) (fun t ht hW => ⟨⟨_, h, hi, rfl, hq, by rw [ht]; exact hM⟩, hS.F ht⟩) hS.2.2 hd hlocks
theorem gx_aret {mc ms : Nat} {Q : Option Value → ch_H → Nat → Prop} {v : Value} {rt : FieldType} (hr : M.2.2.2 = some rt) (hrt0 : (∃ n, rt = .object n) ∨ ∃ t, rt = .array t) (hv : v = .null ∨ ∃ a, v = .ref a) (hd : decode M.2.1 pc = .ok (.areturn, 1)) (hk : k ≤ mc) (hn : n ≤ ms) (hq : Q (some v) h hi) : ch_G l E M Xt R (ch_Z E mc ms Q) k n h hi pc lv [v] := by
  intro p e s m args below meth c H locs ls X hM hS hl
  obtain ⟨hx, hb, -, hown, hts, hrt, hlocks, -, hK, -, hN, -⟩ := X
  refine W.widen hk hn ?_
  exact W.aret hx hb (hrt.trans hr) hrt0 hv (fun t ht hW => ⟨⟨_, h, hi, rfl, hq, by rw [ht]; exact hM⟩, hS.F ht⟩) hS.2.2 hd hlocks
theorem ch_C.of {rm : Room} {As : List Value} {Q : Option Value → ch_H → Nat → Prop} (hy : plainName M.1.cls = true) (hlen : (lg_sl As).length ≤ M.2.2.1) (body : ch_G l E M ch_T rm (ch_Z E rm.cells rm.slots Q) 0 0 h hi 0 (lv_args 0 As) []) : ch_C l E M rm As h hi Q := by
  refine Met.ofW (cc := M.2.1) (maxL := M.2.2.1) (ret := M.2.2.2) hy rfl ?_
  intro p e s m args below meth c s₁ B hml hv
  obtain ⟨rfl, hM, hK, hN⟩ := hv
  have hts := atoms_spec (ws := ch_ws M) B.pre
  have hl := lv_entry As (n := M.2.2.1) hlen
  rw [lg_entry_eq]
  exact body p e s m _ below meth c s.heap [] _ ⟨B.exec, B.bytes, hml, findClass_of_methodNamed B.named, fun w hw => hts w (List.mem_cons_of_mem _ hw), B.returns, B.notSynchronized, (name_of_methodNamed B.named B.method).1, hK, by rw [hM.1]; exact hM.2.1, hN, trivial⟩ hM va_S.rf hl
theorem gx_run {mc ms : Nat} {a0 : Array Value} {rest : List Value} {Q : Option Value → ch_H → Nat → Prop} (hrun : ∀ (p : Program) (e : Env) (s : State) (m : MethodId) (args : Array Value) (below : List Frame) (meth : Method) (c : Code) (H : Heap) (locs : List Loc) (ls : Array Slot), ch_X E M Xt p s m args meth c → ch_M E h hi H → lv_has ls M.2.2.1 lv → va_Run p l e R s m args below meth c H locs k n mc ms (F0 m pc ls st) rest (ch_Qc E Q a0) (fun q : Nat => E.2.2 ≤ q)) (kk : ∀ (r : Option Value) (h' : ch_H) (hi' : Nat), Q r h' hi' → hi ≤ hi' → ch_G l E M Xt R Z (k + mc) (n + ms) h' hi' (pc + 3) lv (r.toList ++ rest)) : ch_G l E M Xt R Z k n h hi pc lv st := by
  intro p e s m args below meth c H locs ls X hM hS hl
  intro T hT Xs
  obtain ⟨v, st₀, t, T', L, h0, X', hL, e1, e2, ⟨⟨r, h', hi', hv, hq, hM'⟩, hz, hkp⟩, stp⟩ := hrun p e s m args below meth c H locs ls X hM hl T hT Xs
  cases hv
  rw [h0] at hz hkp
  have hlo := hM.2.1
  have hsz := hM.1
  obtain ⟨t2, a1, b1⟩ := kk v h' hi' hq (by rw [← hM.1, ← hM'.1]; exact hz) p e s m args below meth c T'.heap (locs ++ L) ls X (by rw [e1]; exact hM')
    ⟨Nat.le_trans hS.1 (by rw [e1]; exact hz), fun q h1 h2 => by rw [e1, hkp q (Nat.lt_of_lt_of_le h1 hS.1) h2]; exact hS.2.1 q h1 h2, fun q hq => by
      rcases List.mem_append.mp hq with h | h
      · exact hS.2.2 q h
      · exact hL q h⟩ hl T' rfl X'
  exact ⟨t2, stp t2 a1, b1⟩
theorem ch_good {M2 : ch_D} (hc : Cond.code M2.1 M2.2.1 M2.2.2.1 M2.2.2.2 ∈ ch_tb) : GoodIn ch_tb (ch_ws M2) := by
  intro w hw
  rcases List.mem_cons.mp hw with rfl | hw
  · exact ⟨hc, ch_tbG _ hc⟩
  · exact ⟨hw, ch_tbG _ hw⟩
theorem ch_blind {As : List Value} {h : ch_H} {hi : Nat} {E : ch_E} : FrameBlind (va_Pc As (fun U => ch_M E h hi U.heap ∧ va_K E.1 vwCl E.2.1 U ∧ ch_N U)) := by
  intro a U g mk q
  obtain ⟨q0, qM, qK, qN⟩ := q
  exact ⟨q0, qM, va_K.moved (u := U) (U := U.calling g mk a) (Vm.Alike.refl U.vm) qK, ch_N.same rfl qN⟩

theorem gx_callS {M2 : ch_D} {rm : Room} {idx na : Nat} {As rest : List Value} {Q : Option Value → ch_H → Nat → Prop} (C0 : ch_C l E M2 rm As h hi Q) (ok : ch_ok M2 na) (hlink : Cond.methodLink M.1.cls idx M2.1 ∈ ch_tb) (hstat : Cond.static M2.1 ∈ ch_tb) (hd : decode M.2.1 pc = .ok (.invokestatic idx, 3)) (hna : As.length = na) (hst : st = As.reverse ++ rest) (hcat : (rest.map fun v => v.category).sum ≤ 8) (hfr : rm.frames + 1 ≤ R.frames) (hlo : 8 + (M2.2.2.1 + 11) + rm.locals ≤ R.locals) (hk : k + rm.cells ≤ R.cells) (hn : n + rm.slots ≤ R.slots) (kk : ∀ (r : Option Value) (h' : ch_H) (hi' : Nat), Q r h' hi' → hi ≤ hi' → ch_G l E M Xt R Z (k + rm.cells) (n + rm.slots) h' hi' (pc + 3) lv (r.toList ++ rest)) : ch_G l E M Xt R Z k n h hi pc lv st := by
  refine gx_run (a0 := As.toArray) (fun p e s m args below meth c H locs ls X hM hl => ?_) kk
  obtain ⟨hx, hb, hml, hown, hts, -, -, -, hK, -, hN, -⟩ := X
  exact va_runS ⟨hx, hb, hml, hown, hts⟩ C0 ⟨callB_of na hts (ch_good ok.1) rfl rfl rfl (hts _ ok.2.1) (hts _ hlink) ⟨ok.2.2.1.1, ok.2.2.1.2, ok.2.2.2⟩ ⟨hfr, hlo⟩, hts _ hstat⟩ ⟨ch_blind, fun U hU hW => ⟨rfl, by rw [hU]; exact hM, va_K.moved hW.alike hK, ch_N.warm hW hN⟩⟩ rfl hna hl.1 hst (lv_room hcat) hd ⟨hk, hn⟩
theorem gx_callSN {M2 : ch_D} {rm : Room} {host : String} {idx na : Nat} {As rest : List Value} {Q : Option Value → ch_H → Nat → Prop} (C0 : ch_C l E M2 rm As h hi Q) (ok : ch_ok M2 na) (hlink : ∀ U, ch_N U → va_Nw (Cond.methodLinkNest M.1.cls idx M2.1 host) U) (hstat : Cond.static M2.1 ∈ ch_tb) (hd : decode M.2.1 pc = .ok (.invokestatic idx, 3)) (hna : As.length = na) (hst : st = As.reverse ++ rest) (hcat : (rest.map fun v => v.category).sum ≤ 8) (hfr : rm.frames + 1 ≤ R.frames) (hlo : 8 + (M2.2.2.1 + 11) + rm.locals ≤ R.locals) (hk : k + rm.cells ≤ R.cells) (hn : n + rm.slots ≤ R.slots) (kk : ∀ (r : Option Value) (h' : ch_H) (hi' : Nat), Q r h' hi' → hi ≤ hi' → ch_G l E M Xt R Z (k + rm.cells) (n + rm.slots) h' hi' (pc + 3) lv (r.toList ++ rest)) : ch_G l E M Xt R Z k n h hi pc lv st := by
  refine gx_run (a0 := As.toArray) (fun p e s m args below meth c H locs ls X hM hl => ?_) kk
  obtain ⟨hx, hb, hml, hown, hts, -, -, -, hK, -, hN, -⟩ := X
  exact va_runSN ⟨hx, hb, hml, hown, hts⟩ C0 ⟨va_cnB na hts (ch_good ok.1) rfl rfl rfl (hlink s hN) (hts _ ok.2.1) ⟨ok.2.2.1.1, ok.2.2.1.2, ok.2.2.2⟩ ⟨hfr, hlo⟩, hts _ hstat, trivial⟩ ⟨ch_blind, fun U hU hW => ⟨rfl, by rw [hU]; exact hM, va_K.moved hW.alike hK, ch_N.warm hW hN⟩⟩ rfl hna hl.1 hst (lv_room hcat) hd ⟨hk, hn⟩
theorem gx_callV {M2 : ch_D} {rm : Room} {idx na b ci : Nat} {fs : List Value} {r : vw_C} {As rest : List Value} {Q : Option Value → ch_H → Nat → Prop} (C0 : ch_C l E M2 rm (.ref b :: As) h hi Q) (ok : ch_ok M2 na) (hlink : Cond.methodLink M.1.cls idx M2.1 ∈ ch_tb) (hinst : Cond.instanceMethod M2.1 ∈ ch_tb) (hsel : Cond.selects r.1 M2.1 M2.1 ∈ ch_tb) (hd : decode M.2.1 pc = .ok (.invokevirtual idx, 3)) (hc : vwCl[ci]? = some r) (hb0 : h b = some (.inr (ci, fs))) (hna : As.length = na) (hst : st = As.reverse ++ .ref b :: rest) (hcat : (rest.map fun v => v.category).sum ≤ 8) (hfr : rm.frames + 1 ≤ R.frames) (hlo : 8 + (M2.2.2.1 + 11) + rm.locals ≤ R.locals) (hk : k + rm.cells ≤ R.cells) (hn : n + rm.slots ≤ R.slots) (kk : ∀ (r : Option Value) (h' : ch_H) (hi' : Nat), Q r h' hi' → hi ≤ hi' → ch_G l E M Xt R Z (k + rm.cells) (n + rm.slots) h' hi' (pc + 3) lv (r.toList ++ rest)) : ch_G l E M Xt R Z k n h hi pc lv st := by
  refine gx_run (a0 := (Value.ref b :: As).toArray) (fun p e s m args below meth c H locs ls X hM hl => ?_) kk
  obtain ⟨hx, hb, hml, hown, hts, -, -, -, hK, -, hN, -⟩ := X
  exact va_runV (C := r.1) ⟨hx, hb, hml, hown, hts⟩ C0 ⟨callB_of na hts (ch_good ok.1) rfl rfl rfl (hts _ ok.2.1) (hts _ hlink) ⟨ok.2.2.1.1, ok.2.2.1.2, ok.2.2.2⟩ ⟨hfr, hlo⟩, hts _ hinst, hts _ hsel⟩ ⟨ch_blind, va_recv hK (ch_one hM hb0) hc (q0 := 0) rfl, fun U hU hW => ⟨rfl, by rw [hU]; exact hM, va_K.moved hW.alike hK, ch_N.warm hW hN⟩⟩ rfl hna hl.1 hst (lv_room hcat) hd ⟨hk, hn⟩
theorem gx_callI {M2 : ch_D} {rm : Room} {idx na b : Nat} {As rest : List Value} {Q : Option Value → ch_H → Nat → Prop} (C0 : ch_C l E M2 rm (.ref b :: As) h hi Q) (ok : ch_ok M2 na) (hlink : Cond.methodLink M.1.cls idx M2.1 ∈ ch_tb) (hinst : Cond.instanceMethod M2.1 ∈ ch_tb) (hini : M2.1.name = "<init>") (hvoid : M2.2.2.2 = none) (hd : decode M.2.1 pc = .ok (.invokespecial idx, 3)) (hna : As.length = na) (hst : st = As.reverse ++ .ref b :: rest) (hcat : (rest.map fun v => v.category).sum ≤ 8) (hfr : rm.frames + 1 ≤ R.frames) (hlo : 8 + (M2.2.2.1 + 11) + rm.locals ≤ R.locals) (hk : k + rm.cells ≤ R.cells) (hn : n + rm.slots ≤ R.slots) (kk : ∀ (r : Option Value) (h' : ch_H) (hi' : Nat), Q r h' hi' → hi ≤ hi' → ch_G l E M Xt R Z (k + rm.cells) (n + rm.slots) h' hi' (pc + 3) lv (r.toList ++ rest)) : ch_G l E M Xt R Z k n h hi pc lv st := by
  refine gx_run (a0 := (Value.ref b :: As).toArray) (fun p e s m args below meth c H locs ls X hM hl => ?_) kk
  obtain ⟨hx, hb, hml, hown, hts, -, -, -, hK, -, hN, -⟩ := X
  have hB : CallB R s args M.1.cls idx M2.1 M2.2.1 M2.2.2.1 none (ch_ws M2) rm rm.cells rm.slots na := callB_of na hts (ch_good ok.1) (by unfold ch_ws; rw [hvoid]) rfl rfl (hts _ ok.2.1) (hts _ hlink) ⟨ok.2.2.1.1, ok.2.2.1.2, ok.2.2.2⟩ ⟨hfr, hlo⟩
  exact va_runI ⟨hx, hb, hml, hown, hts⟩ C0 ⟨hB, hini, hts _ hinst⟩ ⟨ch_blind, fun U hU hW => ⟨rfl, by rw [hU]; exact hM, va_K.moved hW.alike hK, ch_N.warm hW hN⟩⟩ rfl hna hl.1 hst (lv_room hcat) hd ⟨hk, hn⟩
theorem gx_callA {M2 : ch_D} {x : MethodName} {rm : Room} {idx na b ci : Nat} {fs : List Value} {r : vw_C} {As rest : List Value} {Q : Option Value → ch_H → Nat → Prop} (C0 : ch_C l E M2 rm (.ref b :: As) h hi Q) (ok : ch_ok M2 na) (hlink : Cond.methodLink M.1.cls idx x ∈ ch_tb) (hsame : Cond.sameMethod x.cls x.cls x.name x.desc ∈ ch_tb) (hdecl : ∀ U, ch_N U → va_Nw (Cond.declares x) U) (hinst : Cond.instanceMethod M2.1 ∈ ch_tb) (hsel : Cond.selects r.1 x M2.1 ∈ ch_tb) (hx1 : x.cls ≠ "java/lang/invoke/MethodHandle" ∧ x.cls ≠ "java/lang/invoke/VarHandle" ∧ (parseMethodDescriptor x.desc).map (fun d => d.parameters.length) = some na) (hd : decode M.2.1 pc = .ok (.invokevirtual idx, 3)) (hc : vwCl[ci]? = some r) (hb0 : h b = some (.inr (ci, fs))) (hna : As.length = na) (hst : st = As.reverse ++ .ref b :: rest) (hcat : (rest.map fun v => v.category).sum ≤ 8) (hfr : rm.frames + 1 ≤ R.frames) (hlo : 8 + (M2.2.2.1 + 11) + rm.locals ≤ R.locals) (hk : k + rm.cells ≤ R.cells) (hn : n + rm.slots ≤ R.slots) (kk : ∀ (r : Option Value) (h' : ch_H) (hi' : Nat), Q r h' hi' → hi ≤ hi' → ch_G l E M Xt R Z (k + rm.cells) (n + rm.slots) h' hi' (pc + 3) lv (r.toList ++ rest)) : ch_G l E M Xt R Z k n h hi pc lv st := by
  refine gx_run (a0 := (Value.ref b :: As).toArray) (fun p e s m args below meth c H locs ls X hM hl => ?_) kk
  obtain ⟨hx, hb, hml, hown, hts, -, -, -, hK, -, hN, -⟩ := X
  have hG : GoodIn ch_tb (va_wsU M.1.cls idx r.1 x.cls x M2.1 (ch_ws M2)) := by
    intro w hw
    rcases List.mem_append.mp hw with hw | hw
    · have hm : w ∈ ch_tb := by
        simp only [List.mem_cons, List.not_mem_nil, or_false] at hw
        rcases hw with rfl | rfl | rfl | rfl | rfl
        · exact hlink
        · exact hsame
        · exact hsel
        · exact hinst
        · exact ok.2.1
      exact ⟨hm, ch_tbG _ hm⟩
    · exact ch_good ok.1 w hw
  exact va_runU (C := r.1) (owner := x.cls) ⟨hx, hb, hml, hown, hts⟩ C0 (va_cwA na hts hG rfl rfl rfl (hdecl s hN) hx1 ⟨hfr, hlo⟩) ⟨ch_blind, va_recv hK (ch_one hM hb0) hc (q0 := 0) rfl, fun U hU hW => ⟨rfl, by rw [hU]; exact hM, va_K.moved hW.alike hK, ch_N.warm hW hN⟩⟩ rfl hna hl.1 hst (lv_room hcat) hd ⟨hk, hn⟩
end CORE
