/-! machine numbers by whole numbers: iI z, lI z -/
def iI (z : Int) : Int32 := Int32.ofInt z
def lI (z : Int) : Int64 := Int64.ofInt z
abbrev ir (z : Int) : Prop := -2147483648 ≤ z ∧ z ≤ 2147483647
abbrev lr (z : Int) : Prop := -9223372036854775808 ≤ z ∧ z ≤ 9223372036854775807
def bI (b : Bool) : Int := if b = true then 1 else 0
theorem iI_add (a b : Int) : iI a + iI b = iI (a + b) := (Int32.ofInt_add a b).symm
theorem iI_sub (a b : Int) : iI a - iI b = iI (a - b) := (Int32.ofInt_sub a b).symm
theorem iI_mul (a b : Int) : iI a * iI b = iI (a * b) := (Int32.ofInt_mul a b).symm
theorem iI_neg (a : Int) : -iI a = iI (-a) := (Int32.ofInt_neg a).symm
theorem lI_add (a b : Int) : lI a + lI b = lI (a + b) := (Int64.ofInt_add a b).symm
theorem lI_sub (a b : Int) : lI a - lI b = lI (a - b) := (Int64.ofInt_sub a b).symm
theorem lI_mul (a b : Int) : lI a * lI b = lI (a * b) := (Int64.ofInt_mul a b).symm
theorem lI_neg (a : Int) : -lI a = lI (-a) := (Int64.ofInt_neg a).symm
theorem iI_toInt {a : Int} (h : ir a) : (iI a).toInt = a := Int32.toInt_ofInt_of_le (by have := h.1; omega) (by have := h.2; omega)
theorem lI_toInt {a : Int} (h : lr a) : (lI a).toInt = a := Int64.toInt_ofInt_of_le (by have := h.1; omega) (by have := h.2; omega)
theorem iI_le {a b : Int} (ha : ir a) (hb : ir b) : iI a ≤ iI b ↔ a ≤ b := by rw [Int32.le_iff_toInt_le, iI_toInt ha, iI_toInt hb]
theorem iI_lt {a b : Int} (ha : ir a) (hb : ir b) : iI a < iI b ↔ a < b := by rw [Int32.lt_iff_toInt_lt, iI_toInt ha, iI_toInt hb]
theorem iI_eq {a b : Int} (ha : ir a) (hb : ir b) : iI a = iI b ↔ a = b := by rw [← Int32.toInt_inj, iI_toInt ha, iI_toInt hb]
theorem lI_le {a b : Int} (ha : lr a) (hb : lr b) : lI a ≤ lI b ↔ a ≤ b := by rw [Int64.le_iff_toInt_le, lI_toInt ha, lI_toInt hb]
theorem lI_lt {a b : Int} (ha : lr a) (hb : lr b) : lI a < lI b ↔ a < b := by rw [Int64.lt_iff_toInt_lt, lI_toInt ha, lI_toInt hb]
theorem lI_eq {a b : Int} (ha : lr a) (hb : lr b) : lI a = lI b ↔ a = b := by rw [← Int64.toInt_inj, lI_toInt ha, lI_toInt hb]
theorem iI_of (x : Int32) : ∃ z, ir z ∧ x = iI z := ⟨x.toInt, ⟨by have := x.le_toInt; omega, by have := x.toInt_lt; omega⟩, (Int32.ofInt_toInt x).symm⟩
theorem iI_clamp {a : Int} (h : ir a) : (iI a).toNatClampNeg = a.toNat := by
  unfold Int32.toNatClampNeg
  rw [iI_toInt h]
theorem iI_in {a : Int} {N : Nat} (h0 : 0 ≤ a) (h1 : a < N) (hN : N < 2 ^ 31) : vp_in (iI a) N := by
  rw [vp_in_iff, iI_toInt ⟨by omega, by omega⟩]
  omega
theorem iI_i2l {a : Int} (h : ir a) : (iI a).toInt64 = lI a := by
  apply Int64.toInt_inj.mp
  rw [Int32.toInt_toInt64, iI_toInt h, lI_toInt ⟨by have := h.1; omega, by have := h.2; omega⟩]
theorem lI_l2i (a : Int) : (lI a).toInt32 = iI a := Int64.toInt32_ofInt
theorem iI_0 : (0 : Int32) = iI 0 := rfl
theorem iI_bI {b : Bool} : narrow .boolean (.int (iI (bI b))) = .int (iI (bI b)) := by cases b <;> rfl
theorem ir_bI {b : Bool} : ir (bI b) := by cases b <;> decide
theorem iI_div {a d : Int} (ha : ir a) (hd : ir d) (h0 : 0 ≤ a) (h1 : 0 < d) : iI a / iI d = iI (a / d) := by
  apply Int32.toInt_inj.mp
  have h2 : a / d ≤ a := Int.ediv_le_self d h0
  have h3 : 0 ≤ a / d := Int.ediv_nonneg h0 (Int.le_of_lt h1)
  rw [Int32.toInt_div_of_ne_right _ _ (fun q => by have := congrArg Int32.toInt q; rw [iI_toInt hd] at this; have h9 : (-1 : Int32).toInt = -1 := by decide
                                                   rw [h9] at this; omega), iI_toInt ha, iI_toInt hd, iI_toInt ⟨by omega, by have := ha.2; omega⟩]
  exact Int.tdiv_eq_ediv_of_nonneg h0
theorem lI_tdiv {a d : Int} (ha : lr a) (ha2 : -9000000000000000000 ≤ a ∧ a ≤ 9000000000000000000) (hd : lr d) (h1 : 0 < d) : lI a / lI d = lI (a.tdiv d) := by
  apply Int64.toInt_inj.mp
  have hb : lr (a.tdiv d) := by
    have h3 := Int.natAbs_tdiv_le_natAbs a d
    constructor <;> omega
  rw [Int64.toInt_div_of_ne_right _ _ (fun q => by have := congrArg Int64.toInt q; rw [lI_toInt hd] at this; have h9 : (-1 : Int64).toInt = -1 := by decide
                                                   rw [h9] at this; omega), lI_toInt ha, lI_toInt hd, lI_toInt hb]
/-- cells -/
abbrev aI (cI : ClassId) (N : Nat) (f : Nat → Int) : va_E := .inl (cI, N, .inl (fun j => iI (f j)))
abbrev aL (cL : ClassId) (N : Nat) (f : Nat → Int) : va_E := .inl (cL, N, .inr (.inl (fun j => lI (f j))))
abbrev aR (cR : ClassId) (N : Nat) (g : Nat → Option Nat) : va_E := .inl (cR, N, .inr (.inr (.inr (.inr g))))
abbrev oB (ci : Nat) (fs : List Value) : va_E := .inr (ci, fs)
def updI (f : Nat → Int) (k : Nat) (x : Int) : Nat → Int := fun j => if j = k then x else f j
theorem updI_s {f : Nat → Int} {k : Nat} {x : Int} : updI f k x k = x := if_pos rfl
theorem updI_n {f : Nat → Int} {k j : Nat} {x : Int} (h : j ≠ k) : updI f k x j = f j := if_neg h
theorem updI_pre {ff fg : Nat → Int} {z : Int} (h : ∀ j : Nat, (j : Int) < z → ff j = fg j) (h0 : 0 ≤ z) : ∀ j : Nat, (j : Int) < z + 1 → updI ff z.toNat (fg z.toNat) j = fg j := by
  intro j hj
  by_cases q : j = z.toNat
  · rw [q, updI_s]
  · rw [updI_n q]; exact h j (by omega)
theorem upd_iI (f : Nat → Int) (k : Nat) (x : Int) : upd (fun j => iI (f j)) k (iI x) = fun j => iI (updI f k x j) := by
  funext j
  by_cases h : j = k
  · simp [upd, updI, h]
  · simp [upd, updI, h]
theorem upd_lI (f : Nat → Int) (k : Nat) (x : Int) : vp_updL (fun j => lI (f j)) k (lI x) = fun j => lI (updI f k x j) := by
  funext j
  by_cases h : j = k
  · simp [vp_updL, updI, h]
  · simp [vp_updL, updI, h]
abbrev eE (D : va_G) (cI cL cR : ClassId) (lo : Nat) : ch_E := (D, [(cI, .int), (cL, .long), (cR, .object "SpanSolids$Solid")], lo)
abbrev rM (d c s : Nat) : Room := { frames := d, cells := c, slots := s, locals := 60 * d }
theorem ch_ne {h : ch_H} {a b : Nat} {e e' : va_E} (ha : h a = some e) (hb : h b = some e') (q : e ≠ e') : a ≠ b := fun z => q (by rw [z, hb] at ha; exact (Option.some.inj ha).symm)
/-- what isn't in L stays -/
def ch_fr (L : List Nat) (h h' : ch_H) : Prop := ∀ b, b ∉ L → h' b = h b
theorem ch_fr0 {L : List Nat} {h : ch_H} : ch_fr L h h := fun _ _ => rfl
theorem ch_frS {L : List Nat} {h h' : ch_H} {a : Nat} {e : va_E} (H : ch_fr L h h') (ha : a ∈ L) : ch_fr L h (ch_set h' a e) := fun b hb => by rw [ch_set_ne (fun q => hb (by rw [q]; exact ha))]; exact H b hb
theorem ch_frT {L L' : List Nat} {h h' h'' : ch_H} (H : ch_fr L h h') (H' : ch_fr L' h' h'') (hs : ∀ a, a ∈ L' → a ∈ L) : ch_fr L h h'' := fun b hb => by rw [H' b (fun q => hb (hs b q))]; exact H b hb
theorem ch_frW {L L' : List Nat} {h h' : ch_H} (H : ch_fr L h h') (hs : ∀ a, a ∈ L → a ∈ L') : ch_fr L' h h' := fun b hb => H b (fun q => hb (hs b q))

section INTS
variable {l : Launch} {E : ch_E} {M : ch_D} {Xt : State → Array Value → Prop} {R : Room} {Z : List Frame → Array Value → State → State → Prop} {k n : Nat} {h : ch_H} {hi pc : Nat} {lv : List (Nat × Value)} {st : List Value} {D : va_G} {cI cL cR : ClassId} {lo : Nat}
theorem gy_iadd {a b : Int} (hd : decode M.2.1 pc = .ok (.iadd, 1)) (kk : ch_G l E M Xt R Z k n h hi (pc + 1) lv (.int (iI (a + b)) :: st)) : ch_G l E M Xt R Z k n h hi pc lv (.int (iI b) :: .int (iI a) :: st) := gx_iadd hd (fun v hv => by subst hv; rw [iI_add]; exact kk)
theorem gy_isub {a b : Int} (hd : decode M.2.1 pc = .ok (.isub, 1)) (kk : ch_G l E M Xt R Z k n h hi (pc + 1) lv (.int (iI (a - b)) :: st)) : ch_G l E M Xt R Z k n h hi pc lv (.int (iI b) :: .int (iI a) :: st) := gx_isub hd (fun v hv => by subst hv; rw [iI_sub]; exact kk)
theorem gy_imul {a b : Int} (hd : decode M.2.1 pc = .ok (.imul, 1)) (kk : ch_G l E M Xt R Z k n h hi (pc + 1) lv (.int (iI (a * b)) :: st)) : ch_G l E M Xt R Z k n h hi pc lv (.int (iI b) :: .int (iI a) :: st) := gx_imul hd (fun v hv => by subst hv; rw [iI_mul]; exact kk)
theorem gy_ladd {a b : Int} (hd : decode M.2.1 pc = .ok (.ladd, 1)) (kk : ch_G l E M Xt R Z k n h hi (pc + 1) lv (.long (lI (a + b)) :: st)) : ch_G l E M Xt R Z k n h hi pc lv (.long (lI b) :: .long (lI a) :: st) := gx_ladd hd (fun v hv => by subst hv; rw [lI_add]; exact kk)
theorem gy_lsub {a b : Int} (hd : decode M.2.1 pc = .ok (.lsub, 1)) (kk : ch_G l E M Xt R Z k n h hi (pc + 1) lv (.long (lI (a - b)) :: st)) : ch_G l E M Xt R Z k n h hi pc lv (.long (lI b) :: .long (lI a) :: st) := gx_lsub hd (fun v hv => by subst hv; rw [lI_sub]; exact kk)
theorem gy_lmul {a b : Int} (hd : decode M.2.1 pc = .ok (.lmul, 1)) (kk : ch_G l E M Xt R Z k n h hi (pc + 1) lv (.long (lI (a * b)) :: st)) : ch_G l E M Xt R Z k n h hi pc lv (.long (lI b) :: .long (lI a) :: st) := gx_lmul hd (fun v hv => by subst hv; rw [lI_mul]; exact kk)
theorem gy_ineg {a : Int} (hd : decode M.2.1 pc = .ok (.ineg, 1)) (kk : ch_G l E M Xt R Z k n h hi (pc + 1) lv (.int (iI (-a)) :: st)) : ch_G l E M Xt R Z k n h hi pc lv (.int (iI a) :: st) := gx_ineg hd (fun v hv => by subst hv; rw [iI_neg]; exact kk)
theorem gy_lneg {a : Int} (hd : decode M.2.1 pc = .ok (.lneg, 1)) (kk : ch_G l E M Xt R Z k n h hi (pc + 1) lv (.long (lI (-a)) :: st)) : ch_G l E M Xt R Z k n h hi pc lv (.long (lI a) :: st) := gx_lneg hd (fun v hv => by subst hv; rw [lI_neg]; exact kk)
theorem gy_idiv {a d : Int} (hd : decode M.2.1 pc = .ok (.idiv, 1)) (ha : ir a) (hq : ir d) (h0 : 0 ≤ a) (h1 : 0 < d) (kk : ch_G l E M Xt R Z k n h hi (pc + 1) lv (.int (iI (a / d)) :: st)) : ch_G l E M Xt R Z k n h hi pc lv (.int (iI d) :: .int (iI a) :: st) := gx_idiv hd (fun q => by rw [iI_0, iI_eq hq (by decide)] at q; omega) (fun v hv => by subst hv; rw [iI_div ha hq h0 h1]; exact kk)
theorem gy_irem {a d : Int} (hd : decode M.2.1 pc = .ok (.irem, 1)) (ha : ir a) (hq : ir d) (h0 : 0 ≤ a) (h1 : 0 < d) (kk : ch_G l E M Xt R Z k n h hi (pc + 1) lv (.int (iI (a % d)) :: st)) : ch_G l E M Xt R Z k n h hi pc lv (.int (iI d) :: .int (iI a) :: st) := gx_irem hd (fun q => by rw [iI_0, iI_eq hq (by decide)] at q; omega) (fun v hv => by subst hv; rw [iI_div ha hq h0 h1, iI_mul, iI_sub, Int.mul_comm, ← Int.emod_def]; exact kk)
theorem gy_ldiv {a d : Int} (hd : decode M.2.1 pc = .ok (.ldiv, 1)) (ha : lr a) (ha2 : -9000000000000000000 ≤ a ∧ a ≤ 9000000000000000000) (hq : lr d) (h1 : 0 < d) (kk : ch_G l E M Xt R Z k n h hi (pc + 1) lv (.long (lI (a.tdiv d)) :: st)) : ch_G l E M Xt R Z k n h hi pc lv (.long (lI d) :: .long (lI a) :: st) := gx_ldiv hd (fun q => by rw [show (0 : Int64) = lI 0 from rfl, lI_eq hq (by decide)] at q; omega) (fun v hv => by subst hv; rw [lI_tdiv ha ha2 hq h1]; exact kk)
theorem gy_lrem {a d : Int} (hd : decode M.2.1 pc = .ok (.lrem, 1)) (ha : lr a) (ha2 : -9000000000000000000 ≤ a ∧ a ≤ 9000000000000000000) (hq : lr d) (h1 : 0 < d) (kk : ch_G l E M Xt R Z k n h hi (pc + 1) lv (.long (lI (a - a.tdiv d * d)) :: st)) : ch_G l E M Xt R Z k n h hi pc lv (.long (lI d) :: .long (lI a) :: st) := gx_lrem hd (fun q => by rw [show (0 : Int64) = lI 0 from rfl, lI_eq hq (by decide)] at q; omega) (fun v hv => by subst hv; rw [lI_tdiv ha ha2 hq h1, lI_mul, lI_sub]; exact kk)
theorem gy_i2l {a : Int} (hd : decode M.2.1 pc = .ok (.i2l, 1)) (ha : ir a) (kk : ch_G l E M Xt R Z k n h hi (pc + 1) lv (.long (lI a) :: st)) : ch_G l E M Xt R Z k n h hi pc lv (.int (iI a) :: st) := gx_i2l hd (fun v hv => by subst hv; rw [iI_i2l ha]; exact kk)
theorem gy_l2i {a : Int} (hd : decode M.2.1 pc = .ok (.l2i, 1)) (kk : ch_G l E M Xt R Z k n h hi (pc + 1) lv (.int (iI a) :: st)) : ch_G l E M Xt R Z k n h hi pc lv (.long (lI a) :: st) := gx_l2i hd (fun v hv => by subst hv; rw [lI_l2i]; exact kk)
theorem gy_iinc {i : Nat} {z a : Int} (j : Nat) (lv' : List (Nat × Value)) (hd : decode M.2.1 pc = .ok (.iinc i z, 3)) (hj : lv[j]? = some (i, .int (iI a))) (hn : i < M.2.2.1) (hv : (i, Value.int (iI (a + z))) :: lv.filter (fun q => !(q.1 == i) && !(q.1 + 1 == i && q.2.category == 2)) = lv') (kk : ch_G l E M Xt R Z k n h hi (pc + 3) lv' st) : ch_G l E M Xt R Z k n h hi pc lv st := gx_iinc j (fun v => (i, Value.int v) :: lv.filter (fun q => !(q.1 == i) && !(q.1 + 1 == i && q.2.category == 2))) hd hj hn (fun _ => rfl) (fun v hv2 => by have e : v = iI (a + z) := hv2.trans (iI_add a z); subst e; rw [hv]; exact kk)
theorem gy_if_eq {a : Int} {off : Int} (tgt : Nat) (hd : decode M.2.1 pc = .ok (.ifCond .eq off, 3)) (ht : (pc : Int) + off = (tgt : Int)) (ha : ir a) (kt : a = 0 → ch_G l E M Xt R Z k n h hi tgt lv st) (kf : a ≠ 0 → ch_G l E M Xt R Z k n h hi (pc + 3) lv st) : ch_G l E M Xt R Z k n h hi pc lv (.int (iI a) :: st) := gx_if_eq tgt hd ht (fun q => kt (by have q2 := q; simp only [iI_0, iI_eq ha (by decide : ir 0), iI_le ha (by decide : ir 0), iI_lt ha (by decide : ir 0), iI_le (by decide : ir 0) ha, iI_lt (by decide : ir 0) ha, ne_eq] at q2; first | exact q2 | omega)) (fun q => kf (by have q2 := q; simp only [iI_0, iI_eq ha (by decide : ir 0), iI_le ha (by decide : ir 0), iI_lt ha (by decide : ir 0), iI_le (by decide : ir 0) ha, iI_lt (by decide : ir 0) ha, ne_eq] at q2; first | exact q2 | omega))
theorem gy_icmp_eq {a b : Int} {off : Int} (tgt : Nat) (hd : decode M.2.1 pc = .ok (.if_icmp .eq off, 3)) (ht : (pc : Int) + off = (tgt : Int)) (ha : ir a) (hb : ir b) (kt : a = b → ch_G l E M Xt R Z k n h hi tgt lv st) (kf : a ≠ b → ch_G l E M Xt R Z k n h hi (pc + 3) lv st) : ch_G l E M Xt R Z k n h hi pc lv (.int (iI b) :: .int (iI a) :: st) := gx_icmp_eq tgt hd ht (fun q => kt (by have q2 := q; simp only [iI_eq ha hb, iI_le ha hb, iI_lt ha hb, iI_le hb ha, iI_lt hb ha, ne_eq] at q2; first | exact q2 | omega)) (fun q => kf (by have q2 := q; simp only [iI_eq ha hb, iI_le ha hb, iI_lt ha hb, iI_le hb ha, iI_lt hb ha, ne_eq] at q2; first | exact q2 | omega))
theorem gy_if_ne {a : Int} {off : Int} (tgt : Nat) (hd : decode M.2.1 pc = .ok (.ifCond .ne off, 3)) (ht : (pc : Int) + off = (tgt : Int)) (ha : ir a) (kt : a ≠ 0 → ch_G l E M Xt R Z k n h hi tgt lv st) (kf : a = 0 → ch_G l E M Xt R Z k n h hi (pc + 3) lv st) : ch_G l E M Xt R Z k n h hi pc lv (.int (iI a) :: st) := gx_if_ne tgt hd ht (fun q => kt (by have q2 := q; simp only [iI_0, iI_eq ha (by decide : ir 0), iI_le ha (by decide : ir 0), iI_lt ha (by decide : ir 0), iI_le (by decide : ir 0) ha, iI_lt (by decide : ir 0) ha, ne_eq] at q2; first | exact q2 | omega)) (fun q => kf (by have q2 := q; simp only [iI_0, iI_eq ha (by decide : ir 0), iI_le ha (by decide : ir 0), iI_lt ha (by decide : ir 0), iI_le (by decide : ir 0) ha, iI_lt (by decide : ir 0) ha, ne_eq] at q2; first | exact q2 | omega))
theorem gy_icmp_ne {a b : Int} {off : Int} (tgt : Nat) (hd : decode M.2.1 pc = .ok (.if_icmp .ne off, 3)) (ht : (pc : Int) + off = (tgt : Int)) (ha : ir a) (hb : ir b) (kt : a ≠ b → ch_G l E M Xt R Z k n h hi tgt lv st) (kf : a = b → ch_G l E M Xt R Z k n h hi (pc + 3) lv st) : ch_G l E M Xt R Z k n h hi pc lv (.int (iI b) :: .int (iI a) :: st) := gx_icmp_ne tgt hd ht (fun q => kt (by have q2 := q; simp only [iI_eq ha hb, iI_le ha hb, iI_lt ha hb, iI_le hb ha, iI_lt hb ha, ne_eq] at q2; first | exact q2 | omega)) (fun q => kf (by have q2 := q; simp only [iI_eq ha hb, iI_le ha hb, iI_lt ha hb, iI_le hb ha, iI_lt hb ha, ne_eq] at q2; first | exact q2 | omega))
theorem gy_if_lt {a : Int} {off : Int} (tgt : Nat) (hd : decode M.2.1 pc = .ok (.ifCond .lt off, 3)) (ht : (pc : Int) + off = (tgt : Int)) (ha : ir a) (kt : a < 0 → ch_G l E M Xt R Z k n h hi tgt lv st) (kf : 0 ≤ a → ch_G l E M Xt R Z k n h hi (pc + 3) lv st) : ch_G l E M Xt R Z k n h hi pc lv (.int (iI a) :: st) := gx_if_lt tgt hd ht (fun q => kt (by have q2 := q; simp only [iI_0, iI_eq ha (by decide : ir 0), iI_le ha (by decide : ir 0), iI_lt ha (by decide : ir 0), iI_le (by decide : ir 0) ha, iI_lt (by decide : ir 0) ha, ne_eq] at q2; first | exact q2 | omega)) (fun q => kf (by have q2 := q; simp only [iI_0, iI_eq ha (by decide : ir 0), iI_le ha (by decide : ir 0), iI_lt ha (by decide : ir 0), iI_le (by decide : ir 0) ha, iI_lt (by decide : ir 0) ha, ne_eq] at q2; first | exact q2 | omega))
theorem gy_icmp_lt {a b : Int} {off : Int} (tgt : Nat) (hd : decode M.2.1 pc = .ok (.if_icmp .lt off, 3)) (ht : (pc : Int) + off = (tgt : Int)) (ha : ir a) (hb : ir b) (kt : a < b → ch_G l E M Xt R Z k n h hi tgt lv st) (kf : b ≤ a → ch_G l E M Xt R Z k n h hi (pc + 3) lv st) : ch_G l E M Xt R Z k n h hi pc lv (.int (iI b) :: .int (iI a) :: st) := gx_icmp_lt tgt hd ht (fun q => kt (by have q2 := q; simp only [iI_eq ha hb, iI_le ha hb, iI_lt ha hb, iI_le hb ha, iI_lt hb ha, ne_eq] at q2; first | exact q2 | omega)) (fun q => kf (by have q2 := q; simp only [iI_eq ha hb, iI_le ha hb, iI_lt ha hb, iI_le hb ha, iI_lt hb ha, ne_eq] at q2; first | exact q2 | omega))
theorem gy_if_ge {a : Int} {off : Int} (tgt : Nat) (hd : decode M.2.1 pc = .ok (.ifCond .ge off, 3)) (ht : (pc : Int) + off = (tgt : Int)) (ha : ir a) (kt : 0 ≤ a → ch_G l E M Xt R Z k n h hi tgt lv st) (kf : a < 0 → ch_G l E M Xt R Z k n h hi (pc + 3) lv st) : ch_G l E M Xt R Z k n h hi pc lv (.int (iI a) :: st) := gx_if_ge tgt hd ht (fun q => kt (by have q2 := q; simp only [iI_0, iI_eq ha (by decide : ir 0), iI_le ha (by decide : ir 0), iI_lt ha (by decide : ir 0), iI_le (by decide : ir 0) ha, iI_lt (by decide : ir 0) ha, ne_eq] at q2; first | exact q2 | omega)) (fun q => kf (by have q2 := q; simp only [iI_0, iI_eq ha (by decide : ir 0), iI_le ha (by decide : ir 0), iI_lt ha (by decide : ir 0), iI_le (by decide : ir 0) ha, iI_lt (by decide : ir 0) ha, ne_eq] at q2; first | exact q2 | omega))
theorem gy_icmp_ge {a b : Int} {off : Int} (tgt : Nat) (hd : decode M.2.1 pc = .ok (.if_icmp .ge off, 3)) (ht : (pc : Int) + off = (tgt : Int)) (ha : ir a) (hb : ir b) (kt : b ≤ a → ch_G l E M Xt R Z k n h hi tgt lv st) (kf : a < b → ch_G l E M Xt R Z k n h hi (pc + 3) lv st) : ch_G l E M Xt R Z k n h hi pc lv (.int (iI b) :: .int (iI a) :: st) := gx_icmp_ge tgt hd ht (fun q => kt (by have q2 := q; simp only [iI_eq ha hb, iI_le ha hb, iI_lt ha hb, iI_le hb ha, iI_lt hb ha, ne_eq] at q2; first | exact q2 | omega)) (fun q => kf (by have q2 := q; simp only [iI_eq ha hb, iI_le ha hb, iI_lt ha hb, iI_le hb ha, iI_lt hb ha, ne_eq] at q2; first | exact q2 | omega))
theorem gy_if_gt {a : Int} {off : Int} (tgt : Nat) (hd : decode M.2.1 pc = .ok (.ifCond .gt off, 3)) (ht : (pc : Int) + off = (tgt : Int)) (ha : ir a) (kt : 0 < a → ch_G l E M Xt R Z k n h hi tgt lv st) (kf : a ≤ 0 → ch_G l E M Xt R Z k n h hi (pc + 3) lv st) : ch_G l E M Xt R Z k n h hi pc lv (.int (iI a) :: st) := gx_if_gt tgt hd ht (fun q => kt (by have q2 := q; simp only [iI_0, iI_eq ha (by decide : ir 0), iI_le ha (by decide : ir 0), iI_lt ha (by decide : ir 0), iI_le (by decide : ir 0) ha, iI_lt (by decide : ir 0) ha, ne_eq] at q2; first | exact q2 | omega)) (fun q => kf (by have q2 := q; simp only [iI_0, iI_eq ha (by decide : ir 0), iI_le ha (by decide : ir 0), iI_lt ha (by decide : ir 0), iI_le (by decide : ir 0) ha, iI_lt (by decide : ir 0) ha, ne_eq] at q2; first | exact q2 | omega))
theorem gy_icmp_gt {a b : Int} {off : Int} (tgt : Nat) (hd : decode M.2.1 pc = .ok (.if_icmp .gt off, 3)) (ht : (pc : Int) + off = (tgt : Int)) (ha : ir a) (hb : ir b) (kt : b < a → ch_G l E M Xt R Z k n h hi tgt lv st) (kf : a ≤ b → ch_G l E M Xt R Z k n h hi (pc + 3) lv st) : ch_G l E M Xt R Z k n h hi pc lv (.int (iI b) :: .int (iI a) :: st) := gx_icmp_gt tgt hd ht (fun q => kt (by have q2 := q; simp only [iI_eq ha hb, iI_le ha hb, iI_lt ha hb, iI_le hb ha, iI_lt hb ha, ne_eq] at q2; first | exact q2 | omega)) (fun q => kf (by have q2 := q; simp only [iI_eq ha hb, iI_le ha hb, iI_lt ha hb, iI_le hb ha, iI_lt hb ha, ne_eq] at q2; first | exact q2 | omega))
theorem gy_if_le {a : Int} {off : Int} (tgt : Nat) (hd : decode M.2.1 pc = .ok (.ifCond .le off, 3)) (ht : (pc : Int) + off = (tgt : Int)) (ha : ir a) (kt : a ≤ 0 → ch_G l E M Xt R Z k n h hi tgt lv st) (kf : 0 < a → ch_G l E M Xt R Z k n h hi (pc + 3) lv st) : ch_G l E M Xt R Z k n h hi pc lv (.int (iI a) :: st) := gx_if_le tgt hd ht (fun q => kt (by have q2 := q; simp only [iI_0, iI_eq ha (by decide : ir 0), iI_le ha (by decide : ir 0), iI_lt ha (by decide : ir 0), iI_le (by decide : ir 0) ha, iI_lt (by decide : ir 0) ha, ne_eq] at q2; first | exact q2 | omega)) (fun q => kf (by have q2 := q; simp only [iI_0, iI_eq ha (by decide : ir 0), iI_le ha (by decide : ir 0), iI_lt ha (by decide : ir 0), iI_le (by decide : ir 0) ha, iI_lt (by decide : ir 0) ha, ne_eq] at q2; first | exact q2 | omega))
theorem gy_icmp_le {a b : Int} {off : Int} (tgt : Nat) (hd : decode M.2.1 pc = .ok (.if_icmp .le off, 3)) (ht : (pc : Int) + off = (tgt : Int)) (ha : ir a) (hb : ir b) (kt : a ≤ b → ch_G l E M Xt R Z k n h hi tgt lv st) (kf : b < a → ch_G l E M Xt R Z k n h hi (pc + 3) lv st) : ch_G l E M Xt R Z k n h hi pc lv (.int (iI b) :: .int (iI a) :: st) := gx_icmp_le tgt hd ht (fun q => kt (by have q2 := q; simp only [iI_eq ha hb, iI_le ha hb, iI_lt ha hb, iI_le hb ha, iI_lt hb ha, ne_eq] at q2; first | exact q2 | omega)) (fun q => kf (by have q2 := q; simp only [iI_eq ha hb, iI_le ha hb, iI_lt ha hb, iI_le hb ha, iI_lt hb ha, ne_eq] at q2; first | exact q2 | omega))
theorem lg_cmpI {a b : Int} (ha : lr a) (hb : lr b) : ∃ z : Int, ir z ∧ lg_cmp (lI a) (lI b) = iI z ∧ (z = 0 ↔ a = b) ∧ (z < 0 ↔ a < b) := by
  unfold lg_cmp
  by_cases h1 : b < a
  · refine ⟨1, by decide, ?_, by omega, by omega⟩
    rw [if_pos (show lI a > lI b from (lI_lt hb ha).mpr h1)]; rfl
  · rw [if_neg (show ¬ lI a > lI b from fun q => h1 ((lI_lt hb ha).mp q))]
    by_cases h2 : a = b
    · refine ⟨0, by decide, ?_, by omega, by omega⟩
      rw [if_pos (by rw [h2])]; rfl
    · refine ⟨-1, by decide, ?_, by omega, by omega⟩
      rw [if_neg (fun q => h2 ((lI_eq ha hb).mp q))]; rfl
theorem gy_lcmp_eq {a b : Int} {off : Int} (tgt : Nat) (hd1 : decode M.2.1 pc = .ok (.lcmp, 1)) (hd : decode M.2.1 (pc + 1) = .ok (.ifCond .eq off, 3)) (ht : ((pc + 1 : Nat) : Int) + off = (tgt : Int)) (ha : lr a) (hb : lr b) (kt : a = b → ch_G l E M Xt R Z k n h hi tgt lv st) (kf : a ≠ b → ch_G l E M Xt R Z k n h hi (pc + 4) lv st) : ch_G l E M Xt R Z k n h hi pc lv (.long (lI b) :: .long (lI a) :: st) := by
  obtain ⟨z, hz, e, h0, h1⟩ := lg_cmpI ha hb
  refine gx_lcmp hd1 ?_
  rw [e]
  exact gy_if_eq tgt hd ht hz (fun q => kt (by omega)) (fun q => kf (by omega))
theorem gy_lcmp_ne {a b : Int} {off : Int} (tgt : Nat) (hd1 : decode M.2.1 pc = .ok (.lcmp, 1)) (hd : decode M.2.1 (pc + 1) = .ok (.ifCond .ne off, 3)) (ht : ((pc + 1 : Nat) : Int) + off = (tgt : Int)) (ha : lr a) (hb : lr b) (kt : a ≠ b → ch_G l E M Xt R Z k n h hi tgt lv st) (kf : a = b → ch_G l E M Xt R Z k n h hi (pc + 4) lv st) : ch_G l E M Xt R Z k n h hi pc lv (.long (lI b) :: .long (lI a) :: st) := by
  obtain ⟨z, hz, e, h0, h1⟩ := lg_cmpI ha hb
  refine gx_lcmp hd1 ?_
  rw [e]
  exact gy_if_ne tgt hd ht hz (fun q => kt (by omega)) (fun q => kf (by omega))
theorem gy_lcmp_lt {a b : Int} {off : Int} (tgt : Nat) (hd1 : decode M.2.1 pc = .ok (.lcmp, 1)) (hd : decode M.2.1 (pc + 1) = .ok (.ifCond .lt off, 3)) (ht : ((pc + 1 : Nat) : Int) + off = (tgt : Int)) (ha : lr a) (hb : lr b) (kt : a < b → ch_G l E M Xt R Z k n h hi tgt lv st) (kf : b ≤ a → ch_G l E M Xt R Z k n h hi (pc + 4) lv st) : ch_G l E M Xt R Z k n h hi pc lv (.long (lI b) :: .long (lI a) :: st) := by
  obtain ⟨z, hz, e, h0, h1⟩ := lg_cmpI ha hb
  refine gx_lcmp hd1 ?_
  rw [e]
  exact gy_if_lt tgt hd ht hz (fun q => kt (by omega)) (fun q => kf (by omega))
theorem gy_lcmp_ge {a b : Int} {off : Int} (tgt : Nat) (hd1 : decode M.2.1 pc = .ok (.lcmp, 1)) (hd : decode M.2.1 (pc + 1) = .ok (.ifCond .ge off, 3)) (ht : ((pc + 1 : Nat) : Int) + off = (tgt : Int)) (ha : lr a) (hb : lr b) (kt : b ≤ a → ch_G l E M Xt R Z k n h hi tgt lv st) (kf : a < b → ch_G l E M Xt R Z k n h hi (pc + 4) lv st) : ch_G l E M Xt R Z k n h hi pc lv (.long (lI b) :: .long (lI a) :: st) := by
  obtain ⟨z, hz, e, h0, h1⟩ := lg_cmpI ha hb
  refine gx_lcmp hd1 ?_
  rw [e]
  exact gy_if_ge tgt hd ht hz (fun q => kt (by omega)) (fun q => kf (by omega))
theorem gy_lcmp_gt {a b : Int} {off : Int} (tgt : Nat) (hd1 : decode M.2.1 pc = .ok (.lcmp, 1)) (hd : decode M.2.1 (pc + 1) = .ok (.ifCond .gt off, 3)) (ht : ((pc + 1 : Nat) : Int) + off = (tgt : Int)) (ha : lr a) (hb : lr b) (kt : b < a → ch_G l E M Xt R Z k n h hi tgt lv st) (kf : a ≤ b → ch_G l E M Xt R Z k n h hi (pc + 4) lv st) : ch_G l E M Xt R Z k n h hi pc lv (.long (lI b) :: .long (lI a) :: st) := by
  obtain ⟨z, hz, e, h0, h1⟩ := lg_cmpI ha hb
  refine gx_lcmp hd1 ?_
  rw [e]
  exact gy_if_gt tgt hd ht hz (fun q => kt (by omega)) (fun q => kf (by omega))
theorem gy_lcmp_le {a b : Int} {off : Int} (tgt : Nat) (hd1 : decode M.2.1 pc = .ok (.lcmp, 1)) (hd : decode M.2.1 (pc + 1) = .ok (.ifCond .le off, 3)) (ht : ((pc + 1 : Nat) : Int) + off = (tgt : Int)) (ha : lr a) (hb : lr b) (kt : a ≤ b → ch_G l E M Xt R Z k n h hi tgt lv st) (kf : b < a → ch_G l E M Xt R Z k n h hi (pc + 4) lv st) : ch_G l E M Xt R Z k n h hi pc lv (.long (lI b) :: .long (lI a) :: st) := by
  obtain ⟨z, hz, e, h0, h1⟩ := lg_cmpI ha hb
  refine gx_lcmp hd1 ?_
  rw [e]
  exact gy_if_le tgt hd ht hz (fun q => kt (by omega)) (fun q => kf (by omega))
theorem gy_iald {a N : Nat} {f : Nat → Int} {z : Int} (hd : decode M.2.1 pc = .ok (.iaload, 1)) (ha : h a = some (aI cI N f)) (h0 : 0 ≤ z) (h1 : z < N) (hN : N < 2 ^ 31) (kk : ch_G l (eE D cI cL cR lo) M Xt R Z k n h hi (pc + 1) lv (.int (iI (f z.toNat)) :: st)) : ch_G l (eE D cI cL cR lo) M Xt R Z k n h hi pc lv (.int (iI z) :: .ref a :: st) := gx_iald 0 rfl hd ha (iI_in h0 h1 hN) (fun v hv => by rw [iI_clamp ⟨by omega, by omega⟩] at hv; subst hv; exact kk)
theorem gy_lald {a N : Nat} {f : Nat → Int} {z : Int} (hd : decode M.2.1 pc = .ok (.laload, 1)) (ha : h a = some (aL cL N f)) (h0 : 0 ≤ z) (h1 : z < N) (hN : N < 2 ^ 31) (kk : ch_G l (eE D cI cL cR lo) M Xt R Z k n h hi (pc + 1) lv (.long (lI (f z.toNat)) :: st)) : ch_G l (eE D cI cL cR lo) M Xt R Z k n h hi pc lv (.int (iI z) :: .ref a :: st) := gx_lald 1 rfl hd ha (iI_in h0 h1 hN) (fun v hv => by rw [iI_clamp ⟨by omega, by omega⟩] at hv; subst hv; exact kk)
theorem gy_aald {a N : Nat} {g : Nat → Option Nat} {z : Int} (hd : decode M.2.1 pc = .ok (.aaload, 1)) (ha : h a = some (aR cR N g)) (h0 : 0 ≤ z) (h1 : z < N) (hN : N < 2 ^ 31) (kk : ch_G l (eE D cI cL cR lo) M Xt R Z k n h hi (pc + 1) lv (va_rf (g z.toNat) :: st)) : ch_G l (eE D cI cL cR lo) M Xt R Z k n h hi pc lv (.int (iI z) :: .ref a :: st) := gx_aald 2 rfl hd ha (iI_in h0 h1 hN) (fun v hv => by rw [iI_clamp ⟨by omega, by omega⟩] at hv; subst hv; exact kk)
theorem gy_iast {a N : Nat} {f : Nat → Int} {z x : Int} (hd : decode M.2.1 pc = .ok (.iastore, 1)) (ha : h a = some (aI cI N f)) (h0 : 0 ≤ z) (h1 : z < N) (hN : N < 2 ^ 31) (kk : ∀ h2, h2 = ch_set h a (aI cI N (updI f z.toNat x)) → ch_G l (eE D cI cL cR lo) M Xt R Z k n h2 hi (pc + 1) lv st) : ch_G l (eE D cI cL cR lo) M Xt R Z k n h hi pc lv (.int (iI x) :: .int (iI z) :: .ref a :: st) := gx_iast 0 rfl hd ha (iI_in h0 h1 hN) (by rw [iI_clamp ⟨by omega, by omega⟩, upd_iI]; exact kk _ rfl)
theorem gy_last {a N : Nat} {f : Nat → Int} {z x : Int} (hd : decode M.2.1 pc = .ok (.lastore, 1)) (ha : h a = some (aL cL N f)) (h0 : 0 ≤ z) (h1 : z < N) (hN : N < 2 ^ 31) (kk : ∀ h2, h2 = ch_set h a (aL cL N (updI f z.toNat x)) → ch_G l (eE D cI cL cR lo) M Xt R Z k n h2 hi (pc + 1) lv st) : ch_G l (eE D cI cL cR lo) M Xt R Z k n h hi pc lv (.long (lI x) :: .int (iI z) :: .ref a :: st) := gx_last 1 rfl hd ha (iI_in h0 h1 hN) (by rw [iI_clamp ⟨by omega, by omega⟩, upd_lI]; exact kk _ rfl)
theorem gy_aast {a N v ci : Nat} {r : vw_C} {vs : List Value} {g : Nat → Option Nat} {z : Int} (hc : vwCl[ci]? = some r) (hca : ∀ U, ch_N U → va_Nw (Cond.castable r.1 "SpanSolids$Solid") U) (hd : decode M.2.1 pc = .ok (.aastore, 1)) (ha : h a = some (aR cR N g)) (hv : h v = some (.inr (ci, vs))) (h0 : 0 ≤ z) (h1 : z < N) (hN : N < 2 ^ 31) (kk : ∀ h2, h2 = ch_set h a (aR cR N (va_up g z.toNat (some v))) → ch_G l (eE D cI cL cR lo) M Xt R Z k n h2 hi (pc + 1) lv st) : ch_G l (eE D cI cL cR lo) M Xt R Z k n h hi pc lv (.ref v :: .int (iI z) :: .ref a :: st) := gx_aast 2 rfl hc hca hd ha hv (iI_in h0 h1 hN) (by rw [iI_clamp ⟨by omega, by omega⟩]; exact kk _ rfl)
theorem gy_aastN {a N : Nat} {g : Nat → Option Nat} {z : Int} (hd : decode M.2.1 pc = .ok (.aastore, 1)) (ha : h a = some (aR cR N g)) (h0 : 0 ≤ z) (h1 : z < N) (hN : N < 2 ^ 31) (kk : ∀ h2, h2 = ch_set h a (aR cR N (va_up g z.toNat none)) → ch_G l (eE D cI cL cR lo) M Xt R Z k n h2 hi (pc + 1) lv st) : ch_G l (eE D cI cL cR lo) M Xt R Z k n h hi pc lv (.null :: .int (iI z) :: .ref a :: st) := gx_aastN 2 rfl hd ha (iI_in h0 h1 hN) (by rw [iI_clamp ⟨by omega, by omega⟩]; exact kk _ rfl)
theorem gy_put {a ci idx f N : Nat} {C : String} {T : u_T} {fs fs2 : List Value} {v : Value} {ty : FieldType} (ty0 : Nat → FieldType) (hc : vwCl[ci]? = some (C, T, N)) (hin : ∀ w ∈ u_ws C T N, w ∈ ch_tb) (hty : ∀ k, k < N → parseFieldDescriptor (T k).2.2.1 = some (ty0 k)) (hnm : ∀ a, a < N → ∀ b, b < N → a ≠ b → (T a).2.1 ≠ (T b).2.1) (hf : f < N) (hlink : Cond.fieldLink M.1.cls idx (T f).1 (T f).2.1 (T f).2.2.1 ∈ ch_tb) (hfin : (T f).2.2.2 = false ∨ ((T f).2.2.2 = true ∧ M.1.name = "<init>" ∧ (T f).1 = M.1.cls)) (hde : parseFieldDescriptor (T f).2.2.1 = some ty) (hn : narrow ty v = v) (hfit : fits ty v = true) (hd : decode M.2.1 pc = .ok (.putfield idx, 3)) (ha : h a = some (.inr (ci, fs))) (hlt : f < fs.length) (hs : fs.set f v = fs2) (kk : ∀ h2, h2 = ch_set h a (.inr (ci, fs2)) → ch_G l E M Xt R Z k n h2 hi (pc + 3) lv st) : ch_G l E M Xt R Z k n h hi pc lv (v :: .ref a :: st) := gx_put ty0 hc hin hty hnm hf hlink hfin hde hn hfit hd ha hlt (by rw [hs]; exact kk _ rfl)
theorem gy_new {ci idx N : Nat} {C : String} {T : u_T} (fs : List Value) (ty0 : Nat → FieldType) (hc : vwCl[ci]? = some (C, T, N)) (hin : ∀ w ∈ u_ws C T N, w ∈ ch_tb) (hty : ∀ k, k < N → parseFieldDescriptor (T k).2.2.1 = some (ty0 k)) (hcl : Cond.classLink M.1.cls idx C ∈ ch_tb) (hinst : Cond.instantiable C N ∈ ch_tb) (hini : Cond.initialized C ∈ ch_tb) (hfs : ∀ j, j < N → defaultValue (ty0 j) = vp_V fs j) (hcells : k + 1 ≤ R.cells) (hslots : n + N ≤ R.slots) (hd : decode M.2.1 pc = .ok (.new idx, 3)) (kk : ∀ h2, h2 = ch_set h hi (.inr (ci, fs)) → ch_G l E M Xt R Z (k + 1) (n + N) h2 (hi + 1) (pc + 3) lv (.ref hi :: st)) : ch_G l E M Xt R Z k n h hi pc lv st := gx_new ty0 hc hin hty hcl hinst hini hfs hcells hslots hd (kk _ rfl)
theorem gy_newi {z : Int} (N : Nat) (harr : Cond.arrayClass .int ∈ ch_tb) (hd : decode M.2.1 pc = .ok (.newarray .int, 2)) (hz : z = (N : Int)) (hN : N < 100000) (hcells : k + 1 ≤ R.cells) (hslots : n + N ≤ R.slots) (kk : ∀ h2, h2 = ch_set h hi (aI cI N (fun _ => 0)) → ch_G l (eE D cI cL cR lo) M Xt R Z (k + 1) (n + N) h2 (hi + 1) (pc + 2) lv (.ref hi :: st)) : ch_G l (eE D cI cL cR lo) M Xt R Z k n h hi pc lv (.int (iI z) :: st) := by
  subst hz
  have hr : ir (N : Int) := ⟨by omega, by omega⟩
  exact gx_newi 0 rfl harr hd (fun q => by rw [iI_0, iI_lt hr (by decide)] at q; omega) (by rw [iI_clamp hr]; rfl) (by show N * 4 ≤ _; omega) hcells hslots (kk _ rfl)
theorem gy_newl {z : Int} (N : Nat) (harr : Cond.arrayClass .long ∈ ch_tb) (hd : decode M.2.1 pc = .ok (.newarray .long, 2)) (hz : z = (N : Int)) (hN : N < 100000) (hcells : k + 1 ≤ R.cells) (hslots : n + N ≤ R.slots) (kk : ∀ h2, h2 = ch_set h hi (aL cL N (fun _ => 0)) → ch_G l (eE D cI cL cR lo) M Xt R Z (k + 1) (n + N) h2 (hi + 1) (pc + 2) lv (.ref hi :: st)) : ch_G l (eE D cI cL cR lo) M Xt R Z k n h hi pc lv (.int (iI z) :: st) := by
  subst hz
  have hr : ir (N : Int) := ⟨by omega, by omega⟩
  exact gx_newl 1 rfl harr hd (fun q => by rw [iI_0, iI_lt hr (by decide)] at q; omega) (by rw [iI_clamp hr]; rfl) (by show N * 8 ≤ _; omega) hcells hslots (kk _ rfl)
theorem gy_anew {z : Int} {idx : Nat} (N : Nat) (hcl : Cond.classLink M.1.cls idx "SpanSolids$Solid" ∈ ch_tb) (hov : ∀ U, ch_N U → va_AO "SpanSolids$Solid" U) (hd : decode M.2.1 pc = .ok (.anewarray idx, 3)) (hz : z = (N : Int)) (hN : N < 100000) (hcells : k + 1 ≤ R.cells) (hslots : n + N ≤ R.slots) (kk : ∀ h2, h2 = ch_set h hi (aR cR N (fun _ => none)) → ch_G l (eE D cI cL cR lo) M Xt R Z (k + 1) (n + N) h2 (hi + 1) (pc + 3) lv (.ref hi :: st)) : ch_G l (eE D cI cL cR lo) M Xt R Z k n h hi pc lv (.int (iI z) :: st) := by
  subst hz
  have hr : ir (N : Int) := ⟨by omega, by omega⟩
  exact gx_anew 2 rfl hcl hov hd (fun q => by rw [iI_0, iI_lt hr (by decide)] at q; omega) (by rw [iI_clamp hr]; rfl) (by omega) hcells hslots (kk _ rfl)
theorem gy_mmax {a b : Int} {idx : Nat} (hlink : Cond.methodLink M.1.cls idx Lib.Math.max.name ∈ ch_tb) (hstat : Cond.static Lib.Math.max.name ∈ ch_tb) (hini : Cond.initialized "java/lang/Math" ∈ ch_tb) (hcode : Cond.code Lib.Math.max.name Lib.Math.max.code 2 (some .int) ∈ ch_tb) (hd : decode M.2.1 pc = .ok (.invokestatic idx, 3)) (hfr : 1 ≤ R.frames) (hlo : (st.map fun v => v.category).sum + 13 ≤ R.locals) (hk : k ≤ R.cells) (hn : n ≤ R.slots) (ha : ir a) (hb : ir b) (kk : ch_G l E M Xt R Z k n h hi (pc + 3) lv (.int (iI (max a b)) :: st)) : ch_G l E M Xt R Z k n h hi pc lv (.int (iI b) :: .int (iI a) :: st) := gx_mmax hlink hstat hini hcode hd hfr hlo hk hn (fun v hv => by
  have e : v = iI (max a b) := by
    rw [hv]
    by_cases q : a < b
    · simp only [iI_lt ha hb, q, if_true]; rw [Int.max_eq_right (by omega)]
    · simp only [iI_lt ha hb, q, if_false]; rw [Int.max_eq_left (by omega)]
  subst e
  exact kk)
theorem gy_mmin {a b : Int} {idx : Nat} (hlink : Cond.methodLink M.1.cls idx Lib.Math.min.name ∈ ch_tb) (hstat : Cond.static Lib.Math.min.name ∈ ch_tb) (hini : Cond.initialized "java/lang/Math" ∈ ch_tb) (hcode : Cond.code Lib.Math.min.name Lib.Math.min.code 2 (some .int) ∈ ch_tb) (hd : decode M.2.1 pc = .ok (.invokestatic idx, 3)) (hfr : 1 ≤ R.frames) (hlo : (st.map fun v => v.category).sum + 13 ≤ R.locals) (hk : k ≤ R.cells) (hn : n ≤ R.slots) (ha : ir a) (hb : ir b) (kk : ch_G l E M Xt R Z k n h hi (pc + 3) lv (.int (iI (min a b)) :: st)) : ch_G l E M Xt R Z k n h hi pc lv (.int (iI b) :: .int (iI a) :: st) := gx_mmin hlink hstat hini hcode hd hfr hlo hk hn (fun v hv => by
  have e : v = iI (min a b) := by
    rw [hv]
    by_cases q : b < a
    · simp only [iI_lt hb ha, q, if_true]; rw [Int.min_eq_right (by omega)]
    · simp only [iI_lt hb ha, q, if_false]; rw [Int.min_eq_left (by omega)]
  subst e
  exact kk)
theorem gx_ifnullA {a : Nat} {off : Int} (hd : decode M.2.1 pc = .ok (.ifnull off, 3)) (kk : ch_G l E M Xt R Z k n h hi (pc + 3) lv st) : ch_G l E M Xt R Z k n h hi pc lv (.ref a :: st) := fun p e s m args below meth c H locs ls X hM hS hl => lv_ifnull X.1 X.2.1 hd (kk p e s m args below meth c H locs ls X hM hS hl)
theorem gx_ifnullZ {off : Int} (tgt : Nat) (hd : decode M.2.1 pc = .ok (.ifnull off, 3)) (ht : (pc : Int) + off = (tgt : Int)) (kk : ch_G l E M Xt R Z k n h hi tgt lv st) : ch_G l E M Xt R Z k n h hi pc lv (.null :: st) := fun p e s m args below meth c H locs ls X hM hS hl => lv_ifnullN X.1 X.2.1 hd ht (kk p e s m args below meth c H locs ls X hM hS hl)
theorem gx_ifnonnullA {a : Nat} {off : Int} (tgt : Nat) (hd : decode M.2.1 pc = .ok (.ifnonnull off, 3)) (ht : (pc : Int) + off = (tgt : Int)) (kk : ch_G l E M Xt R Z k n h hi tgt lv st) : ch_G l E M Xt R Z k n h hi pc lv (.ref a :: st) := fun p e s m args below meth c H locs ls X hM hS hl => lv_ifnonnull X.1 X.2.1 hd ht (kk p e s m args below meth c H locs ls X hM hS hl)
theorem gx_ifnonnullZ {off : Int} (hd : decode M.2.1 pc = .ok (.ifnonnull off, 3)) (kk : ch_G l E M Xt R Z k n h hi (pc + 3) lv st) : ch_G l E M Xt R Z k n h hi pc lv (.null :: st) := fun p e s m args below meth c H locs ls X hM hS hl => lv_ifnonnullN X.1 X.2.1 hd (kk p e s m args below meth c H locs ls X hM hS hl)
theorem ch_Ghl {lv2 : List (Nat × Value)} {st2 : List Value} (e1 : lv = lv2) (e2 : st = st2) (kk : ch_G l E M Xt R Z k n h hi pc lv2 st2) : ch_G l E M Xt R Z k n h hi pc lv st := by
  subst e1; subst e2; exact kk
theorem ch_rfv {r : Option Nat} : va_rf r = .null ∨ ∃ a, va_rf r = .ref a := by
  cases r with
  | none => exact Or.inl rfl
  | some a => exact Or.inr ⟨a, rfl⟩
theorem gy_tin {a dflt lo0 hh : Int} {offs : Array Int} {len : Nat} {off : Int} (z : Int) (e : a = z) (tgt : Nat) (hd : decode M.2.1 pc = .ok (.tableswitch dflt lo0 hh offs, len)) (hz : ir z) (h1 : ¬ z < lo0) (h2 : ¬ hh < z) (ho : offs[(z - lo0).toNat]? = some off) (ht : (pc : Int) + off = (tgt : Int)) (kk : ch_G l E M Xt R Z k n h hi tgt lv st) : ch_G l E M Xt R Z k n h hi pc lv (.int (iI a) :: st) := by
  subst e
  exact gx_tableIn tgt hd (by rw [iI_toInt hz]; exact h1) (by rw [iI_toInt hz]; exact h2) (by rw [iI_toInt hz]; exact ho) ht kk
theorem gy_tout {a dflt lo0 hh : Int} {offs : Array Int} {len : Nat} (tgt : Nat) (hd : decode M.2.1 pc = .ok (.tableswitch dflt lo0 hh offs, len)) (hz : ir a) (h1 : a < lo0 ∨ hh < a) (ht : (pc : Int) + dflt = (tgt : Int)) (kk : ch_G l E M Xt R Z k n h hi tgt lv st) : ch_G l E M Xt R Z k n h hi pc lv (.int (iI a) :: st) := gx_tableOut tgt hd (by rw [iI_toInt hz]; exact h1) ht kk
theorem gy_lsw {a dflt : Int} {ps : Array (Int × Int)} {len : Nat} {off : Int} (tgt : Nat) (hd : decode M.2.1 pc = .ok (.lookupswitch dflt ps, len)) (hz : ir a) (hp : (ps.toList.zip (ps.toList.drop 1)).all (fun (a, next) => a.1 < next.1) = true) (ho : Op.lookupswitch.offset ps.toList dflt a = off) (ht : (pc : Int) + off = (tgt : Int)) (kk : ch_G l E M Xt R Z k n h hi tgt lv st) : ch_G l E M Xt R Z k n h hi pc lv (.int (iI a) :: st) := gx_lookup tgt hd hp (by rw [iI_toInt hz]; exact ho) ht kk
end INTS
