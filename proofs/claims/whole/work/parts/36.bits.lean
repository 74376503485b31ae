section
section
variable {l : Launch} {E : ch_E} {M : ch_D} {Xt : State → Array Value → Prop} {R : Room} {Z : List Frame → Array Value → State → State → Prop} {k n : Nat} {h : ch_H} {hi pc : Nat} {lv : List (Nat × Value)} {st : List Value} {D : va_G} {cI cL cR : ClassId} {lo : Nat}
theorem gz_lor {x y : Int64} (hd : decode M.2.1 pc = .ok (.lor, 1)) (kk : ch_G l E M Xt R Z k n h hi (pc + 1) lv (.long (x ||| y) :: st)) : ch_G l E M Xt R Z k n h hi pc lv (.long y :: .long x :: st) := gx_lor hd (fun v hv => by subst hv; exact kk)
theorem gz_land {x y : Int64} (hd : decode M.2.1 pc = .ok (.land, 1)) (kk : ch_G l E M Xt R Z k n h hi (pc + 1) lv (.long (x &&& y) :: st)) : ch_G l E M Xt R Z k n h hi pc lv (.long y :: .long x :: st) := gx_land hd (fun v hv => by subst hv; exact kk)
theorem gz_lxor {x y : Int64} (hd : decode M.2.1 pc = .ok (.lxor, 1)) (kk : ch_G l E M Xt R Z k n h hi (pc + 1) lv (.long (x ^^^ y) :: st)) : ch_G l E M Xt R Z k n h hi pc lv (.long y :: .long x :: st) := gx_lxor hd (fun v hv => by subst hv; exact kk)
theorem gz_lshl {x : Int64} {y : Int32} (hd : decode M.2.1 pc = .ok (.lshl, 1)) (kk : ch_G l E M Xt R Z k n h hi (pc + 1) lv (.long (x <<< (y.toInt64 &&& 63)) :: st)) : ch_G l E M Xt R Z k n h hi pc lv (.int y :: .long x :: st) := gx_lshl hd (fun v hv => by subst hv; exact kk)
theorem gz_lshr {x : Int64} {y : Int32} (hd : decode M.2.1 pc = .ok (.lshr, 1)) (kk : ch_G l E M Xt R Z k n h hi (pc + 1) lv (.long (x >>> (y.toInt64 &&& 63)) :: st)) : ch_G l E M Xt R Z k n h hi pc lv (.int y :: .long x :: st) := gx_lshr hd (fun v hv => by subst hv; exact kk)
theorem gz_lald {a N : Nat} {g : Nat → Int64} {z : Int} (hd : decode M.2.1 pc = .ok (.laload, 1)) (ha : h a = some (.inl (cL, N, .inr (.inl g)))) (h0 : 0 ≤ z) (h1 : z < N) (hN : N < 2 ^ 31) (kk : ch_G l (eE D cI cL cR lo) M Xt R Z k n h hi (pc + 1) lv (.long (g z.toNat) :: st)) : ch_G l (eE D cI cL cR lo) M Xt R Z k n h hi pc lv (.int (iI z) :: .ref a :: st) := gx_lald 1 rfl hd ha (iI_in h0 h1 hN) (fun v hv => by rw [iI_clamp ⟨by omega, by omega⟩] at hv; subst hv; exact kk)
theorem gz_last {a N : Nat} {g : Nat → Int64} {z : Int} {x : Int64} (hd : decode M.2.1 pc = .ok (.lastore, 1)) (ha : h a = some (.inl (cL, N, .inr (.inl g)))) (h0 : 0 ≤ z) (h1 : z < N) (hN : N < 2 ^ 31) (kk : ∀ h2, h2 = ch_set h a (.inl (cL, N, .inr (.inl (vp_updL g z.toNat x)))) → ch_G l (eE D cI cL cR lo) M Xt R Z k n h2 hi (pc + 1) lv st) : ch_G l (eE D cI cL cR lo) M Xt R Z k n h hi pc lv (.long x :: .int (iI z) :: .ref a :: st) := gx_last 1 rfl hd ha (iI_in h0 h1 hN) (by rw [iI_clamp ⟨by omega, by omega⟩]; exact kk _ rfl)
theorem gz_cmp0 {x : Int64} {off : Int} (tgt : Nat) (hd1 : decode M.2.1 pc = .ok (.lcmp, 1)) (hd : decode M.2.1 (pc + 1) = .ok (.ifCond .ne off, 3)) (ht : ((pc + 1 : Nat) : Int) + off = (tgt : Int)) (kt : x ≠ lI 0 → ch_G l E M Xt R Z k n h hi tgt lv st) (kf : x = lI 0 → ch_G l E M Xt R Z k n h hi (pc + 4) lv st) : ch_G l E M Xt R Z k n h hi pc lv (.long (lI 0) :: .long x :: st) := by
  have hz : ∃ z : Int, ir z ∧ lg_cmp x (lI 0) = iI z ∧ (z = 0 ↔ x = lI 0) := by
    unfold lg_cmp
    by_cases q1 : x > lI 0
    · refine ⟨1, by decide, by rw [if_pos q1]; rfl, ⟨fun q => by omega, fun q => ?_⟩⟩
      rw [q] at q1
      exact absurd q1 (by decide)
    · rw [if_neg q1]
      by_cases q2 : x = lI 0
      · exact ⟨0, by decide, by rw [if_pos q2]; rfl, ⟨fun _ => q2, fun _ => rfl⟩⟩
      · exact ⟨-1, by decide, by rw [if_neg q2]; rfl, ⟨fun q => by omega, fun q => absurd q q2⟩⟩
  obtain ⟨z, hz1, e, h0⟩ := hz
  refine gx_lcmp hd1 ?_
  rw [e]
  exact gy_if_ne tgt hd ht hz1 (fun q => kt (fun z => q (h0.mpr z))) (fun q => kf (h0.mp q))
end
/-- a word's bits -/
def b64 (w : Int64) (i : Nat) : Bool := w.toBitVec.getLsbD i
theorem b64_or (a b : Int64) (i : Nat) : b64 (a ||| b) i = (b64 a i || b64 b i) := by unfold b64; rw [Int64.toBitVec_or, BitVec.getLsbD_or]
theorem b64_and (a b : Int64) (i : Nat) : b64 (a &&& b) i = (b64 a i && b64 b i) := by unfold b64; rw [Int64.toBitVec_and, BitVec.getLsbD_and]
theorem b64_m1 {i : Nat} (h : i < 64) : b64 (lI (-1)) i = true := by
  unfold b64
  rw [show (lI (-1)).toBitVec = BitVec.allOnes 64 by decide, BitVec.getLsbD_allOnes]
  exact decide_eq_true h
theorem b64_andn (a b : Int64) {i : Nat} (h : i < 64) : b64 (a &&& (b ^^^ lI (-1))) i = (b64 a i && !b64 b i) := by
  rw [b64_and]
  have e : b64 (b ^^^ lI (-1)) i = (b64 b i ^^ b64 (lI (-1)) i) := by unfold b64; rw [Int64.toBitVec_xor, BitVec.getLsbD_xor]
  rw [e, b64_m1 h]
  cases b64 b i <;> rfl
theorem b64_0 (i : Nat) : b64 (lI 0) i = false := by
  unfold b64
  rw [show (lI 0).toBitVec = 0#64 by decide, BitVec.getLsbD_zero]
theorem b64_shl : ∀ k : Fin 64, (lI 1 <<< ((iI (k.val : Int)).toInt64 &&& 63)).toBitVec = BitVec.twoPow 64 k.val := by decide +kernel
theorem b64_bit {k i : Nat} (hk : k < 64) (hi : i < 64) : b64 (lI 1 <<< ((iI (k : Int)).toInt64 &&& 63)) i = decide (i = k) := by
  unfold b64
  rw [b64_shl ⟨k, hk⟩, BitVec.getLsbD_twoPow]
  by_cases q : k = i
  · subst q; simp [hi]
  · simp [q, Ne.symm q]
theorem b64_amt : ∀ k : Fin 64, ((iI (k.val : Int)).toInt64 &&& 63).toBitVec.smod 64 = BitVec.ofNat 64 k.val := by decide +kernel
theorem b64_shr (w : Int64) {k : Nat} (hk : k < 64) : (w >>> ((iI (k : Int)).toInt64 &&& 63)) &&& lI 1 = lI 0 ↔ b64 w k = false := by
  have e0 : b64 (w >>> ((iI (k : Int)).toInt64 &&& 63)) 0 = b64 w k := by
    unfold b64
    rw [Int64.toBitVec_shiftRight, b64_amt ⟨k, hk⟩, BitVec.sshiftRight_eq', BitVec.getLsbD_sshiftRight]
    simp [Nat.mod_eq_of_lt (show k < 18446744073709551616 by omega)]
    omega
  constructor
  · intro q
    have h1 : b64 ((w >>> ((iI (k : Int)).toInt64 &&& 63)) &&& lI 1) 0 = b64 (lI 0) 0 := by rw [q]
    rw [b64_and, e0, b64_0, show b64 (lI 1) 0 = true by decide, Bool.and_true] at h1
    exact h1
  · intro q
    apply Int64.toBitVec_inj.mp
    apply BitVec.eq_of_getLsbD_eq
    intro i hi
    show b64 _ i = b64 _ i
    rw [b64_and, b64_0]
    by_cases q0 : i = 0
    · rw [q0, e0, q]; rfl
    · have : b64 (lI 1) i = false := by
        unfold b64
        rw [show (lI 1).toBitVec = BitVec.twoPow 64 0 by decide, BitVec.getLsbD_twoPow]
        simp [Ne.symm q0]
      rw [this, Bool.and_false]
end
