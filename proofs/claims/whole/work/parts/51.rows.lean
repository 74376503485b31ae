section
/-! the law's own rows -/
abbrev M_L (nm : String) : ch_D := (⟨RL, nm, "([I)Z"⟩, cL_law, 4, ret)
def lX (b L lo : Nat) (xs : Nat → Int32) : State → Array Value → Prop := fun s args => args = #[Value.ref b] ∧ va_X b L xs s s.heap ∧ b < s.heap.size ∧ lo = s.heap.size
/-- a cell of the script -/
def sv (xs : Nat → Int32) (z : Int) : Int := (xs z.toNat).toInt
theorem sv_ir {xs : Nat → Int32} {z : Int} : ir (sv xs z) := ⟨by have := (xs z.toNat).le_toInt; unfold sv; omega, by have := (xs z.toNat).toInt_lt; unfold sv; omega⟩
theorem sv_iI {xs : Nat → Int32} {z : Int} : xs z.toNat = iI (sv xs z) := (Int32.ofInt_toInt _).symm
theorem iI_ofNat (L : Nat) : Int32.ofNat L = iI (L : Int) := by
  unfold iI
  first | rfl | exact (Int32.ofInt_eq_ofNat).symm | simp
theorem lw_known {A : Array Value} {s : State} (hts : ∀ w ∈ ch_tb, w.before A s = true) (hN : ch_N s) : ∃ (D : va_G) (cI cL cR : ClassId), va_K D vwCl [(cI, .int), (cL, .long), (cR, .object "SpanSolids$Solid")] s := by
  obtain ⟨a0, i0, k0⟩ := u_known hts inX0 (hts _ mw_1_198)
  obtain ⟨a1, i1, k1⟩ := u_known hts inX1 (hts _ mw_1_140)
  obtain ⟨a2, i2, k2⟩ := u_known hts inX2 (hts _ mw_1_218)
  obtain ⟨a3, i3, k3⟩ := u_known hts inX3 (hts _ mw_1_33)
  obtain ⟨a4, i4, k4⟩ := u_known hts inX4 (hts _ mw_2_13)
  obtain ⟨a5, i5, k5⟩ := u_known hts inX5 (hts _ mw_2_34)
  obtain ⟨a6, i6, k6⟩ := u_known hts inX6 (hts _ mw_1_175)
  obtain ⟨a7, i7, k7⟩ := u_known hts inX7 (hts _ mw_1_78)
  obtain ⟨a8, i8, k8⟩ := u_known hts inX9 (hts _ mw_2_58)
  obtain ⟨a9, i9, k9⟩ := u_known hts inX10 (hts _ mw_1_26)
  obtain ⟨a10, i10, k10⟩ := u_known hts inX11 (hts _ mw_1_16)
  obtain ⟨a11, i11, k11⟩ := u_known hts inX12 (hts _ mw_2_236)
  obtain ⟨cI, kI, pI, hI1, hI2, hI3⟩ := Cond.arrayClass_spec (hts _ mw_1_54)
  obtain ⟨cL, kL, pL, hL1, hL2, hL3⟩ := Cond.arrayClass_spec (hts _ mw_3_38)
  obtain ⟨comp, cR, kR, hR1, -, hR2, hR3, hR4⟩ := Cond.arrayOver_spec (va_AO.use (A := #[]) hN.1)
  refine ⟨(fun c => match c with | 0 => a0 | 1 => a1 | 2 => a2 | 3 => a3 | 4 => a4 | 5 => a5 | 6 => a6 | 7 => a7 | 8 => a8 | 9 => a9 | 10 => a10 | _ => a11, fun c => match c with | 0 => i0 | 1 => i1 | 2 => i2 | 3 => i3 | 4 => i4 | 5 => i5 | 6 => i6 | 7 => i7 | 8 => i8 | 9 => i9 | 10 => i10 | _ => i11), cI, cL, cR, fun c q hq => ?_, fun k q hq => ?_⟩
  · match c, hq with
    | 0, hq => cases hq; exact k0
    | 1, hq => cases hq; exact k1
    | 2, hq => cases hq; exact k2
    | 3, hq => cases hq; exact k3
    | 4, hq => cases hq; exact k4
    | 5, hq => cases hq; exact k5
    | 6, hq => cases hq; exact k6
    | 7, hq => cases hq; exact k7
    | 8, hq => cases hq; exact k8
    | 9, hq => cases hq; exact k9
    | 10, hq => cases hq; exact k10
    | 11, hq => cases hq; exact k11
    | c + 12, hq => cases hq
  · match k, hq with
    | 0, hq => cases hq; exact ⟨fun n z => ⟨fun k h => (by cases h), kI, hI2, pI, hI3⟩, hI1⟩
    | 1, hq => cases hq; exact ⟨fun n z => ⟨fun k h => (by cases h), kL, hL2, pL, hL3⟩, hL1⟩
    | 2, hq => cases hq; exact ⟨fun n z => ⟨fun k h => (by cases h), kR, hR2, comp, hR3⟩, kR, comp, hR2, hR3, hR1, hR4⟩
    | k + 3, hq => cases hq
section
variable {l : Launch} {M : ch_D} {R : Room} {Z : List Frame → Array Value → State → State → Prop} {k n : Nat} {h : ch_H} {hi pc : Nat} {lv : List (Nat × Value)} {st : List Value} {D : va_G} {cI cL cR : ClassId} {lo b L : Nat} {xs : Nat → Int32}
theorem gl_len (hd : decode M.2.1 pc = .ok (.arraylength, 1)) (kk : ch_G l (eE D cI cL cR lo) M (lX b L lo xs) R Z k n h hi (pc + 1) lv (.int (iI (L : Int)) :: st)) : ch_G l (eE D cI cL cR lo) M (lX b L lo xs) R Z k n h hi pc lv (.ref b :: st) := by
  intro p e s m args below meth c H locs ls X hM hS hl
  obtain ⟨h0, hx, hb, hlo⟩ := X.2.2.2.2.2.2.2.2.2.2.2
  refine va_slen X.1 X.2.1 hx hb (by show ¬ lo ≤ b; omega) hS hd ?_
  rw [iI_ofNat]
  exact kk p e s m args below meth c H locs ls X hM hS hl
theorem gl_ld {z : Int} (h0 : 0 ≤ z) (h1 : z < L) (hL : L ≤ 2560) (hd : decode M.2.1 pc = .ok (.iaload, 1)) (kk : ch_G l (eE D cI cL cR lo) M (lX b L lo xs) R Z k n h hi (pc + 1) lv (.int (iI (sv xs z)) :: st)) : ch_G l (eE D cI cL cR lo) M (lX b L lo xs) R Z k n h hi pc lv (.int (iI z) :: .ref b :: st) := by
  intro p e s m args below meth c H locs ls X hM hS hl
  obtain ⟨-, hx, hb, hlo⟩ := X.2.2.2.2.2.2.2.2.2.2.2
  refine va_sld X.1 X.2.1 hx hb (by show ¬ lo ≤ b; omega) hS (iI_in h0 h1 (by omega)) hd ?_
  rw [iI_clamp ⟨by omega, by omega⟩, sv_iI (xs := xs) (z := z)]
  exact kk p e s m args below meth c H locs ls X hM hS hl
theorem gl_eq {Xt : State → Array Value → Prop} {E : ch_E} {x y : Int} {off : Int} (e : x = y) (tgt : Nat) (hd : decode M.2.1 pc = .ok (.if_icmp .eq off, 3)) (ht : (pc : Int) + off = (tgt : Int)) (kk : ch_G l E M Xt R Z k n h hi tgt lv st) : ch_G l E M Xt R Z k n h hi pc lv (.int (iI y) :: .int (iI x) :: st) := gx_icmp_eq tgt hd ht (fun _ => kk) (fun q => absurd (congrArg iI e) q)
theorem lg_cmp_self (x : Int64) : lg_cmp x x = 0 := by
  unfold lg_cmp
  simp
theorem gl_leq {Xt : State → Array Value → Prop} {E : ch_E} {x y : Int} {off : Int} (e : x = y) (tgt : Nat) (hd1 : decode M.2.1 pc = .ok (.lcmp, 1)) (hd : decode M.2.1 (pc + 1) = .ok (.ifCond .eq off, 3)) (ht : ((pc + 1 : Nat) : Int) + off = (tgt : Int)) (kk : ch_G l E M Xt R Z k n h hi tgt lv st) : ch_G l E M Xt R Z k n h hi pc lv (.long (lI y) :: .long (lI x) :: st) := by
  subst e
  refine gx_lcmp hd1 ?_
  rw [lg_cmp_self]
  exact gx_if_eq tgt hd ht (fun _ => kk) (fun q => absurd rfl q)
theorem gl_ret {nm : String} (hk : k ≤ 600000) (hn : n ≤ 7302250) : ch_G l (eE D cI cL cR lo) (M_L nm) (lX b L lo xs) room_1 lw_Z k n h hi 463 lv [.int (iI 1)] := by
  intro p e s m args below meth c H locs ls X hM hS hl
  obtain ⟨hx, hb, -, -, -, hr, hlk, -, -, -, -, ⟨h0, -, -, hlo⟩⟩ := X
  subst h0
  refine va_forget (fun q hq => by have h9 : lo ≤ q.base := hS.2.2 q hq; omega) (W.widen hk hn ?_)
  rw [show iI 1 = (1 : Int32) by decide]
  exact lw_ret hx hb hr hlk dL_law_463
end
/-! both objects' state, side by side -/
theorem mmP_x {cI cL : ClassId} {lo hi : Nat} {h h2 : ch_H} {Kf Nf Wf fz : Nat → Int} {n : Nat} {c : Int} {FB : Nat → Int64} {fh ff fl : Nat → Int} {hc sc : Int} (MM : mmP cI cL lo h Kf Nf Wf fz n c FB fh ff fl hc sc) (x : xfr lo hi h h2) (hh : lo + 26 ≤ hi) : mmP cI cL lo h2 Kf Nf Wf fz n c FB fh ff fl hc sc := by
  obtain ⟨a0, a1, a2, a3, a4, a5, a6, a7, a8⟩ := MM
  refine ⟨?_, ?_, ?_, ?_, ?_, ?_, ?_, ?_, ?_⟩ <;> rw [x _ (by omega) (by omega)] <;> assumption
theorem ssP_m {cI cR : ClassId} {lo : Nat} {h h2 : ch_H} {hi : Nat} {fz : Nat → Int} {c : Int} {n : Nat} {Ad : Nat → Nat} {Kf Nf Wf : Nat → Int} {Es Et : List Int} (SS : ssP cI cR lo h hi fz c n Ad Kf Nf Wf Es Et) (x : mfr lo h h2) : ssP cI cR lo h2 hi fz c n Ad Kf Nf Wf Es Et := by
  obtain ⟨Z0, Z1, ⟨ga, Z2, hga⟩, WE, RS, RT, HA, hc, hn, hfz, hhi, hAd⟩ := SS
  refine ⟨by rw [x _ (by omega)]; exact Z0, by rw [x _ (by omega)]; exact Z1, ⟨ga, by rw [x _ (by omega)]; exact Z2, hga⟩, wwE_fr WE (fun b _ _ => x b (by omega)), ruP_fr RS (x _ (by omega)) (x _ (by omega)), ruP_fr RT (x _ (by omega)) (x _ (by omega)), ?_, hc, hn, hfz, hhi, hAd⟩
  intro s h1 h3
  obtain ⟨a, b, c⟩ := HA s h1 h3
  exact ⟨a, by rw [x _ (by omega)]; exact b, c⟩
theorem ssP_W {cI cR : ClassId} {lo : Nat} {h : ch_H} {hi : Nat} {fz : Nat → Int} {c : Int} {n : Nat} {Ad : Nat → Nat} {Kf Nf Wf : Nat → Int} {Es Et : List Int} (SS : ssP cI cR lo h hi fz c n Ad Kf Nf Wf Es Et) : ∀ s, 1 ≤ s → s ≤ n → wfS Kf Nf Wf s := fun s h1 h2 => (SS.2.2.2.2.2.2.1 s h1 h2).2.2
def lwJ (cI cL cR : ClassId) (lo : Nat) (h : ch_H) (hi : Nat) : Prop := ∃ (fz : Nat → Int) (c : Int) (n : Nat) (Ad : Nat → Nat) (Kf Nf Wf : Nat → Int) (Es Et : List Int) (FB : Nat → Int64) (fh ff fl : Nat → Int) (hc : Int), ssP cI cR lo h hi fz c n Ad Kf Nf Wf Es Et ∧ mmP cI cL lo h Kf Nf Wf fz n c FB fh ff fl hc ((Et.length : Int) / 2) ∧ spO Et ff fl ∧ incE Et
theorem sp_bnd {cI : ClassId} {h : ch_H} {r g : Nat} {L : List Int} {ff fl : Nat → Int} (RU : ruP cI h r g L) (SO : spO L ff fl) (IN : incE L) : ∀ j : Nat, (j : Int) < (L.length : Int) / 2 → (-1000000 ≤ ff j ∧ ff j ≤ 1000000) ∧ (-1000000 ≤ fl j ∧ fl j ≤ 1000000) := by
  intro j hj
  obtain ⟨f, -, -, -, hf, hb⟩ := RU
  have e1 := SO.1 j (by omega)
  have e2 := SO.2 j (by omega)
  have q1 := hf (2 * j) (by omega)
  have q2 := hf (2 * j + 1) (by omega)
  rw [e1] at q1
  rw [e2] at q2
  have b1 := hb (2 * j) (by omega)
  have b2 := hb (2 * j + 1) (by omega)
  have i1 := incE_get L IN (2 * j) (2 * j + 1) (by omega) (by omega)
  rw [List.getD_eq_getElem?_getD, List.getD_eq_getElem?_getD, e1, e2] at i1
  have q3 : ff j = f (2 * j) := Option.some.inj q1
  have q4 : fl j + 1 = f (2 * j + 1) := Option.some.inj q2
  have i2 : ff j < fl j + 1 := i1
  omega
theorem ag_mk {n : Nat} {Kf Nf Wf N2 : Nat → Int} {k w : Int} (hN : ∀ j, j < 6 * (n + 1) → N2 j = Nf j) : agN n Kf Nf Wf (updI Kf (n + 1) k) N2 (updI Wf (n + 1) w) := fun s h1 h2 => ⟨updI_n (by omega), updI_n (by omega), fun j hj => hN _ (by omega)⟩
theorem edN_nil {Kf Nf : Nat → Int} {s : Nat} {x y : Int} (h : ¬ (nearB x = true ∧ nearB y = true)) : edN Kf Nf s x y = [] := if_neg h
theorem edN_ed {Kf Nf : Nat → Int} {s : Nat} {x y : Int} (h : nearB x = true ∧ nearB y = true) : edN Kf Nf s x y = ed Kf Nf s x y 0 := if_pos h
theorem edN_inc {Kf Nf Wf : Nat → Int} {n s : Nat} (H : ∀ s, 1 ≤ s → s ≤ n → wfS Kf Nf Wf s) (h1 : 1 ≤ s) (h2 : s ≤ n) (x y : Int) : incE (edN Kf Nf s x y) := by
  by_cases h : nearB x = true ∧ nearB y = true
  · rw [edN_ed h]; exact (ed_sem H s h1 h2 x y 0).1
  · rw [edN_nil h]; trivial
theorem ins_ans {Kf Nf Wf : Nat → Int} {n : Nat} (H : ∀ s, 1 ≤ s → s ≤ n → wfS Kf Nf Wf s) (s x y z : Int) : decide (1 ≤ s ∧ s ≤ (n : Int) ∧ nearB z = true ∧ 0 < cnL (edN Kf Nf s.toNat x y) z z) = decide ((1 ≤ s ∧ s ≤ (n : Int)) ∧ nearB x = true ∧ nearB y = true ∧ nearB z = true ∧ inB Kf Nf s.toNat x y z = true) := by
  refine decide_eq_decide.mpr ?_
  by_cases hs : 1 ≤ s ∧ s ≤ (n : Int)
  · by_cases hn : nearB x = true ∧ nearB y = true
    · rw [edN_ed hn, ins_eq H (by omega) (by omega) x y z]
      constructor
      · rintro ⟨-, -, q3, q4⟩; exact ⟨hs, hn.1, hn.2, q3, q4⟩
      · rintro ⟨-, -, -, q3, q4⟩; exact ⟨hs.1, hs.2, q3, q4⟩
    · rw [edN_nil hn]
      constructor
      · rintro ⟨-, -, -, q4⟩; exact absurd q4 (Int.lt_irrefl 0)
      · rintro ⟨-, q1, q2, -⟩; exact absurd ⟨q1, q2⟩ hn
  · constructor
    · rintro ⟨q1, q2, -⟩; exact absurd ⟨q1, q2⟩ hs
    · rintro ⟨q1, -⟩; exact absurd q1 hs
end
