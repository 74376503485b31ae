section
theorem mx_len {o : List Int} {x : Int} : ((o.length : Int) + 1) = ((o ++ [x]).length : Int) := by simp
theorem mx_app {o : List Int} {x : Int} {ff : Nat → Int} (ho : ∀ i, i < o.length → o[i]? = some (ff i)) : ∀ i, i < (o ++ [x]).length → (o ++ [x])[i]? = some (updI ff (o.length : Int).toNat x i) := by
  intro i hi
  rw [Int.toNat_natCast]
  by_cases q : i = o.length
  · subst q; rw [updI_s]; simp
  · rw [updI_n q, List.getElem?_append_left (by simp at hi; omega)]
    exact ho i (by simp at hi; omega)
set_option maxHeartbeats 4000000 in
set_option maxRecDepth 100000 in
theorem c_X3_mix (l : Launch) (D : va_G) (cI cL cR : ClassId) (lo : Nat) (h : ch_H) (hi : Nat) (F e s m : Nat) (ec sc : Int) (fe fs fm : Nat → Int) (hF : h F = some (.inr (3, [.ref e, .ref s, .ref m, .int (iI ec), .int (iI sc)]))) (he : h e = some (aI cI 100 fe)) (hs : h s = some (aI cI 50 fs)) (hm : h m = some (aI cI 100 fm)) (nes : e ≠ s) (nem : e ≠ m) (nsm : s ≠ m) (hfe : ∀ j, -1000000 ≤ fe j ∧ fe j ≤ 1000000) (start mid how : Int) (hst : 0 ≤ start ∧ start ≤ mid) (hmid : mid ≤ ec) (hec : ec ≤ 100) (hh : ir how) (O : List Int) (hO : mxS fe mid ec how 100 start mid false false false = O) : ch_C l (eE D cI cL cR lo) M_X3_mix (rM 1 0 0) [.ref F, .int (iI start), .int (iI mid), .int (iI how)] h hi (fun r0 h2 hi2 => r0 = some (.int (iI (O.length : Int))) ∧ (∃ fm2, h2 = ch_set h m (aI cI 100 fm2) ∧ O.length ≤ 100 ∧ ∀ i, i < O.length → O[i]? = some (fm2 i)) ∧ hi = hi2) := by
  refine ch_C.of rfl (Nat.le_of_ble_eq_true rfl) ?_
  have loop : ∀ (m2 : Nat) (a b z : Int) (p q j : Bool) (o : List Int) (hh2 : ch_H) (ff : Nat → Int), (0 ≤ a) → (a ≤ mid) → (mid ≤ b) → (b ≤ ec) → (0 ≤ z) → (z ≤ 100) → (101 ≤ z + m2) → (o ++ mxS fe mid ec how (100 - z).toNat a b p q j = O) → ((o.length : Int) ≤ z) → (hh2 F = some (.inr (3, [.ref e, .ref s, .ref m, .int (iI ec), .int (iI sc)]))) → (hh2 e = some (aI cI 100 fe)) → (hh2 s = some (aI cI 50 fs)) → (hh2 m = some (aI cI 100 ff)) → (hh2 = ch_set h m (aI cI 100 ff)) → (∀ i, i < o.length → o[i]? = some (ff i)) → ch_G l (eE D cI cL cR lo) M_X3_mix ch_T (rM 1 0 0) (ch_Z (eE D cI cL cR lo) 0 0 (fun r0 h2 hi2 => r0 = some (.int (iI (O.length : Int))) ∧ (∃ fm2, h2 = ch_set h m (aI cI 100 fm2) ∧ O.length ≤ 100 ∧ ∀ i, i < O.length → O[i]? = some (fm2 i)) ∧ hi = hi2)) 0 0 hh2 hi 21 [(0, .ref F), (2, .int (iI mid)), (3, .int (iI how)), (4, .int (iI a)), (5, .int (iI b)), (6, .int (iI (o.length : Int))), (7, .int (iI (bI p))), (8, .int (iI (bI q))), (9, .int (iI (bI j))), (10, .int (iI z))] [] := by
    intro m2
    induction m2 with
    | zero => intro a b z p q j o hh2 ff ha0 ha1 hb0 hb1 hz0 hz1 hzm heq hol kF ke ks km e2 ho; exfalso; omega
    | succ m2 ih =>
      intro a b z p q j o hh2 ff ha0 ha1 hb0 hb1 hz0 hz1 hzm heq hol kF ke ks km e2 ho
      have hza := nxE_in (mid := mid) (ec := ec) (a := a) (b := b) hfe
      have hfa := hfe a.toNat
      have hfb := hfe b.toNat
      have J160 : z < 100 → (a < mid ∨ b < ec) → ∀ (a2 b2 : Int) (p2 q2 j2 : Bool) (o2 : List Int) (hh3 : ch_H) (ff2 : Nat → Int), a2 = (if a < mid ∧ fe a.toNat = nxE fe mid ec a b then a + 1 else a) → b2 = (if b < ec ∧ fe b.toNat = nxE fe mid ec a b then b + 1 else b) → o2 ++ mxS fe mid ec how (100 - (z + 1)).toNat a2 b2 p2 q2 j2 = O → o2.length ≤ z + 1 → (hh3 F = some (.inr (3, [.ref e, .ref s, .ref m, .int (iI ec), .int (iI sc)]))) → (hh3 e = some (aI cI 100 fe)) → (hh3 s = some (aI cI 50 fs)) → (hh3 m = some (aI cI 100 ff2)) → (hh3 = ch_set h m (aI cI 100 ff2)) → (∀ i, i < o2.length → o2[i]? = some (ff2 i)) → ch_G l (eE D cI cL cR lo) M_X3_mix ch_T (rM 1 0 0) (ch_Z (eE D cI cL cR lo) 0 0 (fun r0 h2 hi2 => r0 = some (.int (iI (O.length : Int))) ∧ (∃ fm2, h2 = ch_set h m (aI cI 100 fm2) ∧ O.length ≤ 100 ∧ ∀ i, i < O.length → O[i]? = some (fm2 i)) ∧ hi = hi2)) 0 0 hh3 hi 160 [(0, .ref F), (2, .int (iI mid)), (3, .int (iI how)), (4, .int (iI a2)), (5, .int (iI b2)), (6, .int (iI (o2.length : Int))), (7, .int (iI (bI p2))), (8, .int (iI (bI q2))), (9, .int (iI (bI j2))), (10, .int (iI z)), (11, .int (iI (nxE fe mid ec a b)))] [] := by
        intro hz9 hc a2 b2 p2 q2 j2 o2 hh3 ff2 ea eb eo hol kF3 ke3 ks3 km3 e3 ho3
        have ha2 : 0 ≤ a2 ∧ a2 ≤ mid := by rw [ea]; split <;> omega
        have hb2 : mid ≤ b2 ∧ b2 ≤ ec := by rw [eb]; split <;> omega
        refine gy_iinc 9 [(10, .int (iI (z + 1))), (0, .ref F), (2, .int (iI mid)), (3, .int (iI how)), (4, .int (iI a2)), (5, .int (iI b2)), (6, .int (iI (o2.length : Int))), (7, .int (iI (bI p2))), (8, .int (iI (bI q2))), (9, .int (iI (bI j2))), (11, .int (iI (nxE fe mid ec a b)))] dX3_mix_160 rfl (by decide) rfl ?_
        refine gx_goto 21 dX3_mix_163 (by decide) ?_
        refine ch_Glv (lv' := [(0, .ref F), (2, .int (iI mid)), (3, .int (iI how)), (4, .int (iI a2)), (5, .int (iI b2)), (6, .int (iI (o2.length : Int))), (7, .int (iI (bI p2))), (8, .int (iI (bI q2))), (9, .int (iI (bI j2))), (10, .int (iI (z + 1)))]) [1, 2, 3, 4, 5, 6, 7, 8, 9, 0] rfl ?_
        exact ih _ _ _ _ _ _ _ _ _ (by omega) (by omega) (by omega) (by omega) (by omega) (by omega) (by omega) eo (by omega) kF3 ke3 ks3 km3 e3 ho3
      have J123 : z < 100 → (a < mid ∨ b < ec) → ∀ (a2 b2 : Int) (p2 q2 : Bool), a2 = (if a < mid ∧ fe a.toNat = nxE fe mid ec a b then a + 1 else a) → b2 = (if b < ec ∧ fe b.toNat = nxE fe mid ec a b then b + 1 else b) → p2 = (if a < mid ∧ fe a.toNat = nxE fe mid ec a b then !p else p) → q2 = (if b < ec ∧ fe b.toNat = nxE fe mid ec a b then !q else q) → ch_G l (eE D cI cL cR lo) M_X3_mix ch_T (rM 1 0 0) (ch_Z (eE D cI cL cR lo) 0 0 (fun r0 h2 hi2 => r0 = some (.int (iI (O.length : Int))) ∧ (∃ fm2, h2 = ch_set h m (aI cI 100 fm2) ∧ O.length ≤ 100 ∧ ∀ i, i < O.length → O[i]? = some (fm2 i)) ∧ hi = hi2)) 0 0 hh2 hi 123 [(0, .ref F), (2, .int (iI mid)), (3, .int (iI how)), (4, .int (iI a2)), (5, .int (iI b2)), (6, .int (iI (o.length : Int))), (7, .int (iI (bI p2))), (8, .int (iI (bI q2))), (9, .int (iI (bI j))), (10, .int (iI z)), (11, .int (iI (nxE fe mid ec a b)))] [] := by
        intro hz9 hc a2 b2 p2 q2 ea eb ep eq
        have hun := heq
        rw [show (100 - z).toNat = (100 - (z + 1)).toNat + 1 by omega, mxS, if_pos hc, ← ea, ← eb, ← ep, ← eq] at hun
        refine gx_iload 6 dX3_mix_123 rfl ?_
        refine gx_iload 7 dX3_mix_125 rfl ?_
        refine gx_iload_n 2 dX3_mix_127 rfl rfl ?_
        refine gx_callS (c_X3_isJoined l D cI cL cR lo hh2 hi p2 q2 how (by constructor <;> omega)) ok_X3_isJoined mw_2_117 mw_2_118 dX3_mix_128 rfl rfl (Nat.le_of_ble_eq_true rfl) (by first | exact Nat.le_of_ble_eq_true rfl | (simp only [rM]; omega)) (by first | exact Nat.le_of_ble_eq_true rfl | (simp only [rM]; omega)) (by first | exact Nat.le_of_ble_eq_true rfl | (simp only [rM]; omega)) (by first | exact Nat.le_of_ble_eq_true rfl | (simp only [rM]; omega)) (fun ry1 hy2 uy3 qy4 gy5 => ?_)
        obtain ⟨rfl, rfl, rfl⟩ := qy4
        refine ch_Gst (st2 := [.int (iI (bI (jnB how p2 q2)))]) rfl ?_
        refine gx_iload 8 dX3_mix_131 rfl ?_
        refine gy_icmp_eq 160 dX3_mix_133 (by decide) ir_bI ir_bI (fun c133 => ?_) (fun c133 => ?_)
        · refine ch_Glv (lv' := [(0, .ref F), (2, .int (iI mid)), (3, .int (iI how)), (4, .int (iI a2)), (5, .int (iI b2)), (6, .int (iI (o.length : Int))), (7, .int (iI (bI p2))), (8, .int (iI (bI q2))), (9, .int (iI (bI j))), (10, .int (iI z)), (11, .int (iI (nxE fe mid ec a b)))]) [0, 1, 2, 3, 4, 5, 6, 7, 8, 9, 10] rfl ?_
          exact J160 hz9 hc a2 b2 p2 q2 j o hh2 ff ea eb (by rw [if_pos (bI_e c133)] at hun; exact hun) (by omega) kF ke ks km e2 ho
        · refine gx_iload 8 dX3_mix_136 rfl ?_
          refine gy_if_ne 145 dX3_mix_138 (by decide) ir_bI (fun c138 => ?_) (fun c138 => ?_)
          · refine gx_iconst (iI 0) dX3_mix_145 rfl ?_
            refine gx_istore [(9, .int (iI 0)), (0, .ref F), (2, .int (iI mid)), (3, .int (iI how)), (4, .int (iI a2)), (5, .int (iI b2)), (6, .int (iI (o.length : Int))), (7, .int (iI (bI p2))), (8, .int (iI (bI q2))), (10, .int (iI z)), (11, .int (iI (nxE fe mid ec a b)))] dX3_mix_146 (by decide) rfl ?_
            refine gx_aload_n 1 dX3_mix_148 rfl rfl ?_
            refine gx_get (ci := 3) (f := 2) (C := RX3) (T := TX3) (N := 5) rfl inX3 (by decide) mw_1_40 dX3_mix_149 kF rfl ?_
            refine gx_iload 6 dX3_mix_152 rfl ?_
            refine gx_iload 10 dX3_mix_154 rfl ?_
            refine gy_iast dX3_mix_156 km (by omega) (by omega) (by decide) (fun hy6 ehy6 => ?_)
            have ky7 : hy6 F = some (.inr (3, [.ref e, .ref s, .ref m, .int (iI ec), .int (iI sc)])) := by rw [ehy6, ch_set_ne (ch_ne kF km (by intro q; cases q))]; exact kF
            have ky8 : hy6 e = some (aI cI 100 fe) := by rw [ehy6, ch_set_ne (nem)]; exact ke
            have ky9 : hy6 s = some (aI cI 50 fs) := by rw [ehy6, ch_set_ne (nsm)]; exact ks
            have ky10 : hy6 m = some (aI cI 100 (updI ff (o.length : Int).toNat (nxE fe mid ec a b))) := by rw [ehy6]; exact ch_set_self
            refine gy_iinc 6 [(6, .int (iI ((o.length : Int) + 1))), (9, .int (iI 0)), (0, .ref F), (2, .int (iI mid)), (3, .int (iI how)), (4, .int (iI a2)), (5, .int (iI b2)), (7, .int (iI (bI p2))), (8, .int (iI (bI q2))), (10, .int (iI z)), (11, .int (iI (nxE fe mid ec a b)))] dX3_mix_157 rfl (by decide) rfl ?_
            refine ch_Ghl (lv2 := [(6, .int (iI ((o ++ [nxE fe mid ec a b]).length : Int))), (9, .int (iI (bI false))), (0, .ref F), (2, .int (iI mid)), (3, .int (iI how)), (4, .int (iI a2)), (5, .int (iI b2)), (7, .int (iI (bI p2))), (8, .int (iI (bI q2))), (10, .int (iI z)), (11, .int (iI (nxE fe mid ec a b)))]) (st2 := []) (by rw [mx_len]; rfl) rfl ?_
            refine ch_Glv (lv' := [(0, .ref F), (2, .int (iI mid)), (3, .int (iI how)), (4, .int (iI a2)), (5, .int (iI b2)), (6, .int (iI ((o ++ [nxE fe mid ec a b]).length : Int))), (7, .int (iI (bI p2))), (8, .int (iI (bI q2))), (9, .int (iI (bI false))), (10, .int (iI z)), (11, .int (iI (nxE fe mid ec a b)))]) [2, 3, 4, 5, 6, 0, 7, 8, 1, 9, 10] rfl ?_
            exact J160 hz9 hc a2 b2 p2 q2 false (o ++ [nxE fe mid ec a b]) _ _ ea eb (by rw [if_neg (fun q9 => c133 (by rw [q9]))] at hun; rw [List.append_assoc, ← hun, show j = true from bI_1 c138]; rfl) (by rw [List.length_append]; simp only [List.length_cons, List.length_nil]; omega) ky7 ky8 ky9 ky10 (by rw [ehy6, e2, ch_set_set]) (mx_app ho)
          · refine gx_iconst (iI 1) dX3_mix_141 rfl ?_
            refine gx_goto 146 dX3_mix_142 (by decide) ?_
            refine gx_istore [(9, .int (iI 1)), (0, .ref F), (2, .int (iI mid)), (3, .int (iI how)), (4, .int (iI a2)), (5, .int (iI b2)), (6, .int (iI (o.length : Int))), (7, .int (iI (bI p2))), (8, .int (iI (bI q2))), (10, .int (iI z)), (11, .int (iI (nxE fe mid ec a b)))] dX3_mix_146 (by decide) rfl ?_
            refine gx_aload_n 1 dX3_mix_148 rfl rfl ?_
            refine gx_get (ci := 3) (f := 2) (C := RX3) (T := TX3) (N := 5) rfl inX3 (by decide) mw_1_40 dX3_mix_149 kF rfl ?_
            refine gx_iload 6 dX3_mix_152 rfl ?_
            refine gx_iload 10 dX3_mix_154 rfl ?_
            refine gy_iast dX3_mix_156 km (by omega) (by omega) (by decide) (fun hy11 ehy11 => ?_)
            have ky12 : hy11 F = some (.inr (3, [.ref e, .ref s, .ref m, .int (iI ec), .int (iI sc)])) := by rw [ehy11, ch_set_ne (ch_ne kF km (by intro q; cases q))]; exact kF
            have ky13 : hy11 e = some (aI cI 100 fe) := by rw [ehy11, ch_set_ne (nem)]; exact ke
            have ky14 : hy11 s = some (aI cI 50 fs) := by rw [ehy11, ch_set_ne (nsm)]; exact ks
            have ky15 : hy11 m = some (aI cI 100 (updI ff (o.length : Int).toNat (nxE fe mid ec a b))) := by rw [ehy11]; exact ch_set_self
            refine gy_iinc 6 [(6, .int (iI ((o.length : Int) + 1))), (9, .int (iI 1)), (0, .ref F), (2, .int (iI mid)), (3, .int (iI how)), (4, .int (iI a2)), (5, .int (iI b2)), (7, .int (iI (bI p2))), (8, .int (iI (bI q2))), (10, .int (iI z)), (11, .int (iI (nxE fe mid ec a b)))] dX3_mix_157 rfl (by decide) rfl ?_
            refine ch_Ghl (lv2 := [(6, .int (iI ((o ++ [nxE fe mid ec a b]).length : Int))), (9, .int (iI (bI true))), (0, .ref F), (2, .int (iI mid)), (3, .int (iI how)), (4, .int (iI a2)), (5, .int (iI b2)), (7, .int (iI (bI p2))), (8, .int (iI (bI q2))), (10, .int (iI z)), (11, .int (iI (nxE fe mid ec a b)))]) (st2 := []) (by rw [mx_len]; rfl) rfl ?_
            refine ch_Glv (lv' := [(0, .ref F), (2, .int (iI mid)), (3, .int (iI how)), (4, .int (iI a2)), (5, .int (iI b2)), (6, .int (iI ((o ++ [nxE fe mid ec a b]).length : Int))), (7, .int (iI (bI p2))), (8, .int (iI (bI q2))), (9, .int (iI (bI true))), (10, .int (iI z)), (11, .int (iI (nxE fe mid ec a b)))]) [2, 3, 4, 5, 6, 0, 7, 8, 1, 9, 10] rfl ?_
            exact J160 hz9 hc a2 b2 p2 q2 true (o ++ [nxE fe mid ec a b]) _ _ ea eb (by rw [if_neg (fun q9 => c133 (by rw [q9]))] at hun; rw [List.append_assoc, ← hun, show j = false from bI_0 c138]; rfl) (by rw [List.length_append]; simp only [List.length_cons, List.length_nil]; omega) ky12 ky13 ky14 ky15 (by rw [ehy11, e2, ch_set_set]) (mx_app ho)
      have J87 : z < 100 → (a < mid ∨ b < ec) → ∀ (a2 : Int) (p2 : Bool), a2 = (if a < mid ∧ fe a.toNat = nxE fe mid ec a b then a + 1 else a) → p2 = (if a < mid ∧ fe a.toNat = nxE fe mid ec a b then !p else p) → ch_G l (eE D cI cL cR lo) M_X3_mix ch_T (rM 1 0 0) (ch_Z (eE D cI cL cR lo) 0 0 (fun r0 h2 hi2 => r0 = some (.int (iI (O.length : Int))) ∧ (∃ fm2, h2 = ch_set h m (aI cI 100 fm2) ∧ O.length ≤ 100 ∧ ∀ i, i < O.length → O[i]? = some (fm2 i)) ∧ hi = hi2)) 0 0 hh2 hi 87 [(0, .ref F), (2, .int (iI mid)), (3, .int (iI how)), (4, .int (iI a2)), (5, .int (iI b)), (6, .int (iI (o.length : Int))), (7, .int (iI (bI p2))), (8, .int (iI (bI q))), (9, .int (iI (bI j))), (10, .int (iI z)), (11, .int (iI (nxE fe mid ec a b)))] [] := by
        intro hz9 hc a2 p2 ea ep
        refine gx_iload 4 dX3_mix_87 rfl ?_
        refine gx_aload_n 0 dX3_mix_89 rfl rfl ?_
        refine gx_get (ci := 3) (f := 3) (C := RX3) (T := TX3) (N := 5) rfl inX3 (by decide) mw_1_41 dX3_mix_90 kF rfl ?_
        refine gy_icmp_ge 123 dX3_mix_93 (by decide) (by constructor <;> omega) (by constructor <;> omega) (fun c93 => ?_) (fun c93 => ?_)
        · refine ch_Glv (lv' := [(0, .ref F), (2, .int (iI mid)), (3, .int (iI how)), (4, .int (iI a2)), (5, .int (iI b)), (6, .int (iI (o.length : Int))), (7, .int (iI (bI p2))), (8, .int (iI (bI q))), (9, .int (iI (bI j))), (10, .int (iI z)), (11, .int (iI (nxE fe mid ec a b)))]) [0, 1, 2, 3, 4, 5, 6, 7, 8, 9, 10] rfl ?_
          exact J123 hz9 hc a2 b p2 q ea (by rw [if_neg (by omega)]) ep (by rw [if_neg (by omega)])
        · refine gx_aload_n 0 dX3_mix_96 rfl rfl ?_
          refine gx_get (ci := 3) (f := 0) (C := RX3) (T := TX3) (N := 5) rfl inX3 (by decide) mw_1_38 dX3_mix_97 kF rfl ?_
          refine gx_iload 4 dX3_mix_100 rfl ?_
          refine gy_iald dX3_mix_102 ke (by omega) (by omega) (by decide) ?_
          refine gx_iload 10 dX3_mix_103 rfl ?_
          refine gy_icmp_ne 123 dX3_mix_105 (by decide) (by constructor <;> omega) (by constructor <;> omega) (fun c105 => ?_) (fun c105 => ?_)
          · refine ch_Glv (lv' := [(0, .ref F), (2, .int (iI mid)), (3, .int (iI how)), (4, .int (iI a2)), (5, .int (iI b)), (6, .int (iI (o.length : Int))), (7, .int (iI (bI p2))), (8, .int (iI (bI q))), (9, .int (iI (bI j))), (10, .int (iI z)), (11, .int (iI (nxE fe mid ec a b)))]) [0, 1, 2, 3, 4, 5, 6, 7, 8, 9, 10] rfl ?_
            exact J123 hz9 hc a2 b p2 q ea (by rw [if_neg (by omega)]) ep (by rw [if_neg (by omega)])
          · refine gx_iload 7 dX3_mix_108 rfl ?_
            refine gy_if_ne 117 dX3_mix_110 (by decide) ir_bI (fun c110 => ?_) (fun c110 => ?_)
            · refine gx_iconst (iI 0) dX3_mix_117 rfl ?_
              refine gx_istore [(8, .int (iI 0)), (0, .ref F), (2, .int (iI mid)), (3, .int (iI how)), (4, .int (iI a2)), (5, .int (iI b)), (6, .int (iI (o.length : Int))), (7, .int (iI (bI p2))), (9, .int (iI (bI j))), (10, .int (iI z)), (11, .int (iI (nxE fe mid ec a b)))] dX3_mix_118 (by decide) rfl ?_
              refine gy_iinc 5 [(5, .int (iI (b + 1))), (8, .int (iI 0)), (0, .ref F), (2, .int (iI mid)), (3, .int (iI how)), (4, .int (iI a2)), (6, .int (iI (o.length : Int))), (7, .int (iI (bI p2))), (9, .int (iI (bI j))), (10, .int (iI z)), (11, .int (iI (nxE fe mid ec a b)))] dX3_mix_120 rfl (by decide) rfl ?_
              refine ch_Glv (lv' := [(0, .ref F), (2, .int (iI mid)), (3, .int (iI how)), (4, .int (iI a2)), (5, .int (iI (b + 1))), (6, .int (iI (o.length : Int))), (7, .int (iI (bI p2))), (8, .int (iI (bI false))), (9, .int (iI (bI j))), (10, .int (iI z)), (11, .int (iI (nxE fe mid ec a b)))]) [2, 3, 4, 5, 0, 6, 7, 1, 8, 9, 10] rfl ?_
              exact J123 hz9 hc a2 (b + 1) p2 false ea (by rw [if_pos ⟨by omega, by omega⟩]) ep (by rw [if_pos ⟨by omega, by omega⟩, show q = true from bI_1 c110]; rfl)
            · refine gx_iconst (iI 1) dX3_mix_113 rfl ?_
              refine gx_goto 118 dX3_mix_114 (by decide) ?_
              refine gx_istore [(8, .int (iI 1)), (0, .ref F), (2, .int (iI mid)), (3, .int (iI how)), (4, .int (iI a2)), (5, .int (iI b)), (6, .int (iI (o.length : Int))), (7, .int (iI (bI p2))), (9, .int (iI (bI j))), (10, .int (iI z)), (11, .int (iI (nxE fe mid ec a b)))] dX3_mix_118 (by decide) rfl ?_
              refine gy_iinc 5 [(5, .int (iI (b + 1))), (8, .int (iI 1)), (0, .ref F), (2, .int (iI mid)), (3, .int (iI how)), (4, .int (iI a2)), (6, .int (iI (o.length : Int))), (7, .int (iI (bI p2))), (9, .int (iI (bI j))), (10, .int (iI z)), (11, .int (iI (nxE fe mid ec a b)))] dX3_mix_120 rfl (by decide) rfl ?_
              refine ch_Glv (lv' := [(0, .ref F), (2, .int (iI mid)), (3, .int (iI how)), (4, .int (iI a2)), (5, .int (iI (b + 1))), (6, .int (iI (o.length : Int))), (7, .int (iI (bI p2))), (8, .int (iI (bI true))), (9, .int (iI (bI j))), (10, .int (iI z)), (11, .int (iI (nxE fe mid ec a b)))]) [2, 3, 4, 5, 0, 6, 7, 1, 8, 9, 10] rfl ?_
              exact J123 hz9 hc a2 (b + 1) p2 true ea (by rw [if_pos ⟨by omega, by omega⟩]) ep (by rw [if_pos ⟨by omega, by omega⟩, show q = false from bI_0 c110]; rfl)
      have hfin : (100 ≤ z ∨ ¬ (a < mid ∨ b < ec)) → O = o := by
        intro hc
        rw [← heq]
        by_cases h9 : z < 100
        · rw [show (100 - z).toNat = (100 - (z + 1)).toNat + 1 by omega, mxS, if_neg (by omega), List.append_nil]
        · rw [show (100 - z).toNat = 0 by omega, mxS, List.append_nil]
      refine gx_iload 9 dX3_mix_21 rfl ?_
      refine gx_bipush (iI 100) dX3_mix_23 (by decide) ?_
      refine gy_icmp_ge 166 dX3_mix_25 (by decide) (by constructor <;> omega) (by decide) (fun c25 => ?_) (fun c25 => ?_)
      · refine gx_iload 5 dX3_mix_166 rfl ?_
        refine gx_iret rfl dX3_mix_168 (by first | exact Nat.le_of_ble_eq_true rfl | (simp only [rM]; omega)) (by first | exact Nat.le_of_ble_eq_true rfl | (simp only [rM]; omega)) ?_
        exact ⟨by rw [hfin (by omega)], ⟨ff, e2, by rw [hfin (by omega)]; omega, by rw [hfin (by omega)]; exact ho⟩, rfl⟩
      · refine gx_iload 3 dX3_mix_28 rfl ?_
        refine gx_iload_n 1 dX3_mix_30 rfl rfl ?_
        refine gy_icmp_lt 43 dX3_mix_31 (by decide) (by constructor <;> omega) (by constructor <;> omega) (fun c31 => ?_) (fun c31 => ?_)
        · refine gx_aload_n 0 dX3_mix_43 rfl rfl ?_
          refine gx_iload 3 dX3_mix_44 rfl ?_
          refine gx_iload_n 1 dX3_mix_46 rfl rfl ?_
          refine gx_iload 4 dX3_mix_47 rfl ?_
          refine gx_callV (ci := 3) (c_X3_nextEdge l D cI cL cR lo hh2 hi F e s m ec sc fe fs ff kF ke ks km nes nem nsm hfe a mid b (by omega) (by omega) (by omega) (by omega)) ok_X3_nextEdge mw_2_113 mw_2_115 mw_p_9 dX3_mix_49 rfl kF rfl rfl (Nat.le_of_ble_eq_true rfl) (by first | exact Nat.le_of_ble_eq_true rfl | (simp only [rM]; omega)) (by first | exact Nat.le_of_ble_eq_true rfl | (simp only [rM]; omega)) (by first | exact Nat.le_of_ble_eq_true rfl | (simp only [rM]; omega)) (by first | exact Nat.le_of_ble_eq_true rfl | (simp only [rM]; omega)) (fun r1 h2 u3 q4 g5 => ?_)
          obtain ⟨rfl, rfl, rfl⟩ := q4
          refine ch_Gst (st2 := [.int (iI (nxE fe mid ec a b))]) rfl ?_
          refine gx_istore [(11, .int (iI (nxE fe mid ec a b))), (0, .ref F), (2, .int (iI mid)), (3, .int (iI how)), (4, .int (iI a)), (5, .int (iI b)), (6, .int (iI (o.length : Int))), (7, .int (iI (bI p))), (8, .int (iI (bI q))), (9, .int (iI (bI j))), (10, .int (iI z))] dX3_mix_52 (by decide) rfl ?_
          refine gx_iload 4 dX3_mix_54 rfl ?_
          refine gx_iload_n 2 dX3_mix_56 rfl rfl ?_
          refine gy_icmp_ge 87 dX3_mix_57 (by decide) (by constructor <;> omega) (by constructor <;> omega) (fun c57 => ?_) (fun c57 => ?_)
          · refine ch_Glv (lv' := [(0, .ref F), (2, .int (iI mid)), (3, .int (iI how)), (4, .int (iI a)), (5, .int (iI b)), (6, .int (iI (o.length : Int))), (7, .int (iI (bI p))), (8, .int (iI (bI q))), (9, .int (iI (bI j))), (10, .int (iI z)), (11, .int (iI (nxE fe mid ec a b)))]) [1, 2, 3, 4, 5, 6, 7, 8, 9, 10, 0] rfl ?_
            exact J87 (by omega) (by omega) a p (by rw [if_neg (by omega)]) (by rw [if_neg (by omega)])
          · refine gx_aload_n 1 dX3_mix_60 rfl rfl ?_
            refine gx_get (ci := 3) (f := 0) (C := RX3) (T := TX3) (N := 5) rfl inX3 (by decide) mw_1_38 dX3_mix_61 kF rfl ?_
            refine gx_iload 4 dX3_mix_64 rfl ?_
            refine gy_iald dX3_mix_66 ke (by omega) (by omega) (by decide) ?_
            refine gx_iload 0 dX3_mix_67 rfl ?_
            refine gy_icmp_ne 87 dX3_mix_69 (by decide) (by constructor <;> omega) (by constructor <;> omega) (fun c69 => ?_) (fun c69 => ?_)
            · refine ch_Glv (lv' := [(0, .ref F), (2, .int (iI mid)), (3, .int (iI how)), (4, .int (iI a)), (5, .int (iI b)), (6, .int (iI (o.length : Int))), (7, .int (iI (bI p))), (8, .int (iI (bI q))), (9, .int (iI (bI j))), (10, .int (iI z)), (11, .int (iI (nxE fe mid ec a b)))]) [1, 2, 3, 4, 5, 6, 7, 8, 9, 10, 0] rfl ?_
              exact J87 (by omega) (by omega) a p (by rw [if_neg (by omega)]) (by rw [if_neg (by omega)])
            · refine gx_iload 7 dX3_mix_72 rfl ?_
              refine gy_if_ne 81 dX3_mix_74 (by decide) ir_bI (fun c74 => ?_) (fun c74 => ?_)
              · refine gx_iconst (iI 0) dX3_mix_81 rfl ?_
                refine gx_istore [(7, .int (iI 0)), (11, .int (iI (nxE fe mid ec a b))), (0, .ref F), (2, .int (iI mid)), (3, .int (iI how)), (4, .int (iI a)), (5, .int (iI b)), (6, .int (iI (o.length : Int))), (8, .int (iI (bI q))), (9, .int (iI (bI j))), (10, .int (iI z))] dX3_mix_82 (by decide) rfl ?_
                refine gy_iinc 5 [(4, .int (iI (a + 1))), (7, .int (iI 0)), (11, .int (iI (nxE fe mid ec a b))), (0, .ref F), (2, .int (iI mid)), (3, .int (iI how)), (5, .int (iI b)), (6, .int (iI (o.length : Int))), (8, .int (iI (bI q))), (9, .int (iI (bI j))), (10, .int (iI z))] dX3_mix_84 rfl (by decide) rfl ?_
                refine ch_Glv (lv' := [(0, .ref F), (2, .int (iI mid)), (3, .int (iI how)), (4, .int (iI (a + 1))), (5, .int (iI b)), (6, .int (iI (o.length : Int))), (7, .int (iI (bI false))), (8, .int (iI (bI q))), (9, .int (iI (bI j))), (10, .int (iI z)), (11, .int (iI (nxE fe mid ec a b)))]) [3, 4, 5, 0, 6, 7, 1, 8, 9, 10, 2] rfl ?_
                exact J87 (by omega) (by omega) (a + 1) false (by rw [if_pos ⟨by omega, by omega⟩]) (by rw [if_pos ⟨by omega, by omega⟩, show p = true from bI_1 c74]; rfl)
              · refine gx_iconst (iI 1) dX3_mix_77 rfl ?_
                refine gx_goto 82 dX3_mix_78 (by decide) ?_
                refine gx_istore [(7, .int (iI 1)), (11, .int (iI (nxE fe mid ec a b))), (0, .ref F), (2, .int (iI mid)), (3, .int (iI how)), (4, .int (iI a)), (5, .int (iI b)), (6, .int (iI (o.length : Int))), (8, .int (iI (bI q))), (9, .int (iI (bI j))), (10, .int (iI z))] dX3_mix_82 (by decide) rfl ?_
                refine gy_iinc 5 [(4, .int (iI (a + 1))), (7, .int (iI 1)), (11, .int (iI (nxE fe mid ec a b))), (0, .ref F), (2, .int (iI mid)), (3, .int (iI how)), (5, .int (iI b)), (6, .int (iI (o.length : Int))), (8, .int (iI (bI q))), (9, .int (iI (bI j))), (10, .int (iI z))] dX3_mix_84 rfl (by decide) rfl ?_
                refine ch_Glv (lv' := [(0, .ref F), (2, .int (iI mid)), (3, .int (iI how)), (4, .int (iI (a + 1))), (5, .int (iI b)), (6, .int (iI (o.length : Int))), (7, .int (iI (bI true))), (8, .int (iI (bI q))), (9, .int (iI (bI j))), (10, .int (iI z)), (11, .int (iI (nxE fe mid ec a b)))]) [3, 4, 5, 0, 6, 7, 1, 8, 9, 10, 2] rfl ?_
                exact J87 (by omega) (by omega) (a + 1) true (by rw [if_pos ⟨by omega, by omega⟩]) (by rw [if_pos ⟨by omega, by omega⟩, show p = false from bI_0 c74]; rfl)
        · refine gx_iload 4 dX3_mix_34 rfl ?_
          refine gx_aload_n 0 dX3_mix_36 rfl rfl ?_
          refine gx_get (ci := 3) (f := 3) (C := RX3) (T := TX3) (N := 5) rfl inX3 (by decide) mw_1_41 dX3_mix_37 kF rfl ?_
          refine gy_icmp_ge 166 dX3_mix_40 (by decide) (by constructor <;> omega) (by constructor <;> omega) (fun c40 => ?_) (fun c40 => ?_)
          · refine gx_iload 5 dX3_mix_166 rfl ?_
            refine gx_iret rfl dX3_mix_168 (by first | exact Nat.le_of_ble_eq_true rfl | (simp only [rM]; omega)) (by first | exact Nat.le_of_ble_eq_true rfl | (simp only [rM]; omega)) ?_
            exact ⟨by rw [hfin (by omega)], ⟨ff, e2, by rw [hfin (by omega)]; omega, by rw [hfin (by omega)]; exact ho⟩, rfl⟩
          · refine gx_aload_n 0 dX3_mix_43 rfl rfl ?_
            refine gx_iload 3 dX3_mix_44 rfl ?_
            refine gx_iload_n 1 dX3_mix_46 rfl rfl ?_
            refine gx_iload 4 dX3_mix_47 rfl ?_
            refine gx_callV (ci := 3) (c_X3_nextEdge l D cI cL cR lo hh2 hi F e s m ec sc fe fs ff kF ke ks km nes nem nsm hfe a mid b (by omega) (by omega) (by omega) (by omega)) ok_X3_nextEdge mw_2_113 mw_2_115 mw_p_9 dX3_mix_49 rfl kF rfl rfl (Nat.le_of_ble_eq_true rfl) (by first | exact Nat.le_of_ble_eq_true rfl | (simp only [rM]; omega)) (by first | exact Nat.le_of_ble_eq_true rfl | (simp only [rM]; omega)) (by first | exact Nat.le_of_ble_eq_true rfl | (simp only [rM]; omega)) (by first | exact Nat.le_of_ble_eq_true rfl | (simp only [rM]; omega)) (fun r6 h7 u8 q9 g10 => ?_)
            obtain ⟨rfl, rfl, rfl⟩ := q9
            refine ch_Gst (st2 := [.int (iI (nxE fe mid ec a b))]) rfl ?_
            refine gx_istore [(11, .int (iI (nxE fe mid ec a b))), (0, .ref F), (2, .int (iI mid)), (3, .int (iI how)), (4, .int (iI a)), (5, .int (iI b)), (6, .int (iI (o.length : Int))), (7, .int (iI (bI p))), (8, .int (iI (bI q))), (9, .int (iI (bI j))), (10, .int (iI z))] dX3_mix_52 (by decide) rfl ?_
            refine gx_iload 4 dX3_mix_54 rfl ?_
            refine gx_iload_n 2 dX3_mix_56 rfl rfl ?_
            refine gy_icmp_ge 87 dX3_mix_57 (by decide) (by constructor <;> omega) (by constructor <;> omega) (fun c57 => ?_) (fun c57 => ?_)
            · refine ch_Glv (lv' := [(0, .ref F), (2, .int (iI mid)), (3, .int (iI how)), (4, .int (iI a)), (5, .int (iI b)), (6, .int (iI (o.length : Int))), (7, .int (iI (bI p))), (8, .int (iI (bI q))), (9, .int (iI (bI j))), (10, .int (iI z)), (11, .int (iI (nxE fe mid ec a b)))]) [1, 2, 3, 4, 5, 6, 7, 8, 9, 10, 0] rfl ?_
              exact J87 (by omega) (by omega) a p (by rw [if_neg (by omega)]) (by rw [if_neg (by omega)])
            · refine gx_aload_n 1 dX3_mix_60 rfl rfl ?_
              refine gx_get (ci := 3) (f := 0) (C := RX3) (T := TX3) (N := 5) rfl inX3 (by decide) mw_1_38 dX3_mix_61 kF rfl ?_
              refine gx_iload 4 dX3_mix_64 rfl ?_
              refine gy_iald dX3_mix_66 ke (by omega) (by omega) (by decide) ?_
              refine gx_iload 0 dX3_mix_67 rfl ?_
              refine gy_icmp_ne 87 dX3_mix_69 (by decide) (by constructor <;> omega) (by constructor <;> omega) (fun c69 => ?_) (fun c69 => ?_)
              · refine ch_Glv (lv' := [(0, .ref F), (2, .int (iI mid)), (3, .int (iI how)), (4, .int (iI a)), (5, .int (iI b)), (6, .int (iI (o.length : Int))), (7, .int (iI (bI p))), (8, .int (iI (bI q))), (9, .int (iI (bI j))), (10, .int (iI z)), (11, .int (iI (nxE fe mid ec a b)))]) [1, 2, 3, 4, 5, 6, 7, 8, 9, 10, 0] rfl ?_
                exact J87 (by omega) (by omega) a p (by rw [if_neg (by omega)]) (by rw [if_neg (by omega)])
              · refine gx_iload 7 dX3_mix_72 rfl ?_
                refine gy_if_ne 81 dX3_mix_74 (by decide) ir_bI (fun c74 => ?_) (fun c74 => ?_)
                · refine gx_iconst (iI 0) dX3_mix_81 rfl ?_
                  refine gx_istore [(7, .int (iI 0)), (11, .int (iI (nxE fe mid ec a b))), (0, .ref F), (2, .int (iI mid)), (3, .int (iI how)), (4, .int (iI a)), (5, .int (iI b)), (6, .int (iI (o.length : Int))), (8, .int (iI (bI q))), (9, .int (iI (bI j))), (10, .int (iI z))] dX3_mix_82 (by decide) rfl ?_
                  refine gy_iinc 5 [(4, .int (iI (a + 1))), (7, .int (iI 0)), (11, .int (iI (nxE fe mid ec a b))), (0, .ref F), (2, .int (iI mid)), (3, .int (iI how)), (5, .int (iI b)), (6, .int (iI (o.length : Int))), (8, .int (iI (bI q))), (9, .int (iI (bI j))), (10, .int (iI z))] dX3_mix_84 rfl (by decide) rfl ?_
                  refine ch_Glv (lv' := [(0, .ref F), (2, .int (iI mid)), (3, .int (iI how)), (4, .int (iI (a + 1))), (5, .int (iI b)), (6, .int (iI (o.length : Int))), (7, .int (iI (bI false))), (8, .int (iI (bI q))), (9, .int (iI (bI j))), (10, .int (iI z)), (11, .int (iI (nxE fe mid ec a b)))]) [3, 4, 5, 0, 6, 7, 1, 8, 9, 10, 2] rfl ?_
                  exact J87 (by omega) (by omega) (a + 1) false (by rw [if_pos ⟨by omega, by omega⟩]) (by rw [if_pos ⟨by omega, by omega⟩, show p = true from bI_1 c74]; rfl)
                · refine gx_iconst (iI 1) dX3_mix_77 rfl ?_
                  refine gx_goto 82 dX3_mix_78 (by decide) ?_
                  refine gx_istore [(7, .int (iI 1)), (11, .int (iI (nxE fe mid ec a b))), (0, .ref F), (2, .int (iI mid)), (3, .int (iI how)), (4, .int (iI a)), (5, .int (iI b)), (6, .int (iI (o.length : Int))), (8, .int (iI (bI q))), (9, .int (iI (bI j))), (10, .int (iI z))] dX3_mix_82 (by decide) rfl ?_
                  refine gy_iinc 5 [(4, .int (iI (a + 1))), (7, .int (iI 1)), (11, .int (iI (nxE fe mid ec a b))), (0, .ref F), (2, .int (iI mid)), (3, .int (iI how)), (5, .int (iI b)), (6, .int (iI (o.length : Int))), (8, .int (iI (bI q))), (9, .int (iI (bI j))), (10, .int (iI z))] dX3_mix_84 rfl (by decide) rfl ?_
                  refine ch_Glv (lv' := [(0, .ref F), (2, .int (iI mid)), (3, .int (iI how)), (4, .int (iI (a + 1))), (5, .int (iI b)), (6, .int (iI (o.length : Int))), (7, .int (iI (bI true))), (8, .int (iI (bI q))), (9, .int (iI (bI j))), (10, .int (iI z)), (11, .int (iI (nxE fe mid ec a b)))]) [3, 4, 5, 0, 6, 7, 1, 8, 9, 10, 2] rfl ?_
                  exact J87 (by omega) (by omega) (a + 1) true (by rw [if_pos ⟨by omega, by omega⟩]) (by rw [if_pos ⟨by omega, by omega⟩, show p = false from bI_0 c74]; rfl)
  refine gx_iload_n 1 dX3_mix_0 rfl rfl ?_
  refine gx_istore [(4, .int (iI start)), (0, .ref F), (1, .int (iI start)), (2, .int (iI mid)), (3, .int (iI how))] dX3_mix_1 (by decide) rfl ?_
  refine gx_iload_n 3 dX3_mix_3 rfl rfl ?_
  refine gx_istore [(5, .int (iI mid)), (4, .int (iI start)), (0, .ref F), (1, .int (iI start)), (2, .int (iI mid)), (3, .int (iI how))] dX3_mix_4 (by decide) rfl ?_
  refine gx_iconst (iI 0) dX3_mix_6 rfl ?_
  refine gx_istore [(6, .int (iI 0)), (5, .int (iI mid)), (4, .int (iI start)), (0, .ref F), (1, .int (iI start)), (2, .int (iI mid)), (3, .int (iI how))] dX3_mix_7 (by decide) rfl ?_
  refine gx_iconst (iI 0) dX3_mix_9 rfl ?_
  refine gx_istore [(7, .int (iI 0)), (6, .int (iI 0)), (5, .int (iI mid)), (4, .int (iI start)), (0, .ref F), (1, .int (iI start)), (2, .int (iI mid)), (3, .int (iI how))] dX3_mix_10 (by decide) rfl ?_
  refine gx_iconst (iI 0) dX3_mix_12 rfl ?_
  refine gx_istore [(8, .int (iI 0)), (7, .int (iI 0)), (6, .int (iI 0)), (5, .int (iI mid)), (4, .int (iI start)), (0, .ref F), (1, .int (iI start)), (2, .int (iI mid)), (3, .int (iI how))] dX3_mix_13 (by decide) rfl ?_
  refine gx_iconst (iI 0) dX3_mix_15 rfl ?_
  refine gx_istore [(9, .int (iI 0)), (8, .int (iI 0)), (7, .int (iI 0)), (6, .int (iI 0)), (5, .int (iI mid)), (4, .int (iI start)), (0, .ref F), (1, .int (iI start)), (2, .int (iI mid)), (3, .int (iI how))] dX3_mix_16 (by decide) rfl ?_
  refine gx_iconst (iI 0) dX3_mix_18 rfl ?_
  refine gx_istore [(10, .int (iI 0)), (9, .int (iI 0)), (8, .int (iI 0)), (7, .int (iI 0)), (6, .int (iI 0)), (5, .int (iI mid)), (4, .int (iI start)), (0, .ref F), (1, .int (iI start)), (2, .int (iI mid)), (3, .int (iI how))] dX3_mix_19 (by decide) rfl ?_
  refine ch_Glv (lv' := [(0, .ref F), (2, .int (iI mid)), (3, .int (iI how)), (4, .int (iI start)), (5, .int (iI mid)), (6, .int (iI 0)), (7, .int (iI 0)), (8, .int (iI 0)), (9, .int (iI 0)), (10, .int (iI 0))]) [7, 9, 10, 6, 5, 4, 3, 2, 1, 0] rfl ?_
  exact loop 101 start mid 0 false false false [] h fm (by omega) (by omega) (by omega) (by omega) (by omega) (by omega) (by omega) hO (by simp) hF he hs hm (ch_set_same hm).symm (fun i hi => absurd hi (by simp))
end
