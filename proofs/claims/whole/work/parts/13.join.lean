section
theorem mxS_in {fe : Nat → Int} {mid ec how : Int} (hfe : ∀ j, -1000000 ≤ fe j ∧ fe j ≤ 1000000) : ∀ (k : Nat) (a b : Int) (p q j : Bool) (x : Int), x ∈ mxS fe mid ec how k a b p q j → -1000000 ≤ x ∧ x ≤ 1000000 := by
  intro k
  induction k with
  | zero => intro a b p q j x hx; rw [mxS] at hx; exact absurd hx (by simp)
  | succ k ih =>
    intro a b p q j x hx
    rw [mxS] at hx
    by_cases hc : a < mid ∨ b < ec
    · rw [if_pos hc] at hx
      generalize (if a < mid ∧ fe a.toNat = nxE fe mid ec a b then !p else p) = p2 at hx
      generalize (if b < ec ∧ fe b.toNat = nxE fe mid ec a b then !q else q) = q2 at hx
      generalize (if a < mid ∧ fe a.toNat = nxE fe mid ec a b then a + 1 else a) = a2 at hx
      generalize (if b < ec ∧ fe b.toNat = nxE fe mid ec a b then b + 1 else b) = b2 at hx
      by_cases hj : jnB how p2 q2 = j
      · rw [if_pos hj] at hx
        exact ih _ _ _ _ _ _ hx
      · rw [if_neg hj] at hx
        rcases List.mem_cons.mp hx with rfl | hx
        · exact nxE_in hfe
        · exact ih _ _ _ _ _ _ hx
    · rw [if_neg hc] at hx
      exact absurd hx (by simp)
theorem jn_cp {O : List Int} {ff fm2 : Nat → Int} {start : Int} {z : Int} (h0 : 0 ≤ start) (hz : 0 ≤ z) (hz1 : z < (O.length : Int)) (hfm : ∀ i, i < O.length → O[i]? = some (fm2 i)) (h : ∀ i : Nat, (i : Int) < z → O[i]? = some (ff (start.toNat + i))) : ∀ i : Nat, (i : Int) < z + 1 → O[i]? = some (updI ff (start + z).toNat (fm2 z.toNat) (start.toNat + i)) := by
  intro i hi
  by_cases q : i = z.toNat
  · rw [q, show start.toNat + z.toNat = (start + z).toNat by omega, updI_s]
    exact hfm _ (by omega)
  · rw [updI_n (by omega)]
    exact h i (by omega)
theorem jn_bd {ff : Nat → Int} {k : Nat} {x : Int} (hff : ∀ j, -1000000 ≤ ff j ∧ ff j ≤ 1000000) (hx : -1000000 ≤ x ∧ x ≤ 1000000) : ∀ j, -1000000 ≤ updI ff k x j ∧ updI ff k x j ≤ 1000000 := by
  intro j
  by_cases q : j = k
  · rw [q, updI_s]; exact hx
  · rw [updI_n q]; exact hff j
set_option maxHeartbeats 4000000 in
set_option maxRecDepth 100000 in
theorem c_X3_joinNewest (l : Launch) (D : va_G) (cI cL cR : ClassId) (lo : Nat) (h : ch_H) (hi : Nat) (F e s m : Nat) (ec sc : Int) (fe fs fm : Nat → Int) (hF : h F = some (.inr (3, [.ref e, .ref s, .ref m, .int (iI ec), .int (iI sc)]))) (he : h e = some (aI cI 100 fe)) (hs : h s = some (aI cI 50 fs)) (hm : h m = some (aI cI 100 fm)) (nes : e ≠ s) (nem : e ≠ m) (nsm : s ≠ m) (hfe : ∀ j, -1000000 ≤ fe j ∧ fe j ≤ 1000000) (start mid how : Int) (hsc : 2 ≤ sc ∧ sc ≤ 50) (e1 : fs (sc - 2).toNat = start) (e2 : fs (sc - 1).toNat = mid) (hst : 0 ≤ start ∧ start ≤ mid) (hmid : mid ≤ ec) (hec : ec ≤ 100) (hh : ir how) (O : List Int) (hO : mxS fe mid ec how 100 start mid false false false = O) (hOl : start + O.length ≤ 100) : ch_C l (eE D cI cL cR lo) M_X3_joinNewest (rM 2 0 0) [.ref F, .int (iI how)] h hi (fun r0 h2 hi2 => r0 = none ∧ (∃ fe2 fm2, h2 F = some (.inr (3, [.ref e, .ref s, .ref m, .int (iI (start + O.length)), .int (iI (sc - 1))])) ∧ h2 e = some (aI cI 100 fe2) ∧ h2 s = some (aI cI 50 fs) ∧ h2 m = some (aI cI 100 fm2) ∧ (∀ j : Nat, (j : Int) < start → fe2 j = fe j) ∧ (∀ i, i < O.length → O[i]? = some (fe2 (start.toNat + i))) ∧ ∀ j, -1000000 ≤ fe2 j ∧ fe2 j ≤ 1000000) ∧ ch_fr [F, e, m] h h2 ∧ hi = hi2) := by
  refine ch_C.of rfl (Nat.le_of_ble_eq_true rfl) ?_
  refine gx_aload_n 0 dX3_joinNewest_0 rfl rfl ?_
  refine gx_get (ci := 3) (f := 4) (C := RX3) (T := TX3) (N := 5) rfl inX3 (by decide) mw_1_42 dX3_joinNewest_1 hF rfl ?_
  refine gx_iconst (iI 2) dX3_joinNewest_4 rfl ?_
  refine gy_icmp_ge 9 dX3_joinNewest_5 (by decide) (by constructor <;> omega) (by decide) (fun c5 => ?_) (fun c5 => absurd c5 (by omega))
  refine gx_aload_n 0 dX3_joinNewest_9 rfl rfl ?_
  refine gx_get (ci := 3) (f := 1) (C := RX3) (T := TX3) (N := 5) rfl inX3 (by decide) mw_1_39 dX3_joinNewest_10 hF rfl ?_
  refine gx_aload_n 0 dX3_joinNewest_13 rfl rfl ?_
  refine gx_get (ci := 3) (f := 4) (C := RX3) (T := TX3) (N := 5) rfl inX3 (by decide) mw_1_42 dX3_joinNewest_14 hF rfl ?_
  refine gx_iconst (iI 2) dX3_joinNewest_17 rfl ?_
  refine gy_isub dX3_joinNewest_18 ?_
  refine gy_iald dX3_joinNewest_19 hs (by omega) (by omega) (by decide) ?_
  refine ch_Gst (st2 := [.int (iI start)]) (by rw [e1]; try rfl) ?_
  refine gx_istore_n [(2, .int (iI start)), (0, .ref F), (1, .int (iI how))] dX3_joinNewest_20 rfl (by decide) rfl ?_
  refine gx_aload_n 1 dX3_joinNewest_21 rfl rfl ?_
  refine gx_iload_n 0 dX3_joinNewest_22 rfl rfl ?_
  refine gx_aload_n 1 dX3_joinNewest_23 rfl rfl ?_
  refine gx_get (ci := 3) (f := 1) (C := RX3) (T := TX3) (N := 5) rfl inX3 (by decide) mw_1_39 dX3_joinNewest_24 hF rfl ?_
  refine gx_aload_n 1 dX3_joinNewest_27 rfl rfl ?_
  refine gx_get (ci := 3) (f := 4) (C := RX3) (T := TX3) (N := 5) rfl inX3 (by decide) mw_1_42 dX3_joinNewest_28 hF rfl ?_
  refine gx_iconst (iI 1) dX3_joinNewest_31 rfl ?_
  refine gy_isub dX3_joinNewest_32 ?_
  refine gy_iald dX3_joinNewest_33 hs (by omega) (by omega) (by decide) ?_
  refine ch_Gst (st2 := [.int (iI mid), .int (iI start), .ref F]) (by rw [e2]; try rfl) ?_
  refine gx_iload_n 2 dX3_joinNewest_34 rfl rfl ?_
  refine gx_callV (ci := 3) (c_X3_mix l D cI cL cR lo h hi F e s m ec sc fe fs fm hF he hs hm nes nem nsm hfe start mid how hst hmid hec hh O hO) ok_X3_mix mw_2_109 mw_2_111 mw_p_8 dX3_joinNewest_35 rfl hF rfl rfl (Nat.le_of_ble_eq_true rfl) (by first | exact Nat.le_of_ble_eq_true rfl | (simp only [rM]; omega)) (by first | exact Nat.le_of_ble_eq_true rfl | (simp only [rM]; omega)) (by first | exact Nat.le_of_ble_eq_true rfl | (simp only [rM]; omega)) (by first | exact Nat.le_of_ble_eq_true rfl | (simp only [rM]; omega)) (fun r1 h2 u3 q4 g5 => ?_)
  obtain ⟨rfl, ⟨fm2, eh, hOl2, hfm⟩, rfl⟩ := q4
  have k6 : h2 F = some (.inr (3, [.ref e, .ref s, .ref m, .int (iI ec), .int (iI sc)])) := by rw [eh, ch_set_ne (ch_ne hF hm (by intro q; cases q))]; exact hF
  have k7 : h2 e = some (aI cI 100 fe) := by rw [eh, ch_set_ne (nem)]; exact he
  have k8 : h2 s = some (aI cI 50 fs) := by rw [eh, ch_set_ne (nsm)]; exact hs
  have k9 : h2 m = some (aI cI 100 fm2) := by rw [eh]; exact ch_set_self
  refine ch_Gst (st2 := [.int (iI (O.length : Int))]) rfl ?_
  refine gx_istore_n [(3, .int (iI (O.length : Int))), (2, .int (iI start)), (0, .ref F), (1, .int (iI how))] dX3_joinNewest_38 rfl (by decide) rfl ?_
  refine gx_iconst (iI 0) dX3_joinNewest_39 rfl ?_
  refine gx_istore [(4, .int (iI 0)), (3, .int (iI (O.length : Int))), (2, .int (iI start)), (0, .ref F), (1, .int (iI how))] dX3_joinNewest_40 (by decide) rfl ?_
  refine ch_Glv (lv' := [(0, .ref F), (2, .int (iI start)), (3, .int (iI (O.length : Int))), (4, .int (iI 0))]) [3, 2, 1, 0] rfl ?_
  have hbm : ∀ i, i < O.length → -1000000 ≤ fm2 i ∧ fm2 i ≤ 1000000 := fun i hi => mxS_in hfe 100 start mid false false false (fm2 i) (by rw [hO]; exact List.mem_of_getElem? (hfm i hi))
  have loop : ∀ (m2 : Nat) (z : Int) (hh2 : ch_H) (ff : Nat → Int), (0 ≤ z) → (z ≤ O.length) → (101 ≤ z + m2) → (hh2 F = some (.inr (3, [.ref e, .ref s, .ref m, .int (iI ec), .int (iI sc)]))) → (hh2 e = some (aI cI 100 ff)) → (hh2 s = some (aI cI 50 fs)) → (hh2 m = some (aI cI 100 fm2)) → (ch_fr [F, e, m] h hh2) → (∀ j : Nat, (j : Int) < start → ff j = fe j) → (∀ i : Nat, (i : Int) < z → O[i]? = some (ff (start.toNat + i))) → (∀ j, -1000000 ≤ ff j ∧ ff j ≤ 1000000) → ch_G l (eE D cI cL cR lo) M_X3_joinNewest ch_T (rM 2 0 0) (ch_Z (eE D cI cL cR lo) 0 0 (fun r0 h2 hi2 => r0 = none ∧ (∃ fe2 fm2, h2 F = some (.inr (3, [.ref e, .ref s, .ref m, .int (iI (start + O.length)), .int (iI (sc - 1))])) ∧ h2 e = some (aI cI 100 fe2) ∧ h2 s = some (aI cI 50 fs) ∧ h2 m = some (aI cI 100 fm2) ∧ (∀ j : Nat, (j : Int) < start → fe2 j = fe j) ∧ (∀ i, i < O.length → O[i]? = some (fe2 (start.toNat + i))) ∧ ∀ j, -1000000 ≤ fe2 j ∧ fe2 j ≤ 1000000) ∧ ch_fr [F, e, m] h h2 ∧ hi = hi2)) 0 0 hh2 hi 42 [(0, .ref F), (2, .int (iI start)), (3, .int (iI (O.length : Int))), (4, .int (iI z))] [] := by
    intro m2
    induction m2 with
    | zero => intro z hh2 ff hz0 hz1 hzm kF ke ks km hfr hl1 hl2 hl3; exfalso; omega
    | succ m2 ih =>
      intro z hh2 ff hz0 hz1 hzm kF ke ks km hfr hl1 hl2 hl3
      refine gx_iload 3 dX3_joinNewest_42 rfl ?_
      refine gx_iload_n 2 dX3_joinNewest_44 rfl rfl ?_
      refine gy_icmp_ge 79 dX3_joinNewest_45 (by decide) (by constructor <;> omega) (by constructor <;> omega) (fun c45 => ?_) (fun c45 => ?_)
      · refine gx_aload_n 0 dX3_joinNewest_79 rfl rfl ?_
        refine gx_iload_n 1 dX3_joinNewest_80 rfl rfl ?_
        refine gx_iload_n 2 dX3_joinNewest_81 rfl rfl ?_
        refine gy_iadd dX3_joinNewest_82 ?_
        refine gy_put (ci := 3) (f := 3) (C := RX3) (T := TX3) (N := 5) (ty := .int) (fs2 := [.ref e, .ref s, .ref m, .int (iI (start + (O.length : Int))), .int (iI sc)]) tyX3 rfl inX3 tyX3_ok nmX3 (by decide) mw_1_41 (Or.inl rfl) (by decide +kernel) rfl rfl dX3_joinNewest_83 kF (by simp) rfl (fun h1 eh1 => ?_)
        have k2 : h1 e = some (aI cI 100 ff) := by rw [eh1, ch_set_ne (ch_ne ke kF (by intro q; cases q))]; exact ke
        have k3 : h1 s = some (aI cI 50 fs) := by rw [eh1, ch_set_ne (ch_ne ks kF (by intro q; cases q))]; exact ks
        have k4 : h1 m = some (aI cI 100 fm2) := by rw [eh1, ch_set_ne (ch_ne km kF (by intro q; cases q))]; exact km
        have k5 : h1 F = some (.inr (3, [.ref e, .ref s, .ref m, .int (iI (start + (O.length : Int))), .int (iI sc)])) := by rw [eh1]; exact ch_set_self
        refine gx_aload_n 0 dX3_joinNewest_86 rfl rfl ?_
        refine gx_dup dX3_joinNewest_87 rfl ?_
        refine gx_get (ci := 3) (f := 4) (C := RX3) (T := TX3) (N := 5) rfl inX3 (by decide) mw_1_42 dX3_joinNewest_88 k5 rfl ?_
        refine gx_iconst (iI 1) dX3_joinNewest_91 rfl ?_
        refine gy_isub dX3_joinNewest_92 ?_
        refine gy_put (ci := 3) (f := 4) (C := RX3) (T := TX3) (N := 5) (ty := .int) (fs2 := [.ref e, .ref s, .ref m, .int (iI (start + (O.length : Int))), .int (iI (sc - 1))]) tyX3 rfl inX3 tyX3_ok nmX3 (by decide) mw_1_42 (Or.inl rfl) (by decide +kernel) rfl rfl dX3_joinNewest_93 k5 (by simp) rfl (fun h6 eh6 => ?_)
        have k7 : h6 e = some (aI cI 100 ff) := by rw [eh6, ch_set_ne (ch_ne k2 k5 (by intro q; cases q))]; exact k2
        have k8 : h6 s = some (aI cI 50 fs) := by rw [eh6, ch_set_ne (ch_ne k3 k5 (by intro q; cases q))]; exact k3
        have k9 : h6 m = some (aI cI 100 fm2) := by rw [eh6, ch_set_ne (ch_ne k4 k5 (by intro q; cases q))]; exact k4
        have k10 : h6 F = some (.inr (3, [.ref e, .ref s, .ref m, .int (iI (start + (O.length : Int))), .int (iI (sc - 1))])) := by rw [eh6]; exact ch_set_self
        refine gx_vret rfl dX3_joinNewest_96 (by first | exact Nat.le_of_ble_eq_true rfl | (simp only [rM]; omega)) (by first | exact Nat.le_of_ble_eq_true rfl | (simp only [rM]; omega)) ?_
        exact ⟨rfl, ⟨ff, fm2, k10, k7, k8, k9, hl1, fun i hi => hl2 i (by omega), hl3⟩, ch_frT (L := [F, e, m]) (L' := [F, e, m]) hfr (by rw [eh6]; exact ch_frS (by rw [eh1]; exact ch_frS ch_fr0 (by simp)) (by simp)) (fun _ q => q), rfl⟩
      · refine gx_iload_n 1 dX3_joinNewest_48 rfl rfl ?_
        refine gx_iload 3 dX3_joinNewest_49 rfl ?_
        refine gy_iadd dX3_joinNewest_51 ?_
        refine gx_bipush (iI 100) dX3_joinNewest_52 (by decide) ?_
        refine gy_icmp_ge 79 dX3_joinNewest_54 (by decide) (by constructor <;> omega) (by decide) (fun c54 => absurd c54 (by omega)) (fun c54 => ?_)
        refine gx_aload_n 0 dX3_joinNewest_57 rfl rfl ?_
        refine gx_get (ci := 3) (f := 0) (C := RX3) (T := TX3) (N := 5) rfl inX3 (by decide) mw_1_38 dX3_joinNewest_58 kF rfl ?_
        refine gx_iload_n 1 dX3_joinNewest_61 rfl rfl ?_
        refine gx_iload 3 dX3_joinNewest_62 rfl ?_
        refine gy_iadd dX3_joinNewest_64 ?_
        refine gx_aload_n 0 dX3_joinNewest_65 rfl rfl ?_
        refine gx_get (ci := 3) (f := 2) (C := RX3) (T := TX3) (N := 5) rfl inX3 (by decide) mw_1_40 dX3_joinNewest_66 kF rfl ?_
        refine gx_iload 3 dX3_joinNewest_69 rfl ?_
        refine gy_iald dX3_joinNewest_71 km (by omega) (by omega) (by decide) ?_
        refine gy_iast dX3_joinNewest_72 ke (by omega) (by omega) (by decide) (fun h11 eh11 => ?_)
        have k12 : h11 F = some (.inr (3, [.ref e, .ref s, .ref m, .int (iI ec), .int (iI sc)])) := by rw [eh11, ch_set_ne (ch_ne kF ke (by intro q; cases q))]; exact kF
        have k13 : h11 s = some (aI cI 50 fs) := by rw [eh11, ch_set_ne (Ne.symm nes)]; exact ks
        have k14 : h11 m = some (aI cI 100 fm2) := by rw [eh11, ch_set_ne (Ne.symm nem)]; exact km
        have k15 : h11 e = some (aI cI 100 (updI ff (start + z).toNat (fm2 z.toNat))) := by rw [eh11]; exact ch_set_self
        refine gy_iinc 3 [(4, .int (iI (z + 1))), (0, .ref F), (2, .int (iI start)), (3, .int (iI (O.length : Int)))] dX3_joinNewest_73 rfl (by decide) rfl ?_
        refine gx_goto 42 dX3_joinNewest_76 (by decide) ?_
        refine ch_Glv (lv' := [(0, .ref F), (2, .int (iI start)), (3, .int (iI (O.length : Int))), (4, .int (iI (z + 1)))]) [1, 2, 3, 0] rfl ?_
        exact ih _ _ _ (by omega) (by omega) (by omega) k12 k15 k13 k14 (by rw [eh11]; exact ch_frS hfr (by simp)) (fun j hj => by rw [updI_n (by omega)]; exact hl1 j hj) (jn_cp hst.1 hz0 (by omega) hfm hl2) (jn_bd hl3 (hbm _ (by omega)))
  exact loop 101 0 _ fe (by omega) (by omega) (by omega) k6 k7 k8 k9 (by rw [eh]; exact ch_frS ch_fr0 (by simp)) (fun j _ => rfl) (fun i hi => by omega) hfe
set_option maxHeartbeats 4000000 in
set_option maxRecDepth 100000 in
theorem c_X3_copyTo (l : Launch) (D : va_G) (cI cL cR : ClassId) (lo : Nat) (h : ch_H) (hi : Nat) (F e s m : Nat) (ec sc : Int) (fe fs fm : Nat → Int) (hF : h F = some (.inr (3, [.ref e, .ref s, .ref m, .int (iI ec), .int (iI sc)]))) (he : h e = some (aI cI 100 fe)) (hs : h s = some (aI cI 50 fs)) (hm : h m = some (aI cI 100 fm)) (nes : e ≠ s) (nem : e ≠ m) (nsm : s ≠ m) (r g : Nat) (n : Int) (f : Nat → Int) (hr : h r = some (.inr (7, [.ref g, .int (iI n)]))) (hg : h g = some (aI cI 100 f)) (nge : g ≠ e) (hec : 0 ≤ ec ∧ ec ≤ 100) : ch_C l (eE D cI cL cR lo) M_X3_copyTo (rM 2 0 0) [.ref F, .ref r] h hi (fun r0 h2 hi2 => r0 = none ∧ (∃ f2, h2 = ch_set (ch_set h r (.inr (7, [.ref g, .int (iI ec)]))) g (aI cI 100 f2) ∧ ∀ j : Nat, (j : Int) < ec → f2 j = fe j) ∧ hi = hi2) := by
  refine ch_C.of rfl (Nat.le_of_ble_eq_true rfl) ?_
  refine gx_aload_n 1 dX3_copyTo_0 rfl rfl ?_
  refine gx_aload_n 0 dX3_copyTo_1 rfl rfl ?_
  refine gx_get (ci := 3) (f := 0) (C := RX3) (T := TX3) (N := 5) rfl inX3 (by decide) mw_1_38 dX3_copyTo_2 hF rfl ?_
  refine gx_aload_n 0 dX3_copyTo_5 rfl rfl ?_
  refine gx_get (ci := 3) (f := 3) (C := RX3) (T := TX3) (N := 5) rfl inX3 (by decide) mw_1_41 dX3_copyTo_6 hF rfl ?_
  refine gx_callV (ci := 7) (c_X7_copyFrom l D cI cL cR lo h hi r g n f hr hg e fe he ec hec nge) ok_X7_copyFrom mw_2_186 mw_2_187 mw_2_188 dX3_copyTo_9 rfl hr rfl rfl (Nat.le_of_ble_eq_true rfl) (by first | exact Nat.le_of_ble_eq_true rfl | (simp only [rM]; omega)) (by first | exact Nat.le_of_ble_eq_true rfl | (simp only [rM]; omega)) (by first | exact Nat.le_of_ble_eq_true rfl | (simp only [rM]; omega)) (by first | exact Nat.le_of_ble_eq_true rfl | (simp only [rM]; omega)) (fun r1 h2 u3 q4 g5 => ?_)
  obtain ⟨rfl, ⟨f2, eh, hf2⟩, rfl⟩ := q4
  refine ch_Gst (st2 := []) rfl ?_
  refine gx_vret rfl dX3_copyTo_12 (by first | exact Nat.le_of_ble_eq_true rfl | (simp only [rM]; omega)) (by first | exact Nat.le_of_ble_eq_true rfl | (simp only [rM]; omega)) ?_
  exact ⟨rfl, ⟨f2, eh, hf2⟩, rfl⟩
end
