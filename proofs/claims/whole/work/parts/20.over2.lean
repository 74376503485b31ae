section
/-- a Runs object that holds the edges L -/
def ruP (cI : ClassId) (h : ch_H) (r g : Nat) (L : List Int) : Prop := ∃ f : Nat → Int, h r = some (.inr (7, [.ref g, .int (iI (L.length : Int))])) ∧ h g = some (aI cI 100 f) ∧ L.length ≤ 100 ∧ (∀ j, j < L.length → L[j]? = some (f j)) ∧ ∀ j : Nat, (j : Int) < (L.length : Int) → -1000000 ≤ f j ∧ f j ≤ 1000000
def wwE (cI cR : ClassId) (lo : Nat) (h : ch_H) : Prop := ∃ (gw : Nat → Option Nat) (fx fy fl fh : Nat → Int) (wc : Int) (Ls : List (List Int)), wwP cI cR lo h gw fx fy fl fh wc Ls
theorem fsR_1 {L : List Int} {fe fs : Nat → Int} {ec sc : Int} (H : fsR [L] fe fs ec sc) : ec = (L.length : Int) ∧ ∀ j, j < L.length → L[j]? = some (fe j) := by
  obtain ⟨h1, h2, h3, -⟩ := H
  simp only [List.flatten_cons, List.flatten_nil, List.append_nil] at h2 h3
  exact ⟨h2, h3⟩
theorem wwP_fr {cI cR : ClassId} {lo : Nat} {h h2 : ch_H} {gw : Nat → Option Nat} {fx fy fl fh : Nat → Int} {wc : Int} {Ls : List (List Int)} (W : wwP cI cR lo h gw fx fy fl fh wc Ls) (fr : ∀ b, lo + 3 ≤ b → b ≤ lo + 12 → h2 b = h b) : wwP cI cR lo h2 gw fx fy fl fh wc Ls := by
  obtain ⟨fe, fs, fm, ec, sc, W0, W1, W2, W3, W4, W5, W6, W7, W8, W9, hfs⟩ := W
  exact ⟨fe, fs, fm, ec, sc, by rw [fr _ (by omega) (by omega)]; exact W0, by rw [fr _ (by omega) (by omega)]; exact W1, by rw [fr _ (by omega) (by omega)]; exact W2, by rw [fr _ (by omega) (by omega)]; exact W3, by rw [fr _ (by omega) (by omega)]; exact W4, by rw [fr _ (by omega) (by omega)]; exact W5, by rw [fr _ (by omega) (by omega)]; exact W6, by rw [fr _ (by omega) (by omega)]; exact W7, by rw [fr _ (by omega) (by omega)]; exact W8, by rw [fr _ (by omega) (by omega)]; exact W9, hfs⟩
set_option maxHeartbeats 4000000 in
set_option maxRecDepth 100000 in
theorem c_X10_over (l : Launch) (D : va_G) (cI cL cR : ClassId) (lo : Nat) (h : ch_H) (hi : Nat) (gw : Nat → Option Nat) (fx fy fl fh : Nat → Int) (wc : Int) (Ls : List (List Int)) (W : wwP cI cR lo h gw fx fy fl fh wc Ls) (r g : Nat) (nr : Int) (fg : Nat → Int) (hr : h r = some (.inr (7, [.ref g, .int (iI nr)]))) (hg : h g = some (aI cI 100 fg)) (hrl : lo + 13 ≤ r) (hgl : lo + 13 ≤ g) (n : Nat) (Ad : Nat → Nat) (Kf Nf Wf : Nat → Int) (hn : n ≤ 60) (HA : soA lo h n Ad Kf Nf Wf) (hrA : ∀ s, 1 ≤ s → s ≤ n → Ad s ≠ r ∧ Ad s ≠ g) (s : Nat) (hs1 : 1 ≤ s) (hs2 : s ≤ n) (x y : Int) (hx : -100000 ≤ x ∧ x ≤ 100000) (hy : -100000 ≤ y ∧ y ≤ 100000) : ch_C l (eE D cI cL cR lo) M_X10_over (rM 4 0 0) [.ref (lo + 3), .ref (Ad s), .int (iI x), .int (iI y), .ref r] h hi (fun r0 h2 hi2 => r0 = none ∧ wwE cI cR lo h2 ∧ ruP cI h2 r g (ed Kf Nf s x y 0) ∧ ch_fr (r :: g :: wwL lo) h h2 ∧ hi = hi2) := by
  refine ch_C.of rfl (Nat.le_of_ble_eq_true rfl) ?_
  obtain ⟨fe, fs, fm, ec, sc, W0, W1, W2, W3, W4, W5, W6, W7, W8, W9, hfs⟩ := W
  obtain ⟨hpl, hp, hwf⟩ := HA s hs1 hs2
  obtain ⟨cS, vS, e1, sS⟩ := soC_S (Ad := Ad) hwf
  rw [e1] at hp
  have hW := hwf.1
  refine gx_aload_n 0 dX10_over_0 rfl rfl ?_
  refine gx_iconst (iI 0) dX10_over_1 rfl ?_
  refine gy_put (ci := 9) (f := 5) (C := RX10) (T := TX10) (N := 7) (ty := .int) (fs2 := [.ref (lo + 4), .ref (lo + 5), .ref (lo + 6), .ref (lo + 7), .ref (lo + 8), .int (iI 0), .ref (lo + 9)]) tyX10 rfl inX10 tyX10_ok nmX10 (by decide) mw_1_60 (Or.inl rfl) (by decide +kernel) rfl rfl dX10_over_2 W0 (by simp) rfl (fun h1 eh1 => ?_)
  have k2 : h1 (lo + 4) = some (aR cR 100 gw) := by rw [eh1, ch_set_ne (by first | assumption | exact Ne.symm (by assumption) | omega)]; exact W1
  have k3 : h1 (lo + 5) = some (aI cI 100 fx) := by rw [eh1, ch_set_ne (by first | assumption | exact Ne.symm (by assumption) | omega)]; exact W2
  have k4 : h1 (lo + 6) = some (aI cI 100 fy) := by rw [eh1, ch_set_ne (by first | assumption | exact Ne.symm (by assumption) | omega)]; exact W3
  have k5 : h1 (lo + 7) = some (aI cI 100 fl) := by rw [eh1, ch_set_ne (by first | assumption | exact Ne.symm (by assumption) | omega)]; exact W4
  have k6 : h1 (lo + 8) = some (aI cI 100 fh) := by rw [eh1, ch_set_ne (by first | assumption | exact Ne.symm (by assumption) | omega)]; exact W5
  have k7 : h1 (lo + 9) = some (.inr (3, [.ref (lo + 10), .ref (lo + 11), .ref (lo + 12), .int (iI ec), .int (iI sc)])) := by rw [eh1, ch_set_ne (by first | assumption | exact Ne.symm (by assumption) | omega)]; exact W6
  have k8 : h1 (lo + 10) = some (aI cI 100 fe) := by rw [eh1, ch_set_ne (by first | assumption | exact Ne.symm (by assumption) | omega)]; exact W7
  have k9 : h1 (lo + 11) = some (aI cI 50 fs) := by rw [eh1, ch_set_ne (by first | assumption | exact Ne.symm (by assumption) | omega)]; exact W8
  have k10 : h1 (lo + 12) = some (aI cI 100 fm) := by rw [eh1, ch_set_ne (by first | assumption | exact Ne.symm (by assumption) | omega)]; exact W9
  have k11 : h1 r = some (.inr (7, [.ref g, .int (iI nr)])) := by rw [eh1, ch_set_ne (ch_ne hr W0 (by intro q; cases q))]; exact hr
  have k12 : h1 g = some (aI cI 100 fg) := by rw [eh1, ch_set_ne (ch_ne hg W0 (by intro q; cases q))]; exact hg
  have k13 : h1 (Ad s) = some (.inr (cS, (.int (iI (Wf s)) :: vS))) := by rw [eh1, ch_set_ne (by first | assumption | exact Ne.symm (by assumption) | omega)]; exact hp
  have k14 : h1 (lo + 3) = some (.inr (9, [.ref (lo + 4), .ref (lo + 5), .ref (lo + 6), .ref (lo + 7), .ref (lo + 8), .int (iI 0), .ref (lo + 9)])) := by rw [eh1]; exact ch_set_self
  refine gx_aload_n 0 dX10_over_5 rfl rfl ?_
  refine gx_get (ci := 9) (f := 6) (C := RX10) (T := TX10) (N := 7) rfl inX10 (by decide) mw_1_61 dX10_over_6 k14 rfl ?_
  refine gx_callV (ci := 3) (c_X3_clear l D cI cL cR lo h1 hi (lo + 9) (lo + 10) (lo + 11) (lo + 12) ec sc k7) ok_X3_clear mw_2_93 mw_2_94 mw_2_95 dX10_over_9 rfl k7 rfl rfl (Nat.le_of_ble_eq_true rfl) (by first | exact Nat.le_of_ble_eq_true rfl | (simp only [rM]; omega)) (by first | exact Nat.le_of_ble_eq_true rfl | (simp only [rM]; omega)) (by first | exact Nat.le_of_ble_eq_true rfl | (simp only [rM]; omega)) (by first | exact Nat.le_of_ble_eq_true rfl | (simp only [rM]; omega)) (fun r15 h16 u17 q18 g19 => ?_)
  obtain ⟨rfl, eh0, rfl⟩ := q18
  have k20 : h16 (lo + 4) = some (aR cR 100 gw) := by rw [eh0, ch_set_ne (by first | assumption | exact Ne.symm (by assumption) | omega)]; exact k2
  have k21 : h16 (lo + 5) = some (aI cI 100 fx) := by rw [eh0, ch_set_ne (by first | assumption | exact Ne.symm (by assumption) | omega)]; exact k3
  have k22 : h16 (lo + 6) = some (aI cI 100 fy) := by rw [eh0, ch_set_ne (by first | assumption | exact Ne.symm (by assumption) | omega)]; exact k4
  have k23 : h16 (lo + 7) = some (aI cI 100 fl) := by rw [eh0, ch_set_ne (by first | assumption | exact Ne.symm (by assumption) | omega)]; exact k5
  have k24 : h16 (lo + 8) = some (aI cI 100 fh) := by rw [eh0, ch_set_ne (by first | assumption | exact Ne.symm (by assumption) | omega)]; exact k6
  have k25 : h16 (lo + 10) = some (aI cI 100 fe) := by rw [eh0, ch_set_ne (by first | assumption | exact Ne.symm (by assumption) | omega)]; exact k8
  have k26 : h16 (lo + 11) = some (aI cI 50 fs) := by rw [eh0, ch_set_ne (by first | assumption | exact Ne.symm (by assumption) | omega)]; exact k9
  have k27 : h16 (lo + 12) = some (aI cI 100 fm) := by rw [eh0, ch_set_ne (by first | assumption | exact Ne.symm (by assumption) | omega)]; exact k10
  have k28 : h16 r = some (.inr (7, [.ref g, .int (iI nr)])) := by rw [eh0, ch_set_ne (ch_ne k11 k7 (by intro q; cases q))]; exact k11
  have k29 : h16 g = some (aI cI 100 fg) := by rw [eh0, ch_set_ne (ch_ne k12 k7 (by intro q; cases q))]; exact k12
  have k30 : h16 (Ad s) = some (.inr (cS, (.int (iI (Wf s)) :: vS))) := by rw [eh0, ch_set_ne (by omega)]; exact k13
  have k31 : h16 (lo + 3) = some (.inr (9, [.ref (lo + 4), .ref (lo + 5), .ref (lo + 6), .ref (lo + 7), .ref (lo + 8), .int (iI 0), .ref (lo + 9)])) := by rw [eh0, ch_set_ne (by first | assumption | exact Ne.symm (by assumption) | omega)]; exact k14
  have k32 : h16 (lo + 9) = some (.inr (3, [.ref (lo + 10), .ref (lo + 11), .ref (lo + 12), .int (iI 0), .int (iI 0)])) := by rw [eh0]; exact ch_set_self
  refine ch_Gst (st2 := []) rfl ?_
  refine gx_aload_n 0 dX10_over_12 rfl rfl ?_
  refine gx_aload_n 1 dX10_over_13 rfl rfl ?_
  refine gx_iload_n 2 dX10_over_14 rfl rfl ?_
  refine gx_iload_n 3 dX10_over_15 rfl rfl ?_
  refine gx_iconst (iI 0) dX10_over_16 rfl ?_
  have W1 : wwP cI cR lo h16 gw fx fy fl fh 0 [] := ⟨_, _, _, _, _, k31, k20, k21, k22, k23, k24, k32, k25, k26, k27, fsR_0 hfs.2.2.2.2⟩
  have fr0 : ch_fr (wwL lo) h h16 := (by rw [eh0]; exact ch_frS (by rw [eh1]; exact ch_frS ch_fr0 (wwL_in.mpr ⟨by omega, by omega⟩)) (wwL_in.mpr ⟨by omega, by omega⟩))
  refine gx_callV (ci := 9) (c_X10_await l D cI cL cR lo h16 hi gw fx fy fl fh 0 [] W1 (Ad s) cS _ k30 sS (by omega) (by omega) x y 0) ok_X10_await mw_2_97 mw_2_98 mw_2_99 dX10_over_17 rfl k31 rfl rfl (Nat.le_of_ble_eq_true rfl) (by first | exact Nat.le_of_ble_eq_true rfl | (simp only [rM]; omega)) (by first | exact Nat.le_of_ble_eq_true rfl | (simp only [rM]; omega)) (by first | exact Nat.le_of_ble_eq_true rfl | (simp only [rM]; omega)) (by first | exact Nat.le_of_ble_eq_true rfl | (simp only [rM]; omega)) (fun r33 h34 u35 q36 g37 => ?_)
  obtain ⟨rfl, W2, fr2, rfl⟩ := q36
  have F2 := ch_frT fr0 fr2 (fun _ q => q)
  refine ch_Gst (st2 := []) rfl ?_
  refine gx_iconst (iI 0) dX10_over_20 rfl ?_
  refine gx_istore [(5, .int (iI 0)), (0, .ref (lo + 3)), (1, .ref (Ad s)), (2, .int (iI x)), (3, .int (iI y)), (4, .ref r)] dX10_over_21 (by decide) rfl ?_
  refine ch_Glv (lv' := [(0, .ref (lo + 3)), (4, .ref r), (5, .int (iI 0))]) [1, 5, 0] rfl ?_
  refine over_run hn s hs1 hs2 x y 0 (0 + 1) 0 _ _ _ _ _ _ [] (HA.fr F2) W2 (by rw [show ((0 : Int) + 1 - 1).toNat = (0 : Int).toNat by decide, va_upS]) (by rw [show ((0 : Int) + 1 - 1).toNat = (0 : Int).toNat by decide, updI_s]) (by rw [show ((0 : Int) + 1 - 1).toNat = (0 : Int).toNat by decide, updI_s]) (by rw [show ((0 : Int) + 1 - 1).toNat = (0 : Int).toNat by decide, updI_s]) (by omega) (by omega) (by omega) (by omega) (by omega) (by simp; omega) (by simp; omega) (by omega) (by omega) ?_
  intro h3 gw3 fx3 fy3 fl3 fh3 step3 W3 ag3 fr3 hs3 hs3'
  have F3 := ch_frT F2 fr3 (fun _ q => q)
  rw [List.nil_append] at W3
  have W3' := W3
  obtain ⟨fe3, fs3, fm3, ec3, sc3, V0, V1, V2, V3, V4, V5, V6, V7, V8, V9, hfs3⟩ := W3
  obtain ⟨q1, q2⟩ := fsR_1 hfs3
  have q3 := ed_len (fun s q1 q2 => (HA s q1 q2).2.2) s hs1 hs2 x y 0
  have kr : h3 r = some (.inr (7, [.ref g, .int (iI nr)])) := by rw [F3 r (wwL_out (by omega))]; exact hr
  have kg : h3 g = some (aI cI 100 fg) := by rw [F3 g (wwL_out (by omega))]; exact hg
  refine gx_iload 2 dX10_over_23 rfl ?_
  refine gx_sipush (iI 200) dX10_over_25 (by decide) ?_
  refine gy_icmp_ge 62 dX10_over_28 (by decide) (by constructor <;> omega) (by decide) (fun c28 => ?_) (fun c28 => ?_)
  · refine gx_aload_n 0 dX10_over_62 rfl rfl ?_
    refine gx_get (ci := 9) (f := 6) (C := RX10) (T := TX10) (N := 7) rfl inX10 (by decide) mw_1_61 dX10_over_63 V0 rfl ?_
    refine gx_aload 1 dX10_over_66 rfl ?_
    refine gx_callV (ci := 3) (c_X3_copyTo l D cI cL cR lo h3 hi (lo + 9) (lo + 10) (lo + 11) (lo + 12) ec3 sc3 fe3 fs3 fm3 V6 V7 V8 V9 (by omega) (by omega) (by omega) r g nr fg kr kg (by omega) (by omega)) ok_X3_copyTo mw_2_182 mw_2_183 mw_2_184 dX10_over_68 rfl V6 rfl rfl (Nat.le_of_ble_eq_true rfl) (by first | exact Nat.le_of_ble_eq_true rfl | (simp only [rM]; omega)) (by first | exact Nat.le_of_ble_eq_true rfl | (simp only [rM]; omega)) (by first | exact Nat.le_of_ble_eq_true rfl | (simp only [rM]; omega)) (by first | exact Nat.le_of_ble_eq_true rfl | (simp only [rM]; omega)) (fun rz1 hz2 uz3 qz4 gz5 => ?_)
    obtain ⟨rfl, ⟨f4, eh4, hf4⟩, rfl⟩ := qz4
    refine ch_Gst (st2 := []) rfl ?_
    refine gx_vret rfl dX10_over_71 (by first | exact Nat.le_of_ble_eq_true rfl | (simp only [rM]; omega)) (by first | exact Nat.le_of_ble_eq_true rfl | (simp only [rM]; omega)) ?_
    have nrg : r ≠ g := ch_ne kr kg (by intro q; cases q)
    refine ⟨rfl, ⟨gw3, fx3, fy3, fl3, fh3, _, _, wwP_fr W3' (fun b b1 b2 => by rw [eh4, ch_set_ne (by omega), ch_set_ne (by omega)])⟩, ⟨f4, by rw [eh4, ch_set_ne nrg, ch_set_self, q1], by rw [eh4, ch_set_self], by omega, fun j hj => by rw [hf4 j (by omega)]; exact q2 j hj, fun j hj => by rw [hf4 j (by omega)]; exact hfs3.2.2.2.2 j⟩, ?_, rfl⟩
    intro b hb
    simp only [List.mem_cons, not_or] at hb
    rw [eh4, ch_set_ne hb.2.1, ch_set_ne hb.1]
    exact F3 b hb.2.2
  · refine gx_aload_n 0 dX10_over_31 rfl rfl ?_
    refine gx_get (ci := 9) (f := 5) (C := RX10) (T := TX10) (N := 7) rfl inX10 (by decide) mw_1_60 dX10_over_32 V0 rfl ?_
    refine gy_if_le 62 dX10_over_35 (by decide) (by constructor <;> omega) (fun c35 => ?_) (fun c35 => absurd c35 (by omega))
    refine gx_aload_n 0 dX10_over_62 rfl rfl ?_
    refine gx_get (ci := 9) (f := 6) (C := RX10) (T := TX10) (N := 7) rfl inX10 (by decide) mw_1_61 dX10_over_63 V0 rfl ?_
    refine gx_aload 1 dX10_over_66 rfl ?_
    refine gx_callV (ci := 3) (c_X3_copyTo l D cI cL cR lo h3 hi (lo + 9) (lo + 10) (lo + 11) (lo + 12) ec3 sc3 fe3 fs3 fm3 V6 V7 V8 V9 (by omega) (by omega) (by omega) r g nr fg kr kg (by omega) (by omega)) ok_X3_copyTo mw_2_182 mw_2_183 mw_2_184 dX10_over_68 rfl V6 rfl rfl (Nat.le_of_ble_eq_true rfl) (by first | exact Nat.le_of_ble_eq_true rfl | (simp only [rM]; omega)) (by first | exact Nat.le_of_ble_eq_true rfl | (simp only [rM]; omega)) (by first | exact Nat.le_of_ble_eq_true rfl | (simp only [rM]; omega)) (by first | exact Nat.le_of_ble_eq_true rfl | (simp only [rM]; omega)) (fun rz6 hz7 uz8 qz9 gz10 => ?_)
    obtain ⟨rfl, ⟨f4, eh4, hf4⟩, rfl⟩ := qz9
    refine ch_Gst (st2 := []) rfl ?_
    refine gx_vret rfl dX10_over_71 (by first | exact Nat.le_of_ble_eq_true rfl | (simp only [rM]; omega)) (by first | exact Nat.le_of_ble_eq_true rfl | (simp only [rM]; omega)) ?_
    have nrg : r ≠ g := ch_ne kr kg (by intro q; cases q)
    refine ⟨rfl, ⟨gw3, fx3, fy3, fl3, fh3, _, _, wwP_fr W3' (fun b b1 b2 => by rw [eh4, ch_set_ne (by omega), ch_set_ne (by omega)])⟩, ⟨f4, by rw [eh4, ch_set_ne nrg, ch_set_self, q1], by rw [eh4, ch_set_self], by omega, fun j hj => by rw [hf4 j (by omega)]; exact q2 j hj, fun j hj => by rw [hf4 j (by omega)]; exact hfs3.2.2.2.2 j⟩, ?_, rfl⟩
    intro b hb
    simp only [List.mem_cons, not_or] at hb
    rw [eh4, ch_set_ne hb.2.1, ch_set_ne hb.1]
    exact F3 b hb.2.2
end
