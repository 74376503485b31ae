section
theorem nxE_c {fe : Nat → Int} {mid ec a b : Int} (h : a < mid ∨ b < ec) : (a < mid ∧ fe a.toNat = nxE fe mid ec a b) ∨ (b < ec ∧ fe b.toNat = nxE fe mid ec a b) := by
  unfold nxE
  by_cases h1 : mid ≤ a
  · rw [if_pos h1, if_pos (by omega)]
    exact Or.inr ⟨by omega, rfl⟩
  · rw [if_neg h1]
    by_cases h2 : b < ec ∧ fe b.toNat < fe a.toNat
    · rw [if_pos h2]; exact Or.inr ⟨h2.1, rfl⟩
    · rw [if_neg h2]; exact Or.inl ⟨by omega, rfl⟩
theorem mxS_len {fe : Nat → Int} {mid ec how : Int} : ∀ (k : Nat) (a b : Int) (p q j : Bool), a ≤ mid → b ≤ ec → ((mxS fe mid ec how k a b p q j).length : Int) ≤ (mid - a) + (ec - b) := by
  intro k
  induction k with
  | zero => intro a b p q j h1 h2; rw [mxS]; simp; omega
  | succ k ih =>
    intro a b p q j h1 h2
    rw [mxS]
    by_cases hc : a < mid ∨ b < ec
    · rw [if_pos hc]
      have hcc := nxE_c (fe := fe) hc
      obtain ⟨a2, ea⟩ : ∃ z, z = (if a < mid ∧ fe a.toNat = nxE fe mid ec a b then a + 1 else a) := ⟨_, rfl⟩
      obtain ⟨b2, eb⟩ : ∃ z, z = (if b < ec ∧ fe b.toNat = nxE fe mid ec a b then b + 1 else b) := ⟨_, rfl⟩
      have ha2 : a ≤ a2 ∧ a2 ≤ mid := by rw [ea]; split <;> omega
      have hb2 : b ≤ b2 ∧ b2 ≤ ec := by rw [eb]; split <;> omega
      have hs : a + b + 1 ≤ a2 + b2 := by
        rcases hcc with hcc | hcc
        · rw [if_pos hcc] at ea; omega
        · rw [if_pos hcc] at eb; omega
      rw [← ea, ← eb]
      generalize (if a < mid ∧ fe a.toNat = nxE fe mid ec a b then !p else p) = p2
      generalize (if b < ec ∧ fe b.toNat = nxE fe mid ec a b then !q else q) = q2
      by_cases hj : jnB how p2 q2 = j
      · rw [if_pos hj]
        have := ih a2 b2 p2 q2 j ha2.2 hb2.2
        omega
      · rw [if_neg hj]
        have := ih a2 b2 p2 q2 (!j) ha2.2 hb2.2
        simp only [List.length_cons]
        omega
    · rw [if_neg hc]; simp; omega
theorem nxE_sh {fe g : Nat → Int} {s mid ec a b : Int} (hs : 0 ≤ s) (ha : 0 ≤ a) (hb : 0 ≤ b) (hm : mid ≤ ec) (hg : ∀ j : Nat, (j : Int) < ec → fe (s.toNat + j) = g j) : nxE fe (s + mid) (s + ec) (s + a) (s + b) = nxE g mid ec a b := by
  have ra : a < ec → fe (s + a).toNat = g a.toNat := fun h => by rw [← hg a.toNat (by omega)]; congr 1; omega
  have rb : b < ec → fe (s + b).toNat = g b.toNat := fun h => by rw [← hg b.toNat (by omega)]; congr 1; omega
  unfold nxE
  by_cases h1 : mid ≤ a
  · rw [if_pos h1, if_pos (by omega)]
    by_cases h2 : b < ec
    · rw [if_pos h2, if_pos (by omega), rb h2]
    · rw [if_neg h2, if_neg (by omega)]
  · rw [if_neg h1, if_neg (by omega), ra (by omega)]
    by_cases h2 : b < ec
    · rw [rb h2]
      by_cases h3 : g b.toNat < g a.toNat
      · rw [if_pos ⟨by omega, h3⟩, if_pos ⟨h2, h3⟩]
      · rw [if_neg (fun q => h3 q.2), if_neg (fun q => h3 q.2)]
    · rw [if_neg (by omega), if_neg (by omega)]
theorem mxS_sh {fe g : Nat → Int} {s mid ec how : Int} (hs : 0 ≤ s) (hm : mid ≤ ec) (hg : ∀ j : Nat, (j : Int) < ec → fe (s.toNat + j) = g j) : ∀ (k : Nat) (a b : Int) (p q j : Bool), 0 ≤ a → 0 ≤ b → mxS fe (s + mid) (s + ec) how k (s + a) (s + b) p q j = mxS g mid ec how k a b p q j := by
  intro k
  induction k with
  | zero => intro a b p q j _ _; rw [mxS, mxS]
  | succ k ih =>
    intro a b p q j ha hb
    rw [mxS, mxS]
    have hz := nxE_sh (fe := fe) (g := g) hs ha hb hm hg
    rw [hz]
    have ca : (s + a < s + mid ∧ fe (s + a).toNat = nxE g mid ec a b) ↔ (a < mid ∧ g a.toNat = nxE g mid ec a b) := by
      by_cases h : a < mid
      · have e : fe (s + a).toNat = g a.toNat := by rw [← hg a.toNat (by omega)]; congr 1; omega
        rw [e]; constructor <;> (intro q; exact ⟨by omega, q.2⟩)
      · constructor <;> (intro q; exfalso; omega)
    have cb : (s + b < s + ec ∧ fe (s + b).toNat = nxE g mid ec a b) ↔ (b < ec ∧ g b.toNat = nxE g mid ec a b) := by
      by_cases h : b < ec
      · have e : fe (s + b).toNat = g b.toNat := by rw [← hg b.toNat (by omega)]; congr 1; omega
        rw [e]; constructor <;> (intro q; exact ⟨by omega, q.2⟩)
      · constructor <;> (intro q; exfalso; omega)
    have cc : (s + a < s + mid ∨ s + b < s + ec) ↔ (a < mid ∨ b < ec) := by omega
    simp only [ca, cb, cc]
    by_cases h1 : a < mid ∧ g a.toNat = nxE g mid ec a b <;> by_cases h2 : b < ec ∧ g b.toNat = nxE g mid ec a b <;>
      simp only [h1, h2, if_true, if_false, and_self, Int.add_assoc, ih _ _ _ _ _ (by omega : 0 ≤ a) (by omega : 0 ≤ b), ih _ _ _ _ _ (by omega : 0 ≤ a + 1) (by omega : 0 ≤ b), ih _ _ _ _ _ (by omega : 0 ≤ a) (by omega : 0 ≤ b + 1), ih _ _ _ _ _ (by omega : 0 ≤ a + 1) (by omega : 0 ≤ b + 1)]
/-- the join of two rows of edges -/
def mixL (how : Int) (X Y : List Int) : List Int := mxS (fun j => (X ++ Y).getD j 0) X.length (X.length + Y.length) how 100 0 X.length false false false
theorem mixL_len (how : Int) (X Y : List Int) : (mixL how X Y).length ≤ X.length + Y.length := by
  have := mxS_len (fe := fun j => (X ++ Y).getD j 0) (mid := X.length) (ec := (X.length : Int) + Y.length) (how := how) 100 0 X.length false false false (by omega) (by omega)
  unfold mixL
  omega
/-- the two newest rows, and their join in their place -/
theorem fsR_top {Ls : List (List Int)} {X Y : List Int} {fe fs : Nat → Int} {ec sc : Int} (H : fsR (Ls ++ [X, Y]) fe fs ec sc) (how : Int) : 2 ≤ sc ∧ fs (sc - 2).toNat = (Ls.flatten.length : Int) ∧ fs (sc - 1).toNat = (Ls.flatten.length : Int) + X.length ∧ ec = (Ls.flatten.length : Int) + X.length + Y.length ∧ mxS fe ((Ls.flatten.length : Int) + X.length) ec how 100 (Ls.flatten.length : Int) ((Ls.flatten.length : Int) + X.length) false false false = mixL how X Y := by
  obtain ⟨h1, h2, h3, h4, h5⟩ := H
  have hl : (Ls ++ [X, Y]).length = Ls.length + 2 := by simp
  have hf : (Ls ++ [X, Y]).flatten = Ls.flatten ++ (X ++ Y) := by simp
  have e1 : fs (sc - 2).toNat = (Ls.flatten.length : Int) := by
    rw [show (sc - 2).toNat = Ls.length by omega, h4 _ (by omega), List.take_left]
  have e2 : fs (sc - 1).toNat = (Ls.flatten.length : Int) + X.length := by
    rw [show (sc - 1).toNat = Ls.length + 1 by omega, h4 _ (by omega), List.take_append, List.take_of_length_le (by omega), show Ls.length + 1 - Ls.length = 1 by omega]
    simp
  have e3 : ec = (Ls.flatten.length : Int) + X.length + Y.length := by
    rw [h2, hf]; simp; omega
  refine ⟨by omega, e1, e2, e3, ?_⟩
  have := mxS_sh (fe := fe) (g := fun j => (X ++ Y).getD j 0) (s := (Ls.flatten.length : Int)) (mid := X.length) (ec := (X.length : Int) + Y.length) (how := how) (by omega) (by omega) (fun j hj => by
    have h6 := h3 (Ls.flatten.length + j) (by rw [hf]; simp; omega)
    rw [hf, List.getElem?_append_right (by omega), show Ls.flatten.length + j - Ls.flatten.length = j by omega] at h6
    rw [Int.toNat_natCast]
    show _ = (X ++ Y).getD j 0
    rw [List.getD_eq_getElem?_getD, h6]; rfl) 100 0 X.length false false false (by omega) (by omega)
  unfold mixL
  rw [← this, e3]
  simp only [Int.add_zero, Int.add_assoc]
theorem fsR_join {Ls : List (List Int)} {X Y O : List Int} {fe fs fe2 : Nat → Int} {ec sc : Int} (H : fsR (Ls ++ [X, Y]) fe fs ec sc) (k1 : ∀ j : Nat, (j : Int) < (Ls.flatten.length : Int) → fe2 j = fe j) (k2 : ∀ i, i < O.length → O[i]? = some (fe2 ((Ls.flatten.length : Int).toNat + i))) (k3 : ∀ j, -1000000 ≤ fe2 j ∧ fe2 j ≤ 1000000) : fsR (Ls ++ [O]) fe2 fs ((Ls.flatten.length : Int) + O.length) (sc - 1) := by
  obtain ⟨h1, h2, h3, h4, h5⟩ := H
  have hl : (Ls ++ [X, Y]).length = Ls.length + 2 := by simp
  have hf : (Ls ++ [X, Y]).flatten = Ls.flatten ++ (X ++ Y) := by simp
  have hf2 : (Ls ++ [O]).flatten = Ls.flatten ++ O := by simp
  refine ⟨by simp; omega, by rw [hf2]; simp, ?_, ?_, k3⟩
  · intro j hj
    rw [hf2] at hj ⊢
    rw [List.length_append] at hj
    by_cases q : j < Ls.flatten.length
    · rw [List.getElem?_append_left q, k1 j (by omega), ← h3 j (by rw [hf, List.length_append]; omega), hf, List.getElem?_append_left q]
    · rw [List.getElem?_append_right (by omega), k2 _ (by omega)]
      congr 2
      omega
  · intro i hi
    rw [h4 i (by simp at hi; omega)]
    simp at hi
    rw [List.take_append_of_le_length (by omega), List.take_append_of_le_length (by omega)]
set_option maxHeartbeats 4000000 in
set_option maxRecDepth 100000 in
theorem c_X10_lookAt_0 (l : Launch) (D : va_G) (cI cL cR : ClassId) (lo : Nat) (h : ch_H) (hi : Nat) (gw : Nat → Option Nat) (fx fy fl fh : Nat → Int) (wc : Int) (Ls : List (List Int)) (W : wwP cI cR lo h gw fx fy fl fh wc Ls) (p : Nat) (vs : List Value) (hp : h p = some (.inr (0, vs))) (z x y t : Int) (hz : 0 ≤ z ∧ z < 100) (e1 : gw z.toNat = some p) (e2 : fx z.toNat = x) (e3 : fy z.toNat = y) (e4 : fl z.toNat = t) (Q : Option Value → ch_H → Nat → Prop) (hQ : ∀ r h2 hi2, Q r h2 hi2 → r = none) (C0 : ch_C l (eE D cI cL cR lo) M_X0_lookFrom (rM 2 0 0) [.ref p, .int (iI x), .int (iI y), .int (iI t), .ref (lo + 3)] h hi Q) : ch_C l (eE D cI cL cR lo) M_X10_lookAt (rM 3 0 0) [.ref (lo + 3), .int (iI z)] h hi (fun r0 h2 hi2 => Q r0 h2 hi2) := by
  refine ch_C.of rfl (Nat.le_of_ble_eq_true rfl) ?_
  obtain ⟨fe, fs, fm, ec, sc, W0, W1, W2, W3, W4, W5, W6, W7, W8, W9, hfs⟩ := W
  refine gx_aload_n 0 dX10_lookAt_0 rfl rfl ?_
  refine gx_get (ci := 9) (f := 0) (C := RX10) (T := TX10) (N := 7) rfl inX10 (by decide) mw_1_55 dX10_lookAt_1 W0 rfl ?_
  refine gx_iload_n 1 dX10_lookAt_4 rfl rfl ?_
  refine gy_aald dX10_lookAt_5 W1 (by omega) (by omega) (by decide) ?_
  refine ch_Gst (st2 := [.ref p]) (by rw [e1]; try rfl) ?_
  refine gx_astore_n [(2, .ref p), (0, .ref (lo + 3)), (1, .int (iI z))] dX10_lookAt_6 rfl (by decide) rfl ?_
  refine gx_aload_n 0 dX10_lookAt_7 rfl rfl ?_
  refine gx_ifnonnullA 27 dX10_lookAt_8 (by decide) ?_
  refine gx_aload_n 0 dX10_lookAt_27 rfl rfl ?_
  refine gx_aload_n 1 dX10_lookAt_28 rfl rfl ?_
  refine gx_get (ci := 9) (f := 1) (C := RX10) (T := TX10) (N := 7) rfl inX10 (by decide) mw_1_56 dX10_lookAt_29 W0 rfl ?_
  refine gx_iload_n 2 dX10_lookAt_32 rfl rfl ?_
  refine gy_iald dX10_lookAt_33 W2 (by omega) (by omega) (by decide) ?_
  refine ch_Gst (st2 := [.int (iI x), .ref p]) (by rw [e2]; try rfl) ?_
  refine gx_aload_n 1 dX10_lookAt_34 rfl rfl ?_
  refine gx_get (ci := 9) (f := 2) (C := RX10) (T := TX10) (N := 7) rfl inX10 (by decide) mw_1_57 dX10_lookAt_35 W0 rfl ?_
  refine gx_iload_n 2 dX10_lookAt_38 rfl rfl ?_
  refine gy_iald dX10_lookAt_39 W3 (by omega) (by omega) (by decide) ?_
  refine ch_Gst (st2 := [.int (iI y), .int (iI x), .ref p]) (by rw [e3]; try rfl) ?_
  refine gx_aload_n 1 dX10_lookAt_40 rfl rfl ?_
  refine gx_get (ci := 9) (f := 3) (C := RX10) (T := TX10) (N := 7) rfl inX10 (by decide) mw_1_58 dX10_lookAt_41 W0 rfl ?_
  refine gx_iload_n 2 dX10_lookAt_44 rfl rfl ?_
  refine gy_iald dX10_lookAt_45 W4 (by omega) (by omega) (by decide) ?_
  refine ch_Gst (st2 := [.int (iI t), .int (iI y), .int (iI x), .ref p]) (by rw [e4]; try rfl) ?_
  refine gx_aload_n 1 dX10_lookAt_46 rfl rfl ?_
  refine gx_callA (x := ⟨"SpanSolids$Solid", "lookFrom", "(IIILSpanSolids$Walk;)V"⟩) (ci := 0) C0 ok_X0_lookFrom mw_2_120 mw_2_122 nw_1 mw_2_124 mw_2_123 (by decide +kernel) dX10_lookAt_47 rfl hp rfl rfl (Nat.le_of_ble_eq_true rfl) (by first | exact Nat.le_of_ble_eq_true rfl | (simp only [rM]; omega)) (by first | exact Nat.le_of_ble_eq_true rfl | (simp only [rM]; omega)) (by first | exact Nat.le_of_ble_eq_true rfl | (simp only [rM]; omega)) (by first | exact Nat.le_of_ble_eq_true rfl | (simp only [rM]; omega)) (fun rr hh uu qq gg => ?_)
  obtain rfl := hQ _ _ _ qq
  refine ch_Gst (st2 := []) rfl ?_
  refine gx_vret rfl dX10_lookAt_50 (Nat.le_refl _) (Nat.le_refl _) ?_
  exact qq
set_option maxHeartbeats 4000000 in
set_option maxRecDepth 100000 in
theorem c_X10_lookAt_1 (l : Launch) (D : va_G) (cI cL cR : ClassId) (lo : Nat) (h : ch_H) (hi : Nat) (gw : Nat → Option Nat) (fx fy fl fh : Nat → Int) (wc : Int) (Ls : List (List Int)) (W : wwP cI cR lo h gw fx fy fl fh wc Ls) (p : Nat) (vs : List Value) (hp : h p = some (.inr (1, vs))) (z x y t : Int) (hz : 0 ≤ z ∧ z < 100) (e1 : gw z.toNat = some p) (e2 : fx z.toNat = x) (e3 : fy z.toNat = y) (e4 : fl z.toNat = t) (Q : Option Value → ch_H → Nat → Prop) (hQ : ∀ r h2 hi2, Q r h2 hi2 → r = none) (C0 : ch_C l (eE D cI cL cR lo) M_X1_lookFrom (rM 2 0 0) [.ref p, .int (iI x), .int (iI y), .int (iI t), .ref (lo + 3)] h hi Q) : ch_C l (eE D cI cL cR lo) M_X10_lookAt (rM 3 0 0) [.ref (lo + 3), .int (iI z)] h hi (fun r0 h2 hi2 => Q r0 h2 hi2) := by
  refine ch_C.of rfl (Nat.le_of_ble_eq_true rfl) ?_
  obtain ⟨fe, fs, fm, ec, sc, W0, W1, W2, W3, W4, W5, W6, W7, W8, W9, hfs⟩ := W
  refine gx_aload_n 0 dX10_lookAt_0 rfl rfl ?_
  refine gx_get (ci := 9) (f := 0) (C := RX10) (T := TX10) (N := 7) rfl inX10 (by decide) mw_1_55 dX10_lookAt_1 W0 rfl ?_
  refine gx_iload_n 1 dX10_lookAt_4 rfl rfl ?_
  refine gy_aald dX10_lookAt_5 W1 (by omega) (by omega) (by decide) ?_
  refine ch_Gst (st2 := [.ref p]) (by rw [e1]; try rfl) ?_
  refine gx_astore_n [(2, .ref p), (0, .ref (lo + 3)), (1, .int (iI z))] dX10_lookAt_6 rfl (by decide) rfl ?_
  refine gx_aload_n 0 dX10_lookAt_7 rfl rfl ?_
  refine gx_ifnonnullA 27 dX10_lookAt_8 (by decide) ?_
  refine gx_aload_n 0 dX10_lookAt_27 rfl rfl ?_
  refine gx_aload_n 1 dX10_lookAt_28 rfl rfl ?_
  refine gx_get (ci := 9) (f := 1) (C := RX10) (T := TX10) (N := 7) rfl inX10 (by decide) mw_1_56 dX10_lookAt_29 W0 rfl ?_
  refine gx_iload_n 2 dX10_lookAt_32 rfl rfl ?_
  refine gy_iald dX10_lookAt_33 W2 (by omega) (by omega) (by decide) ?_
  refine ch_Gst (st2 := [.int (iI x), .ref p]) (by rw [e2]; try rfl) ?_
  refine gx_aload_n 1 dX10_lookAt_34 rfl rfl ?_
  refine gx_get (ci := 9) (f := 2) (C := RX10) (T := TX10) (N := 7) rfl inX10 (by decide) mw_1_57 dX10_lookAt_35 W0 rfl ?_
  refine gx_iload_n 2 dX10_lookAt_38 rfl rfl ?_
  refine gy_iald dX10_lookAt_39 W3 (by omega) (by omega) (by decide) ?_
  refine ch_Gst (st2 := [.int (iI y), .int (iI x), .ref p]) (by rw [e3]; try rfl) ?_
  refine gx_aload_n 1 dX10_lookAt_40 rfl rfl ?_
  refine gx_get (ci := 9) (f := 3) (C := RX10) (T := TX10) (N := 7) rfl inX10 (by decide) mw_1_58 dX10_lookAt_41 W0 rfl ?_
  refine gx_iload_n 2 dX10_lookAt_44 rfl rfl ?_
  refine gy_iald dX10_lookAt_45 W4 (by omega) (by omega) (by decide) ?_
  refine ch_Gst (st2 := [.int (iI t), .int (iI y), .int (iI x), .ref p]) (by rw [e4]; try rfl) ?_
  refine gx_aload_n 1 dX10_lookAt_46 rfl rfl ?_
  refine gx_callA (x := ⟨"SpanSolids$Solid", "lookFrom", "(IIILSpanSolids$Walk;)V"⟩) (ci := 1) C0 ok_X1_lookFrom mw_2_120 mw_2_122 nw_1 mw_2_146 mw_2_145 (by decide +kernel) dX10_lookAt_47 rfl hp rfl rfl (Nat.le_of_ble_eq_true rfl) (by first | exact Nat.le_of_ble_eq_true rfl | (simp only [rM]; omega)) (by first | exact Nat.le_of_ble_eq_true rfl | (simp only [rM]; omega)) (by first | exact Nat.le_of_ble_eq_true rfl | (simp only [rM]; omega)) (by first | exact Nat.le_of_ble_eq_true rfl | (simp only [rM]; omega)) (fun rr hh uu qq gg => ?_)
  obtain rfl := hQ _ _ _ qq
  refine ch_Gst (st2 := []) rfl ?_
  refine gx_vret rfl dX10_lookAt_50 (Nat.le_refl _) (Nat.le_refl _) ?_
  exact qq
set_option maxHeartbeats 4000000 in
set_option maxRecDepth 100000 in
theorem c_X10_lookAt_2 (l : Launch) (D : va_G) (cI cL cR : ClassId) (lo : Nat) (h : ch_H) (hi : Nat) (gw : Nat → Option Nat) (fx fy fl fh : Nat → Int) (wc : Int) (Ls : List (List Int)) (W : wwP cI cR lo h gw fx fy fl fh wc Ls) (p : Nat) (vs : List Value) (hp : h p = some (.inr (2, vs))) (z x y t : Int) (hz : 0 ≤ z ∧ z < 100) (e1 : gw z.toNat = some p) (e2 : fx z.toNat = x) (e3 : fy z.toNat = y) (e4 : fl z.toNat = t) (Q : Option Value → ch_H → Nat → Prop) (hQ : ∀ r h2 hi2, Q r h2 hi2 → r = none) (C0 : ch_C l (eE D cI cL cR lo) M_X2_lookFrom (rM 2 0 0) [.ref p, .int (iI x), .int (iI y), .int (iI t), .ref (lo + 3)] h hi Q) : ch_C l (eE D cI cL cR lo) M_X10_lookAt (rM 3 0 0) [.ref (lo + 3), .int (iI z)] h hi (fun r0 h2 hi2 => Q r0 h2 hi2) := by
  refine ch_C.of rfl (Nat.le_of_ble_eq_true rfl) ?_
  obtain ⟨fe, fs, fm, ec, sc, W0, W1, W2, W3, W4, W5, W6, W7, W8, W9, hfs⟩ := W
  refine gx_aload_n 0 dX10_lookAt_0 rfl rfl ?_
  refine gx_get (ci := 9) (f := 0) (C := RX10) (T := TX10) (N := 7) rfl inX10 (by decide) mw_1_55 dX10_lookAt_1 W0 rfl ?_
  refine gx_iload_n 1 dX10_lookAt_4 rfl rfl ?_
  refine gy_aald dX10_lookAt_5 W1 (by omega) (by omega) (by decide) ?_
  refine ch_Gst (st2 := [.ref p]) (by rw [e1]; try rfl) ?_
  refine gx_astore_n [(2, .ref p), (0, .ref (lo + 3)), (1, .int (iI z))] dX10_lookAt_6 rfl (by decide) rfl ?_
  refine gx_aload_n 0 dX10_lookAt_7 rfl rfl ?_
  refine gx_ifnonnullA 27 dX10_lookAt_8 (by decide) ?_
  refine gx_aload_n 0 dX10_lookAt_27 rfl rfl ?_
  refine gx_aload_n 1 dX10_lookAt_28 rfl rfl ?_
  refine gx_get (ci := 9) (f := 1) (C := RX10) (T := TX10) (N := 7) rfl inX10 (by decide) mw_1_56 dX10_lookAt_29 W0 rfl ?_
  refine gx_iload_n 2 dX10_lookAt_32 rfl rfl ?_
  refine gy_iald dX10_lookAt_33 W2 (by omega) (by omega) (by decide) ?_
  refine ch_Gst (st2 := [.int (iI x), .ref p]) (by rw [e2]; try rfl) ?_
  refine gx_aload_n 1 dX10_lookAt_34 rfl rfl ?_
  refine gx_get (ci := 9) (f := 2) (C := RX10) (T := TX10) (N := 7) rfl inX10 (by decide) mw_1_57 dX10_lookAt_35 W0 rfl ?_
  refine gx_iload_n 2 dX10_lookAt_38 rfl rfl ?_
  refine gy_iald dX10_lookAt_39 W3 (by omega) (by omega) (by decide) ?_
  refine ch_Gst (st2 := [.int (iI y), .int (iI x), .ref p]) (by rw [e3]; try rfl) ?_
  refine gx_aload_n 1 dX10_lookAt_40 rfl rfl ?_
  refine gx_get (ci := 9) (f := 3) (C := RX10) (T := TX10) (N := 7) rfl inX10 (by decide) mw_1_58 dX10_lookAt_41 W0 rfl ?_
  refine gx_iload_n 2 dX10_lookAt_44 rfl rfl ?_
  refine gy_iald dX10_lookAt_45 W4 (by omega) (by omega) (by decide) ?_
  refine ch_Gst (st2 := [.int (iI t), .int (iI y), .int (iI x), .ref p]) (by rw [e4]; try rfl) ?_
  refine gx_aload_n 1 dX10_lookAt_46 rfl rfl ?_
  refine gx_callA (x := ⟨"SpanSolids$Solid", "lookFrom", "(IIILSpanSolids$Walk;)V"⟩) (ci := 2) C0 ok_X2_lookFrom mw_2_120 mw_2_122 nw_1 mw_2_151 mw_2_150 (by decide +kernel) dX10_lookAt_47 rfl hp rfl rfl (Nat.le_of_ble_eq_true rfl) (by first | exact Nat.le_of_ble_eq_true rfl | (simp only [rM]; omega)) (by first | exact Nat.le_of_ble_eq_true rfl | (simp only [rM]; omega)) (by first | exact Nat.le_of_ble_eq_true rfl | (simp only [rM]; omega)) (by first | exact Nat.le_of_ble_eq_true rfl | (simp only [rM]; omega)) (fun rr hh uu qq gg => ?_)
  obtain rfl := hQ _ _ _ qq
  refine ch_Gst (st2 := []) rfl ?_
  refine gx_vret rfl dX10_lookAt_50 (Nat.le_refl _) (Nat.le_refl _) ?_
  exact qq
set_option maxHeartbeats 4000000 in
set_option maxRecDepth 100000 in
theorem c_X10_lookAt_4 (l : Launch) (D : va_G) (cI cL cR : ClassId) (lo : Nat) (h : ch_H) (hi : Nat) (gw : Nat → Option Nat) (fx fy fl fh : Nat → Int) (wc : Int) (Ls : List (List Int)) (W : wwP cI cR lo h gw fx fy fl fh wc Ls) (p : Nat) (vs : List Value) (hp : h p = some (.inr (4, vs))) (z x y t : Int) (hz : 0 ≤ z ∧ z < 100) (e1 : gw z.toNat = some p) (e2 : fx z.toNat = x) (e3 : fy z.toNat = y) (e4 : fl z.toNat = t) (Q : Option Value → ch_H → Nat → Prop) (hQ : ∀ r h2 hi2, Q r h2 hi2 → r = none) (C0 : ch_C l (eE D cI cL cR lo) M_X4_lookFrom (rM 2 0 0) [.ref p, .int (iI x), .int (iI y), .int (iI t), .ref (lo + 3)] h hi Q) : ch_C l (eE D cI cL cR lo) M_X10_lookAt (rM 3 0 0) [.ref (lo + 3), .int (iI z)] h hi (fun r0 h2 hi2 => Q r0 h2 hi2) := by
  refine ch_C.of rfl (Nat.le_of_ble_eq_true rfl) ?_
  obtain ⟨fe, fs, fm, ec, sc, W0, W1, W2, W3, W4, W5, W6, W7, W8, W9, hfs⟩ := W
  refine gx_aload_n 0 dX10_lookAt_0 rfl rfl ?_
  refine gx_get (ci := 9) (f := 0) (C := RX10) (T := TX10) (N := 7) rfl inX10 (by decide) mw_1_55 dX10_lookAt_1 W0 rfl ?_
  refine gx_iload_n 1 dX10_lookAt_4 rfl rfl ?_
  refine gy_aald dX10_lookAt_5 W1 (by omega) (by omega) (by decide) ?_
  refine ch_Gst (st2 := [.ref p]) (by rw [e1]; try rfl) ?_
  refine gx_astore_n [(2, .ref p), (0, .ref (lo + 3)), (1, .int (iI z))] dX10_lookAt_6 rfl (by decide) rfl ?_
  refine gx_aload_n 0 dX10_lookAt_7 rfl rfl ?_
  refine gx_ifnonnullA 27 dX10_lookAt_8 (by decide) ?_
  refine gx_aload_n 0 dX10_lookAt_27 rfl rfl ?_
  refine gx_aload_n 1 dX10_lookAt_28 rfl rfl ?_
  refine gx_get (ci := 9) (f := 1) (C := RX10) (T := TX10) (N := 7) rfl inX10 (by decide) mw_1_56 dX10_lookAt_29 W0 rfl ?_
  refine gx_iload_n 2 dX10_lookAt_32 rfl rfl ?_
  refine gy_iald dX10_lookAt_33 W2 (by omega) (by omega) (by decide) ?_
  refine ch_Gst (st2 := [.int (iI x), .ref p]) (by rw [e2]; try rfl) ?_
  refine gx_aload_n 1 dX10_lookAt_34 rfl rfl ?_
  refine gx_get (ci := 9) (f := 2) (C := RX10) (T := TX10) (N := 7) rfl inX10 (by decide) mw_1_57 dX10_lookAt_35 W0 rfl ?_
  refine gx_iload_n 2 dX10_lookAt_38 rfl rfl ?_
  refine gy_iald dX10_lookAt_39 W3 (by omega) (by omega) (by decide) ?_
  refine ch_Gst (st2 := [.int (iI y), .int (iI x), .ref p]) (by rw [e3]; try rfl) ?_
  refine gx_aload_n 1 dX10_lookAt_40 rfl rfl ?_
  refine gx_get (ci := 9) (f := 3) (C := RX10) (T := TX10) (N := 7) rfl inX10 (by decide) mw_1_58 dX10_lookAt_41 W0 rfl ?_
  refine gx_iload_n 2 dX10_lookAt_44 rfl rfl ?_
  refine gy_iald dX10_lookAt_45 W4 (by omega) (by omega) (by decide) ?_
  refine ch_Gst (st2 := [.int (iI t), .int (iI y), .int (iI x), .ref p]) (by rw [e4]; try rfl) ?_
  refine gx_aload_n 1 dX10_lookAt_46 rfl rfl ?_
  refine gx_callA (x := ⟨"SpanSolids$Solid", "lookFrom", "(IIILSpanSolids$Walk;)V"⟩) (ci := 4) C0 ok_X4_lookFrom mw_2_120 mw_2_122 nw_1 mw_2_161 mw_2_160 (by decide +kernel) dX10_lookAt_47 rfl hp rfl rfl (Nat.le_of_ble_eq_true rfl) (by first | exact Nat.le_of_ble_eq_true rfl | (simp only [rM]; omega)) (by first | exact Nat.le_of_ble_eq_true rfl | (simp only [rM]; omega)) (by first | exact Nat.le_of_ble_eq_true rfl | (simp only [rM]; omega)) (by first | exact Nat.le_of_ble_eq_true rfl | (simp only [rM]; omega)) (fun rr hh uu qq gg => ?_)
  obtain rfl := hQ _ _ _ qq
  refine ch_Gst (st2 := []) rfl ?_
  refine gx_vret rfl dX10_lookAt_50 (Nat.le_refl _) (Nat.le_refl _) ?_
  exact qq
set_option maxHeartbeats 4000000 in
set_option maxRecDepth 100000 in
theorem c_X10_lookAt_5 (l : Launch) (D : va_G) (cI cL cR : ClassId) (lo : Nat) (h : ch_H) (hi : Nat) (gw : Nat → Option Nat) (fx fy fl fh : Nat → Int) (wc : Int) (Ls : List (List Int)) (W : wwP cI cR lo h gw fx fy fl fh wc Ls) (p : Nat) (vs : List Value) (hp : h p = some (.inr (5, vs))) (z x y t : Int) (hz : 0 ≤ z ∧ z < 100) (e1 : gw z.toNat = some p) (e2 : fx z.toNat = x) (e3 : fy z.toNat = y) (e4 : fl z.toNat = t) (Q : Option Value → ch_H → Nat → Prop) (hQ : ∀ r h2 hi2, Q r h2 hi2 → r = none) (C0 : ch_C l (eE D cI cL cR lo) M_X5_lookFrom (rM 2 0 0) [.ref p, .int (iI x), .int (iI y), .int (iI t), .ref (lo + 3)] h hi Q) : ch_C l (eE D cI cL cR lo) M_X10_lookAt (rM 3 0 0) [.ref (lo + 3), .int (iI z)] h hi (fun r0 h2 hi2 => Q r0 h2 hi2) := by
  refine ch_C.of rfl (Nat.le_of_ble_eq_true rfl) ?_
  obtain ⟨fe, fs, fm, ec, sc, W0, W1, W2, W3, W4, W5, W6, W7, W8, W9, hfs⟩ := W
  refine gx_aload_n 0 dX10_lookAt_0 rfl rfl ?_
  refine gx_get (ci := 9) (f := 0) (C := RX10) (T := TX10) (N := 7) rfl inX10 (by decide) mw_1_55 dX10_lookAt_1 W0 rfl ?_
  refine gx_iload_n 1 dX10_lookAt_4 rfl rfl ?_
  refine gy_aald dX10_lookAt_5 W1 (by omega) (by omega) (by decide) ?_
  refine ch_Gst (st2 := [.ref p]) (by rw [e1]; try rfl) ?_
  refine gx_astore_n [(2, .ref p), (0, .ref (lo + 3)), (1, .int (iI z))] dX10_lookAt_6 rfl (by decide) rfl ?_
  refine gx_aload_n 0 dX10_lookAt_7 rfl rfl ?_
  refine gx_ifnonnullA 27 dX10_lookAt_8 (by decide) ?_
  refine gx_aload_n 0 dX10_lookAt_27 rfl rfl ?_
  refine gx_aload_n 1 dX10_lookAt_28 rfl rfl ?_
  refine gx_get (ci := 9) (f := 1) (C := RX10) (T := TX10) (N := 7) rfl inX10 (by decide) mw_1_56 dX10_lookAt_29 W0 rfl ?_
  refine gx_iload_n 2 dX10_lookAt_32 rfl rfl ?_
  refine gy_iald dX10_lookAt_33 W2 (by omega) (by omega) (by decide) ?_
  refine ch_Gst (st2 := [.int (iI x), .ref p]) (by rw [e2]; try rfl) ?_
  refine gx_aload_n 1 dX10_lookAt_34 rfl rfl ?_
  refine gx_get (ci := 9) (f := 2) (C := RX10) (T := TX10) (N := 7) rfl inX10 (by decide) mw_1_57 dX10_lookAt_35 W0 rfl ?_
  refine gx_iload_n 2 dX10_lookAt_38 rfl rfl ?_
  refine gy_iald dX10_lookAt_39 W3 (by omega) (by omega) (by decide) ?_
  refine ch_Gst (st2 := [.int (iI y), .int (iI x), .ref p]) (by rw [e3]; try rfl) ?_
  refine gx_aload_n 1 dX10_lookAt_40 rfl rfl ?_
  refine gx_get (ci := 9) (f := 3) (C := RX10) (T := TX10) (N := 7) rfl inX10 (by decide) mw_1_58 dX10_lookAt_41 W0 rfl ?_
  refine gx_iload_n 2 dX10_lookAt_44 rfl rfl ?_
  refine gy_iald dX10_lookAt_45 W4 (by omega) (by omega) (by decide) ?_
  refine ch_Gst (st2 := [.int (iI t), .int (iI y), .int (iI x), .ref p]) (by rw [e4]; try rfl) ?_
  refine gx_aload_n 1 dX10_lookAt_46 rfl rfl ?_
  refine gx_callA (x := ⟨"SpanSolids$Solid", "lookFrom", "(IIILSpanSolids$Walk;)V"⟩) (ci := 5) C0 ok_X5_lookFrom mw_2_120 mw_2_122 nw_1 mw_2_169 mw_2_168 (by decide +kernel) dX10_lookAt_47 rfl hp rfl rfl (Nat.le_of_ble_eq_true rfl) (by first | exact Nat.le_of_ble_eq_true rfl | (simp only [rM]; omega)) (by first | exact Nat.le_of_ble_eq_true rfl | (simp only [rM]; omega)) (by first | exact Nat.le_of_ble_eq_true rfl | (simp only [rM]; omega)) (by first | exact Nat.le_of_ble_eq_true rfl | (simp only [rM]; omega)) (fun rr hh uu qq gg => ?_)
  obtain rfl := hQ _ _ _ qq
  refine ch_Gst (st2 := []) rfl ?_
  refine gx_vret rfl dX10_lookAt_50 (Nat.le_refl _) (Nat.le_refl _) ?_
  exact qq
set_option maxHeartbeats 4000000 in
set_option maxRecDepth 100000 in
theorem c_X10_lookAt_6 (l : Launch) (D : va_G) (cI cL cR : ClassId) (lo : Nat) (h : ch_H) (hi : Nat) (gw : Nat → Option Nat) (fx fy fl fh : Nat → Int) (wc : Int) (Ls : List (List Int)) (W : wwP cI cR lo h gw fx fy fl fh wc Ls) (p : Nat) (vs : List Value) (hp : h p = some (.inr (6, vs))) (z x y t : Int) (hz : 0 ≤ z ∧ z < 100) (e1 : gw z.toNat = some p) (e2 : fx z.toNat = x) (e3 : fy z.toNat = y) (e4 : fl z.toNat = t) (Q : Option Value → ch_H → Nat → Prop) (hQ : ∀ r h2 hi2, Q r h2 hi2 → r = none) (C0 : ch_C l (eE D cI cL cR lo) M_X6_lookFrom (rM 2 0 0) [.ref p, .int (iI x), .int (iI y), .int (iI t), .ref (lo + 3)] h hi Q) : ch_C l (eE D cI cL cR lo) M_X10_lookAt (rM 3 0 0) [.ref (lo + 3), .int (iI z)] h hi (fun r0 h2 hi2 => Q r0 h2 hi2) := by
  refine ch_C.of rfl (Nat.le_of_ble_eq_true rfl) ?_
  obtain ⟨fe, fs, fm, ec, sc, W0, W1, W2, W3, W4, W5, W6, W7, W8, W9, hfs⟩ := W
  refine gx_aload_n 0 dX10_lookAt_0 rfl rfl ?_
  refine gx_get (ci := 9) (f := 0) (C := RX10) (T := TX10) (N := 7) rfl inX10 (by decide) mw_1_55 dX10_lookAt_1 W0 rfl ?_
  refine gx_iload_n 1 dX10_lookAt_4 rfl rfl ?_
  refine gy_aald dX10_lookAt_5 W1 (by omega) (by omega) (by decide) ?_
  refine ch_Gst (st2 := [.ref p]) (by rw [e1]; try rfl) ?_
  refine gx_astore_n [(2, .ref p), (0, .ref (lo + 3)), (1, .int (iI z))] dX10_lookAt_6 rfl (by decide) rfl ?_
  refine gx_aload_n 0 dX10_lookAt_7 rfl rfl ?_
  refine gx_ifnonnullA 27 dX10_lookAt_8 (by decide) ?_
  refine gx_aload_n 0 dX10_lookAt_27 rfl rfl ?_
  refine gx_aload_n 1 dX10_lookAt_28 rfl rfl ?_
  refine gx_get (ci := 9) (f := 1) (C := RX10) (T := TX10) (N := 7) rfl inX10 (by decide) mw_1_56 dX10_lookAt_29 W0 rfl ?_
  refine gx_iload_n 2 dX10_lookAt_32 rfl rfl ?_
  refine gy_iald dX10_lookAt_33 W2 (by omega) (by omega) (by decide) ?_
  refine ch_Gst (st2 := [.int (iI x), .ref p]) (by rw [e2]; try rfl) ?_
  refine gx_aload_n 1 dX10_lookAt_34 rfl rfl ?_
  refine gx_get (ci := 9) (f := 2) (C := RX10) (T := TX10) (N := 7) rfl inX10 (by decide) mw_1_57 dX10_lookAt_35 W0 rfl ?_
  refine gx_iload_n 2 dX10_lookAt_38 rfl rfl ?_
  refine gy_iald dX10_lookAt_39 W3 (by omega) (by omega) (by decide) ?_
  refine ch_Gst (st2 := [.int (iI y), .int (iI x), .ref p]) (by rw [e3]; try rfl) ?_
  refine gx_aload_n 1 dX10_lookAt_40 rfl rfl ?_
  refine gx_get (ci := 9) (f := 3) (C := RX10) (T := TX10) (N := 7) rfl inX10 (by decide) mw_1_58 dX10_lookAt_41 W0 rfl ?_
  refine gx_iload_n 2 dX10_lookAt_44 rfl rfl ?_
  refine gy_iald dX10_lookAt_45 W4 (by omega) (by omega) (by decide) ?_
  refine ch_Gst (st2 := [.int (iI t), .int (iI y), .int (iI x), .ref p]) (by rw [e4]; try rfl) ?_
  refine gx_aload_n 1 dX10_lookAt_46 rfl rfl ?_
  refine gx_callA (x := ⟨"SpanSolids$Solid", "lookFrom", "(IIILSpanSolids$Walk;)V"⟩) (ci := 6) C0 ok_X6_lookFrom mw_2_120 mw_2_122 nw_1 mw_2_173 mw_2_172 (by decide +kernel) dX10_lookAt_47 rfl hp rfl rfl (Nat.le_of_ble_eq_true rfl) (by first | exact Nat.le_of_ble_eq_true rfl | (simp only [rM]; omega)) (by first | exact Nat.le_of_ble_eq_true rfl | (simp only [rM]; omega)) (by first | exact Nat.le_of_ble_eq_true rfl | (simp only [rM]; omega)) (by first | exact Nat.le_of_ble_eq_true rfl | (simp only [rM]; omega)) (fun rr hh uu qq gg => ?_)
  obtain rfl := hQ _ _ _ qq
  refine ch_Gst (st2 := []) rfl ?_
  refine gx_vret rfl dX10_lookAt_50 (Nat.le_refl _) (Nat.le_refl _) ?_
  exact qq
set_option maxHeartbeats 4000000 in
set_option maxRecDepth 100000 in
theorem c_X10_lookAt_8 (l : Launch) (D : va_G) (cI cL cR : ClassId) (lo : Nat) (h : ch_H) (hi : Nat) (gw : Nat → Option Nat) (fx fy fl fh : Nat → Int) (wc : Int) (Ls : List (List Int)) (W : wwP cI cR lo h gw fx fy fl fh wc Ls) (p : Nat) (vs : List Value) (hp : h p = some (.inr (8, vs))) (z x y t : Int) (hz : 0 ≤ z ∧ z < 100) (e1 : gw z.toNat = some p) (e2 : fx z.toNat = x) (e3 : fy z.toNat = y) (e4 : fl z.toNat = t) (Q : Option Value → ch_H → Nat → Prop) (hQ : ∀ r h2 hi2, Q r h2 hi2 → r = none) (C0 : ch_C l (eE D cI cL cR lo) M_X9_lookFrom (rM 2 0 0) [.ref p, .int (iI x), .int (iI y), .int (iI t), .ref (lo + 3)] h hi Q) : ch_C l (eE D cI cL cR lo) M_X10_lookAt (rM 3 0 0) [.ref (lo + 3), .int (iI z)] h hi (fun r0 h2 hi2 => Q r0 h2 hi2) := by
  refine ch_C.of rfl (Nat.le_of_ble_eq_true rfl) ?_
  obtain ⟨fe, fs, fm, ec, sc, W0, W1, W2, W3, W4, W5, W6, W7, W8, W9, hfs⟩ := W
  refine gx_aload_n 0 dX10_lookAt_0 rfl rfl ?_
  refine gx_get (ci := 9) (f := 0) (C := RX10) (T := TX10) (N := 7) rfl inX10 (by decide) mw_1_55 dX10_lookAt_1 W0 rfl ?_
  refine gx_iload_n 1 dX10_lookAt_4 rfl rfl ?_
  refine gy_aald dX10_lookAt_5 W1 (by omega) (by omega) (by decide) ?_
  refine ch_Gst (st2 := [.ref p]) (by rw [e1]; try rfl) ?_
  refine gx_astore_n [(2, .ref p), (0, .ref (lo + 3)), (1, .int (iI z))] dX10_lookAt_6 rfl (by decide) rfl ?_
  refine gx_aload_n 0 dX10_lookAt_7 rfl rfl ?_
  refine gx_ifnonnullA 27 dX10_lookAt_8 (by decide) ?_
  refine gx_aload_n 0 dX10_lookAt_27 rfl rfl ?_
  refine gx_aload_n 1 dX10_lookAt_28 rfl rfl ?_
  refine gx_get (ci := 9) (f := 1) (C := RX10) (T := TX10) (N := 7) rfl inX10 (by decide) mw_1_56 dX10_lookAt_29 W0 rfl ?_
  refine gx_iload_n 2 dX10_lookAt_32 rfl rfl ?_
  refine gy_iald dX10_lookAt_33 W2 (by omega) (by omega) (by decide) ?_
  refine ch_Gst (st2 := [.int (iI x), .ref p]) (by rw [e2]; try rfl) ?_
  refine gx_aload_n 1 dX10_lookAt_34 rfl rfl ?_
  refine gx_get (ci := 9) (f := 2) (C := RX10) (T := TX10) (N := 7) rfl inX10 (by decide) mw_1_57 dX10_lookAt_35 W0 rfl ?_
  refine gx_iload_n 2 dX10_lookAt_38 rfl rfl ?_
  refine gy_iald dX10_lookAt_39 W3 (by omega) (by omega) (by decide) ?_
  refine ch_Gst (st2 := [.int (iI y), .int (iI x), .ref p]) (by rw [e3]; try rfl) ?_
  refine gx_aload_n 1 dX10_lookAt_40 rfl rfl ?_
  refine gx_get (ci := 9) (f := 3) (C := RX10) (T := TX10) (N := 7) rfl inX10 (by decide) mw_1_58 dX10_lookAt_41 W0 rfl ?_
  refine gx_iload_n 2 dX10_lookAt_44 rfl rfl ?_
  refine gy_iald dX10_lookAt_45 W4 (by omega) (by omega) (by decide) ?_
  refine ch_Gst (st2 := [.int (iI t), .int (iI y), .int (iI x), .ref p]) (by rw [e4]; try rfl) ?_
  refine gx_aload_n 1 dX10_lookAt_46 rfl rfl ?_
  refine gx_callA (x := ⟨"SpanSolids$Solid", "lookFrom", "(IIILSpanSolids$Walk;)V"⟩) (ci := 8) C0 ok_X9_lookFrom mw_2_120 mw_2_122 nw_1 mw_2_179 mw_2_178 (by decide +kernel) dX10_lookAt_47 rfl hp rfl rfl (Nat.le_of_ble_eq_true rfl) (by first | exact Nat.le_of_ble_eq_true rfl | (simp only [rM]; omega)) (by first | exact Nat.le_of_ble_eq_true rfl | (simp only [rM]; omega)) (by first | exact Nat.le_of_ble_eq_true rfl | (simp only [rM]; omega)) (by first | exact Nat.le_of_ble_eq_true rfl | (simp only [rM]; omega)) (fun rr hh uu qq gg => ?_)
  obtain rfl := hQ _ _ _ qq
  refine ch_Gst (st2 := []) rfl ?_
  refine gx_vret rfl dX10_lookAt_50 (Nat.le_refl _) (Nat.le_refl _) ?_
  exact qq
set_option maxHeartbeats 4000000 in
set_option maxRecDepth 100000 in
theorem c_X10_lookAt_J (l : Launch) (D : va_G) (cI cL cR : ClassId) (lo : Nat) (h : ch_H) (hi : Nat) (gw : Nat → Option Nat) (fx fy fl fh : Nat → Int) (wc : Int) (Ls : List (List Int)) (X Y : List Int) (W : wwP cI cR lo h gw fx fy fl fh wc (Ls ++ [X, Y])) (z how : Int) (hz : 0 ≤ z ∧ z < 100) (e1 : gw z.toNat = none) (e2 : fh z.toNat = how) (hh : ir how) (hL1 : Ls.length + 2 ≤ 50) (hL2 : Ls.flatten.length + X.length + Y.length ≤ 100) : ch_C l (eE D cI cL cR lo) M_X10_lookAt (rM 3 0 0) [.ref (lo + 3), .int (iI z)] h hi (fun r0 h2 hi2 => r0 = none ∧ wwP cI cR lo h2 gw fx fy fl fh wc (Ls ++ [mixL how X Y]) ∧ ch_fr (wwL lo) h h2 ∧ hi = hi2) := by
  refine ch_C.of rfl (Nat.le_of_ble_eq_true rfl) ?_
  obtain ⟨fe, fs, fm, ec, sc, W0, W1, W2, W3, W4, W5, W6, W7, W8, W9, hfs⟩ := W
  obtain ⟨t1, t2, t3, t4, t5⟩ := fsR_top hfs how
  have hsc := hfs.1
  have hlen : (Ls ++ [X, Y]).length = Ls.length + 2 := by simp
  have hml := mixL_len how X Y
  refine gx_aload_n 0 dX10_lookAt_0 rfl rfl ?_
  refine gx_get (ci := 9) (f := 0) (C := RX10) (T := TX10) (N := 7) rfl inX10 (by decide) mw_1_55 dX10_lookAt_1 W0 rfl ?_
  refine gx_iload_n 1 dX10_lookAt_4 rfl rfl ?_
  refine gy_aald dX10_lookAt_5 W1 (by omega) (by omega) (by decide) ?_
  refine ch_Gst (st2 := [.null]) (by rw [e1]; try rfl) ?_
  refine gx_astore_nN [(2, .null), (0, .ref (lo + 3)), (1, .int (iI z))] dX10_lookAt_6 rfl (by decide) rfl ?_
  refine gx_aload_nN 0 dX10_lookAt_7 rfl rfl ?_
  refine gx_ifnonnullZ dX10_lookAt_8 ?_
  refine gx_aload_n 1 dX10_lookAt_11 rfl rfl ?_
  refine gx_get (ci := 9) (f := 6) (C := RX10) (T := TX10) (N := 7) rfl inX10 (by decide) mw_1_61 dX10_lookAt_12 W0 rfl ?_
  refine gx_aload_n 1 dX10_lookAt_15 rfl rfl ?_
  refine gx_get (ci := 9) (f := 4) (C := RX10) (T := TX10) (N := 7) rfl inX10 (by decide) mw_1_59 dX10_lookAt_16 W0 rfl ?_
  refine gx_iload_n 2 dX10_lookAt_19 rfl rfl ?_
  refine gy_iald dX10_lookAt_20 W5 (by omega) (by omega) (by decide) ?_
  refine ch_Gst (st2 := [.int (iI how), .ref (lo + 9)]) (by rw [e2]; try rfl) ?_
  refine gx_callV (ci := 3) (c_X3_joinNewest l D cI cL cR lo h hi (lo + 9) (lo + 10) (lo + 11) (lo + 12) ec sc fe fs fm W6 W7 W8 W9 (by omega) (by omega) (by omega) hfs.2.2.2.2 (Ls.flatten.length : Int) ((Ls.flatten.length : Int) + X.length) how (by omega) t2 t3 (by omega) (by omega) (by omega) hh (mixL how X Y) t5 (by omega)) ok_X3_joinNewest mw_2_105 mw_2_106 mw_2_107 dX10_lookAt_21 rfl W6 rfl rfl (Nat.le_of_ble_eq_true rfl) (by first | exact Nat.le_of_ble_eq_true rfl | (simp only [rM]; omega)) (by first | exact Nat.le_of_ble_eq_true rfl | (simp only [rM]; omega)) (by first | exact Nat.le_of_ble_eq_true rfl | (simp only [rM]; omega)) (by first | exact Nat.le_of_ble_eq_true rfl | (simp only [rM]; omega)) (fun r1 h2 u3 q4 g5 => ?_)
  obtain ⟨rfl, ⟨fe2, fm2, q9, q10, q11, q12, k1, k2, k3⟩, qfr, rfl⟩ := q4
  have k6 : h2 (lo + 3) = some (.inr (9, [.ref (lo + 4), .ref (lo + 5), .ref (lo + 6), .ref (lo + 7), .ref (lo + 8), .int (iI wc), .ref (lo + 9)])) := by rw [qfr (lo + 3) (by simp only [List.mem_cons, List.not_mem_nil, or_false]; omega)]; exact W0
  have k7 : h2 (lo + 4) = some (aR cR 100 gw) := by rw [qfr (lo + 4) (by simp only [List.mem_cons, List.not_mem_nil, or_false]; omega)]; exact W1
  have k8 : h2 (lo + 5) = some (aI cI 100 fx) := by rw [qfr (lo + 5) (by simp only [List.mem_cons, List.not_mem_nil, or_false]; omega)]; exact W2
  have k9 : h2 (lo + 6) = some (aI cI 100 fy) := by rw [qfr (lo + 6) (by simp only [List.mem_cons, List.not_mem_nil, or_false]; omega)]; exact W3
  have k10 : h2 (lo + 7) = some (aI cI 100 fl) := by rw [qfr (lo + 7) (by simp only [List.mem_cons, List.not_mem_nil, or_false]; omega)]; exact W4
  have k11 : h2 (lo + 8) = some (aI cI 100 fh) := by rw [qfr (lo + 8) (by simp only [List.mem_cons, List.not_mem_nil, or_false]; omega)]; exact W5
  refine ch_Gst (st2 := []) rfl ?_
  refine gx_goto 50 dX10_lookAt_24 (by decide) ?_
  refine gx_vret rfl dX10_lookAt_50 (by first | exact Nat.le_of_ble_eq_true rfl | (simp only [rM]; omega)) (by first | exact Nat.le_of_ble_eq_true rfl | (simp only [rM]; omega)) ?_
  exact ⟨rfl, ⟨_, _, _, _, _, k6, k7, k8, k9, k10, k11, q9, q10, q11, q12, fsR_join hfs k1 k2 k3⟩, (ch_frT ch_fr0 qfr (fun _ q => by rw [wwL_in]; simp only [List.mem_cons, List.not_mem_nil, or_false] at q; omega)), rfl⟩
end
