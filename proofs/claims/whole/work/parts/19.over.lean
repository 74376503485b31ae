section
/-- the edges of a solid over a place, raised by t; Kf, Nf: kinds and numbers of all solids -/
def ed (Kf Nf : Nat → Int) (s : Nat) (x y t : Int) : List Int :=
  if Kf s = 0 then bxS (Nf (6 * s)) (Nf (6 * s + 1)) (Nf (6 * s + 2)) (Nf (6 * s + 3)) (Nf (6 * s + 4)) (Nf (6 * s + 5)) x y t
  else if Kf s = 1 then poS (Nf (6 * s)) (Nf (6 * s + 1)) (Nf (6 * s + 2)) (Nf (6 * s + 3)) (Nf (6 * s + 4)) x y t
  else if Kf s = 2 then baS (Nf (6 * s)) (Nf (6 * s + 1)) (Nf (6 * s + 2)) (Nf (6 * s + 3)) x y t
  else if Kf s = 3 then coS (Nf (6 * s)) (Nf (6 * s + 1)) (Nf (6 * s + 2)) (Nf (6 * s + 3)) (Nf (6 * s + 4)) x y t
  else if Kf s = 4 then (if h : (Nf (6 * s)).toNat < s ∧ (Nf (6 * s + 1)).toNat < s then mixL (Nf (6 * s + 2)) (ed Kf Nf (Nf (6 * s)).toNat x y t) (ed Kf Nf (Nf (6 * s + 1)).toNat x y t) else [])
  else if Kf s = 5 then (if h : (Nf (6 * s + 3)).toNat < s then ed Kf Nf (Nf (6 * s + 3)).toNat (x - Nf (6 * s)) (y - Nf (6 * s + 1)) (t + Nf (6 * s + 2)) else [])
  else (if h : (Nf (6 * s)).toNat < s then ed Kf Nf (Nf (6 * s)).toNat y (-x) t else [])
termination_by s
decreasing_by
  · exact h.1
  · exact h.2
  · exact h
  · exact h
/-- a solid that is made as it must be -/
def wfS (Kf Nf Wf : Nat → Int) (s : Nat) : Prop := (1 ≤ Wf s ∧ Wf s ≤ 100) ∧
  (((0 ≤ Kf s ∧ Kf s ≤ 3) ∧ Wf s = 1 ∧ (∀ k, k < 6 → -5000 ≤ Nf (6 * s + k) ∧ Nf (6 * s + k) ≤ 5000) ∧ ((Kf s = 1 ∨ Kf s = 3) → 0 ≤ Nf (6 * s + 2)) ∧ (Kf s = 2 → 0 ≤ Nf (6 * s + 3)))
  ∨ (Kf s = 4 ∧ 1 ≤ Nf (6 * s) ∧ Nf (6 * s) < s ∧ 1 ≤ Nf (6 * s + 1) ∧ Nf (6 * s + 1) < s ∧ 0 ≤ Nf (6 * s + 2) ∧ Nf (6 * s + 2) ≤ 2 ∧ Wf s = Wf (Nf (6 * s)).toNat + Wf (Nf (6 * s + 1)).toNat + 1)
  ∨ (Kf s = 5 ∧ 1 ≤ Nf (6 * s + 3) ∧ Nf (6 * s + 3) < s ∧ (-5000 ≤ Nf (6 * s) ∧ Nf (6 * s) ≤ 5000) ∧ (-5000 ≤ Nf (6 * s + 1) ∧ Nf (6 * s + 1) ≤ 5000) ∧ (-5000 ≤ Nf (6 * s + 2) ∧ Nf (6 * s + 2) ≤ 5000) ∧ Wf s = Wf (Nf (6 * s + 3)).toNat + 1)
  ∨ (Kf s = 6 ∧ 1 ≤ Nf (6 * s) ∧ Nf (6 * s) < s ∧ Wf s = Wf (Nf (6 * s)).toNat + 1))
/-- a solid's own cell -/
def soC (Ad : Nat → Nat) (Kf Nf Wf : Nat → Int) (s : Nat) : va_E :=
  if Kf s = 0 then .inr (1, [.int (iI (Wf s)), .int (iI (Nf (6 * s))), .int (iI (Nf (6 * s + 1))), .int (iI (Nf (6 * s + 2))), .int (iI (Nf (6 * s + 3))), .int (iI (Nf (6 * s + 4))), .int (iI (Nf (6 * s + 5)))])
  else if Kf s = 1 then .inr (6, [.int (iI (Wf s)), .int (iI (Nf (6 * s))), .int (iI (Nf (6 * s + 1))), .int (iI (Nf (6 * s + 2))), .int (iI (Nf (6 * s + 3))), .int (iI (Nf (6 * s + 4)))])
  else if Kf s = 2 then .inr (0, [.int (iI (Wf s)), .int (iI (Nf (6 * s))), .int (iI (Nf (6 * s + 1))), .int (iI (Nf (6 * s + 2))), .int (iI (Nf (6 * s + 3)))])
  else if Kf s = 3 then .inr (2, [.int (iI (Wf s)), .int (iI (Nf (6 * s))), .int (iI (Nf (6 * s + 1))), .int (iI (Nf (6 * s + 2))), .int (iI (Nf (6 * s + 3))), .int (iI (Nf (6 * s + 4)))])
  else if Kf s = 4 then .inr (4, [.int (iI (Wf s)), .ref (Ad (Nf (6 * s)).toNat), .ref (Ad (Nf (6 * s + 1)).toNat), .int (iI (Nf (6 * s + 2)))])
  else if Kf s = 5 then .inr (5, [.int (iI (Wf s)), .ref (Ad (Nf (6 * s + 3)).toNat), .int (iI (Nf (6 * s))), .int (iI (Nf (6 * s + 1))), .int (iI (Nf (6 * s + 2)))])
  else .inr (8, [.int (iI (Wf s)), .ref (Ad (Nf (6 * s)).toNat)])
/-- all solids stand -/
def soA (lo : Nat) (h : ch_H) (n : Nat) (Ad : Nat → Nat) (Kf Nf Wf : Nat → Int) : Prop := ∀ s, 1 ≤ s → s ≤ n → lo + 26 ≤ Ad s ∧ h (Ad s) = some (soC Ad Kf Nf Wf s) ∧ wfS Kf Nf Wf s
theorem soA.fr {lo : Nat} {h h2 : ch_H} {n : Nat} {Ad : Nat → Nat} {Kf Nf Wf : Nat → Int} (H : soA lo h n Ad Kf Nf Wf) (fr : ch_fr (wwL lo) h h2) : soA lo h2 n Ad Kf Nf Wf := by
  intro s h1 h3
  obtain ⟨a, b, c⟩ := H s h1 h3
  exact ⟨a, by rw [fr _ (wwL_out (by omega))]; exact b, c⟩
theorem soC_S {Ad : Nat → Nat} {Kf Nf Wf : Nat → Int} {s : Nat} (_H : wfS Kf Nf Wf s) : ∃ ci vs, soC Ad Kf Nf Wf s = .inr (ci, .int (iI (Wf s)) :: vs) ∧ isS ci := by
  unfold soC
  split
  · exact ⟨_, _, rfl, isS_1⟩
  split
  · exact ⟨_, _, rfl, isS_6⟩
  split
  · exact ⟨_, _, rfl, isS_0⟩
  split
  · exact ⟨_, _, rfl, isS_2⟩
  split
  · exact ⟨_, _, rfl, isS_4⟩
  split
  · exact ⟨_, _, rfl, isS_5⟩
  · exact ⟨_, _, rfl, isS_8⟩
theorem seg_len (a b : Int) : (seg a b).length ≤ 2 := by unfold seg; split <;> simp
theorem ed_len {Kf Nf Wf : Nat → Int} {n : Nat} (H : ∀ s, 1 ≤ s → s ≤ n → wfS Kf Nf Wf s) : ∀ (s : Nat), 1 ≤ s → s ≤ n → ∀ (x y t : Int), ((ed Kf Nf s x y t).length : Int) ≤ 2 * ((Wf s + 1) / 2) := by
  intro s
  induction s using Nat.strongRecOn with
  | ind s ih =>
    intro h1 h2 x y t
    obtain ⟨hw, hk⟩ := H s h1 h2
    rw [ed]
    rcases hk with ⟨hk, hw1, -⟩ | ⟨hk, a1, a2, b1, b2, -, -, hw1⟩ | ⟨hk, a1, a2, -, -, -, hw1⟩ | ⟨hk, a1, a2, hw1⟩
    · have key : ∀ L : List Int, L.length ≤ 2 → (L.length : Int) ≤ 2 * ((Wf s + 1) / 2) := fun L hL => by omega
      apply key
      split
      · unfold bxS; split
        · exact seg_len _ _
        · simp
      split
      · unfold poS; split
        · exact seg_len _ _
        · simp
      split
      · unfold baS; split
        · simp
        · exact seg_len _ _
      split
      · unfold coS; split
        · simp
        · exact seg_len _ _
      · exfalso; omega
    · rw [if_neg (by omega), if_neg (by omega), if_neg (by omega), if_neg (by omega), if_pos hk, dif_pos ⟨by omega, by omega⟩]
      have := mixL_len (Nf (6 * s + 2)) (ed Kf Nf (Nf (6 * s)).toNat x y t) (ed Kf Nf (Nf (6 * s + 1)).toNat x y t)
      have ha := ih (Nf (6 * s)).toNat (by omega) (by omega) (by omega) x y t
      have hb := ih (Nf (6 * s + 1)).toNat (by omega) (by omega) (by omega) x y t
      omega
    · rw [if_neg (by omega), if_neg (by omega), if_neg (by omega), if_neg (by omega), if_neg (by omega), if_pos hk, dif_pos (by omega)]
      have ha := ih (Nf (6 * s + 3)).toNat (by omega) (by omega) (by omega) (x - Nf (6 * s)) (y - Nf (6 * s + 1)) (t + Nf (6 * s + 2))
      omega
    · rw [if_neg (by omega), if_neg (by omega), if_neg (by omega), if_neg (by omega), if_neg (by omega), if_neg (by omega), dif_pos (by omega)]
      have ha := ih (Nf (6 * s)).toNat (by omega) (by omega) (by omega) y (-x) t
      omega
/-- what waits below stays -/
def agS (c : Int) (gw : Nat → Option Nat) (fx fy fl fh : Nat → Int) (gw2 : Nat → Option Nat) (fx2 fy2 fl2 fh2 : Nat → Int) : Prop := ∀ i : Nat, (i : Int) < c → gw2 i = gw i ∧ fx2 i = fx i ∧ fy2 i = fy i ∧ fl2 i = fl i ∧ fh2 i = fh i
theorem agS_0 {c : Int} {gw : Nat → Option Nat} {fx fy fl fh : Nat → Int} : agS c gw fx fy fl fh gw fx fy fl fh := fun _ _ => ⟨rfl, rfl, rfl, rfl, rfl⟩
theorem va_upS {α : Type} {f : Nat → α} {k : Nat} {v : α} : va_up f k v k = v := if_pos rfl
theorem va_upN {α : Type} {f : Nat → α} {k j : Nat} {v : α} (h : j ≠ k) : va_up f k v j = f j := if_neg h
set_option maxHeartbeats 4000000 in
set_option maxRecDepth 100000 in
theorem over_pop {l : Launch} {D : va_G} {cI cL cR : ClassId} {lo hi r : Nat} {Z : List Frame → Array Value → State → State → Prop} {h : ch_H} {gw : Nat → Option Nat} {fx fy fl fh : Nat → Int} {w step : Int} {Ls : List (List Int)} (W : wwP cI cR lo h gw fx fy fl fh w Ls) (hw : 1 ≤ w ∧ w ≤ 100) (hst : 0 ≤ step ∧ step < 200) (Q : ch_H → Option Value → ch_H → Nat → Prop) (hQ : ∀ h1 r h2 hi2, Q h1 r h2 hi2 → r = none ∧ hi = hi2) (C1 : ∀ h1, wwP cI cR lo h1 gw fx fy fl fh (w - 1) Ls → ch_fr (wwL lo) h h1 → ch_C l (eE D cI cL cR lo) M_X10_lookAt (rM 3 0 0) [.ref (lo + 3), .int (iI (w - 1))] h1 hi (Q h1)) (kk : ∀ h1 h2, ch_fr (wwL lo) h h1 → Q h1 none h2 hi → ch_G l (eE D cI cL cR lo) M_X10_over ch_T (rM 4 0 0) Z 0 0 h2 hi 23 [(0, .ref (lo + 3)), (4, .ref r), (5, .int (iI (step + 1)))] []) : ch_G l (eE D cI cL cR lo) M_X10_over ch_T (rM 4 0 0) Z 0 0 h hi 23 [(0, .ref (lo + 3)), (4, .ref r), (5, .int (iI step))] [] := by
  obtain ⟨fe, fs, fm, ec, sc, W0, W1, W2, W3, W4, W5, W6, W7, W8, W9, hfs⟩ := W
  refine gx_iload 2 dX10_over_23 rfl ?_
  refine gx_sipush (iI 200) dX10_over_25 (by decide) ?_
  refine gy_icmp_ge 62 dX10_over_28 (by decide) (by constructor <;> omega) (by decide) (fun c28 => absurd c28 (by omega)) (fun c28 => ?_)
  refine gx_aload_n 0 dX10_over_31 rfl rfl ?_
  refine gx_get (ci := 9) (f := 5) (C := RX10) (T := TX10) (N := 7) rfl inX10 (by decide) mw_1_60 dX10_over_32 W0 rfl ?_
  refine gy_if_le 62 dX10_over_35 (by decide) (by constructor <;> omega) (fun c35 => absurd c35 (by omega)) (fun c35 => ?_)
  refine gx_aload_n 0 dX10_over_38 rfl rfl ?_
  refine gx_dup dX10_over_39 rfl ?_
  refine gx_get (ci := 9) (f := 5) (C := RX10) (T := TX10) (N := 7) rfl inX10 (by decide) mw_1_60 dX10_over_40 W0 rfl ?_
  refine gx_iconst (iI 1) dX10_over_43 rfl ?_
  refine gy_isub dX10_over_44 ?_
  refine gy_put (ci := 9) (f := 5) (C := RX10) (T := TX10) (N := 7) (ty := .int) (fs2 := [.ref (lo + 4), .ref (lo + 5), .ref (lo + 6), .ref (lo + 7), .ref (lo + 8), .int (iI (w - 1)), .ref (lo + 9)]) tyX10 rfl inX10 tyX10_ok nmX10 (by decide) mw_1_60 (Or.inl rfl) (by decide +kernel) rfl rfl dX10_over_45 W0 (by simp) rfl (fun h1 eh1 => ?_)
  have k2 : h1 (lo + 4) = some (aR cR 100 gw) := by rw [eh1, ch_set_ne (by first | assumption | exact Ne.symm (by assumption) | omega)]; exact W1
  have k3 : h1 (lo + 5) = some (aI cI 100 fx) := by rw [eh1, ch_set_ne (by first | assumption | exact Ne.symm (by assumption) | omega)]; exact W2
  have k4 : h1 (lo + 6) = some (aI cI 100 fy) := by rw [eh1, ch_set_ne (by first | assumption | exact Ne.symm (by assumption) | omega)]; exact W3
  have k5 : h1 (lo + 7) = some (aI cI 100 fl) := by rw [eh1, ch_set_ne (by first | assumption | exact Ne.symm (by assumption) | omega)]; exact W4
  have k6 : h1 (lo + 8) = some (aI cI 100 fh) := by rw [eh1, ch_set_ne (by first | assumption | exact Ne.symm (by assumption) | omega)]; exact W5
  have k7 : h1 (lo + 9) = some (.inr (3, [.ref (lo + 10), .ref (lo + 11), .ref (lo + 12), .int (iI ec), .int (iI sc)])) := by rw [eh1, ch_set_ne (by first | assumption | exact Ne.symm (by assumption) | omega)]; exact W6
  have k8 : h1 (lo + 10) = some (aI cI 100 fe) := by rw [eh1, ch_set_ne (by first | assumption | exact Ne.symm (by assumption) | omega)]; exact W7
  have k9 : h1 (lo + 11) = some (aI cI 50 fs) := by rw [eh1, ch_set_ne (by first | assumption | exact Ne.symm (by assumption) | omega)]; exact W8
  have k10 : h1 (lo + 12) = some (aI cI 100 fm) := by rw [eh1, ch_set_ne (by first | assumption | exact Ne.symm (by assumption) | omega)]; exact W9
  have k11 : h1 (lo + 3) = some (.inr (9, [.ref (lo + 4), .ref (lo + 5), .ref (lo + 6), .ref (lo + 7), .ref (lo + 8), .int (iI (w - 1)), .ref (lo + 9)])) := by rw [eh1]; exact ch_set_self
  refine gx_aload_n 0 dX10_over_48 rfl rfl ?_
  refine gx_aload_n 0 dX10_over_49 rfl rfl ?_
  refine gx_get (ci := 9) (f := 5) (C := RX10) (T := TX10) (N := 7) rfl inX10 (by decide) mw_1_60 dX10_over_50 k11 rfl ?_
  have W1 : wwP cI cR lo h1 gw fx fy fl fh (w - 1) Ls := ⟨_, _, _, _, _, k11, k2, k3, k4, k5, k6, k7, k8, k9, k10, hfs⟩
  have fr1 : ch_fr (wwL lo) h h1 := by rw [eh1]; exact ch_frS ch_fr0 (wwL_in.mpr ⟨by omega, by omega⟩)
  refine gx_callV (ci := 9) (C1 _ W1 fr1) ok_X10_lookAt mw_2_101 mw_2_103 mw_p_7 dX10_over_53 rfl k11 rfl rfl (Nat.le_of_ble_eq_true rfl) (by first | exact Nat.le_of_ble_eq_true rfl | (simp only [rM]; omega)) (by first | exact Nat.le_of_ble_eq_true rfl | (simp only [rM]; omega)) (by first | exact Nat.le_of_ble_eq_true rfl | (simp only [rM]; omega)) (by first | exact Nat.le_of_ble_eq_true rfl | (simp only [rM]; omega)) (fun r12 h13 u14 q15 g16 => ?_)
  obtain ⟨rfl, rfl⟩ := hQ _ _ _ _ q15
  refine ch_Gst (st2 := []) rfl ?_
  refine gy_iinc 2 [(5, .int (iI (step + 1))), (0, .ref (lo + 3)), (4, .ref r)] dX10_over_56 rfl (by decide) rfl ?_
  refine gx_goto 23 dX10_over_59 (by decide) ?_
  refine ch_Glv (lv' := [(0, .ref (lo + 3)), (4, .ref r), (5, .int (iI (step + 1)))]) [1, 2, 0] rfl ?_
  exact kk _ _ fr1 q15
set_option maxHeartbeats 4000000 in
set_option maxRecDepth 100000 in
theorem over_run {l : Launch} {D : va_G} {cI cL cR : ClassId} {lo hi r : Nat} {Z : List Frame → Array Value → State → State → Prop} {n : Nat} {Ad : Nat → Nat} {Kf Nf Wf : Nat → Int} (hn : n ≤ 60) : ∀ (s : Nat), 1 ≤ s → s ≤ n → ∀ (x y t w step : Int) (h : ch_H) (gw : Nat → Option Nat) (fx fy fl fh : Nat → Int) (Ls : List (List Int)), soA lo h n Ad Kf Nf Wf → wwP cI cR lo h gw fx fy fl fh w Ls → gw (w - 1).toNat = some (Ad s) → fx (w - 1).toNat = x → fy (w - 1).toNat = y → fl (w - 1).toNat = t → (-400000 + 5000 * (s : Int) ≤ x ∧ x ≤ 400000 - 5000 * (s : Int)) → (-400000 + 5000 * (s : Int) ≤ y ∧ y ≤ 400000 - 5000 * (s : Int)) → (-400000 + 5000 * (s : Int) ≤ t ∧ t ≤ 400000 - 5000 * (s : Int)) → 1 ≤ w → w - 1 + Wf s ≤ 100 → 2 * (Ls.length : Int) + Wf s ≤ 100 → (Ls.flatten.length : Int) + 2 * ((Wf s + 1) / 2) ≤ 100 → 0 ≤ step → step + 2 * Wf s - 1 ≤ 200 →
    (∀ (h2 : ch_H) (gw2 : Nat → Option Nat) (fx2 fy2 fl2 fh2 : Nat → Int) (step2 : Int), wwP cI cR lo h2 gw2 fx2 fy2 fl2 fh2 (w - 1) (Ls ++ [ed Kf Nf s x y t]) → agS (w - 1) gw fx fy fl fh gw2 fx2 fy2 fl2 fh2 → ch_fr (wwL lo) h h2 → step ≤ step2 → step2 ≤ step + 2 * Wf s - 1 → ch_G l (eE D cI cL cR lo) M_X10_over ch_T (rM 4 0 0) Z 0 0 h2 hi 23 [(0, .ref (lo + 3)), (4, .ref r), (5, .int (iI step2))] []) → ch_G l (eE D cI cL cR lo) M_X10_over ch_T (rM 4 0 0) Z 0 0 h hi 23 [(0, .ref (lo + 3)), (4, .ref r), (5, .int (iI step))] [] := by
  intro s
  induction s using Nat.strongRecOn with
  | ind s ih =>
    intro h1 h2 x y t w step h gw fx fy fl fh Ls HA W e1 e2 e3 e4 bx by_ bt hw1 hw2 hl1 hl2 hs0 hs1 kk
    obtain ⟨hal, hc, hwf⟩ := HA s h1 h2
    obtain ⟨hW, hk⟩ := hwf
    unfold soC at hc
    rcases hk with ⟨hk, hw1', hN, hr1, hr2⟩ | ⟨hk, a1, a2, b1, b2, c1, c2, hw1'⟩ | ⟨hk, a1, a2, n0, n1, n2, hw1'⟩ | ⟨hk, a1, a2, hw1'⟩
    · have n0 := hN 0 (by omega)
      rw [Nat.add_zero] at n0
      have n1 := hN 1 (by omega)
      have n2 := hN 2 (by omega)
      have n3 := hN 3 (by omega)
      have n4 := hN 4 (by omega)
      have n5 := hN 5 (by omega)
      by_cases k0 : Kf s = 0
      · rw [if_pos k0] at hc
        exact over_pop W ⟨by omega, by omega⟩ ⟨by omega, by omega⟩ (fun h1 r0 h2 hi2 => r0 = none ∧ wwP cI cR lo h2 gw fx fy fl fh (w - 1) (Ls ++ [bxS (Nf (6 * s)) (Nf (6 * s + 1)) (Nf (6 * s + 2)) (Nf (6 * s + 3)) (Nf (6 * s + 4)) (Nf (6 * s + 5)) x y t]) ∧ ch_fr (wwL lo) h1 h2 ∧ hi = hi2) (fun _ _ _ _ q => ⟨q.1, q.2.2.2⟩)
            (fun h1 W1 fr1 => c_X10_lookAt_1 l D cI cL cR lo h1 hi gw fx fy fl fh (w - 1) Ls W1 (Ad s) _ (by rw [fr1 _ (wwL_out (by omega))]; exact hc) (w - 1) x y t (by omega) e1 e2 e3 e4 _ (fun _ _ _ q => q.1)
              (c_X1_lookFrom l D cI cL cR lo h1 hi gw fx fy fl fh (w - 1) Ls W1 (Ad s) (Wf s) (Nf (6 * s)) (Nf (6 * s + 1)) (Nf (6 * s + 2)) (Nf (6 * s + 3)) (Nf (6 * s + 4)) (Nf (6 * s + 5)) (by rw [fr1 _ (wwL_out (by omega))]; exact hc) (by omega) n0 n1 n2 n3 n4 n5 x y t (by omega) (by omega) (by omega) (by omega) (by omega)))
            (fun h1 h2 fr1 q => kk h2 gw fx fy fl fh (step + 1) (by rw [ed, if_pos k0]; exact q.2.1) agS_0 (ch_frT fr1 q.2.2.1 (fun _ q => q)) (by omega) (by omega))
      by_cases k1 : Kf s = 1
      · rw [if_neg k0, if_pos k1] at hc
        exact over_pop W ⟨by omega, by omega⟩ ⟨by omega, by omega⟩ (fun h1 r0 h2 hi2 => r0 = none ∧ wwP cI cR lo h2 gw fx fy fl fh (w - 1) (Ls ++ [poS (Nf (6 * s)) (Nf (6 * s + 1)) (Nf (6 * s + 2)) (Nf (6 * s + 3)) (Nf (6 * s + 4)) x y t]) ∧ ch_fr (wwL lo) h1 h2 ∧ hi = hi2) (fun _ _ _ _ q => ⟨q.1, q.2.2.2⟩)
            (fun h1 W1 fr1 => c_X10_lookAt_6 l D cI cL cR lo h1 hi gw fx fy fl fh (w - 1) Ls W1 (Ad s) _ (by rw [fr1 _ (wwL_out (by omega))]; exact hc) (w - 1) x y t (by omega) e1 e2 e3 e4 _ (fun _ _ _ q => q.1)
              (c_X6_lookFrom l D cI cL cR lo h1 hi gw fx fy fl fh (w - 1) Ls W1 (Ad s) (Wf s) (Nf (6 * s)) (Nf (6 * s + 1)) (Nf (6 * s + 2)) (Nf (6 * s + 3)) (Nf (6 * s + 4)) (by rw [fr1 _ (wwL_out (by omega))]; exact hc) (by omega) n0 n1 n2 n3 n4 x y t (by omega) (by omega) (by omega) (by omega) (by omega)))
            (fun h1 h2 fr1 q => kk h2 gw fx fy fl fh (step + 1) (by rw [ed, if_neg k0, if_pos k1]; exact q.2.1) agS_0 (ch_frT fr1 q.2.2.1 (fun _ q => q)) (by omega) (by omega))
      by_cases k2 : Kf s = 2
      · rw [if_neg k0, if_neg k1, if_pos k2] at hc
        exact over_pop W ⟨by omega, by omega⟩ ⟨by omega, by omega⟩ (fun h1 r0 h2 hi2 => r0 = none ∧ wwP cI cR lo h2 gw fx fy fl fh (w - 1) (Ls ++ [baS (Nf (6 * s)) (Nf (6 * s + 1)) (Nf (6 * s + 2)) (Nf (6 * s + 3)) x y t]) ∧ ch_fr (wwL lo) h1 h2 ∧ hi = hi2) (fun _ _ _ _ q => ⟨q.1, q.2.2.2⟩)
            (fun h1 W1 fr1 => c_X10_lookAt_0 l D cI cL cR lo h1 hi gw fx fy fl fh (w - 1) Ls W1 (Ad s) _ (by rw [fr1 _ (wwL_out (by omega))]; exact hc) (w - 1) x y t (by omega) e1 e2 e3 e4 _ (fun _ _ _ q => q.1)
              (c_X0_lookFrom l D cI cL cR lo h1 hi gw fx fy fl fh (w - 1) Ls W1 (Ad s) (Wf s) (Nf (6 * s)) (Nf (6 * s + 1)) (Nf (6 * s + 2)) (Nf (6 * s + 3)) (by rw [fr1 _ (wwL_out (by omega))]; exact hc) (by omega) n0 n1 n2 n3 (hr2 k2) x y t (by omega) (by omega) (by omega) (by omega) (by omega)))
            (fun h1 h2 fr1 q => kk h2 gw fx fy fl fh (step + 1) (by rw [ed, if_neg k0, if_neg k1, if_pos k2]; exact q.2.1) agS_0 (ch_frT fr1 q.2.2.1 (fun _ q => q)) (by omega) (by omega))
      have k3 : Kf s = 3 := by omega
      rw [if_neg k0, if_neg k1, if_neg k2, if_pos k3] at hc
      have r3 := hr1 (Or.inr k3)
      exact over_pop W ⟨by omega, by omega⟩ ⟨by omega, by omega⟩ (fun h1 r0 h2 hi2 => r0 = none ∧ wwP cI cR lo h2 gw fx fy fl fh (w - 1) (Ls ++ [coS (Nf (6 * s)) (Nf (6 * s + 1)) (Nf (6 * s + 2)) (Nf (6 * s + 3)) (Nf (6 * s + 4)) x y t]) ∧ ch_fr (wwL lo) h1 h2 ∧ hi = hi2) (fun _ _ _ _ q => ⟨q.1, q.2.2.2⟩)
            (fun h1 W1 fr1 => c_X10_lookAt_2 l D cI cL cR lo h1 hi gw fx fy fl fh (w - 1) Ls W1 (Ad s) _ (by rw [fr1 _ (wwL_out (by omega))]; exact hc) (w - 1) x y t (by omega) e1 e2 e3 e4 _ (fun _ _ _ q => q.1)
              (c_X2_lookFrom l D cI cL cR lo h1 hi gw fx fy fl fh (w - 1) Ls W1 (Ad s) (Wf s) (Nf (6 * s)) (Nf (6 * s + 1)) (Nf (6 * s + 2)) (Nf (6 * s + 3)) (Nf (6 * s + 4)) (by rw [fr1 _ (wwL_out (by omega))]; exact hc) (by omega) n0 n1 n2 n3 n4 r3 x y t (by omega) (by omega) (by omega) (by omega) (by omega)))
            (fun h1 h2 fr1 q => kk h2 gw fx fy fl fh (step + 1) (by rw [ed, if_neg k0, if_neg k1, if_neg k2, if_pos k3]; exact q.2.1) agS_0 (ch_frT fr1 q.2.2.1 (fun _ q => q)) (by omega) (by omega))
    · rw [if_neg (by omega), if_neg (by omega), if_neg (by omega), if_neg (by omega), if_pos hk] at hc
      obtain ⟨a, ea⟩ : ∃ z, z = (Nf (6 * s)).toNat := ⟨_, rfl⟩
      obtain ⟨b, eb⟩ : ∃ z, z = (Nf (6 * s + 1)).toNat := ⟨_, rfl⟩
      obtain ⟨how, eh⟩ : ∃ z, z = Nf (6 * s + 2) := ⟨_, rfl⟩
      have eE1 : ed Kf Nf s x y t = mixL how (ed Kf Nf a x y t) (ed Kf Nf b x y t) := by rw [ed, if_neg (by omega), if_neg (by omega), if_neg (by omega), if_neg (by omega), if_pos hk, dif_pos ⟨by omega, by omega⟩, ← ea, ← eb, ← eh]
      rw [← ea, ← eb, ← eh] at hc
      rw [← ea, ← eb] at hw1'
      obtain ⟨al, ac, awf⟩ := HA a (by omega) (by omega)
      obtain ⟨bl, bc, bwf⟩ := HA b (by omega) (by omega)
      obtain ⟨ca, va, sa1, sa2⟩ := soC_S (Ad := Ad) awf
      obtain ⟨cb, vb, sb1, sb2⟩ := soC_S (Ad := Ad) bwf
      rw [sa1] at ac
      rw [sb1] at bc
      have wa := awf.1
      have wb := bwf.1
      have HW : ∀ s, 1 ≤ s → s ≤ n → wfS Kf Nf Wf s := fun s q1 q2 => (HA s q1 q2).2.2
      have la := ed_len HW a (by omega) (by omega) x y t
      have lb := ed_len HW b (by omega) (by omega) x y t
      refine over_pop W ⟨by omega, by omega⟩ ⟨by omega, by omega⟩ _ (fun _ _ _ _ q => ⟨q.1, q.2.2.2⟩)
        (fun h1 W1 fr1 => c_X10_lookAt_4 l D cI cL cR lo h1 hi gw fx fy fl fh (w - 1) Ls W1 (Ad s) _ (by rw [fr1 _ (wwL_out (by omega))]; exact hc) (w - 1) x y t (by omega) e1 e2 e3 e4 _ (fun _ _ _ q => q.1)
          (c_X4_lookFrom l D cI cL cR lo h1 hi gw fx fy fl fh (w - 1) Ls W1 (Ad s) (Ad a) (Ad b) (Wf s) how (by rw [fr1 _ (wwL_out (by omega))]; exact hc) (by omega) x y t (by omega) (by omega) (by omega) ca _ (by rw [fr1 _ (wwL_out (by omega))]; exact ac) sa2 (by omega) cb _ (by rw [fr1 _ (wwL_out (by omega))]; exact bc) sb2 (by omega) (by omega)))
        (fun h1 h2 fr1 q => ?_)
      obtain ⟨-, W2, fr2, -⟩ := q
      have F2 := ch_frT fr1 fr2 (fun _ q => q)
      refine ih a (by omega) (by omega) (by omega) x y t _ (step + 1) h2 _ _ _ _ _ Ls (HA.fr F2) W2 (by rw [show (w - 1 + 1 + 1 + 1 - 1).toNat = (w - 1 + 1 + 1).toNat by omega, va_upS]) (by rw [show (w - 1 + 1 + 1 + 1 - 1).toNat = (w - 1 + 1 + 1).toNat by omega, updI_s]) (by rw [show (w - 1 + 1 + 1 + 1 - 1).toNat = (w - 1 + 1 + 1).toNat by omega, updI_s]) (by rw [show (w - 1 + 1 + 1 + 1 - 1).toNat = (w - 1 + 1 + 1).toNat by omega, updI_s]) (by omega) (by omega) (by omega) (by omega) (by omega) (by omega) (by omega) (by omega) (by omega) ?_
      intro h3 gw3 fx3 fy3 fl3 fh3 step3 W3 ag3 fr3 hs3 hs3'
      obtain ⟨g1, g2, g3, g4, g5⟩ := ag3 (w - 1 + 1).toNat (by omega)
      rw [va_upN (by omega), va_upS] at g1
      rw [updI_n (by omega), updI_s] at g2 g3 g4
      have F3 := ch_frT F2 fr3 (fun _ q => q)
      have hl3 : (Ls ++ [ed Kf Nf a x y t]).length = Ls.length + 1 := by simp
      have hl4 : (Ls ++ [ed Kf Nf a x y t]).flatten.length = Ls.flatten.length + (ed Kf Nf a x y t).length := by rw [List.flatten_append, List.length_append]; simp
      have ix : (w - 1 + 1 + 1 + 1 - 1 - 1).toNat = (w - 1 + 1).toNat := by omega
      refine ih b (by omega) (by omega) (by omega) x y t _ step3 h3 gw3 fx3 fy3 fl3 fh3 _ (HA.fr F3) W3 (by rw [ix]; exact g1) (by rw [ix]; exact g2) (by rw [ix]; exact g3) (by rw [ix]; exact g4) (by omega) (by omega) (by omega) (by omega) (by omega) (by omega) (by omega) (by omega) (by omega) ?_
      intro h4 gw4 fx4 fy4 fl4 fh4 step4 W4 ag4 fr4 hs4 hs4'
      have F4 := ch_frT F3 fr4 (fun _ q => q)
      rw [List.append_assoc] at W4
      obtain ⟨j1, -, -, -, j5⟩ := ag4 (w - 1).toNat (by omega)
      obtain ⟨i1, -, -, -, i5⟩ := ag3 (w - 1).toNat (by omega)
      rw [va_upN (by omega), va_upN (by omega), va_upS] at i1
      rw [updI_s] at i5
      have iy : (w - 1 + 1 + 1 + 1 - 1 - 1 - 1).toNat = (w - 1).toNat := by omega
      refine over_pop W4 ⟨by omega, by omega⟩ ⟨by omega, by omega⟩ _ (fun _ _ _ _ q => ⟨q.1, q.2.2.2⟩)
        (fun h5 W5 fr5 => c_X10_lookAt_J l D cI cL cR lo h5 hi gw4 fx4 fy4 fl4 fh4 _ Ls (ed Kf Nf a x y t) (ed Kf Nf b x y t) W5 _ how (by omega) (by rw [iy, j1, i1]) (by rw [iy, j5, i5]) (by constructor <;> omega) (by omega) (by omega))
        (fun h5 h6 fr5 q => ?_)
      obtain ⟨-, W6, fr6, -⟩ := q
      refine kk h6 gw4 fx4 fy4 fl4 fh4 (step4 + 1) (by rw [eE1]; rw [show w - 1 + 1 + 1 + 1 - 1 - 1 - 1 = w - 1 by omega] at W6; exact W6) ?_ (ch_frT F4 (ch_frT fr5 fr6 (fun _ q => q)) (fun _ q => q)) (by omega) (by omega)
      intro i hi'
      obtain ⟨p1, p2, p3, p4, p5⟩ := ag4 i (by omega)
      obtain ⟨q1, q2, q3, q4, q5⟩ := ag3 i (by omega)
      rw [va_upN (by omega), va_upN (by omega), va_upN (by omega)] at q1
      rw [updI_n (by omega), updI_n (by omega)] at q2 q3 q4
      rw [updI_n (by omega)] at q5
      exact ⟨p1.trans q1, p2.trans q2, p3.trans q3, p4.trans q4, p5.trans q5⟩
    · rw [if_neg (by omega), if_neg (by omega), if_neg (by omega), if_neg (by omega), if_neg (by omega), if_pos hk] at hc
      obtain ⟨a, ea⟩ : ∃ z, z = (Nf (6 * s + 3)).toNat := ⟨_, rfl⟩
      have eE1 : ed Kf Nf s x y t = ed Kf Nf a (x - Nf (6 * s)) (y - Nf (6 * s + 1)) (t + Nf (6 * s + 2)) := by rw [ed, if_neg (by omega), if_neg (by omega), if_neg (by omega), if_neg (by omega), if_neg (by omega), if_pos hk, dif_pos (by omega), ← ea]
      rw [← ea] at hc hw1'
      obtain ⟨al, ac, awf⟩ := HA a (by omega) (by omega)
      obtain ⟨ca, va, sa1, sa2⟩ := soC_S (Ad := Ad) awf
      rw [sa1] at ac
      have wa := awf.1
      refine over_pop W ⟨by omega, by omega⟩ ⟨by omega, by omega⟩ _ (fun _ _ _ _ q => ⟨q.1, q.2.2.2⟩)
            (fun h1 W1 fr1 => c_X10_lookAt_5 l D cI cL cR lo h1 hi gw fx fy fl fh (w - 1) Ls W1 (Ad s) _ (by rw [fr1 _ (wwL_out (by omega))]; exact hc) (w - 1) x y t (by omega) e1 e2 e3 e4 _ (fun _ _ _ q => q.1)
              (c_X5_lookFrom l D cI cL cR lo h1 hi gw fx fy fl fh (w - 1) Ls W1 (Ad s) (Ad a) (Wf s) (Nf (6 * s)) (Nf (6 * s + 1)) (Nf (6 * s + 2)) (by rw [fr1 _ (wwL_out (by omega))]; exact hc) (by omega) x y t (by omega) (by omega) (by omega) ca _ (by rw [fr1 _ (wwL_out (by omega))]; exact ac) sa2 (by omega) (by omega)))
        (fun h1 h2 fr1 q => ?_)
      obtain ⟨-, W2, fr2, -⟩ := q
      have F2 := ch_frT fr1 fr2 (fun _ q => q)
      refine ih a (by omega) (by omega) (by omega) (x - Nf (6 * s)) (y - Nf (6 * s + 1)) (t + Nf (6 * s + 2)) _ (step + 1) h2 _ _ _ _ _ Ls (HA.fr F2) W2 (by rw [show (w - 1 + 1 - 1).toNat = (w - 1).toNat by omega, va_upS]) (by rw [show (w - 1 + 1 - 1).toNat = (w - 1).toNat by omega, updI_s]) (by rw [show (w - 1 + 1 - 1).toNat = (w - 1).toNat by omega, updI_s]) (by rw [show (w - 1 + 1 - 1).toNat = (w - 1).toNat by omega, updI_s]) (by omega) (by omega) (by omega) (by omega) (by omega) (by omega) (by omega) (by omega) (by omega) ?_
      intro h3 gw3 fx3 fy3 fl3 fh3 step3 W3 ag3 fr3 hs3 hs3'
      rw [show w - 1 + 1 - 1 = w - 1 by omega] at W3 ag3
      refine kk h3 gw3 fx3 fy3 fl3 fh3 step3 (by rw [eE1]; exact W3) ?_ (ch_frT F2 fr3 (fun _ q => q)) (by omega) (by omega)
      intro i hi'
      obtain ⟨q1, q2, q3, q4, q5⟩ := ag3 i (by omega)
      rw [va_upN (by omega)] at q1
      rw [updI_n (by omega)] at q2 q3 q4
      exact ⟨q1, q2, q3, q4, q5⟩
    · rw [if_neg (by omega), if_neg (by omega), if_neg (by omega), if_neg (by omega), if_neg (by omega), if_neg (by omega)] at hc
      obtain ⟨a, ea⟩ : ∃ z, z = (Nf (6 * s)).toNat := ⟨_, rfl⟩
      have eE1 : ed Kf Nf s x y t = ed Kf Nf a y (-x) t := by rw [ed, if_neg (by omega), if_neg (by omega), if_neg (by omega), if_neg (by omega), if_neg (by omega), if_neg (by omega), dif_pos (by omega), ← ea]
      rw [← ea] at hc hw1'
      obtain ⟨al, ac, awf⟩ := HA a (by omega) (by omega)
      obtain ⟨ca, va, sa1, sa2⟩ := soC_S (Ad := Ad) awf
      rw [sa1] at ac
      have wa := awf.1
      refine over_pop W ⟨by omega, by omega⟩ ⟨by omega, by omega⟩ _ (fun _ _ _ _ q => ⟨q.1, q.2.2.2⟩)
            (fun h1 W1 fr1 => c_X10_lookAt_8 l D cI cL cR lo h1 hi gw fx fy fl fh (w - 1) Ls W1 (Ad s) _ (by rw [fr1 _ (wwL_out (by omega))]; exact hc) (w - 1) x y t (by omega) e1 e2 e3 e4 _ (fun _ _ _ q => q.1)
              (c_X9_lookFrom l D cI cL cR lo h1 hi gw fx fy fl fh (w - 1) Ls W1 (Ad s) (Ad a) (Wf s)  (by rw [fr1 _ (wwL_out (by omega))]; exact hc) (by omega) x y t (by omega) (by omega) (by omega) ca _ (by rw [fr1 _ (wwL_out (by omega))]; exact ac) sa2 (by omega) (by omega)))
        (fun h1 h2 fr1 q => ?_)
      obtain ⟨-, W2, fr2, -⟩ := q
      have F2 := ch_frT fr1 fr2 (fun _ q => q)
      refine ih a (by omega) (by omega) (by omega) y (-x) t _ (step + 1) h2 _ _ _ _ _ Ls (HA.fr F2) W2 (by rw [show (w - 1 + 1 - 1).toNat = (w - 1).toNat by omega, va_upS]) (by rw [show (w - 1 + 1 - 1).toNat = (w - 1).toNat by omega, updI_s]) (by rw [show (w - 1 + 1 - 1).toNat = (w - 1).toNat by omega, updI_s]) (by rw [show (w - 1 + 1 - 1).toNat = (w - 1).toNat by omega, updI_s]) (by omega) (by omega) (by omega) (by omega) (by omega) (by omega) (by omega) (by omega) (by omega) ?_
      intro h3 gw3 fx3 fy3 fl3 fh3 step3 W3 ag3 fr3 hs3 hs3'
      rw [show w - 1 + 1 - 1 = w - 1 by omega] at W3 ag3
      refine kk h3 gw3 fx3 fy3 fl3 fh3 step3 (by rw [eE1]; exact W3) ?_ (ch_frT F2 fr3 (fun _ q => q)) (by omega) (by omega)
      intro i hi'
      obtain ⟨q1, q2, q3, q4, q5⟩ := ag3 i (by omega)
      rw [va_upN (by omega)] at q1
      rw [updI_n (by omega)] at q2 q3 q4
      exact ⟨q1, q2, q3, q4, q5⟩
end
