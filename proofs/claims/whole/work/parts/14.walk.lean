section
/-- the rows of edges that FoundSets holds -/
def fsR (Ls : List (List Int)) (fe fs : Nat → Int) (ec sc : Int) : Prop := sc = (Ls.length : Int) ∧ ec = (Ls.flatten.length : Int) ∧ (∀ j, j < Ls.flatten.length → Ls.flatten[j]? = some (fe j)) ∧ (∀ i, i < Ls.length → fs i = ((Ls.take i).flatten.length : Int)) ∧ ∀ j, -1000000 ≤ fe j ∧ fe j ≤ 1000000
def seg (a b : Int) : List Int := if a < b then [a, b] else []
theorem fsR_0 {fe fs : Nat → Int} (h : ∀ j, -1000000 ≤ fe j ∧ fe j ≤ 1000000) : fsR [] fe fs 0 0 := ⟨rfl, rfl, fun j hj => absurd hj (by simp), fun i hi => absurd hi (by simp), h⟩
theorem updI_bd {ff : Nat → Int} {k : Nat} {x : Int} (hff : ∀ j, -1000000 ≤ ff j ∧ ff j ≤ 1000000) (hx : -1000000 ≤ x ∧ x ≤ 1000000) : ∀ j, -1000000 ≤ updI ff k x j ∧ updI ff k x j ≤ 1000000 := by
  intro j
  by_cases q : j = k
  · rw [q, updI_s]; exact hx
  · rw [updI_n q]; exact hff j
theorem fsR_add {Ls : List (List Int)} {fe fs : Nat → Int} {ec sc a b : Int} (H : fsR Ls fe fs ec sc) (ha : -1000000 ≤ a ∧ a ≤ 1000000) (hb : -1000000 ≤ b ∧ b ≤ 1000000) : fsR (Ls ++ [seg a b]) (if a < b then updI (updI fe ec.toNat a) (ec + 1).toNat b else fe) (updI fs sc.toNat ec) (if a < b then ec + 2 else ec) (sc + 1) := by
  obtain ⟨h1, h2, h3, h4, h5⟩ := H
  have hst : ∀ i, i < (Ls ++ [seg a b]).length → updI fs sc.toNat ec i = (((Ls ++ [seg a b]).take i).flatten.length : Int) := by
    intro i hi
    by_cases q : i = Ls.length
    · rw [q, h1, Int.toNat_natCast, updI_s, List.take_left, h2]
    · rw [updI_n (by omega), List.take_append_of_le_length (by simp at hi; omega)]
      exact h4 i (by simp at hi; omega)
  by_cases hab : a < b
  · rw [if_pos hab, if_pos hab]
    refine ⟨by simp [h1], by simp [seg, hab, h2], ?_, hst, updI_bd (updI_bd h5 ha) hb⟩
    intro j hj
    simp only [seg, hab, if_true, List.flatten_append, List.flatten_cons, List.flatten_nil, List.append_nil, List.length_append, List.length_cons, List.length_nil] at hj ⊢
    by_cases q1 : j < Ls.flatten.length
    · rw [List.getElem?_append_left q1, updI_n (by omega), updI_n (by omega)]
      exact h3 j q1
    · rw [List.getElem?_append_right (by omega)]
      by_cases q2 : j = Ls.flatten.length
      · rw [q2, Nat.sub_self, updI_n (by omega), show Ls.flatten.length = ec.toNat by omega, updI_s]; rfl
      · rw [show j - Ls.flatten.length = 1 by omega, show j = (ec + 1).toNat by omega, updI_s]; rfl
  · rw [if_neg hab, if_neg hab]
    refine ⟨by simp [h1], by simp [seg, hab, h2], ?_, hst, h5⟩
    intro j hj
    simp only [seg, hab, if_false, List.flatten_append, List.flatten_cons, List.flatten_nil, List.append_nil] at hj ⊢
    exact h3 j hj
/-- the walk's own cells -/
def wwP (cI cR : ClassId) (lo : Nat) (h : ch_H) (gw : Nat → Option Nat) (fx fy fl fh : Nat → Int) (wc : Int) (Ls : List (List Int)) : Prop := ∃ (fe fs fm : Nat → Int) (ec sc : Int), h (lo + 3) = some (.inr (9, [.ref (lo + 4), .ref (lo + 5), .ref (lo + 6), .ref (lo + 7), .ref (lo + 8), .int (iI wc), .ref (lo + 9)])) ∧ h (lo + 4) = some (aR cR 100 gw) ∧ h (lo + 5) = some (aI cI 100 fx) ∧ h (lo + 6) = some (aI cI 100 fy) ∧ h (lo + 7) = some (aI cI 100 fl) ∧ h (lo + 8) = some (aI cI 100 fh) ∧ h (lo + 9) = some (.inr (3, [.ref (lo + 10), .ref (lo + 11), .ref (lo + 12), .int (iI ec), .int (iI sc)])) ∧ h (lo + 10) = some (aI cI 100 fe) ∧ h (lo + 11) = some (aI cI 50 fs) ∧ h (lo + 12) = some (aI cI 100 fm) ∧ fsR Ls fe fs ec sc
def wwL (lo : Nat) : List Nat := [lo + 3, lo + 4, lo + 5, lo + 6, lo + 7, lo + 8, lo + 9, lo + 10, lo + 11, lo + 12]
theorem wwL_in {lo a : Nat} : a ∈ wwL lo ↔ lo + 3 ≤ a ∧ a ≤ lo + 12 := by
  unfold wwL
  simp only [List.mem_cons, List.not_mem_nil, or_false]
  omega
theorem wwL_out {lo a : Nat} (h : lo + 13 ≤ a) : a ∉ wwL lo := by rw [wwL_in]; omega
/-- a kind of solids' objects -/
def isS (ci : Nat) : Prop := ∃ r : vw_C, vwCl[ci]? = some r ∧ (∀ U, ch_N U → va_Nw (Cond.castable r.1 "SpanSolids$Solid") U) ∧ (∀ w ∈ u_ws r.1 r.2.1 r.2.2, w ∈ ch_tb) ∧ 0 < r.2.2 ∧ r.2.1 0 = ("SpanSolids$Solid", "weight", "I", true)
theorem gy_getw {l : Launch} {E : ch_E} {M : ch_D} {Xt : State → Array Value → Prop} {R : Room} {Z : List Frame → Array Value → State → State → Prop} {k n : Nat} {h : ch_H} {hi pc : Nat} {lv : List (Nat × Value)} {st : List Value} {a ci idx : Nat} {v : Value} {vs : List Value} (hS : isS ci) (hlink : Cond.fieldLink M.1.cls idx "SpanSolids$Solid" "weight" "I" ∈ ch_tb) (hd : decode M.2.1 pc = .ok (.getfield idx, 3)) (ha : h a = some (.inr (ci, v :: vs))) (kk : ch_G l E M Xt R Z k n h hi (pc + 3) lv (v :: st)) : ch_G l E M Xt R Z k n h hi pc lv (.ref a :: st) := by
  obtain ⟨⟨C, T, N⟩, h1, -, h2, h3, h4⟩ := hS
  exact gx_get (C := C) (T := T) (N := N) (f := 0) h1 h2 h3 (by rw [show T 0 = ("SpanSolids$Solid", "weight", "I", true) from h4]; exact hlink) hd ha rfl kk
theorem wwP_K {cI cR : ClassId} {lo : Nat} {h : ch_H} {gw : Nat → Option Nat} {fx fy fl fh : Nat → Int} {wc : Int} {Ls : List (List Int)} (W : wwP cI cR lo h gw fx fy fl fh wc Ls) : ∃ v, h (lo + 3) = some (.inr (9, v)) := by
  obtain ⟨fe, fs, fm, ec, sc, W0, -⟩ := W
  exact ⟨_, W0⟩
theorem isS_0 : isS 0 := ⟨_, rfl, nw_6, inX0, by decide, rfl⟩
theorem isS_1 : isS 1 := ⟨_, rfl, nw_7, inX1, by decide, rfl⟩
theorem isS_2 : isS 2 := ⟨_, rfl, nw_8, inX2, by decide, rfl⟩
theorem isS_4 : isS 4 := ⟨_, rfl, nw_9, inX4, by decide, rfl⟩
theorem isS_5 : isS 5 := ⟨_, rfl, nw_10, inX5, by decide, rfl⟩
theorem isS_6 : isS 6 := ⟨_, rfl, nw_11, inX6, by decide, rfl⟩
theorem isS_8 : isS 8 := ⟨_, rfl, nw_12, inX9, by decide, rfl⟩
set_option maxHeartbeats 4000000 in
set_option maxRecDepth 100000 in
theorem c_X10_give (l : Launch) (D : va_G) (cI cL cR : ClassId) (lo : Nat) (h : ch_H) (hi : Nat) (gw : Nat → Option Nat) (fx fy fl fh : Nat → Int) (wc : Int) (Ls : List (List Int)) (W : wwP cI cR lo h gw fx fy fl fh wc Ls) (hL1 : Ls.length < 50) (hL2 : Ls.flatten.length + 2 ≤ 100) (a b : Int) (ha : -1000000 ≤ a ∧ a ≤ 1000000) (hb : -1000000 ≤ b ∧ b ≤ 1000000) : ch_C l (eE D cI cL cR lo) M_X10_give (rM 1 0 0) [.ref (lo + 3), .int (iI a), .int (iI b)] h hi (fun r0 h2 hi2 => r0 = none ∧ wwP cI cR lo h2 gw fx fy fl fh wc (Ls ++ [seg a b]) ∧ ch_fr (wwL lo) h h2 ∧ hi = hi2) := by
  refine ch_C.of rfl (Nat.le_of_ble_eq_true rfl) ?_
  obtain ⟨fe, fs, fm, ec, sc, W0, W1, W2, W3, W4, W5, W6, W7, W8, W9, hfs⟩ := W
  have hsc := hfs.1
  have hec := hfs.2.1
  refine gx_aload_n 0 dX10_give_0 rfl rfl ?_
  refine gx_get (ci := 9) (f := 6) (C := RX10) (T := TX10) (N := 7) rfl inX10 (by decide) mw_1_61 dX10_give_1 W0 rfl ?_
  refine gx_iload_n 1 dX10_give_4 rfl rfl ?_
  refine gx_iload_n 2 dX10_give_5 rfl rfl ?_
  refine gx_callV (ci := 3) (c_X3_add l D cI cL cR lo h hi (lo + 9) (lo + 10) (lo + 11) (lo + 12) ec sc fe fs fm W6 W7 W8 W9 (by omega) (by omega) (by omega) (by omega) (by omega) a b (by constructor <;> omega) (by constructor <;> omega)) ok_X3_add mw_2_133 mw_2_134 mw_2_135 dX10_give_6 rfl W6 rfl rfl (Nat.le_of_ble_eq_true rfl) (by first | exact Nat.le_of_ble_eq_true rfl | (simp only [rM]; omega)) (by first | exact Nat.le_of_ble_eq_true rfl | (simp only [rM]; omega)) (by first | exact Nat.le_of_ble_eq_true rfl | (simp only [rM]; omega)) (by first | exact Nat.le_of_ble_eq_true rfl | (simp only [rM]; omega)) (fun r1 h2 u3 q4 g5 => ?_)
  obtain ⟨rfl, q9, q10, q11, q12, qfr, rfl⟩ := q4
  have k6 : h2 (lo + 3) = some (.inr (9, [.ref (lo + 4), .ref (lo + 5), .ref (lo + 6), .ref (lo + 7), .ref (lo + 8), .int (iI wc), .ref (lo + 9)])) := by rw [qfr (lo + 3) (by simp only [List.mem_cons, List.not_mem_nil, or_false]; omega)]; exact W0
  have k7 : h2 (lo + 4) = some (aR cR 100 gw) := by rw [qfr (lo + 4) (by simp only [List.mem_cons, List.not_mem_nil, or_false]; omega)]; exact W1
  have k8 : h2 (lo + 5) = some (aI cI 100 fx) := by rw [qfr (lo + 5) (by simp only [List.mem_cons, List.not_mem_nil, or_false]; omega)]; exact W2
  have k9 : h2 (lo + 6) = some (aI cI 100 fy) := by rw [qfr (lo + 6) (by simp only [List.mem_cons, List.not_mem_nil, or_false]; omega)]; exact W3
  have k10 : h2 (lo + 7) = some (aI cI 100 fl) := by rw [qfr (lo + 7) (by simp only [List.mem_cons, List.not_mem_nil, or_false]; omega)]; exact W4
  have k11 : h2 (lo + 8) = some (aI cI 100 fh) := by rw [qfr (lo + 8) (by simp only [List.mem_cons, List.not_mem_nil, or_false]; omega)]; exact W5
  refine ch_Gst (st2 := []) rfl ?_
  refine gx_vret rfl dX10_give_9 (by first | exact Nat.le_of_ble_eq_true rfl | (simp only [rM]; omega)) (by first | exact Nat.le_of_ble_eq_true rfl | (simp only [rM]; omega)) ?_
  exact ⟨rfl, ⟨_, _, _, _, _, k6, k7, k8, k9, k10, k11, q9, q10, q11, q12, fsR_add (a := a) (b := b) hfs ha hb⟩, (ch_frT ch_fr0 qfr (fun _ q => by rw [wwL_in]; simp only [List.mem_cons, List.not_mem_nil, or_false] at q; omega)), rfl⟩
set_option maxHeartbeats 4000000 in
set_option maxRecDepth 100000 in
theorem c_X10_giveNone (l : Launch) (D : va_G) (cI cL cR : ClassId) (lo : Nat) (h : ch_H) (hi : Nat) (gw : Nat → Option Nat) (fx fy fl fh : Nat → Int) (wc : Int) (Ls : List (List Int)) (W : wwP cI cR lo h gw fx fy fl fh wc Ls) (hL1 : Ls.length < 50) (hL2 : Ls.flatten.length + 2 ≤ 100) : ch_C l (eE D cI cL cR lo) M_X10_giveNone (rM 1 0 0) [.ref (lo + 3)] h hi (fun r0 h2 hi2 => r0 = none ∧ wwP cI cR lo h2 gw fx fy fl fh wc (Ls ++ [seg 0 0]) ∧ ch_fr (wwL lo) h h2 ∧ hi = hi2) := by
  refine ch_C.of rfl (Nat.le_of_ble_eq_true rfl) ?_
  obtain ⟨fe, fs, fm, ec, sc, W0, W1, W2, W3, W4, W5, W6, W7, W8, W9, hfs⟩ := W
  have hsc := hfs.1
  have hec := hfs.2.1
  refine gx_aload_n 0 dX10_giveNone_0 rfl rfl ?_
  refine gx_get (ci := 9) (f := 6) (C := RX10) (T := TX10) (N := 7) rfl inX10 (by decide) mw_1_61 dX10_giveNone_1 W0 rfl ?_
  refine gx_iconst (iI 0) dX10_giveNone_4 rfl ?_
  refine gx_iconst (iI 0) dX10_giveNone_5 rfl ?_
  refine gx_callV (ci := 3) (c_X3_add l D cI cL cR lo h hi (lo + 9) (lo + 10) (lo + 11) (lo + 12) ec sc fe fs fm W6 W7 W8 W9 (by omega) (by omega) (by omega) (by omega) (by omega) 0 0 (by constructor <;> omega) (by constructor <;> omega)) ok_X3_add mw_2_133 mw_2_134 mw_2_135 dX10_giveNone_6 rfl W6 rfl rfl (Nat.le_of_ble_eq_true rfl) (by first | exact Nat.le_of_ble_eq_true rfl | (simp only [rM]; omega)) (by first | exact Nat.le_of_ble_eq_true rfl | (simp only [rM]; omega)) (by first | exact Nat.le_of_ble_eq_true rfl | (simp only [rM]; omega)) (by first | exact Nat.le_of_ble_eq_true rfl | (simp only [rM]; omega)) (fun r1 h2 u3 q4 g5 => ?_)
  obtain ⟨rfl, q9, q10, q11, q12, qfr, rfl⟩ := q4
  have k6 : h2 (lo + 3) = some (.inr (9, [.ref (lo + 4), .ref (lo + 5), .ref (lo + 6), .ref (lo + 7), .ref (lo + 8), .int (iI wc), .ref (lo + 9)])) := by rw [qfr (lo + 3) (by simp only [List.mem_cons, List.not_mem_nil, or_false]; omega)]; exact W0
  have k7 : h2 (lo + 4) = some (aR cR 100 gw) := by rw [qfr (lo + 4) (by simp only [List.mem_cons, List.not_mem_nil, or_false]; omega)]; exact W1
  have k8 : h2 (lo + 5) = some (aI cI 100 fx) := by rw [qfr (lo + 5) (by simp only [List.mem_cons, List.not_mem_nil, or_false]; omega)]; exact W2
  have k9 : h2 (lo + 6) = some (aI cI 100 fy) := by rw [qfr (lo + 6) (by simp only [List.mem_cons, List.not_mem_nil, or_false]; omega)]; exact W3
  have k10 : h2 (lo + 7) = some (aI cI 100 fl) := by rw [qfr (lo + 7) (by simp only [List.mem_cons, List.not_mem_nil, or_false]; omega)]; exact W4
  have k11 : h2 (lo + 8) = some (aI cI 100 fh) := by rw [qfr (lo + 8) (by simp only [List.mem_cons, List.not_mem_nil, or_false]; omega)]; exact W5
  refine ch_Gst (st2 := []) rfl ?_
  refine gx_vret rfl dX10_giveNone_9 (by first | exact Nat.le_of_ble_eq_true rfl | (simp only [rM]; omega)) (by first | exact Nat.le_of_ble_eq_true rfl | (simp only [rM]; omega)) ?_
  exact ⟨rfl, ⟨_, _, _, _, _, k6, k7, k8, k9, k10, k11, q9, q10, q11, q12, fsR_add (a := 0) (b := 0) hfs (by omega) (by omega)⟩, (ch_frT ch_fr0 qfr (fun _ q => by rw [wwL_in]; simp only [List.mem_cons, List.not_mem_nil, or_false] at q; omega)), rfl⟩
set_option maxHeartbeats 4000000 in
set_option maxRecDepth 100000 in
theorem c_X10_await (l : Launch) (D : va_G) (cI cL cR : ClassId) (lo : Nat) (h : ch_H) (hi : Nat) (gw : Nat → Option Nat) (fx fy fl fh : Nat → Int) (wc : Int) (Ls : List (List Int)) (W : wwP cI cR lo h gw fx fy fl fh wc Ls) (p ci : Nat) (vs : List Value) (hp : h p = some (.inr (ci, vs))) (hS : isS ci) (hpl : lo + 13 ≤ p) (hwc : 0 ≤ wc ∧ wc < 100) (x y t : Int) : ch_C l (eE D cI cL cR lo) M_X10_await (rM 0 0 0) [.ref (lo + 3), .ref p, .int (iI x), .int (iI y), .int (iI t)] h hi (fun r0 h2 hi2 => r0 = none ∧ wwP cI cR lo h2 (va_up gw wc.toNat (some p)) (updI fx wc.toNat x) (updI fy wc.toNat y) (updI fl wc.toNat t) fh (wc + 1) Ls ∧ ch_fr (wwL lo) h h2 ∧ hi = hi2) := by
  refine ch_C.of rfl (Nat.le_of_ble_eq_true rfl) ?_
  obtain ⟨fe, fs, fm, ec, sc, W0, W1, W2, W3, W4, W5, W6, W7, W8, W9, hfs⟩ := W
  obtain ⟨rS, hrS, hcS, -⟩ := hS
  refine gx_aload_n 0 dX10_await_0 rfl rfl ?_
  refine gx_get (ci := 9) (f := 5) (C := RX10) (T := TX10) (N := 7) rfl inX10 (by decide) mw_1_60 dX10_await_1 W0 rfl ?_
  refine gx_bipush (iI 100) dX10_await_4 (by decide) ?_
  refine gy_icmp_lt 10 dX10_await_6 (by decide) (by constructor <;> omega) (by decide) (fun c6 => ?_) (fun c6 => absurd c6 (by omega))
  refine gx_aload_n 0 dX10_await_10 rfl rfl ?_
  refine gx_get (ci := 9) (f := 0) (C := RX10) (T := TX10) (N := 7) rfl inX10 (by decide) mw_1_55 dX10_await_11 W0 rfl ?_
  refine gx_aload_n 0 dX10_await_14 rfl rfl ?_
  refine gx_get (ci := 9) (f := 5) (C := RX10) (T := TX10) (N := 7) rfl inX10 (by decide) mw_1_60 dX10_await_15 W0 rfl ?_
  refine gx_aload_n 1 dX10_await_18 rfl rfl ?_
  refine gy_aast (ci := ci) hrS hcS dX10_await_19 W1 hp (by omega) (by omega) (by decide) (fun h1 eh1 => ?_)
  have k2 : h1 (lo + 3) = some (.inr (9, [.ref (lo + 4), .ref (lo + 5), .ref (lo + 6), .ref (lo + 7), .ref (lo + 8), .int (iI wc), .ref (lo + 9)])) := by rw [eh1, ch_set_ne (by first | assumption | exact Ne.symm (by assumption) | omega)]; exact W0
  have k3 : h1 (lo + 5) = some (aI cI 100 fx) := by rw [eh1, ch_set_ne (by first | assumption | exact Ne.symm (by assumption) | omega)]; exact W2
  have k4 : h1 (lo + 6) = some (aI cI 100 fy) := by rw [eh1, ch_set_ne (by first | assumption | exact Ne.symm (by assumption) | omega)]; exact W3
  have k5 : h1 (lo + 7) = some (aI cI 100 fl) := by rw [eh1, ch_set_ne (by first | assumption | exact Ne.symm (by assumption) | omega)]; exact W4
  have k6 : h1 (lo + 8) = some (aI cI 100 fh) := by rw [eh1, ch_set_ne (by first | assumption | exact Ne.symm (by assumption) | omega)]; exact W5
  have k7 : h1 (lo + 9) = some (.inr (3, [.ref (lo + 10), .ref (lo + 11), .ref (lo + 12), .int (iI ec), .int (iI sc)])) := by rw [eh1, ch_set_ne (by first | assumption | exact Ne.symm (by assumption) | omega)]; exact W6
  have k8 : h1 (lo + 10) = some (aI cI 100 fe) := by rw [eh1, ch_set_ne (by first | assumption | exact Ne.symm (by assumption) | omega)]; exact W7
  have k9 : h1 (lo + 11) = some (aI cI 50 fs) := by rw [eh1, ch_set_ne (by first | assumption | exact Ne.symm (by assumption) | omega)]; exact W8
  have k10 : h1 (lo + 12) = some (aI cI 100 fm) := by rw [eh1, ch_set_ne (by first | assumption | exact Ne.symm (by assumption) | omega)]; exact W9
  have k11 : h1 p = some (.inr (ci, vs)) := by rw [eh1, ch_set_ne (by first | assumption | exact Ne.symm (by assumption) | omega)]; exact hp
  have k12 : h1 (lo + 4) = some (aR cR 100 (va_up gw wc.toNat (some p))) := by rw [eh1]; exact ch_set_self
  refine gx_aload_n 0 dX10_await_20 rfl rfl ?_
  refine gx_get (ci := 9) (f := 1) (C := RX10) (T := TX10) (N := 7) rfl inX10 (by decide) mw_1_56 dX10_await_21 k2 rfl ?_
  refine gx_aload_n 0 dX10_await_24 rfl rfl ?_
  refine gx_get (ci := 9) (f := 5) (C := RX10) (T := TX10) (N := 7) rfl inX10 (by decide) mw_1_60 dX10_await_25 k2 rfl ?_
  refine gx_iload_n 2 dX10_await_28 rfl rfl ?_
  refine gy_iast dX10_await_29 k3 (by omega) (by omega) (by decide) (fun h13 eh13 => ?_)
  have k14 : h13 (lo + 3) = some (.inr (9, [.ref (lo + 4), .ref (lo + 5), .ref (lo + 6), .ref (lo + 7), .ref (lo + 8), .int (iI wc), .ref (lo + 9)])) := by rw [eh13, ch_set_ne (by first | assumption | exact Ne.symm (by assumption) | omega)]; exact k2
  have k15 : h13 (lo + 6) = some (aI cI 100 fy) := by rw [eh13, ch_set_ne (by first | assumption | exact Ne.symm (by assumption) | omega)]; exact k4
  have k16 : h13 (lo + 7) = some (aI cI 100 fl) := by rw [eh13, ch_set_ne (by first | assumption | exact Ne.symm (by assumption) | omega)]; exact k5
  have k17 : h13 (lo + 8) = some (aI cI 100 fh) := by rw [eh13, ch_set_ne (by first | assumption | exact Ne.symm (by assumption) | omega)]; exact k6
  have k18 : h13 (lo + 9) = some (.inr (3, [.ref (lo + 10), .ref (lo + 11), .ref (lo + 12), .int (iI ec), .int (iI sc)])) := by rw [eh13, ch_set_ne (by first | assumption | exact Ne.symm (by assumption) | omega)]; exact k7
  have k19 : h13 (lo + 10) = some (aI cI 100 fe) := by rw [eh13, ch_set_ne (by first | assumption | exact Ne.symm (by assumption) | omega)]; exact k8
  have k20 : h13 (lo + 11) = some (aI cI 50 fs) := by rw [eh13, ch_set_ne (by first | assumption | exact Ne.symm (by assumption) | omega)]; exact k9
  have k21 : h13 (lo + 12) = some (aI cI 100 fm) := by rw [eh13, ch_set_ne (by first | assumption | exact Ne.symm (by assumption) | omega)]; exact k10
  have k22 : h13 p = some (.inr (ci, vs)) := by rw [eh13, ch_set_ne (by first | assumption | exact Ne.symm (by assumption) | omega)]; exact k11
  have k23 : h13 (lo + 4) = some (aR cR 100 (va_up gw wc.toNat (some p))) := by rw [eh13, ch_set_ne (by first | assumption | exact Ne.symm (by assumption) | omega)]; exact k12
  have k24 : h13 (lo + 5) = some (aI cI 100 (updI fx wc.toNat x)) := by rw [eh13]; exact ch_set_self
  refine gx_aload_n 0 dX10_await_30 rfl rfl ?_
  refine gx_get (ci := 9) (f := 2) (C := RX10) (T := TX10) (N := 7) rfl inX10 (by decide) mw_1_57 dX10_await_31 k14 rfl ?_
  refine gx_aload_n 0 dX10_await_34 rfl rfl ?_
  refine gx_get (ci := 9) (f := 5) (C := RX10) (T := TX10) (N := 7) rfl inX10 (by decide) mw_1_60 dX10_await_35 k14 rfl ?_
  refine gx_iload_n 3 dX10_await_38 rfl rfl ?_
  refine gy_iast dX10_await_39 k15 (by omega) (by omega) (by decide) (fun h25 eh25 => ?_)
  have k26 : h25 (lo + 3) = some (.inr (9, [.ref (lo + 4), .ref (lo + 5), .ref (lo + 6), .ref (lo + 7), .ref (lo + 8), .int (iI wc), .ref (lo + 9)])) := by rw [eh25, ch_set_ne (by first | assumption | exact Ne.symm (by assumption) | omega)]; exact k14
  have k27 : h25 (lo + 7) = some (aI cI 100 fl) := by rw [eh25, ch_set_ne (by first | assumption | exact Ne.symm (by assumption) | omega)]; exact k16
  have k28 : h25 (lo + 8) = some (aI cI 100 fh) := by rw [eh25, ch_set_ne (by first | assumption | exact Ne.symm (by assumption) | omega)]; exact k17
  have k29 : h25 (lo + 9) = some (.inr (3, [.ref (lo + 10), .ref (lo + 11), .ref (lo + 12), .int (iI ec), .int (iI sc)])) := by rw [eh25, ch_set_ne (by first | assumption | exact Ne.symm (by assumption) | omega)]; exact k18
  have k30 : h25 (lo + 10) = some (aI cI 100 fe) := by rw [eh25, ch_set_ne (by first | assumption | exact Ne.symm (by assumption) | omega)]; exact k19
  have k31 : h25 (lo + 11) = some (aI cI 50 fs) := by rw [eh25, ch_set_ne (by first | assumption | exact Ne.symm (by assumption) | omega)]; exact k20
  have k32 : h25 (lo + 12) = some (aI cI 100 fm) := by rw [eh25, ch_set_ne (by first | assumption | exact Ne.symm (by assumption) | omega)]; exact k21
  have k33 : h25 p = some (.inr (ci, vs)) := by rw [eh25, ch_set_ne (by first | assumption | exact Ne.symm (by assumption) | omega)]; exact k22
  have k34 : h25 (lo + 4) = some (aR cR 100 (va_up gw wc.toNat (some p))) := by rw [eh25, ch_set_ne (by first | assumption | exact Ne.symm (by assumption) | omega)]; exact k23
  have k35 : h25 (lo + 5) = some (aI cI 100 (updI fx wc.toNat x)) := by rw [eh25, ch_set_ne (by first | assumption | exact Ne.symm (by assumption) | omega)]; exact k24
  have k36 : h25 (lo + 6) = some (aI cI 100 (updI fy wc.toNat y)) := by rw [eh25]; exact ch_set_self
  refine gx_aload_n 0 dX10_await_40 rfl rfl ?_
  refine gx_get (ci := 9) (f := 3) (C := RX10) (T := TX10) (N := 7) rfl inX10 (by decide) mw_1_58 dX10_await_41 k26 rfl ?_
  refine gx_aload_n 0 dX10_await_44 rfl rfl ?_
  refine gx_get (ci := 9) (f := 5) (C := RX10) (T := TX10) (N := 7) rfl inX10 (by decide) mw_1_60 dX10_await_45 k26 rfl ?_
  refine gx_iload 4 dX10_await_48 rfl ?_
  refine gy_iast dX10_await_50 k27 (by omega) (by omega) (by decide) (fun h37 eh37 => ?_)
  have k38 : h37 (lo + 3) = some (.inr (9, [.ref (lo + 4), .ref (lo + 5), .ref (lo + 6), .ref (lo + 7), .ref (lo + 8), .int (iI wc), .ref (lo + 9)])) := by rw [eh37, ch_set_ne (by first | assumption | exact Ne.symm (by assumption) | omega)]; exact k26
  have k39 : h37 (lo + 8) = some (aI cI 100 fh) := by rw [eh37, ch_set_ne (by first | assumption | exact Ne.symm (by assumption) | omega)]; exact k28
  have k40 : h37 (lo + 9) = some (.inr (3, [.ref (lo + 10), .ref (lo + 11), .ref (lo + 12), .int (iI ec), .int (iI sc)])) := by rw [eh37, ch_set_ne (by first | assumption | exact Ne.symm (by assumption) | omega)]; exact k29
  have k41 : h37 (lo + 10) = some (aI cI 100 fe) := by rw [eh37, ch_set_ne (by first | assumption | exact Ne.symm (by assumption) | omega)]; exact k30
  have k42 : h37 (lo + 11) = some (aI cI 50 fs) := by rw [eh37, ch_set_ne (by first | assumption | exact Ne.symm (by assumption) | omega)]; exact k31
  have k43 : h37 (lo + 12) = some (aI cI 100 fm) := by rw [eh37, ch_set_ne (by first | assumption | exact Ne.symm (by assumption) | omega)]; exact k32
  have k44 : h37 p = some (.inr (ci, vs)) := by rw [eh37, ch_set_ne (by first | assumption | exact Ne.symm (by assumption) | omega)]; exact k33
  have k45 : h37 (lo + 4) = some (aR cR 100 (va_up gw wc.toNat (some p))) := by rw [eh37, ch_set_ne (by first | assumption | exact Ne.symm (by assumption) | omega)]; exact k34
  have k46 : h37 (lo + 5) = some (aI cI 100 (updI fx wc.toNat x)) := by rw [eh37, ch_set_ne (by first | assumption | exact Ne.symm (by assumption) | omega)]; exact k35
  have k47 : h37 (lo + 6) = some (aI cI 100 (updI fy wc.toNat y)) := by rw [eh37, ch_set_ne (by first | assumption | exact Ne.symm (by assumption) | omega)]; exact k36
  have k48 : h37 (lo + 7) = some (aI cI 100 (updI fl wc.toNat t)) := by rw [eh37]; exact ch_set_self
  refine gx_aload_n 0 dX10_await_51 rfl rfl ?_
  refine gx_dup dX10_await_52 rfl ?_
  refine gx_get (ci := 9) (f := 5) (C := RX10) (T := TX10) (N := 7) rfl inX10 (by decide) mw_1_60 dX10_await_53 k38 rfl ?_
  refine gx_iconst (iI 1) dX10_await_56 rfl ?_
  refine gy_iadd dX10_await_57 ?_
  refine gy_put (ci := 9) (f := 5) (C := RX10) (T := TX10) (N := 7) (ty := .int) (fs2 := [.ref (lo + 4), .ref (lo + 5), .ref (lo + 6), .ref (lo + 7), .ref (lo + 8), .int (iI (wc + 1)), .ref (lo + 9)]) tyX10 rfl inX10 tyX10_ok nmX10 (by decide) mw_1_60 (Or.inl rfl) (by decide +kernel) rfl rfl dX10_await_58 k38 (by simp) rfl (fun h49 eh49 => ?_)
  have k50 : h49 (lo + 8) = some (aI cI 100 fh) := by rw [eh49, ch_set_ne (by first | assumption | exact Ne.symm (by assumption) | omega)]; exact k39
  have k51 : h49 (lo + 9) = some (.inr (3, [.ref (lo + 10), .ref (lo + 11), .ref (lo + 12), .int (iI ec), .int (iI sc)])) := by rw [eh49, ch_set_ne (by first | assumption | exact Ne.symm (by assumption) | omega)]; exact k40
  have k52 : h49 (lo + 10) = some (aI cI 100 fe) := by rw [eh49, ch_set_ne (by first | assumption | exact Ne.symm (by assumption) | omega)]; exact k41
  have k53 : h49 (lo + 11) = some (aI cI 50 fs) := by rw [eh49, ch_set_ne (by first | assumption | exact Ne.symm (by assumption) | omega)]; exact k42
  have k54 : h49 (lo + 12) = some (aI cI 100 fm) := by rw [eh49, ch_set_ne (by first | assumption | exact Ne.symm (by assumption) | omega)]; exact k43
  have k55 : h49 p = some (.inr (ci, vs)) := by rw [eh49, ch_set_ne (by first | assumption | exact Ne.symm (by assumption) | omega)]; exact k44
  have k56 : h49 (lo + 4) = some (aR cR 100 (va_up gw wc.toNat (some p))) := by rw [eh49, ch_set_ne (by first | assumption | exact Ne.symm (by assumption) | omega)]; exact k45
  have k57 : h49 (lo + 5) = some (aI cI 100 (updI fx wc.toNat x)) := by rw [eh49, ch_set_ne (by first | assumption | exact Ne.symm (by assumption) | omega)]; exact k46
  have k58 : h49 (lo + 6) = some (aI cI 100 (updI fy wc.toNat y)) := by rw [eh49, ch_set_ne (by first | assumption | exact Ne.symm (by assumption) | omega)]; exact k47
  have k59 : h49 (lo + 7) = some (aI cI 100 (updI fl wc.toNat t)) := by rw [eh49, ch_set_ne (by first | assumption | exact Ne.symm (by assumption) | omega)]; exact k48
  have k60 : h49 (lo + 3) = some (.inr (9, [.ref (lo + 4), .ref (lo + 5), .ref (lo + 6), .ref (lo + 7), .ref (lo + 8), .int (iI (wc + 1)), .ref (lo + 9)])) := by rw [eh49]; exact ch_set_self
  refine gx_vret rfl dX10_await_61 (by first | exact Nat.le_of_ble_eq_true rfl | (simp only [rM]; omega)) (by first | exact Nat.le_of_ble_eq_true rfl | (simp only [rM]; omega)) ?_
  exact ⟨rfl, ⟨_, _, _, _, _, k60, k56, k57, k58, k59, k50, k51, k52, k53, k54, hfs⟩, (by rw [eh49]; exact ch_frS (by rw [eh37]; exact ch_frS (by rw [eh25]; exact ch_frS (by rw [eh13]; exact ch_frS (by rw [eh1]; exact ch_frS ch_fr0 (wwL_in.mpr ⟨by omega, by omega⟩)) (wwL_in.mpr ⟨by omega, by omega⟩)) (wwL_in.mpr ⟨by omega, by omega⟩)) (wwL_in.mpr ⟨by omega, by omega⟩)) (wwL_in.mpr ⟨by omega, by omega⟩)), rfl⟩
set_option maxHeartbeats 4000000 in
set_option maxRecDepth 100000 in
theorem c_X10_awaitJoin (l : Launch) (D : va_G) (cI cL cR : ClassId) (lo : Nat) (h : ch_H) (hi : Nat) (gw : Nat → Option Nat) (fx fy fl fh : Nat → Int) (wc : Int) (Ls : List (List Int)) (W : wwP cI cR lo h gw fx fy fl fh wc Ls) (hwc : 0 ≤ wc ∧ wc < 100) (t : Int) : ch_C l (eE D cI cL cR lo) M_X10_awaitJoin (rM 0 0 0) [.ref (lo + 3), .int (iI t)] h hi (fun r0 h2 hi2 => r0 = none ∧ wwP cI cR lo h2 (va_up gw wc.toNat none) fx fy fl (updI fh wc.toNat t) (wc + 1) Ls ∧ ch_fr (wwL lo) h h2 ∧ hi = hi2) := by
  refine ch_C.of rfl (Nat.le_of_ble_eq_true rfl) ?_
  obtain ⟨fe, fs, fm, ec, sc, W0, W1, W2, W3, W4, W5, W6, W7, W8, W9, hfs⟩ := W
  refine gx_aload_n 0 dX10_awaitJoin_0 rfl rfl ?_
  refine gx_get (ci := 9) (f := 5) (C := RX10) (T := TX10) (N := 7) rfl inX10 (by decide) mw_1_60 dX10_awaitJoin_1 W0 rfl ?_
  refine gx_bipush (iI 100) dX10_awaitJoin_4 (by decide) ?_
  refine gy_icmp_lt 10 dX10_awaitJoin_6 (by decide) (by constructor <;> omega) (by decide) (fun c6 => ?_) (fun c6 => absurd c6 (by omega))
  refine gx_aload_n 0 dX10_awaitJoin_10 rfl rfl ?_
  refine gx_get (ci := 9) (f := 0) (C := RX10) (T := TX10) (N := 7) rfl inX10 (by decide) mw_1_55 dX10_awaitJoin_11 W0 rfl ?_
  refine gx_aload_n 0 dX10_awaitJoin_14 rfl rfl ?_
  refine gx_get (ci := 9) (f := 5) (C := RX10) (T := TX10) (N := 7) rfl inX10 (by decide) mw_1_60 dX10_awaitJoin_15 W0 rfl ?_
  refine gx_null dX10_awaitJoin_18 ?_
  refine gy_aastN dX10_awaitJoin_19 W1 (by omega) (by omega) (by decide) (fun h1 eh1 => ?_)
  have k2 : h1 (lo + 3) = some (.inr (9, [.ref (lo + 4), .ref (lo + 5), .ref (lo + 6), .ref (lo + 7), .ref (lo + 8), .int (iI wc), .ref (lo + 9)])) := by rw [eh1, ch_set_ne (by first | assumption | exact Ne.symm (by assumption) | omega)]; exact W0
  have k3 : h1 (lo + 5) = some (aI cI 100 fx) := by rw [eh1, ch_set_ne (by first | assumption | exact Ne.symm (by assumption) | omega)]; exact W2
  have k4 : h1 (lo + 6) = some (aI cI 100 fy) := by rw [eh1, ch_set_ne (by first | assumption | exact Ne.symm (by assumption) | omega)]; exact W3
  have k5 : h1 (lo + 7) = some (aI cI 100 fl) := by rw [eh1, ch_set_ne (by first | assumption | exact Ne.symm (by assumption) | omega)]; exact W4
  have k6 : h1 (lo + 8) = some (aI cI 100 fh) := by rw [eh1, ch_set_ne (by first | assumption | exact Ne.symm (by assumption) | omega)]; exact W5
  have k7 : h1 (lo + 9) = some (.inr (3, [.ref (lo + 10), .ref (lo + 11), .ref (lo + 12), .int (iI ec), .int (iI sc)])) := by rw [eh1, ch_set_ne (by first | assumption | exact Ne.symm (by assumption) | omega)]; exact W6
  have k8 : h1 (lo + 10) = some (aI cI 100 fe) := by rw [eh1, ch_set_ne (by first | assumption | exact Ne.symm (by assumption) | omega)]; exact W7
  have k9 : h1 (lo + 11) = some (aI cI 50 fs) := by rw [eh1, ch_set_ne (by first | assumption | exact Ne.symm (by assumption) | omega)]; exact W8
  have k10 : h1 (lo + 12) = some (aI cI 100 fm) := by rw [eh1, ch_set_ne (by first | assumption | exact Ne.symm (by assumption) | omega)]; exact W9
  have k11 : h1 (lo + 4) = some (aR cR 100 (va_up gw wc.toNat none)) := by rw [eh1]; exact ch_set_self
  refine gx_aload_n 0 dX10_awaitJoin_20 rfl rfl ?_
  refine gx_get (ci := 9) (f := 4) (C := RX10) (T := TX10) (N := 7) rfl inX10 (by decide) mw_1_59 dX10_awaitJoin_21 k2 rfl ?_
  refine gx_aload_n 0 dX10_awaitJoin_24 rfl rfl ?_
  refine gx_get (ci := 9) (f := 5) (C := RX10) (T := TX10) (N := 7) rfl inX10 (by decide) mw_1_60 dX10_awaitJoin_25 k2 rfl ?_
  refine gx_iload_n 1 dX10_awaitJoin_28 rfl rfl ?_
  refine gy_iast dX10_awaitJoin_29 k6 (by omega) (by omega) (by decide) (fun h12 eh12 => ?_)
  have k13 : h12 (lo + 3) = some (.inr (9, [.ref (lo + 4), .ref (lo + 5), .ref (lo + 6), .ref (lo + 7), .ref (lo + 8), .int (iI wc), .ref (lo + 9)])) := by rw [eh12, ch_set_ne (by first | assumption | exact Ne.symm (by assumption) | omega)]; exact k2
  have k14 : h12 (lo + 5) = some (aI cI 100 fx) := by rw [eh12, ch_set_ne (by first | assumption | exact Ne.symm (by assumption) | omega)]; exact k3
  have k15 : h12 (lo + 6) = some (aI cI 100 fy) := by rw [eh12, ch_set_ne (by first | assumption | exact Ne.symm (by assumption) | omega)]; exact k4
  have k16 : h12 (lo + 7) = some (aI cI 100 fl) := by rw [eh12, ch_set_ne (by first | assumption | exact Ne.symm (by assumption) | omega)]; exact k5
  have k17 : h12 (lo + 9) = some (.inr (3, [.ref (lo + 10), .ref (lo + 11), .ref (lo + 12), .int (iI ec), .int (iI sc)])) := by rw [eh12, ch_set_ne (by first | assumption | exact Ne.symm (by assumption) | omega)]; exact k7
  have k18 : h12 (lo + 10) = some (aI cI 100 fe) := by rw [eh12, ch_set_ne (by first | assumption | exact Ne.symm (by assumption) | omega)]; exact k8
  have k19 : h12 (lo + 11) = some (aI cI 50 fs) := by rw [eh12, ch_set_ne (by first | assumption | exact Ne.symm (by assumption) | omega)]; exact k9
  have k20 : h12 (lo + 12) = some (aI cI 100 fm) := by rw [eh12, ch_set_ne (by first | assumption | exact Ne.symm (by assumption) | omega)]; exact k10
  have k21 : h12 (lo + 4) = some (aR cR 100 (va_up gw wc.toNat none)) := by rw [eh12, ch_set_ne (by first | assumption | exact Ne.symm (by assumption) | omega)]; exact k11
  have k22 : h12 (lo + 8) = some (aI cI 100 (updI fh wc.toNat t)) := by rw [eh12]; exact ch_set_self
  refine gx_aload_n 0 dX10_awaitJoin_30 rfl rfl ?_
  refine gx_dup dX10_awaitJoin_31 rfl ?_
  refine gx_get (ci := 9) (f := 5) (C := RX10) (T := TX10) (N := 7) rfl inX10 (by decide) mw_1_60 dX10_awaitJoin_32 k13 rfl ?_
  refine gx_iconst (iI 1) dX10_awaitJoin_35 rfl ?_
  refine gy_iadd dX10_awaitJoin_36 ?_
  refine gy_put (ci := 9) (f := 5) (C := RX10) (T := TX10) (N := 7) (ty := .int) (fs2 := [.ref (lo + 4), .ref (lo + 5), .ref (lo + 6), .ref (lo + 7), .ref (lo + 8), .int (iI (wc + 1)), .ref (lo + 9)]) tyX10 rfl inX10 tyX10_ok nmX10 (by decide) mw_1_60 (Or.inl rfl) (by decide +kernel) rfl rfl dX10_awaitJoin_37 k13 (by simp) rfl (fun h23 eh23 => ?_)
  have k24 : h23 (lo + 5) = some (aI cI 100 fx) := by rw [eh23, ch_set_ne (by first | assumption | exact Ne.symm (by assumption) | omega)]; exact k14
  have k25 : h23 (lo + 6) = some (aI cI 100 fy) := by rw [eh23, ch_set_ne (by first | assumption | exact Ne.symm (by assumption) | omega)]; exact k15
  have k26 : h23 (lo + 7) = some (aI cI 100 fl) := by rw [eh23, ch_set_ne (by first | assumption | exact Ne.symm (by assumption) | omega)]; exact k16
  have k27 : h23 (lo + 9) = some (.inr (3, [.ref (lo + 10), .ref (lo + 11), .ref (lo + 12), .int (iI ec), .int (iI sc)])) := by rw [eh23, ch_set_ne (by first | assumption | exact Ne.symm (by assumption) | omega)]; exact k17
  have k28 : h23 (lo + 10) = some (aI cI 100 fe) := by rw [eh23, ch_set_ne (by first | assumption | exact Ne.symm (by assumption) | omega)]; exact k18
  have k29 : h23 (lo + 11) = some (aI cI 50 fs) := by rw [eh23, ch_set_ne (by first | assumption | exact Ne.symm (by assumption) | omega)]; exact k19
  have k30 : h23 (lo + 12) = some (aI cI 100 fm) := by rw [eh23, ch_set_ne (by first | assumption | exact Ne.symm (by assumption) | omega)]; exact k20
  have k31 : h23 (lo + 4) = some (aR cR 100 (va_up gw wc.toNat none)) := by rw [eh23, ch_set_ne (by first | assumption | exact Ne.symm (by assumption) | omega)]; exact k21
  have k32 : h23 (lo + 8) = some (aI cI 100 (updI fh wc.toNat t)) := by rw [eh23, ch_set_ne (by first | assumption | exact Ne.symm (by assumption) | omega)]; exact k22
  have k33 : h23 (lo + 3) = some (.inr (9, [.ref (lo + 4), .ref (lo + 5), .ref (lo + 6), .ref (lo + 7), .ref (lo + 8), .int (iI (wc + 1)), .ref (lo + 9)])) := by rw [eh23]; exact ch_set_self
  refine gx_vret rfl dX10_awaitJoin_40 (by first | exact Nat.le_of_ble_eq_true rfl | (simp only [rM]; omega)) (by first | exact Nat.le_of_ble_eq_true rfl | (simp only [rM]; omega)) ?_
  exact ⟨rfl, ⟨_, _, _, _, _, k33, k31, k24, k25, k26, k32, k27, k28, k29, k30, hfs⟩, (by rw [eh23]; exact ch_frS (by rw [eh12]; exact ch_frS (by rw [eh1]; exact ch_frS ch_fr0 (wwL_in.mpr ⟨by omega, by omega⟩)) (wwL_in.mpr ⟨by omega, by omega⟩)) (wwL_in.mpr ⟨by omega, by omega⟩)), rfl⟩
end
