section
/-- the model at lo + 17 -/
def mmP (cI cL : ClassId) (lo : Nat) (h : ch_H) (Kf Nf Wf fz : Nat → Int) (n : Nat) (c : Int) (FB : Nat → Int64) (fh ff fl : Nat → Int) (hc sc : Int) : Prop := h (lo + 17) = some (.inr (11, [.ref (lo + 18), .ref (lo + 19), .ref (lo + 20), .int (iI (n : Int)), .ref (lo + 21), .int (iI c), .ref (lo + 22), .ref (lo + 23), .int (iI hc), .ref (lo + 24), .ref (lo + 25), .int (iI sc)])) ∧ h (lo + 18) = some (aI cI 61 Kf) ∧ h (lo + 19) = some (aI cI 366 Nf) ∧ h (lo + 20) = some (aI cI 61 Wf) ∧ h (lo + 21) = some (aI cI 6 fz) ∧ h (lo + 22) = some (.inl (cL, 1632, .inr (.inl FB))) ∧ h (lo + 23) = some (aL cL 200 fh) ∧ h (lo + 24) = some (aL cL 101 ff) ∧ h (lo + 25) = some (aL cL 101 fl)
def mfr (lo : Nat) (h h2 : ch_H) : Prop := ∀ b, b < lo + 17 ∨ lo + 26 ≤ b → h2 b = h b
set_option maxHeartbeats 4000000 in
set_option maxRecDepth 100000 in
theorem c_X12_isNear (l : Launch) (D : va_G) (cI cL cR : ClassId) (lo : Nat) (h : ch_H) (hi : Nat) (v : Int) (hv : ir v) : ch_C l (eE D cI cL cR lo) M_X12_isNear (rM 0 0 0) [.int (iI v)] h hi (fun r0 h2 hi2 => r0 = some (.int (iI (bI (nearB v)))) ∧ h = h2 ∧ hi = hi2) := by
  refine ch_C.of rfl (Nat.le_of_ble_eq_true rfl) ?_
  refine gx_iload_n 0 dX12_isNear_0 rfl rfl ?_
  refine gx_ldc (iI (-100000)) (by rw [show iI (-100000) = ((-100000) : Int32) by decide]; exact mw_3_74) dX12_isNear_1 ?_
  refine gy_icmp_lt 16 dX12_isNear_3 (by decide) (by constructor <;> omega) (by decide) (fun c3 => ?_) (fun c3 => ?_)
  · refine gx_iconst (iI 0) dX12_isNear_16 rfl ?_
    refine gx_zret rfl rfl dX12_isNear_17 (by first | exact Nat.le_of_ble_eq_true rfl | (simp only [rM]; omega)) (by first | exact Nat.le_of_ble_eq_true rfl | (simp only [rM]; omega)) ?_
    exact ⟨by rw [show nearB v = false from decide_eq_false (by omega)]; rfl, rfl, rfl⟩
  · refine gx_iload_n 0 dX12_isNear_6 rfl rfl ?_
    refine gx_ldc (iI 100000) (by rw [show iI 100000 = (100000 : Int32) by decide]; exact mw_3_75) dX12_isNear_7 ?_
    refine gy_icmp_gt 16 dX12_isNear_9 (by decide) (by constructor <;> omega) (by decide) (fun c9 => ?_) (fun c9 => ?_)
    · refine gx_iconst (iI 0) dX12_isNear_16 rfl ?_
      refine gx_zret rfl rfl dX12_isNear_17 (by first | exact Nat.le_of_ble_eq_true rfl | (simp only [rM]; omega)) (by first | exact Nat.le_of_ble_eq_true rfl | (simp only [rM]; omega)) ?_
      exact ⟨by rw [show nearB v = false from decide_eq_false (by omega)]; rfl, rfl, rfl⟩
    · refine gx_iconst (iI 1) dX12_isNear_12 rfl ?_
      refine gx_goto 17 dX12_isNear_13 (by decide) ?_
      refine gx_zret rfl rfl dX12_isNear_17 (by first | exact Nat.le_of_ble_eq_true rfl | (simp only [rM]; omega)) (by first | exact Nat.le_of_ble_eq_true rfl | (simp only [rM]; omega)) ?_
      exact ⟨by rw [show nearB v = true from decide_eq_true (by omega)]; rfl, rfl, rfl⟩
set_option maxHeartbeats 4000000 in
set_option maxRecDepth 100000 in
theorem c_X12_isSolid (l : Launch) (D : va_G) (cI cL cR : ClassId) (lo : Nat) (h : ch_H) (hi : Nat) (Kf Nf Wf fz : Nat → Int) (n : Nat) (c : Int) (FB : Nat → Int64) (fh ff fl : Nat → Int) (hc sc : Int) (MM : mmP cI cL lo h Kf Nf Wf fz n c FB fh ff fl hc sc) (hn : n ≤ 60) (s : Int) (hs : ir s) : ch_C l (eE D cI cL cR lo) M_X12_isSolid (rM 0 0 0) [.ref (lo + 17), .int (iI s)] h hi (fun r0 h2 hi2 => r0 = some (.int (iI (bI (decide (1 ≤ s ∧ s ≤ (n : Int)))))) ∧ h = h2 ∧ hi = hi2) := by
  refine ch_C.of rfl (Nat.le_of_ble_eq_true rfl) ?_
  have MM0 := MM
  obtain ⟨M0, M1, M2, M3, M4, M5, M6, M7, M8⟩ := MM
  refine gx_iload_n 1 dX12_isSolid_0 rfl rfl ?_
  refine gx_iconst (iI 1) dX12_isSolid_1 rfl ?_
  refine gy_icmp_lt 17 dX12_isSolid_2 (by decide) (by constructor <;> omega) (by decide) (fun c2 => ?_) (fun c2 => ?_)
  · refine gx_iconst (iI 0) dX12_isSolid_17 rfl ?_
    refine gx_zret rfl rfl dX12_isSolid_18 (by first | exact Nat.le_of_ble_eq_true rfl | (simp only [rM]; omega)) (by first | exact Nat.le_of_ble_eq_true rfl | (simp only [rM]; omega)) ?_
    exact ⟨by rw [show decide (1 ≤ s ∧ s ≤ (n : Int)) = false from decide_eq_false (by omega)]; rfl, rfl, rfl⟩
  · refine gx_iload_n 1 dX12_isSolid_5 rfl rfl ?_
    refine gx_aload_n 0 dX12_isSolid_6 rfl rfl ?_
    refine gx_get (ci := 11) (f := 3) (C := RX12) (T := TX12) (N := 12) rfl inX12 (by decide) mw_3_4 dX12_isSolid_7 M0 rfl ?_
    refine gy_icmp_gt 17 dX12_isSolid_10 (by decide) (by constructor <;> omega) (by constructor <;> omega) (fun c10 => ?_) (fun c10 => ?_)
    · refine gx_iconst (iI 0) dX12_isSolid_17 rfl ?_
      refine gx_zret rfl rfl dX12_isSolid_18 (by first | exact Nat.le_of_ble_eq_true rfl | (simp only [rM]; omega)) (by first | exact Nat.le_of_ble_eq_true rfl | (simp only [rM]; omega)) ?_
      exact ⟨by rw [show decide (1 ≤ s ∧ s ≤ (n : Int)) = false from decide_eq_false (by omega)]; rfl, rfl, rfl⟩
    · refine gx_iconst (iI 1) dX12_isSolid_13 rfl ?_
      refine gx_goto 18 dX12_isSolid_14 (by decide) ?_
      refine gx_zret rfl rfl dX12_isSolid_18 (by first | exact Nat.le_of_ble_eq_true rfl | (simp only [rM]; omega)) (by first | exact Nat.le_of_ble_eq_true rfl | (simp only [rM]; omega)) ?_
      exact ⟨by rw [show decide (1 ≤ s ∧ s ≤ (n : Int)) = true from decide_eq_true (by omega)]; rfl, rfl, rfl⟩
set_option maxHeartbeats 4000000 in
set_option maxRecDepth 100000 in
theorem c_X12_number (l : Launch) (D : va_G) (cI cL cR : ClassId) (lo : Nat) (h : ch_H) (hi : Nat) (Kf Nf Wf fz : Nat → Int) (n : Nat) (c : Int) (FB : Nat → Int64) (fh ff fl : Nat → Int) (hc sc : Int) (MM : mmP cI cL lo h Kf Nf Wf fz n c FB fh ff fl hc sc) (s k : Nat) (hs : s ≤ 60) (hk : k < 6) : ch_C l (eE D cI cL cR lo) M_X12_number (rM 0 0 0) [.ref (lo + 17), .int (iI (s : Int)), .int (iI (k : Int))] h hi (fun r0 h2 hi2 => r0 = some (.int (iI (Nf (6 * s + k)))) ∧ h = h2 ∧ hi = hi2) := by
  refine ch_C.of rfl (Nat.le_of_ble_eq_true rfl) ?_
  have MM0 := MM
  obtain ⟨M0, M1, M2, M3, M4, M5, M6, M7, M8⟩ := MM
  refine gx_aload_n 0 dX12_number_0 rfl rfl ?_
  refine gx_get (ci := 11) (f := 1) (C := RX12) (T := TX12) (N := 12) rfl inX12 (by decide) mw_3_2 dX12_number_1 M0 rfl ?_
  refine gx_bipush (iI 6) dX12_number_4 (by decide) ?_
  refine gx_iload_n 1 dX12_number_6 rfl rfl ?_
  refine gy_imul dX12_number_7 ?_
  refine gx_iload_n 2 dX12_number_8 rfl rfl ?_
  refine gy_iadd dX12_number_9 ?_
  refine gy_iald dX12_number_10 M2 (by omega) (by omega) (by decide) ?_
  refine gx_iret rfl dX12_number_11 (by first | exact Nat.le_of_ble_eq_true rfl | (simp only [rM]; omega)) (by first | exact Nat.le_of_ble_eq_true rfl | (simp only [rM]; omega)) ?_
  exact ⟨by rw [show (6 * (s : Int) + (k : Int)).toNat = 6 * s + k by omega], rfl, rfl⟩
set_option maxHeartbeats 4000000 in
set_option maxRecDepth 100000 in
theorem c_X12_size (l : Launch) (D : va_G) (cI cL cR : ClassId) (lo : Nat) (h : ch_H) (hi : Nat) (Kf Nf Wf fz : Nat → Int) (n : Nat) (c : Int) (FB : Nat → Int64) (fh ff fl : Nat → Int) (hc sc : Int) (MM : mmP cI cL lo h Kf Nf Wf fz n c FB fh ff fl hc sc) (hc6 : 0 ≤ c ∧ c ≤ 6) (v : Int) (hv : ir v) : ch_C l (eE D cI cL cR lo) M_X12_size (rM 0 0 0) [.ref (lo + 17), .int (iI v)] h hi (fun r0 h2 hi2 => r0 = some (.int (iI (if -5000 ≤ v ∧ v ≤ 5000 ∧ c < 6 then c + 1 else -1))) ∧ mmP cI cL lo h2 Kf Nf Wf (if -5000 ≤ v ∧ v ≤ 5000 ∧ c < 6 then updI fz c.toNat v else fz) n (if -5000 ≤ v ∧ v ≤ 5000 ∧ c < 6 then c + 1 else c) FB fh ff fl hc sc ∧ mfr lo h h2 ∧ hi = hi2) := by
  refine ch_C.of rfl (Nat.le_of_ble_eq_true rfl) ?_
  have MM0 := MM
  obtain ⟨M0, M1, M2, M3, M4, M5, M6, M7, M8⟩ := MM
  refine gx_iload_n 1 dX12_size_0 rfl rfl ?_
  refine gx_sipush (iI (-5000)) dX12_size_1 (by decide) ?_
  refine gy_icmp_lt 23 dX12_size_4 (by decide) (by constructor <;> omega) (by decide) (fun c4 => ?_) (fun c4 => ?_)
  · refine gx_iconst (iI (-1)) dX12_size_23 rfl ?_
    refine gx_iret rfl dX12_size_24 (by first | exact Nat.le_of_ble_eq_true rfl | (simp only [rM]; omega)) (by first | exact Nat.le_of_ble_eq_true rfl | (simp only [rM]; omega)) ?_
    exact ⟨by rw [if_neg (by omega)], by rw [if_neg (by omega), if_neg (by omega)]; exact MM0, fun b _ => rfl, rfl⟩
  · refine gx_iload_n 1 dX12_size_7 rfl rfl ?_
    refine gx_sipush (iI 5000) dX12_size_8 (by decide) ?_
    refine gy_icmp_gt 23 dX12_size_11 (by decide) (by constructor <;> omega) (by decide) (fun c11 => ?_) (fun c11 => ?_)
    · refine gx_iconst (iI (-1)) dX12_size_23 rfl ?_
      refine gx_iret rfl dX12_size_24 (by first | exact Nat.le_of_ble_eq_true rfl | (simp only [rM]; omega)) (by first | exact Nat.le_of_ble_eq_true rfl | (simp only [rM]; omega)) ?_
      exact ⟨by rw [if_neg (by omega)], by rw [if_neg (by omega), if_neg (by omega)]; exact MM0, fun b _ => rfl, rfl⟩
    · refine gx_aload_n 0 dX12_size_14 rfl rfl ?_
      refine gx_get (ci := 11) (f := 5) (C := RX12) (T := TX12) (N := 12) rfl inX12 (by decide) mw_3_6 dX12_size_15 M0 rfl ?_
      refine gx_bipush (iI 6) dX12_size_18 (by decide) ?_
      refine gy_icmp_ne 25 dX12_size_20 (by decide) (by constructor <;> omega) (by decide) (fun c20 => ?_) (fun c20 => ?_)
      · refine gx_aload_n 0 dX12_size_25 rfl rfl ?_
        refine gx_get (ci := 11) (f := 4) (C := RX12) (T := TX12) (N := 12) rfl inX12 (by decide) mw_3_5 dX12_size_26 M0 rfl ?_
        refine gx_aload_n 0 dX12_size_29 rfl rfl ?_
        refine gx_get (ci := 11) (f := 5) (C := RX12) (T := TX12) (N := 12) rfl inX12 (by decide) mw_3_6 dX12_size_30 M0 rfl ?_
        refine gx_iload_n 1 dX12_size_33 rfl rfl ?_
        refine gy_iast dX12_size_34 M4 (by omega) (by omega) (by decide) (fun h1 eh1 => ?_)
        have k2 : h1 (lo + 17) = some (.inr (11, [.ref (lo + 18), .ref (lo + 19), .ref (lo + 20), .int (iI (n : Int)), .ref (lo + 21), .int (iI c), .ref (lo + 22), .ref (lo + 23), .int (iI hc), .ref (lo + 24), .ref (lo + 25), .int (iI sc)])) := by rw [eh1, ch_set_ne (by first | assumption | exact Ne.symm (by assumption) | omega)]; exact M0
        have k3 : h1 (lo + 18) = some (aI cI 61 Kf) := by rw [eh1, ch_set_ne (by first | assumption | exact Ne.symm (by assumption) | omega)]; exact M1
        have k4 : h1 (lo + 19) = some (aI cI 366 Nf) := by rw [eh1, ch_set_ne (by first | assumption | exact Ne.symm (by assumption) | omega)]; exact M2
        have k5 : h1 (lo + 20) = some (aI cI 61 Wf) := by rw [eh1, ch_set_ne (by first | assumption | exact Ne.symm (by assumption) | omega)]; exact M3
        have k6 : h1 (lo + 22) = some (.inl (cL, 1632, .inr (.inl FB))) := by rw [eh1, ch_set_ne (by first | assumption | exact Ne.symm (by assumption) | omega)]; exact M5
        have k7 : h1 (lo + 23) = some (aL cL 200 fh) := by rw [eh1, ch_set_ne (by first | assumption | exact Ne.symm (by assumption) | omega)]; exact M6
        have k8 : h1 (lo + 24) = some (aL cL 101 ff) := by rw [eh1, ch_set_ne (by first | assumption | exact Ne.symm (by assumption) | omega)]; exact M7
        have k9 : h1 (lo + 25) = some (aL cL 101 fl) := by rw [eh1, ch_set_ne (by first | assumption | exact Ne.symm (by assumption) | omega)]; exact M8
        have k10 : h1 (lo + 21) = some (aI cI 6 (updI fz c.toNat v)) := by rw [eh1]; exact ch_set_self
        refine gx_aload_n 0 dX12_size_35 rfl rfl ?_
        refine gx_dup dX12_size_36 rfl ?_
        refine gx_get (ci := 11) (f := 5) (C := RX12) (T := TX12) (N := 12) rfl inX12 (by decide) mw_3_6 dX12_size_37 k2 rfl ?_
        refine gx_iconst (iI 1) dX12_size_40 rfl ?_
        refine gy_iadd dX12_size_41 ?_
        refine gy_put (ci := 11) (f := 5) (C := RX12) (T := TX12) (N := 12) (ty := .int) (fs2 := [.ref (lo + 18), .ref (lo + 19), .ref (lo + 20), .int (iI (n : Int)), .ref (lo + 21), .int (iI (c + 1)), .ref (lo + 22), .ref (lo + 23), .int (iI hc), .ref (lo + 24), .ref (lo + 25), .int (iI sc)]) tyX12 rfl inX12 tyX12_ok nmX12 (by decide) mw_3_6 (Or.inl rfl) (by decide +kernel) rfl rfl dX12_size_42 k2 (by simp) rfl (fun h11 eh11 => ?_)
        have k12 : h11 (lo + 18) = some (aI cI 61 Kf) := by rw [eh11, ch_set_ne (by first | assumption | exact Ne.symm (by assumption) | omega)]; exact k3
        have k13 : h11 (lo + 19) = some (aI cI 366 Nf) := by rw [eh11, ch_set_ne (by first | assumption | exact Ne.symm (by assumption) | omega)]; exact k4
        have k14 : h11 (lo + 20) = some (aI cI 61 Wf) := by rw [eh11, ch_set_ne (by first | assumption | exact Ne.symm (by assumption) | omega)]; exact k5
        have k15 : h11 (lo + 22) = some (.inl (cL, 1632, .inr (.inl FB))) := by rw [eh11, ch_set_ne (by first | assumption | exact Ne.symm (by assumption) | omega)]; exact k6
        have k16 : h11 (lo + 23) = some (aL cL 200 fh) := by rw [eh11, ch_set_ne (by first | assumption | exact Ne.symm (by assumption) | omega)]; exact k7
        have k17 : h11 (lo + 24) = some (aL cL 101 ff) := by rw [eh11, ch_set_ne (by first | assumption | exact Ne.symm (by assumption) | omega)]; exact k8
        have k18 : h11 (lo + 25) = some (aL cL 101 fl) := by rw [eh11, ch_set_ne (by first | assumption | exact Ne.symm (by assumption) | omega)]; exact k9
        have k19 : h11 (lo + 21) = some (aI cI 6 (updI fz c.toNat v)) := by rw [eh11, ch_set_ne (by first | assumption | exact Ne.symm (by assumption) | omega)]; exact k10
        have k20 : h11 (lo + 17) = some (.inr (11, [.ref (lo + 18), .ref (lo + 19), .ref (lo + 20), .int (iI (n : Int)), .ref (lo + 21), .int (iI (c + 1)), .ref (lo + 22), .ref (lo + 23), .int (iI hc), .ref (lo + 24), .ref (lo + 25), .int (iI sc)])) := by rw [eh11]; exact ch_set_self
        refine gx_aload_n 0 dX12_size_45 rfl rfl ?_
        refine gx_get (ci := 11) (f := 5) (C := RX12) (T := TX12) (N := 12) rfl inX12 (by decide) mw_3_6 dX12_size_46 k20 rfl ?_
        refine gx_iret rfl dX12_size_49 (by first | exact Nat.le_of_ble_eq_true rfl | (simp only [rM]; omega)) (by first | exact Nat.le_of_ble_eq_true rfl | (simp only [rM]; omega)) ?_
        exact ⟨by rw [if_pos ⟨by omega, by omega, by omega⟩], by rw [if_pos ⟨by omega, by omega, by omega⟩, if_pos ⟨by omega, by omega, by omega⟩]; exact ⟨k20, k12, k13, k14, k19, k15, k16, k17, k18⟩, fun b hb => by rw [eh11, ch_set_ne (by omega), eh1, ch_set_ne (by omega)], rfl⟩
      · refine gx_iconst (iI (-1)) dX12_size_23 rfl ?_
        refine gx_iret rfl dX12_size_24 (by first | exact Nat.le_of_ble_eq_true rfl | (simp only [rM]; omega)) (by first | exact Nat.le_of_ble_eq_true rfl | (simp only [rM]; omega)) ?_
        exact ⟨by rw [if_neg (by omega)], by rw [if_neg (by omega), if_neg (by omega)]; exact MM0, fun b _ => rfl, rfl⟩
set_option maxHeartbeats 4000000 in
set_option maxRecDepth 100000 in
theorem c_X12_weight (l : Launch) (D : va_G) (cI cL cR : ClassId) (lo : Nat) (h : ch_H) (hi : Nat) (Kf Nf Wf fz : Nat → Int) (n : Nat) (c : Int) (FB : Nat → Int64) (fh ff fl : Nat → Int) (hc sc : Int) (MM : mmP cI cL lo h Kf Nf Wf fz n c FB fh ff fl hc sc) (hn : n ≤ 60) (s : Int) (hs : ir s) : ch_C l (eE D cI cL cR lo) M_X12_weight (rM 1 0 0) [.ref (lo + 17), .int (iI s)] h hi (fun r0 h2 hi2 => r0 = some (.int (iI (if 1 ≤ s ∧ s ≤ (n : Int) then Wf s.toNat else -1))) ∧ h = h2 ∧ hi = hi2) := by
  refine ch_C.of rfl (Nat.le_of_ble_eq_true rfl) ?_
  have MM0 := MM
  obtain ⟨M0, M1, M2, M3, M4, M5, M6, M7, M8⟩ := MM
  refine gx_aload_n 0 dX12_weight_0 rfl rfl ?_
  refine gx_iload_n 1 dX12_weight_1 rfl rfl ?_
  refine gx_callV (ci := 11) (c_X12_isSolid l D cI cL cR lo h hi Kf Nf Wf fz n c FB fh ff fl hc sc MM0 hn s (by constructor <;> omega)) ok_X12_isSolid mw_3_55 mw_3_57 mw_p_12 dX12_weight_2 rfl M0 rfl rfl (Nat.le_of_ble_eq_true rfl) (by first | exact Nat.le_of_ble_eq_true rfl | (simp only [rM]; omega)) (by first | exact Nat.le_of_ble_eq_true rfl | (simp only [rM]; omega)) (by first | exact Nat.le_of_ble_eq_true rfl | (simp only [rM]; omega)) (by first | exact Nat.le_of_ble_eq_true rfl | (simp only [rM]; omega)) (fun r1 h2 u3 q4 g5 => ?_)
  obtain ⟨rfl, rfl, rfl⟩ := q4
  refine ch_Gst (st2 := [.int (iI (bI (decide (1 ≤ s ∧ s ≤ (n : Int)))))]) rfl ?_
  refine gy_if_eq 17 dX12_weight_5 (by decide) ir_bI (fun c5 => ?_) (fun c5 => ?_)
  · have hq5 := of_decide_eq_false (bI_0 c5)
    refine gx_iconst (iI (-1)) dX12_weight_17 rfl ?_
    refine gx_iret rfl dX12_weight_18 (by first | exact Nat.le_of_ble_eq_true rfl | (simp only [rM]; omega)) (by first | exact Nat.le_of_ble_eq_true rfl | (simp only [rM]; omega)) ?_
    exact ⟨by rw [if_neg hq5], rfl, rfl⟩
  · have hq5 := of_decide_eq_true (bI_1 c5)
    refine gx_aload_n 0 dX12_weight_8 rfl rfl ?_
    refine gx_get (ci := 11) (f := 2) (C := RX12) (T := TX12) (N := 12) rfl inX12 (by decide) mw_3_3 dX12_weight_9 M0 rfl ?_
    refine gx_iload_n 1 dX12_weight_12 rfl rfl ?_
    refine gy_iald dX12_weight_13 M3 (by omega) (by omega) (by decide) ?_
    refine gx_goto 18 dX12_weight_14 (by decide) ?_
    refine gx_iret rfl dX12_weight_18 (by first | exact Nat.le_of_ble_eq_true rfl | (simp only [rM]; omega)) (by first | exact Nat.le_of_ble_eq_true rfl | (simp only [rM]; omega)) ?_
    exact ⟨by rw [if_pos hq5], rfl, rfl⟩
/-- the numbers with the first k of a solid's copied -/
def mdN (Nf fz : Nat → Int) (s : Nat) : Nat → Nat → Int
  | 0 => Nf
  | k + 1 => updI (mdN Nf fz s k) (6 * s + k) (fz k)
theorem mdN_o {Nf fz : Nat → Int} {s : Nat} : ∀ (k : Nat) {j : Nat}, j < 6 * s ∨ 6 * s + k ≤ j → mdN Nf fz s k j = Nf j := by
  intro k
  induction k with
  | zero => intro j _; rfl
  | succ k ih => intro j hj; rw [mdN, updI_n (by omega)]; exact ih (by omega)
theorem mdN_i {Nf fz : Nat → Int} {s : Nat} : ∀ (k : Nat) {j : Nat}, j < k → mdN Nf fz s k (6 * s + j) = fz j := by
  intro k
  induction k with
  | zero => intro j hj; omega
  | succ k ih =>
    intro j hj
    rw [mdN]
    by_cases q : j = k
    · rw [q, updI_s]
    · rw [updI_n (by omega)]; exact ih (by omega)
set_option maxHeartbeats 4000000 in
set_option maxRecDepth 100000 in
theorem c_X12_made (l : Launch) (D : va_G) (cI cL cR : ClassId) (lo : Nat) (h : ch_H) (hi : Nat) (Kf Nf Wf fz : Nat → Int) (n : Nat) (c : Int) (FB : Nat → Int64) (fh ff fl : Nat → Int) (hc sc : Int) (MM : mmP cI cL lo h Kf Nf Wf fz n c FB fh ff fl hc sc) (hnf : n < 60) (kind w : Int) : ch_C l (eE D cI cL cR lo) M_X12_made (rM 0 0 0) [.ref (lo + 17), .int (iI kind), .int (iI w)] h hi (fun r0 h2 hi2 => r0 = some (.int (iI ((n : Int) + 1))) ∧ mmP cI cL lo h2 (updI Kf (n + 1) kind) (mdN Nf fz (n + 1) 6) (updI Wf (n + 1) w) fz (n + 1) c FB fh ff fl hc sc ∧ mfr lo h h2 ∧ hi = hi2) := by
  refine ch_C.of rfl (Nat.le_of_ble_eq_true rfl) ?_
  have MM0 := MM
  obtain ⟨M0, M1, M2, M3, M4, M5, M6, M7, M8⟩ := MM
  have loop : ∀ (m : Nat) (z : Int) (hh : ch_H), (0 ≤ z) → (z ≤ 6) → (7 ≤ z + m) → (hh (lo + 17) = some (.inr (11, [.ref (lo + 18), .ref (lo + 19), .ref (lo + 20), .int (iI ((n : Int) + 1)), .ref (lo + 21), .int (iI c), .ref (lo + 22), .ref (lo + 23), .int (iI hc), .ref (lo + 24), .ref (lo + 25), .int (iI sc)]))) → (hh (lo + 18) = some (aI cI 61 (updI Kf (n + 1) kind))) → (hh (lo + 19) = some (aI cI 366 (mdN Nf fz (n + 1) z.toNat))) → (hh (lo + 20) = some (aI cI 61 (updI Wf (n + 1) w))) → (hh (lo + 21) = some (aI cI 6 fz)) → (hh (lo + 22) = some (.inl (cL, 1632, .inr (.inl FB)))) → (hh (lo + 23) = some (aL cL 200 fh)) → (hh (lo + 24) = some (aL cL 101 ff)) → (hh (lo + 25) = some (aL cL 101 fl)) → (mfr lo h hh) → ch_G l (eE D cI cL cR lo) M_X12_made ch_T (rM 0 0 0) (ch_Z (eE D cI cL cR lo) 0 0 (fun r0 h2 hi2 => r0 = some (.int (iI ((n : Int) + 1))) ∧ mmP cI cL lo h2 (updI Kf (n + 1) kind) (mdN Nf fz (n + 1) 6) (updI Wf (n + 1) w) fz (n + 1) c FB fh ff fl hc sc ∧ mfr lo h h2 ∧ hi = hi2)) 0 0 hh hi 32 [(0, .ref (lo + 17)), (3, .int (iI z))] [] := by
    intro m
    induction m with
    | zero => intro z hh hz0 hz1 hzm V0 V1 V2 V3 V4 V5 V6 V7 V8 mf; exfalso; omega
    | succ m ih =>
      intro z hh hz0 hz1 hzm V0 V1 V2 V3 V4 V5 V6 V7 V8 mf
      refine gx_iload_n 1 dX12_made_32 rfl rfl ?_
      refine gx_bipush (iI 6) dX12_made_33 (by decide) ?_
      refine gy_icmp_ge 64 dX12_made_35 (by decide) (by constructor <;> omega) (by decide) (fun c35 => ?_) (fun c35 => ?_)
      · refine gx_aload_n 0 dX12_made_64 rfl rfl ?_
        refine gx_get (ci := 11) (f := 3) (C := RX12) (T := TX12) (N := 12) rfl inX12 (by decide) mw_3_4 dX12_made_65 V0 rfl ?_
        refine gx_iret rfl dX12_made_68 (by first | exact Nat.le_of_ble_eq_true rfl | (simp only [rM]; omega)) (by first | exact Nat.le_of_ble_eq_true rfl | (simp only [rM]; omega)) ?_
        have e6 : z.toNat = 6 := by omega
        rw [e6] at V2
        exact ⟨rfl, ⟨V0, V1, V2, V3, V4, V5, V6, V7, V8⟩, mf, rfl⟩
      · refine gx_aload_n 0 dX12_made_38 rfl rfl ?_
        refine gx_get (ci := 11) (f := 1) (C := RX12) (T := TX12) (N := 12) rfl inX12 (by decide) mw_3_2 dX12_made_39 V0 rfl ?_
        refine gx_bipush (iI 6) dX12_made_42 (by decide) ?_
        refine gx_aload_n 0 dX12_made_44 rfl rfl ?_
        refine gx_get (ci := 11) (f := 3) (C := RX12) (T := TX12) (N := 12) rfl inX12 (by decide) mw_3_4 dX12_made_45 V0 rfl ?_
        refine gy_imul dX12_made_48 ?_
        refine gx_iload_n 1 dX12_made_49 rfl rfl ?_
        refine gy_iadd dX12_made_50 ?_
        refine gx_aload_n 0 dX12_made_51 rfl rfl ?_
        refine gx_get (ci := 11) (f := 4) (C := RX12) (T := TX12) (N := 12) rfl inX12 (by decide) mw_3_5 dX12_made_52 V0 rfl ?_
        refine gx_iload_n 1 dX12_made_55 rfl rfl ?_
        refine gy_iald dX12_made_56 V4 (by omega) (by omega) (by decide) ?_
        refine gy_iast dX12_made_57 V2 (by omega) (by omega) (by decide) (fun h1 eh1 => ?_)
        have k2 : h1 (lo + 17) = some (.inr (11, [.ref (lo + 18), .ref (lo + 19), .ref (lo + 20), .int (iI ((n : Int) + 1)), .ref (lo + 21), .int (iI c), .ref (lo + 22), .ref (lo + 23), .int (iI hc), .ref (lo + 24), .ref (lo + 25), .int (iI sc)])) := by rw [eh1, ch_set_ne (by first | assumption | exact Ne.symm (by assumption) | omega)]; exact V0
        have k3 : h1 (lo + 18) = some (aI cI 61 (updI Kf (n + 1) kind)) := by rw [eh1, ch_set_ne (by first | assumption | exact Ne.symm (by assumption) | omega)]; exact V1
        have k4 : h1 (lo + 20) = some (aI cI 61 (updI Wf (n + 1) w)) := by rw [eh1, ch_set_ne (by first | assumption | exact Ne.symm (by assumption) | omega)]; exact V3
        have k5 : h1 (lo + 21) = some (aI cI 6 fz) := by rw [eh1, ch_set_ne (by first | assumption | exact Ne.symm (by assumption) | omega)]; exact V4
        have k6 : h1 (lo + 22) = some (.inl (cL, 1632, .inr (.inl FB))) := by rw [eh1, ch_set_ne (by first | assumption | exact Ne.symm (by assumption) | omega)]; exact V5
        have k7 : h1 (lo + 23) = some (aL cL 200 fh) := by rw [eh1, ch_set_ne (by first | assumption | exact Ne.symm (by assumption) | omega)]; exact V6
        have k8 : h1 (lo + 24) = some (aL cL 101 ff) := by rw [eh1, ch_set_ne (by first | assumption | exact Ne.symm (by assumption) | omega)]; exact V7
        have k9 : h1 (lo + 25) = some (aL cL 101 fl) := by rw [eh1, ch_set_ne (by first | assumption | exact Ne.symm (by assumption) | omega)]; exact V8
        have k10 : h1 (lo + 19) = some (aI cI 366 (updI (mdN Nf fz (n + 1) z.toNat) ((6 * ((n : Int) + 1)) + z).toNat (fz z.toNat))) := by rw [eh1]; exact ch_set_self
        refine gy_iinc 1 [(3, .int (iI (z + 1))), (0, .ref (lo + 17))] dX12_made_58 rfl (by decide) rfl ?_
        refine gx_goto 32 dX12_made_61 (by decide) ?_
        refine ch_Glv (lv' := [(0, .ref (lo + 17)), (3, .int (iI (z + 1)))]) [1, 0] rfl ?_
        have e : updI (mdN Nf fz (n + 1) z.toNat) (6 * ((n : Int) + 1) + z).toNat (fz z.toNat) = mdN Nf fz (n + 1) (z + 1).toNat := by rw [show (z + 1).toNat = z.toNat + 1 by omega, mdN, show (6 * ((n : Int) + 1) + z).toNat = 6 * (n + 1) + z.toNat by omega]
        have t2 := k10
        rw [e] at t2
        exact ih _ _ (by omega) (by omega) (by omega) k2 k3 t2 k4 k5 k6 k7 k8 k9 (fun b hb => by rw [eh1, ch_set_ne (by omega)]; exact mf b hb)
  refine gx_aload_n 0 dX12_made_0 rfl rfl ?_
  refine gx_dup dX12_made_1 rfl ?_
  refine gx_get (ci := 11) (f := 3) (C := RX12) (T := TX12) (N := 12) rfl inX12 (by decide) mw_3_4 dX12_made_2 M0 rfl ?_
  refine gx_iconst (iI 1) dX12_made_5 rfl ?_
  refine gy_iadd dX12_made_6 ?_
  refine gy_put (ci := 11) (f := 3) (C := RX12) (T := TX12) (N := 12) (ty := .int) (fs2 := [.ref (lo + 18), .ref (lo + 19), .ref (lo + 20), .int (iI ((n : Int) + 1)), .ref (lo + 21), .int (iI c), .ref (lo + 22), .ref (lo + 23), .int (iI hc), .ref (lo + 24), .ref (lo + 25), .int (iI sc)]) tyX12 rfl inX12 tyX12_ok nmX12 (by decide) mw_3_4 (Or.inl rfl) (by decide +kernel) rfl rfl dX12_made_7 M0 (by simp) rfl (fun h1 eh1 => ?_)
  have k2 : h1 (lo + 18) = some (aI cI 61 Kf) := by rw [eh1, ch_set_ne (by first | assumption | exact Ne.symm (by assumption) | omega)]; exact M1
  have k3 : h1 (lo + 19) = some (aI cI 366 Nf) := by rw [eh1, ch_set_ne (by first | assumption | exact Ne.symm (by assumption) | omega)]; exact M2
  have k4 : h1 (lo + 20) = some (aI cI 61 Wf) := by rw [eh1, ch_set_ne (by first | assumption | exact Ne.symm (by assumption) | omega)]; exact M3
  have k5 : h1 (lo + 21) = some (aI cI 6 fz) := by rw [eh1, ch_set_ne (by first | assumption | exact Ne.symm (by assumption) | omega)]; exact M4
  have k6 : h1 (lo + 22) = some (.inl (cL, 1632, .inr (.inl FB))) := by rw [eh1, ch_set_ne (by first | assumption | exact Ne.symm (by assumption) | omega)]; exact M5
  have k7 : h1 (lo + 23) = some (aL cL 200 fh) := by rw [eh1, ch_set_ne (by first | assumption | exact Ne.symm (by assumption) | omega)]; exact M6
  have k8 : h1 (lo + 24) = some (aL cL 101 ff) := by rw [eh1, ch_set_ne (by first | assumption | exact Ne.symm (by assumption) | omega)]; exact M7
  have k9 : h1 (lo + 25) = some (aL cL 101 fl) := by rw [eh1, ch_set_ne (by first | assumption | exact Ne.symm (by assumption) | omega)]; exact M8
  have k10 : h1 (lo + 17) = some (.inr (11, [.ref (lo + 18), .ref (lo + 19), .ref (lo + 20), .int (iI ((n : Int) + 1)), .ref (lo + 21), .int (iI c), .ref (lo + 22), .ref (lo + 23), .int (iI hc), .ref (lo + 24), .ref (lo + 25), .int (iI sc)])) := by rw [eh1]; exact ch_set_self
  refine gx_aload_n 0 dX12_made_10 rfl rfl ?_
  refine gx_get (ci := 11) (f := 0) (C := RX12) (T := TX12) (N := 12) rfl inX12 (by decide) mw_3_1 dX12_made_11 k10 rfl ?_
  refine gx_aload_n 0 dX12_made_14 rfl rfl ?_
  refine gx_get (ci := 11) (f := 3) (C := RX12) (T := TX12) (N := 12) rfl inX12 (by decide) mw_3_4 dX12_made_15 k10 rfl ?_
  refine gx_iload_n 1 dX12_made_18 rfl rfl ?_
  refine gy_iast dX12_made_19 k2 (by omega) (by omega) (by decide) (fun h11 eh11 => ?_)
  have k12 : h11 (lo + 19) = some (aI cI 366 Nf) := by rw [eh11, ch_set_ne (by first | assumption | exact Ne.symm (by assumption) | omega)]; exact k3
  have k13 : h11 (lo + 20) = some (aI cI 61 Wf) := by rw [eh11, ch_set_ne (by first | assumption | exact Ne.symm (by assumption) | omega)]; exact k4
  have k14 : h11 (lo + 21) = some (aI cI 6 fz) := by rw [eh11, ch_set_ne (by first | assumption | exact Ne.symm (by assumption) | omega)]; exact k5
  have k15 : h11 (lo + 22) = some (.inl (cL, 1632, .inr (.inl FB))) := by rw [eh11, ch_set_ne (by first | assumption | exact Ne.symm (by assumption) | omega)]; exact k6
  have k16 : h11 (lo + 23) = some (aL cL 200 fh) := by rw [eh11, ch_set_ne (by first | assumption | exact Ne.symm (by assumption) | omega)]; exact k7
  have k17 : h11 (lo + 24) = some (aL cL 101 ff) := by rw [eh11, ch_set_ne (by first | assumption | exact Ne.symm (by assumption) | omega)]; exact k8
  have k18 : h11 (lo + 25) = some (aL cL 101 fl) := by rw [eh11, ch_set_ne (by first | assumption | exact Ne.symm (by assumption) | omega)]; exact k9
  have k19 : h11 (lo + 17) = some (.inr (11, [.ref (lo + 18), .ref (lo + 19), .ref (lo + 20), .int (iI ((n : Int) + 1)), .ref (lo + 21), .int (iI c), .ref (lo + 22), .ref (lo + 23), .int (iI hc), .ref (lo + 24), .ref (lo + 25), .int (iI sc)])) := by rw [eh11, ch_set_ne (by first | assumption | exact Ne.symm (by assumption) | omega)]; exact k10
  have k20 : h11 (lo + 18) = some (aI cI 61 (updI Kf ((n : Int) + 1).toNat kind)) := by rw [eh11]; exact ch_set_self
  refine gx_aload_n 0 dX12_made_20 rfl rfl ?_
  refine gx_get (ci := 11) (f := 2) (C := RX12) (T := TX12) (N := 12) rfl inX12 (by decide) mw_3_3 dX12_made_21 k19 rfl ?_
  refine gx_aload_n 0 dX12_made_24 rfl rfl ?_
  refine gx_get (ci := 11) (f := 3) (C := RX12) (T := TX12) (N := 12) rfl inX12 (by decide) mw_3_4 dX12_made_25 k19 rfl ?_
  refine gx_iload_n 2 dX12_made_28 rfl rfl ?_
  refine gy_iast dX12_made_29 k13 (by omega) (by omega) (by decide) (fun h21 eh21 => ?_)
  have k22 : h21 (lo + 19) = some (aI cI 366 Nf) := by rw [eh21, ch_set_ne (by first | assumption | exact Ne.symm (by assumption) | omega)]; exact k12
  have k23 : h21 (lo + 21) = some (aI cI 6 fz) := by rw [eh21, ch_set_ne (by first | assumption | exact Ne.symm (by assumption) | omega)]; exact k14
  have k24 : h21 (lo + 22) = some (.inl (cL, 1632, .inr (.inl FB))) := by rw [eh21, ch_set_ne (by first | assumption | exact Ne.symm (by assumption) | omega)]; exact k15
  have k25 : h21 (lo + 23) = some (aL cL 200 fh) := by rw [eh21, ch_set_ne (by first | assumption | exact Ne.symm (by assumption) | omega)]; exact k16
  have k26 : h21 (lo + 24) = some (aL cL 101 ff) := by rw [eh21, ch_set_ne (by first | assumption | exact Ne.symm (by assumption) | omega)]; exact k17
  have k27 : h21 (lo + 25) = some (aL cL 101 fl) := by rw [eh21, ch_set_ne (by first | assumption | exact Ne.symm (by assumption) | omega)]; exact k18
  have k28 : h21 (lo + 17) = some (.inr (11, [.ref (lo + 18), .ref (lo + 19), .ref (lo + 20), .int (iI ((n : Int) + 1)), .ref (lo + 21), .int (iI c), .ref (lo + 22), .ref (lo + 23), .int (iI hc), .ref (lo + 24), .ref (lo + 25), .int (iI sc)])) := by rw [eh21, ch_set_ne (by first | assumption | exact Ne.symm (by assumption) | omega)]; exact k19
  have k29 : h21 (lo + 18) = some (aI cI 61 (updI Kf ((n : Int) + 1).toNat kind)) := by rw [eh21, ch_set_ne (by first | assumption | exact Ne.symm (by assumption) | omega)]; exact k20
  have k30 : h21 (lo + 20) = some (aI cI 61 (updI Wf ((n : Int) + 1).toNat w)) := by rw [eh21]; exact ch_set_self
  refine gx_iconst (iI 0) dX12_made_30 rfl ?_
  refine gx_istore_n [(3, .int (iI 0)), (0, .ref (lo + 17)), (1, .int (iI kind)), (2, .int (iI w))] dX12_made_31 rfl (by decide) rfl ?_
  refine ch_Glv (lv' := [(0, .ref (lo + 17)), (3, .int (iI 0))]) [1, 0] rfl ?_
  have e1 : ((n : Int) + 1).toNat = n + 1 := by omega
  have t1 := k29
  rw [e1] at t1
  have t3 := k30
  rw [e1] at t3
  exact loop 7 0 _ (by omega) (by omega) (by omega) k28 t1 k22 t3 k23 k24 k25 k26 k27 (fun b hb => by rw [eh21, ch_set_ne (by omega), eh11, ch_set_ne (by omega), eh1, ch_set_ne (by omega)])
set_option maxHeartbeats 4000000 in
set_option maxRecDepth 100000 in
theorem c_X12_turned (l : Launch) (D : va_G) (cI cL cR : ClassId) (lo : Nat) (h : ch_H) (hi : Nat) (Kf Nf Wf fz : Nat → Int) (n : Nat) (c : Int) (FB : Nat → Int64) (fh ff fl : Nat → Int) (hc sc : Int) (MM : mmP cI cL lo h Kf Nf Wf fz n c FB fh ff fl hc sc) (hn : n ≤ 60) (HW : ∀ s, 1 ≤ s → s ≤ n → wfS Kf Nf Wf s) (s : Int) (hs : ir s) : ch_C l (eE D cI cL cR lo) M_X12_turned (rM 1 0 0) [.ref (lo + 17), .int (iI s)] h hi (fun r0 h2 hi2 => (((1 ≤ s ∧ s ≤ (n : Int) ∧ Wf s.toNat + 1 ≤ 100) ∧ n < 60) → r0 = some (.int (iI ((n : Int) + 1))) ∧ mmP cI cL lo h2 (updI Kf (n + 1) 6) (updI (mdN Nf fz (n + 1) 6) (6 * (n + 1)) s) (updI Wf (n + 1) (Wf s.toNat + 1)) fz (n + 1) c FB fh ff fl hc sc) ∧ (¬ ((1 ≤ s ∧ s ≤ (n : Int) ∧ Wf s.toNat + 1 ≤ 100) ∧ n < 60) → r0 = some (.int (iI (if 1 ≤ s ∧ s ≤ (n : Int) ∧ Wf s.toNat + 1 ≤ 100 then -2 else -1))) ∧ mmP cI cL lo h2 Kf Nf Wf fz n c FB fh ff fl hc sc) ∧ mfr lo h h2 ∧ hi = hi2) := by
  refine ch_C.of rfl (Nat.le_of_ble_eq_true rfl) ?_
  have MM0 := MM
  obtain ⟨M0, M1, M2, M3, M4, M5, M6, M7, M8⟩ := MM
  refine gx_aload_n 0 dX12_turned_0 rfl rfl ?_
  refine gx_iload_n 1 dX12_turned_1 rfl rfl ?_
  refine gx_callV (ci := 11) (c_X12_isSolid l D cI cL cR lo h hi Kf Nf Wf fz n c FB fh ff fl hc sc MM0 hn s (by constructor <;> omega)) ok_X12_isSolid mw_3_55 mw_3_57 mw_p_12 dX12_turned_2 rfl M0 rfl rfl (Nat.le_of_ble_eq_true rfl) (by first | exact Nat.le_of_ble_eq_true rfl | (simp only [rM]; omega)) (by first | exact Nat.le_of_ble_eq_true rfl | (simp only [rM]; omega)) (by first | exact Nat.le_of_ble_eq_true rfl | (simp only [rM]; omega)) (by first | exact Nat.le_of_ble_eq_true rfl | (simp only [rM]; omega)) (fun r1 h2 u3 q4 g5 => ?_)
  obtain ⟨rfl, rfl, rfl⟩ := q4
  refine ch_Gst (st2 := [.int (iI (bI (decide (1 ≤ s ∧ s ≤ (n : Int)))))]) rfl ?_
  refine gy_if_eq 19 dX12_turned_5 (by decide) ir_bI (fun c5 => ?_) (fun c5 => ?_)
  · have hq5 := of_decide_eq_false (bI_0 c5)
    refine gx_iconst (iI (-1)) dX12_turned_19 rfl ?_
    refine gx_iret rfl dX12_turned_20 (by first | exact Nat.le_of_ble_eq_true rfl | (simp only [rM]; omega)) (by first | exact Nat.le_of_ble_eq_true rfl | (simp only [rM]; omega)) ?_
    have hno : ¬ (1 ≤ s ∧ s ≤ (n : Int) ∧ Wf s.toNat + 1 ≤ 100) := by omega
    exact ⟨fun q => absurd q.1 hno, fun _ => ⟨by rw [if_neg hno], ⟨M0, M1, M2, M3, M4, M5, M6, M7, M8⟩⟩, fun b _ => rfl, rfl⟩
  · have hq5 := of_decide_eq_true (bI_1 c5)
    have hWss := (HW s.toNat (by omega) (by omega)).1
    refine gx_aload_n 0 dX12_turned_8 rfl rfl ?_
    refine gx_get (ci := 11) (f := 2) (C := RX12) (T := TX12) (N := 12) rfl inX12 (by decide) mw_3_3 dX12_turned_9 M0 rfl ?_
    refine gx_iload_n 1 dX12_turned_12 rfl rfl ?_
    refine gy_iald dX12_turned_13 M3 (by omega) (by omega) (by decide) ?_
    refine gx_bipush (iI 100) dX12_turned_14 (by decide) ?_
    refine gy_icmp_ne 21 dX12_turned_16 (by decide) (by constructor <;> omega) (by decide) (fun c16 => ?_) (fun c16 => ?_)
    · refine gx_aload_n 0 dX12_turned_21 rfl rfl ?_
      refine gx_get (ci := 11) (f := 3) (C := RX12) (T := TX12) (N := 12) rfl inX12 (by decide) mw_3_4 dX12_turned_22 M0 rfl ?_
      refine gx_bipush (iI 60) dX12_turned_25 (by decide) ?_
      refine gy_icmp_ne 33 dX12_turned_27 (by decide) (by constructor <;> omega) (by decide) (fun c27 => ?_) (fun c27 => ?_)
      · refine gx_aload_n 0 dX12_turned_33 rfl rfl ?_
        refine gx_bipush (iI 6) dX12_turned_34 (by decide) ?_
        refine gx_aload_n 0 dX12_turned_36 rfl rfl ?_
        refine gx_get (ci := 11) (f := 2) (C := RX12) (T := TX12) (N := 12) rfl inX12 (by decide) mw_3_3 dX12_turned_37 M0 rfl ?_
        refine gx_iload_n 1 dX12_turned_40 rfl rfl ?_
        refine gy_iald dX12_turned_41 M3 (by omega) (by omega) (by decide) ?_
        refine gx_iconst (iI 1) dX12_turned_42 rfl ?_
        refine gy_iadd dX12_turned_43 ?_
        refine gx_callV (ci := 11) (c_X12_made l D cI cL cR lo h hi Kf Nf Wf fz n c FB fh ff fl hc sc ⟨M0, M1, M2, M3, M4, M5, M6, M7, M8⟩ (by omega) 6 ((Wf s.toNat) + 1)) ok_X12_made mw_3_47 mw_3_49 mw_p_11 dX12_turned_44 rfl M0 rfl rfl (Nat.le_of_ble_eq_true rfl) (by first | exact Nat.le_of_ble_eq_true rfl | (simp only [rM]; omega)) (by first | exact Nat.le_of_ble_eq_true rfl | (simp only [rM]; omega)) (by first | exact Nat.le_of_ble_eq_true rfl | (simp only [rM]; omega)) (by first | exact Nat.le_of_ble_eq_true rfl | (simp only [rM]; omega)) (fun r6 h7 u8 q9 g10 => ?_)
        obtain ⟨rfl, ⟨P0, P1, P2, P3, P4, P5, P6, P7, P8⟩, mfd, rfl⟩ := q9
        refine ch_Gst (st2 := [.int (iI ((n : Int) + 1))]) rfl ?_
        refine gx_istore_n [(2, .int (iI ((n : Int) + 1))), (0, .ref (lo + 17)), (1, .int (iI s))] dX12_turned_47 rfl (by decide) rfl ?_
        refine gx_aload_n 1 dX12_turned_48 rfl rfl ?_
        refine gx_get (ci := 11) (f := 1) (C := RX12) (T := TX12) (N := 12) rfl inX12 (by decide) mw_3_2 dX12_turned_49 P0 rfl ?_
        refine gx_bipush (iI 6) dX12_turned_52 (by decide) ?_
        refine gx_iload_n 0 dX12_turned_54 rfl rfl ?_
        refine gy_imul dX12_turned_55 ?_
        refine gx_iload_n 2 dX12_turned_56 rfl rfl ?_
        refine gy_iast dX12_turned_57 P2 (by omega) (by omega) (by decide) (fun h11 eh11 => ?_)
        have k12 : h11 (lo + 17) = some (.inr (11, [.ref (lo + 18), .ref (lo + 19), .ref (lo + 20), .int (iI ((n + 1 : Nat) : Int)), .ref (lo + 21), .int (iI c), .ref (lo + 22), .ref (lo + 23), .int (iI hc), .ref (lo + 24), .ref (lo + 25), .int (iI sc)])) := by rw [eh11, ch_set_ne (by first | assumption | exact Ne.symm (by assumption) | omega)]; exact P0
        have k13 : h11 (lo + 18) = some (aI cI 61 (updI Kf (n + 1) 6)) := by rw [eh11, ch_set_ne (by first | assumption | exact Ne.symm (by assumption) | omega)]; exact P1
        have k14 : h11 (lo + 20) = some (aI cI 61 (updI Wf (n + 1) ((Wf s.toNat) + 1))) := by rw [eh11, ch_set_ne (by first | assumption | exact Ne.symm (by assumption) | omega)]; exact P3
        have k15 : h11 (lo + 21) = some (aI cI 6 fz) := by rw [eh11, ch_set_ne (by first | assumption | exact Ne.symm (by assumption) | omega)]; exact P4
        have k16 : h11 (lo + 22) = some (.inl (cL, 1632, .inr (.inl FB))) := by rw [eh11, ch_set_ne (by first | assumption | exact Ne.symm (by assumption) | omega)]; exact P5
        have k17 : h11 (lo + 23) = some (aL cL 200 fh) := by rw [eh11, ch_set_ne (by first | assumption | exact Ne.symm (by assumption) | omega)]; exact P6
        have k18 : h11 (lo + 24) = some (aL cL 101 ff) := by rw [eh11, ch_set_ne (by first | assumption | exact Ne.symm (by assumption) | omega)]; exact P7
        have k19 : h11 (lo + 25) = some (aL cL 101 fl) := by rw [eh11, ch_set_ne (by first | assumption | exact Ne.symm (by assumption) | omega)]; exact P8
        have k20 : h11 (lo + 19) = some (aI cI 366 (updI (mdN Nf fz (n + 1) 6) (6 * ((n : Int) + 1)).toNat s)) := by rw [eh11]; exact ch_set_self
        refine gx_iload_n 0 dX12_turned_58 rfl rfl ?_
        refine gx_iret rfl dX12_turned_59 (by first | exact Nat.le_of_ble_eq_true rfl | (simp only [rM]; omega)) (by first | exact Nat.le_of_ble_eq_true rfl | (simp only [rM]; omega)) ?_
        have hok : 1 ≤ s ∧ s ≤ (n : Int) ∧ Wf s.toNat + 1 ≤ 100 := ⟨hq5.1, hq5.2, by omega⟩
        have tN := k20
        rw [show (6 * ((n : Int) + 1)).toNat = 6 * (n + 1) by omega] at tN
        exact ⟨fun _ => ⟨rfl, ⟨k12, k13, tN, k14, k15, k16, k17, k18, k19⟩⟩, fun q => absurd ⟨hok, by omega⟩ q, fun b hb => by rw [eh11, ch_set_ne (by omega), mfd b hb], rfl⟩
      · refine gx_bipush (iI (-2)) dX12_turned_30 (by decide) ?_
        refine gx_iret rfl dX12_turned_32 (by first | exact Nat.le_of_ble_eq_true rfl | (simp only [rM]; omega)) (by first | exact Nat.le_of_ble_eq_true rfl | (simp only [rM]; omega)) ?_
        have hok : 1 ≤ s ∧ s ≤ (n : Int) ∧ Wf s.toNat + 1 ≤ 100 := ⟨hq5.1, hq5.2, by omega⟩
        exact ⟨fun q => absurd q.2 (by omega), fun _ => ⟨by rw [if_pos hok], ⟨M0, M1, M2, M3, M4, M5, M6, M7, M8⟩⟩, fun b _ => rfl, rfl⟩
    · refine gx_iconst (iI (-1)) dX12_turned_19 rfl ?_
      refine gx_iret rfl dX12_turned_20 (by first | exact Nat.le_of_ble_eq_true rfl | (simp only [rM]; omega)) (by first | exact Nat.le_of_ble_eq_true rfl | (simp only [rM]; omega)) ?_
      have hno : ¬ (1 ≤ s ∧ s ≤ (n : Int) ∧ Wf s.toNat + 1 ≤ 100) := by omega
      exact ⟨fun q => absurd q.1 hno, fun _ => ⟨by rw [if_neg hno], ⟨M0, M1, M2, M3, M4, M5, M6, M7, M8⟩⟩, fun b _ => rfl, rfl⟩
set_option maxHeartbeats 4000000 in
set_option maxRecDepth 100000 in
theorem c_X12_moved (l : Launch) (D : va_G) (cI cL cR : ClassId) (lo : Nat) (h : ch_H) (hi : Nat) (Kf Nf Wf fz : Nat → Int) (n : Nat) (c : Int) (FB : Nat → Int64) (fh ff fl : Nat → Int) (hc sc : Int) (MM : mmP cI cL lo h Kf Nf Wf fz n c FB fh ff fl hc sc) (hn : n ≤ 60) (HW : ∀ s, 1 ≤ s → s ≤ n → wfS Kf Nf Wf s) (s : Int) (hs : ir s) (hc6 : 0 ≤ c ∧ c ≤ 6) : ch_C l (eE D cI cL cR lo) M_X12_moved (rM 1 0 0) [.ref (lo + 17), .int (iI s)] h hi (fun r0 h2 hi2 => (((1 ≤ s ∧ s ≤ (n : Int) ∧ c = 3 ∧ Wf s.toNat + 1 ≤ 100) ∧ n < 60) → r0 = some (.int (iI ((n : Int) + 1))) ∧ mmP cI cL lo h2 (updI Kf (n + 1) 5) (updI (mdN Nf fz (n + 1) 6) (6 * (n + 1) + 3) s) (updI Wf (n + 1) (Wf s.toNat + 1)) fz (n + 1) 0 FB fh ff fl hc sc) ∧ (¬ ((1 ≤ s ∧ s ≤ (n : Int) ∧ c = 3 ∧ Wf s.toNat + 1 ≤ 100) ∧ n < 60) → r0 = some (.int (iI (if 1 ≤ s ∧ s ≤ (n : Int) ∧ c = 3 ∧ Wf s.toNat + 1 ≤ 100 then -2 else -1))) ∧ mmP cI cL lo h2 Kf Nf Wf fz n 0 FB fh ff fl hc sc) ∧ mfr lo h h2 ∧ hi = hi2) := by
  refine ch_C.of rfl (Nat.le_of_ble_eq_true rfl) ?_
  have MM0 := MM
  obtain ⟨M0, M1, M2, M3, M4, M5, M6, M7, M8⟩ := MM
  refine gx_aload_n 0 dX12_moved_0 rfl rfl ?_
  refine gx_get (ci := 11) (f := 5) (C := RX12) (T := TX12) (N := 12) rfl inX12 (by decide) mw_3_6 dX12_moved_1 M0 rfl ?_
  refine gx_istore_n [(2, .int (iI c)), (0, .ref (lo + 17)), (1, .int (iI s))] dX12_moved_4 rfl (by decide) rfl ?_
  refine gx_aload_n 1 dX12_moved_5 rfl rfl ?_
  refine gx_iconst (iI 0) dX12_moved_6 rfl ?_
  refine gy_put (ci := 11) (f := 5) (C := RX12) (T := TX12) (N := 12) (ty := .int) (fs2 := [.ref (lo + 18), .ref (lo + 19), .ref (lo + 20), .int (iI (n : Int)), .ref (lo + 21), .int (iI 0), .ref (lo + 22), .ref (lo + 23), .int (iI hc), .ref (lo + 24), .ref (lo + 25), .int (iI sc)]) tyX12 rfl inX12 tyX12_ok nmX12 (by decide) mw_3_6 (Or.inl rfl) (by decide +kernel) rfl rfl dX12_moved_7 M0 (by simp) rfl (fun h1 eh1 => ?_)
  have k2 : h1 (lo + 18) = some (aI cI 61 Kf) := by rw [eh1, ch_set_ne (by first | assumption | exact Ne.symm (by assumption) | omega)]; exact M1
  have k3 : h1 (lo + 19) = some (aI cI 366 Nf) := by rw [eh1, ch_set_ne (by first | assumption | exact Ne.symm (by assumption) | omega)]; exact M2
  have k4 : h1 (lo + 20) = some (aI cI 61 Wf) := by rw [eh1, ch_set_ne (by first | assumption | exact Ne.symm (by assumption) | omega)]; exact M3
  have k5 : h1 (lo + 21) = some (aI cI 6 fz) := by rw [eh1, ch_set_ne (by first | assumption | exact Ne.symm (by assumption) | omega)]; exact M4
  have k6 : h1 (lo + 22) = some (.inl (cL, 1632, .inr (.inl FB))) := by rw [eh1, ch_set_ne (by first | assumption | exact Ne.symm (by assumption) | omega)]; exact M5
  have k7 : h1 (lo + 23) = some (aL cL 200 fh) := by rw [eh1, ch_set_ne (by first | assumption | exact Ne.symm (by assumption) | omega)]; exact M6
  have k8 : h1 (lo + 24) = some (aL cL 101 ff) := by rw [eh1, ch_set_ne (by first | assumption | exact Ne.symm (by assumption) | omega)]; exact M7
  have k9 : h1 (lo + 25) = some (aL cL 101 fl) := by rw [eh1, ch_set_ne (by first | assumption | exact Ne.symm (by assumption) | omega)]; exact M8
  have k10 : h1 (lo + 17) = some (.inr (11, [.ref (lo + 18), .ref (lo + 19), .ref (lo + 20), .int (iI (n : Int)), .ref (lo + 21), .int (iI 0), .ref (lo + 22), .ref (lo + 23), .int (iI hc), .ref (lo + 24), .ref (lo + 25), .int (iI sc)])) := by rw [eh1]; exact ch_set_self
  refine gx_aload_n 1 dX12_moved_10 rfl rfl ?_
  refine gx_iload_n 2 dX12_moved_11 rfl rfl ?_
  refine gx_callV (ci := 11) (c_X12_isSolid l D cI cL cR lo h1 hi Kf Nf Wf fz n 0 FB fh ff fl hc sc ⟨k10, k2, k3, k4, k5, k6, k7, k8, k9⟩ hn s (by constructor <;> omega)) ok_X12_isSolid mw_3_55 mw_3_57 mw_p_12 dX12_moved_12 rfl k10 rfl rfl (Nat.le_of_ble_eq_true rfl) (by first | exact Nat.le_of_ble_eq_true rfl | (simp only [rM]; omega)) (by first | exact Nat.le_of_ble_eq_true rfl | (simp only [rM]; omega)) (by first | exact Nat.le_of_ble_eq_true rfl | (simp only [rM]; omega)) (by first | exact Nat.le_of_ble_eq_true rfl | (simp only [rM]; omega)) (fun r11 h12 u13 q14 g15 => ?_)
  obtain ⟨rfl, rfl, rfl⟩ := q14
  refine ch_Gst (st2 := [.int (iI (bI (decide (1 ≤ s ∧ s ≤ (n : Int)))))]) rfl ?_
  refine gy_if_eq 34 dX12_moved_15 (by decide) ir_bI (fun c15 => ?_) (fun c15 => ?_)
  · have hq15 := of_decide_eq_false (bI_0 c15)
    refine gx_iconst (iI (-1)) dX12_moved_34 rfl ?_
    refine gx_iret rfl dX12_moved_35 (by first | exact Nat.le_of_ble_eq_true rfl | (simp only [rM]; omega)) (by first | exact Nat.le_of_ble_eq_true rfl | (simp only [rM]; omega)) ?_
    have hno : ¬ (1 ≤ s ∧ s ≤ (n : Int) ∧ c = 3 ∧ Wf s.toNat + 1 ≤ 100) := by omega
    exact ⟨fun q => absurd q.1 hno, fun _ => ⟨by rw [if_neg hno], ⟨k10, k2, k3, k4, k5, k6, k7, k8, k9⟩⟩, fun b hb => by rw [eh1, ch_set_ne (by omega)], rfl⟩
  · have hq15 := of_decide_eq_true (bI_1 c15)
    have hWss := (HW s.toNat (by omega) (by omega)).1
    refine gx_iload_n 0 dX12_moved_18 rfl rfl ?_
    refine gx_iconst (iI 3) dX12_moved_19 rfl ?_
    refine gy_icmp_ne 34 dX12_moved_20 (by decide) (by constructor <;> omega) (by decide) (fun c20 => ?_) (fun c20 => ?_)
    · refine gx_iconst (iI (-1)) dX12_moved_34 rfl ?_
      refine gx_iret rfl dX12_moved_35 (by first | exact Nat.le_of_ble_eq_true rfl | (simp only [rM]; omega)) (by first | exact Nat.le_of_ble_eq_true rfl | (simp only [rM]; omega)) ?_
      have hno : ¬ (1 ≤ s ∧ s ≤ (n : Int) ∧ c = 3 ∧ Wf s.toNat + 1 ≤ 100) := by omega
      exact ⟨fun q => absurd q.1 hno, fun _ => ⟨by rw [if_neg hno], ⟨k10, k2, k3, k4, k5, k6, k7, k8, k9⟩⟩, fun b hb => by rw [eh1, ch_set_ne (by omega)], rfl⟩
    · refine gx_aload_n 1 dX12_moved_23 rfl rfl ?_
      refine gx_get (ci := 11) (f := 2) (C := RX12) (T := TX12) (N := 12) rfl inX12 (by decide) mw_3_3 dX12_moved_24 k10 rfl ?_
      refine gx_iload_n 2 dX12_moved_27 rfl rfl ?_
      refine gy_iald dX12_moved_28 k4 (by omega) (by omega) (by decide) ?_
      refine gx_bipush (iI 100) dX12_moved_29 (by decide) ?_
      refine gy_icmp_ne 36 dX12_moved_31 (by decide) (by constructor <;> omega) (by decide) (fun c31 => ?_) (fun c31 => ?_)
      · refine gx_aload_n 1 dX12_moved_36 rfl rfl ?_
        refine gx_get (ci := 11) (f := 3) (C := RX12) (T := TX12) (N := 12) rfl inX12 (by decide) mw_3_4 dX12_moved_37 k10 rfl ?_
        refine gx_bipush (iI 60) dX12_moved_40 (by decide) ?_
        refine gy_icmp_ne 48 dX12_moved_42 (by decide) (by constructor <;> omega) (by decide) (fun c42 => ?_) (fun c42 => ?_)
        · refine gx_aload_n 1 dX12_moved_48 rfl rfl ?_
          refine gx_iconst (iI 5) dX12_moved_49 rfl ?_
          refine gx_aload_n 1 dX12_moved_50 rfl rfl ?_
          refine gx_get (ci := 11) (f := 2) (C := RX12) (T := TX12) (N := 12) rfl inX12 (by decide) mw_3_3 dX12_moved_51 k10 rfl ?_
          refine gx_iload_n 2 dX12_moved_54 rfl rfl ?_
          refine gy_iald dX12_moved_55 k4 (by omega) (by omega) (by decide) ?_
          refine gx_iconst (iI 1) dX12_moved_56 rfl ?_
          refine gy_iadd dX12_moved_57 ?_
          refine gx_callV (ci := 11) (c_X12_made l D cI cL cR lo h1 hi Kf Nf Wf fz n 0 FB fh ff fl hc sc ⟨k10, k2, k3, k4, k5, k6, k7, k8, k9⟩ (by omega) 5 ((Wf s.toNat) + 1)) ok_X12_made mw_3_47 mw_3_49 mw_p_11 dX12_moved_58 rfl k10 rfl rfl (Nat.le_of_ble_eq_true rfl) (by first | exact Nat.le_of_ble_eq_true rfl | (simp only [rM]; omega)) (by first | exact Nat.le_of_ble_eq_true rfl | (simp only [rM]; omega)) (by first | exact Nat.le_of_ble_eq_true rfl | (simp only [rM]; omega)) (by first | exact Nat.le_of_ble_eq_true rfl | (simp only [rM]; omega)) (fun r16 h17 u18 q19 g20 => ?_)
          obtain ⟨rfl, ⟨P0, P1, P2, P3, P4, P5, P6, P7, P8⟩, mfd, rfl⟩ := q19
          refine ch_Gst (st2 := [.int (iI ((n : Int) + 1))]) rfl ?_
          refine gx_istore_n [(3, .int (iI ((n : Int) + 1))), (2, .int (iI c)), (0, .ref (lo + 17)), (1, .int (iI s))] dX12_moved_61 rfl (by decide) rfl ?_
          refine gx_aload_n 2 dX12_moved_62 rfl rfl ?_
          refine gx_get (ci := 11) (f := 1) (C := RX12) (T := TX12) (N := 12) rfl inX12 (by decide) mw_3_2 dX12_moved_63 P0 rfl ?_
          refine gx_bipush (iI 6) dX12_moved_66 (by decide) ?_
          refine gx_iload_n 0 dX12_moved_68 rfl rfl ?_
          refine gy_imul dX12_moved_69 ?_
          refine gx_iconst (iI 3) dX12_moved_70 rfl ?_
          refine gy_iadd dX12_moved_71 ?_
          refine gx_iload_n 3 dX12_moved_72 rfl rfl ?_
          refine gy_iast dX12_moved_73 P2 (by omega) (by omega) (by decide) (fun h21 eh21 => ?_)
          have k22 : h21 (lo + 17) = some (.inr (11, [.ref (lo + 18), .ref (lo + 19), .ref (lo + 20), .int (iI ((n + 1 : Nat) : Int)), .ref (lo + 21), .int (iI 0), .ref (lo + 22), .ref (lo + 23), .int (iI hc), .ref (lo + 24), .ref (lo + 25), .int (iI sc)])) := by rw [eh21, ch_set_ne (by first | assumption | exact Ne.symm (by assumption) | omega)]; exact P0
          have k23 : h21 (lo + 18) = some (aI cI 61 (updI Kf (n + 1) 5)) := by rw [eh21, ch_set_ne (by first | assumption | exact Ne.symm (by assumption) | omega)]; exact P1
          have k24 : h21 (lo + 20) = some (aI cI 61 (updI Wf (n + 1) ((Wf s.toNat) + 1))) := by rw [eh21, ch_set_ne (by first | assumption | exact Ne.symm (by assumption) | omega)]; exact P3
          have k25 : h21 (lo + 21) = some (aI cI 6 fz) := by rw [eh21, ch_set_ne (by first | assumption | exact Ne.symm (by assumption) | omega)]; exact P4
          have k26 : h21 (lo + 22) = some (.inl (cL, 1632, .inr (.inl FB))) := by rw [eh21, ch_set_ne (by first | assumption | exact Ne.symm (by assumption) | omega)]; exact P5
          have k27 : h21 (lo + 23) = some (aL cL 200 fh) := by rw [eh21, ch_set_ne (by first | assumption | exact Ne.symm (by assumption) | omega)]; exact P6
          have k28 : h21 (lo + 24) = some (aL cL 101 ff) := by rw [eh21, ch_set_ne (by first | assumption | exact Ne.symm (by assumption) | omega)]; exact P7
          have k29 : h21 (lo + 25) = some (aL cL 101 fl) := by rw [eh21, ch_set_ne (by first | assumption | exact Ne.symm (by assumption) | omega)]; exact P8
          have k30 : h21 (lo + 19) = some (aI cI 366 (updI (mdN Nf fz (n + 1) 6) ((6 * ((n : Int) + 1)) + 3).toNat s)) := by rw [eh21]; exact ch_set_self
          refine gx_iload_n 0 dX12_moved_74 rfl rfl ?_
          refine gx_iret rfl dX12_moved_75 (by first | exact Nat.le_of_ble_eq_true rfl | (simp only [rM]; omega)) (by first | exact Nat.le_of_ble_eq_true rfl | (simp only [rM]; omega)) ?_
          have hok : 1 ≤ s ∧ s ≤ (n : Int) ∧ c = 3 ∧ Wf s.toNat + 1 ≤ 100 := ⟨hq15.1, hq15.2, by omega, by omega⟩
          have tN := k30
          rw [show (6 * ((n : Int) + 1) + 3).toNat = 6 * (n + 1) + 3 by omega] at tN
          exact ⟨fun _ => ⟨rfl, ⟨k22, k23, tN, k24, k25, k26, k27, k28, k29⟩⟩, fun q => absurd ⟨hok, by omega⟩ q, fun b hb => by rw [eh21, ch_set_ne (by omega), mfd b hb, eh1, ch_set_ne (by omega)], rfl⟩
        · refine gx_bipush (iI (-2)) dX12_moved_45 (by decide) ?_
          refine gx_iret rfl dX12_moved_47 (by first | exact Nat.le_of_ble_eq_true rfl | (simp only [rM]; omega)) (by first | exact Nat.le_of_ble_eq_true rfl | (simp only [rM]; omega)) ?_
          have hok : 1 ≤ s ∧ s ≤ (n : Int) ∧ c = 3 ∧ Wf s.toNat + 1 ≤ 100 := ⟨hq15.1, hq15.2, by omega, by omega⟩
          exact ⟨fun q => absurd q.2 (by omega), fun _ => ⟨by rw [if_pos hok], ⟨k10, k2, k3, k4, k5, k6, k7, k8, k9⟩⟩, fun b hb => by rw [eh1, ch_set_ne (by omega)], rfl⟩
      · refine gx_iconst (iI (-1)) dX12_moved_34 rfl ?_
        refine gx_iret rfl dX12_moved_35 (by first | exact Nat.le_of_ble_eq_true rfl | (simp only [rM]; omega)) (by first | exact Nat.le_of_ble_eq_true rfl | (simp only [rM]; omega)) ?_
        have hno : ¬ (1 ≤ s ∧ s ≤ (n : Int) ∧ c = 3 ∧ Wf s.toNat + 1 ≤ 100) := by omega
        exact ⟨fun q => absurd q.1 hno, fun _ => ⟨by rw [if_neg hno], ⟨k10, k2, k3, k4, k5, k6, k7, k8, k9⟩⟩, fun b hb => by rw [eh1, ch_set_ne (by omega)], rfl⟩
set_option maxHeartbeats 4000000 in
set_option maxRecDepth 100000 in
theorem c_X12_join (l : Launch) (D : va_G) (cI cL cR : ClassId) (lo : Nat) (h : ch_H) (hi : Nat) (Kf Nf Wf fz : Nat → Int) (n : Nat) (c : Int) (FB : Nat → Int64) (fh ff fl : Nat → Int) (hc sc : Int) (MM : mmP cI cL lo h Kf Nf Wf fz n c FB fh ff fl hc sc) (hn : n ≤ 60) (HW : ∀ s, 1 ≤ s → s ≤ n → wfS Kf Nf Wf s) (a b how : Int) (ha : ir a) (hb : ir b) (hh : ir how) : ch_C l (eE D cI cL cR lo) M_X12_join (rM 1 0 0) [.ref (lo + 17), .int (iI a), .int (iI b), .int (iI how)] h hi (fun r0 h2 hi2 => ((((1 ≤ a ∧ a ≤ (n : Int)) ∧ (1 ≤ b ∧ b ≤ (n : Int)) ∧ (0 ≤ how ∧ how ≤ 2) ∧ Wf a.toNat + Wf b.toNat + 1 ≤ 100) ∧ n < 60) → r0 = some (.int (iI ((n : Int) + 1))) ∧ mmP cI cL lo h2 (updI Kf (n + 1) 4) (updI (updI (updI (mdN Nf fz (n + 1) 6) (6 * (n + 1)) a) (6 * (n + 1) + 1) b) (6 * (n + 1) + 2) how) (updI Wf (n + 1) (Wf a.toNat + Wf b.toNat + 1)) fz (n + 1) c FB fh ff fl hc sc) ∧ (¬ (((1 ≤ a ∧ a ≤ (n : Int)) ∧ (1 ≤ b ∧ b ≤ (n : Int)) ∧ (0 ≤ how ∧ how ≤ 2) ∧ Wf a.toNat + Wf b.toNat + 1 ≤ 100) ∧ n < 60) → r0 = some (.int (iI (if (1 ≤ a ∧ a ≤ (n : Int)) ∧ (1 ≤ b ∧ b ≤ (n : Int)) ∧ (0 ≤ how ∧ how ≤ 2) ∧ Wf a.toNat + Wf b.toNat + 1 ≤ 100 then -2 else -1))) ∧ mmP cI cL lo h2 Kf Nf Wf fz n c FB fh ff fl hc sc) ∧ mfr lo h h2 ∧ hi = hi2) := by
  refine ch_C.of rfl (Nat.le_of_ble_eq_true rfl) ?_
  have MM0 := MM
  obtain ⟨M0, M1, M2, M3, M4, M5, M6, M7, M8⟩ := MM
  refine gx_aload_n 0 dX12_join_0 rfl rfl ?_
  refine gx_iload_n 1 dX12_join_1 rfl rfl ?_
  refine gx_callV (ci := 11) (c_X12_isSolid l D cI cL cR lo h hi Kf Nf Wf fz n c FB fh ff fl hc sc MM0 hn a (by constructor <;> omega)) ok_X12_isSolid mw_3_55 mw_3_57 mw_p_12 dX12_join_2 rfl M0 rfl rfl (Nat.le_of_ble_eq_true rfl) (by first | exact Nat.le_of_ble_eq_true rfl | (simp only [rM]; omega)) (by first | exact Nat.le_of_ble_eq_true rfl | (simp only [rM]; omega)) (by first | exact Nat.le_of_ble_eq_true rfl | (simp only [rM]; omega)) (by first | exact Nat.le_of_ble_eq_true rfl | (simp only [rM]; omega)) (fun r1 h2 u3 q4 g5 => ?_)
  obtain ⟨rfl, rfl, rfl⟩ := q4
  refine ch_Gst (st2 := [.int (iI (bI (decide (1 ≤ a ∧ a ≤ (n : Int)))))]) rfl ?_
  refine gy_if_eq 45 dX12_join_5 (by decide) ir_bI (fun c5 => ?_) (fun c5 => ?_)
  · have hq5 := of_decide_eq_false (bI_0 c5)
    refine gx_iconst (iI (-1)) dX12_join_45 rfl ?_
    refine gx_iret rfl dX12_join_46 (by first | exact Nat.le_of_ble_eq_true rfl | (simp only [rM]; omega)) (by first | exact Nat.le_of_ble_eq_true rfl | (simp only [rM]; omega)) ?_
    have hno : ¬ ((1 ≤ a ∧ a ≤ (n : Int)) ∧ (1 ≤ b ∧ b ≤ (n : Int)) ∧ (0 ≤ how ∧ how ≤ 2) ∧ Wf a.toNat + Wf b.toNat + 1 ≤ 100) := by omega
    exact ⟨fun q => absurd q.1 hno, fun _ => ⟨by rw [if_neg hno], ⟨M0, M1, M2, M3, M4, M5, M6, M7, M8⟩⟩, fun b _ => rfl, rfl⟩
  · have hq5 := of_decide_eq_true (bI_1 c5)
    refine gx_aload_n 0 dX12_join_8 rfl rfl ?_
    refine gx_iload_n 2 dX12_join_9 rfl rfl ?_
    refine gx_callV (ci := 11) (c_X12_isSolid l D cI cL cR lo h hi Kf Nf Wf fz n c FB fh ff fl hc sc MM0 hn b (by constructor <;> omega)) ok_X12_isSolid mw_3_55 mw_3_57 mw_p_12 dX12_join_10 rfl M0 rfl rfl (Nat.le_of_ble_eq_true rfl) (by first | exact Nat.le_of_ble_eq_true rfl | (simp only [rM]; omega)) (by first | exact Nat.le_of_ble_eq_true rfl | (simp only [rM]; omega)) (by first | exact Nat.le_of_ble_eq_true rfl | (simp only [rM]; omega)) (by first | exact Nat.le_of_ble_eq_true rfl | (simp only [rM]; omega)) (fun r6 h7 u8 q9 g10 => ?_)
    obtain ⟨rfl, rfl, rfl⟩ := q9
    refine ch_Gst (st2 := [.int (iI (bI (decide (1 ≤ b ∧ b ≤ (n : Int)))))]) rfl ?_
    refine gy_if_eq 45 dX12_join_13 (by decide) ir_bI (fun c13 => ?_) (fun c13 => ?_)
    · have hq13 := of_decide_eq_false (bI_0 c13)
      refine gx_iconst (iI (-1)) dX12_join_45 rfl ?_
      refine gx_iret rfl dX12_join_46 (by first | exact Nat.le_of_ble_eq_true rfl | (simp only [rM]; omega)) (by first | exact Nat.le_of_ble_eq_true rfl | (simp only [rM]; omega)) ?_
      have hno : ¬ ((1 ≤ a ∧ a ≤ (n : Int)) ∧ (1 ≤ b ∧ b ≤ (n : Int)) ∧ (0 ≤ how ∧ how ≤ 2) ∧ Wf a.toNat + Wf b.toNat + 1 ≤ 100) := by omega
      exact ⟨fun q => absurd q.1 hno, fun _ => ⟨by rw [if_neg hno], ⟨M0, M1, M2, M3, M4, M5, M6, M7, M8⟩⟩, fun b _ => rfl, rfl⟩
    · have hq13 := of_decide_eq_true (bI_1 c13)
      have hWsa := (HW a.toNat (by omega) (by omega)).1
      have hWsb := (HW b.toNat (by omega) (by omega)).1
      refine gx_iload_n 3 dX12_join_16 rfl rfl ?_
      refine gy_if_lt 45 dX12_join_17 (by decide) (by constructor <;> omega) (fun c17 => ?_) (fun c17 => ?_)
      · refine gx_iconst (iI (-1)) dX12_join_45 rfl ?_
        refine gx_iret rfl dX12_join_46 (by first | exact Nat.le_of_ble_eq_true rfl | (simp only [rM]; omega)) (by first | exact Nat.le_of_ble_eq_true rfl | (simp only [rM]; omega)) ?_
        have hno : ¬ ((1 ≤ a ∧ a ≤ (n : Int)) ∧ (1 ≤ b ∧ b ≤ (n : Int)) ∧ (0 ≤ how ∧ how ≤ 2) ∧ Wf a.toNat + Wf b.toNat + 1 ≤ 100) := by omega
        exact ⟨fun q => absurd q.1 hno, fun _ => ⟨by rw [if_neg hno], ⟨M0, M1, M2, M3, M4, M5, M6, M7, M8⟩⟩, fun b _ => rfl, rfl⟩
      · refine gx_iload_n 3 dX12_join_20 rfl rfl ?_
        refine gx_iconst (iI 2) dX12_join_21 rfl ?_
        refine gy_icmp_gt 45 dX12_join_22 (by decide) (by constructor <;> omega) (by decide) (fun c22 => ?_) (fun c22 => ?_)
        · refine gx_iconst (iI (-1)) dX12_join_45 rfl ?_
          refine gx_iret rfl dX12_join_46 (by first | exact Nat.le_of_ble_eq_true rfl | (simp only [rM]; omega)) (by first | exact Nat.le_of_ble_eq_true rfl | (simp only [rM]; omega)) ?_
          have hno : ¬ ((1 ≤ a ∧ a ≤ (n : Int)) ∧ (1 ≤ b ∧ b ≤ (n : Int)) ∧ (0 ≤ how ∧ how ≤ 2) ∧ Wf a.toNat + Wf b.toNat + 1 ≤ 100) := by omega
          exact ⟨fun q => absurd q.1 hno, fun _ => ⟨by rw [if_neg hno], ⟨M0, M1, M2, M3, M4, M5, M6, M7, M8⟩⟩, fun b _ => rfl, rfl⟩
        · refine gx_aload_n 0 dX12_join_25 rfl rfl ?_
          refine gx_get (ci := 11) (f := 2) (C := RX12) (T := TX12) (N := 12) rfl inX12 (by decide) mw_3_3 dX12_join_26 M0 rfl ?_
          refine gx_iload_n 1 dX12_join_29 rfl rfl ?_
          refine gy_iald dX12_join_30 M3 (by omega) (by omega) (by decide) ?_
          refine gx_aload_n 0 dX12_join_31 rfl rfl ?_
          refine gx_get (ci := 11) (f := 2) (C := RX12) (T := TX12) (N := 12) rfl inX12 (by decide) mw_3_3 dX12_join_32 M0 rfl ?_
          refine gx_iload_n 2 dX12_join_35 rfl rfl ?_
          refine gy_iald dX12_join_36 M3 (by omega) (by omega) (by decide) ?_
          refine gy_iadd dX12_join_37 ?_
          refine gx_iconst (iI 1) dX12_join_38 rfl ?_
          refine gy_iadd dX12_join_39 ?_
          refine gx_bipush (iI 100) dX12_join_40 (by decide) ?_
          refine gy_icmp_le 47 dX12_join_42 (by decide) (by constructor <;> omega) (by decide) (fun c42 => ?_) (fun c42 => ?_)
          · refine gx_aload_n 0 dX12_join_47 rfl rfl ?_
            refine gx_get (ci := 11) (f := 3) (C := RX12) (T := TX12) (N := 12) rfl inX12 (by decide) mw_3_4 dX12_join_48 M0 rfl ?_
            refine gx_bipush (iI 60) dX12_join_51 (by decide) ?_
            refine gy_icmp_ne 59 dX12_join_53 (by decide) (by constructor <;> omega) (by decide) (fun c53 => ?_) (fun c53 => ?_)
            · refine gx_aload_n 0 dX12_join_59 rfl rfl ?_
              refine gx_iconst (iI 4) dX12_join_60 rfl ?_
              refine gx_aload_n 0 dX12_join_61 rfl rfl ?_
              refine gx_get (ci := 11) (f := 2) (C := RX12) (T := TX12) (N := 12) rfl inX12 (by decide) mw_3_3 dX12_join_62 M0 rfl ?_
              refine gx_iload_n 1 dX12_join_65 rfl rfl ?_
              refine gy_iald dX12_join_66 M3 (by omega) (by omega) (by decide) ?_
              refine gx_aload_n 0 dX12_join_67 rfl rfl ?_
              refine gx_get (ci := 11) (f := 2) (C := RX12) (T := TX12) (N := 12) rfl inX12 (by decide) mw_3_3 dX12_join_68 M0 rfl ?_
              refine gx_iload_n 2 dX12_join_71 rfl rfl ?_
              refine gy_iald dX12_join_72 M3 (by omega) (by omega) (by decide) ?_
              refine gy_iadd dX12_join_73 ?_
              refine gx_iconst (iI 1) dX12_join_74 rfl ?_
              refine gy_iadd dX12_join_75 ?_
              refine gx_callV (ci := 11) (c_X12_made l D cI cL cR lo h hi Kf Nf Wf fz n c FB fh ff fl hc sc ⟨M0, M1, M2, M3, M4, M5, M6, M7, M8⟩ (by omega) 4 (((Wf a.toNat) + (Wf b.toNat)) + 1)) ok_X12_made mw_3_47 mw_3_49 mw_p_11 dX12_join_76 rfl M0 rfl rfl (Nat.le_of_ble_eq_true rfl) (by first | exact Nat.le_of_ble_eq_true rfl | (simp only [rM]; omega)) (by first | exact Nat.le_of_ble_eq_true rfl | (simp only [rM]; omega)) (by first | exact Nat.le_of_ble_eq_true rfl | (simp only [rM]; omega)) (by first | exact Nat.le_of_ble_eq_true rfl | (simp only [rM]; omega)) (fun r11 h12 u13 q14 g15 => ?_)
              obtain ⟨rfl, ⟨P0, P1, P2, P3, P4, P5, P6, P7, P8⟩, mfd, rfl⟩ := q14
              refine ch_Gst (st2 := [.int (iI ((n : Int) + 1))]) rfl ?_
              refine gx_istore [(4, .int (iI ((n : Int) + 1))), (0, .ref (lo + 17)), (1, .int (iI a)), (2, .int (iI b)), (3, .int (iI how))] dX12_join_79 (by decide) rfl ?_
              refine gx_aload_n 1 dX12_join_81 rfl rfl ?_
              refine gx_get (ci := 11) (f := 1) (C := RX12) (T := TX12) (N := 12) rfl inX12 (by decide) mw_3_2 dX12_join_82 P0 rfl ?_
              refine gx_bipush (iI 6) dX12_join_85 (by decide) ?_
              refine gx_iload 0 dX12_join_87 rfl ?_
              refine gy_imul dX12_join_89 ?_
              refine gx_iload_n 2 dX12_join_90 rfl rfl ?_
              refine gy_iast dX12_join_91 P2 (by omega) (by omega) (by decide) (fun h16 eh16 => ?_)
              have k17 : h16 (lo + 17) = some (.inr (11, [.ref (lo + 18), .ref (lo + 19), .ref (lo + 20), .int (iI ((n + 1 : Nat) : Int)), .ref (lo + 21), .int (iI c), .ref (lo + 22), .ref (lo + 23), .int (iI hc), .ref (lo + 24), .ref (lo + 25), .int (iI sc)])) := by rw [eh16, ch_set_ne (by first | assumption | exact Ne.symm (by assumption) | omega)]; exact P0
              have k18 : h16 (lo + 18) = some (aI cI 61 (updI Kf (n + 1) 4)) := by rw [eh16, ch_set_ne (by first | assumption | exact Ne.symm (by assumption) | omega)]; exact P1
              have k19 : h16 (lo + 20) = some (aI cI 61 (updI Wf (n + 1) (((Wf a.toNat) + (Wf b.toNat)) + 1))) := by rw [eh16, ch_set_ne (by first | assumption | exact Ne.symm (by assumption) | omega)]; exact P3
              have k20 : h16 (lo + 21) = some (aI cI 6 fz) := by rw [eh16, ch_set_ne (by first | assumption | exact Ne.symm (by assumption) | omega)]; exact P4
              have k21 : h16 (lo + 22) = some (.inl (cL, 1632, .inr (.inl FB))) := by rw [eh16, ch_set_ne (by first | assumption | exact Ne.symm (by assumption) | omega)]; exact P5
              have k22 : h16 (lo + 23) = some (aL cL 200 fh) := by rw [eh16, ch_set_ne (by first | assumption | exact Ne.symm (by assumption) | omega)]; exact P6
              have k23 : h16 (lo + 24) = some (aL cL 101 ff) := by rw [eh16, ch_set_ne (by first | assumption | exact Ne.symm (by assumption) | omega)]; exact P7
              have k24 : h16 (lo + 25) = some (aL cL 101 fl) := by rw [eh16, ch_set_ne (by first | assumption | exact Ne.symm (by assumption) | omega)]; exact P8
              have k25 : h16 (lo + 19) = some (aI cI 366 (updI (mdN Nf fz (n + 1) 6) (6 * ((n : Int) + 1)).toNat a)) := by rw [eh16]; exact ch_set_self
              refine gx_aload_n 1 dX12_join_92 rfl rfl ?_
              refine gx_get (ci := 11) (f := 1) (C := RX12) (T := TX12) (N := 12) rfl inX12 (by decide) mw_3_2 dX12_join_93 k17 rfl ?_
              refine gx_bipush (iI 6) dX12_join_96 (by decide) ?_
              refine gx_iload 0 dX12_join_98 rfl ?_
              refine gy_imul dX12_join_100 ?_
              refine gx_iconst (iI 1) dX12_join_101 rfl ?_
              refine gy_iadd dX12_join_102 ?_
              refine gx_iload_n 3 dX12_join_103 rfl rfl ?_
              refine gy_iast dX12_join_104 k25 (by omega) (by omega) (by decide) (fun h26 eh26 => ?_)
              have k27 : h26 (lo + 17) = some (.inr (11, [.ref (lo + 18), .ref (lo + 19), .ref (lo + 20), .int (iI ((n + 1 : Nat) : Int)), .ref (lo + 21), .int (iI c), .ref (lo + 22), .ref (lo + 23), .int (iI hc), .ref (lo + 24), .ref (lo + 25), .int (iI sc)])) := by rw [eh26, ch_set_ne (by first | assumption | exact Ne.symm (by assumption) | omega)]; exact k17
              have k28 : h26 (lo + 18) = some (aI cI 61 (updI Kf (n + 1) 4)) := by rw [eh26, ch_set_ne (by first | assumption | exact Ne.symm (by assumption) | omega)]; exact k18
              have k29 : h26 (lo + 20) = some (aI cI 61 (updI Wf (n + 1) (((Wf a.toNat) + (Wf b.toNat)) + 1))) := by rw [eh26, ch_set_ne (by first | assumption | exact Ne.symm (by assumption) | omega)]; exact k19
              have k30 : h26 (lo + 21) = some (aI cI 6 fz) := by rw [eh26, ch_set_ne (by first | assumption | exact Ne.symm (by assumption) | omega)]; exact k20
              have k31 : h26 (lo + 22) = some (.inl (cL, 1632, .inr (.inl FB))) := by rw [eh26, ch_set_ne (by first | assumption | exact Ne.symm (by assumption) | omega)]; exact k21
              have k32 : h26 (lo + 23) = some (aL cL 200 fh) := by rw [eh26, ch_set_ne (by first | assumption | exact Ne.symm (by assumption) | omega)]; exact k22
              have k33 : h26 (lo + 24) = some (aL cL 101 ff) := by rw [eh26, ch_set_ne (by first | assumption | exact Ne.symm (by assumption) | omega)]; exact k23
              have k34 : h26 (lo + 25) = some (aL cL 101 fl) := by rw [eh26, ch_set_ne (by first | assumption | exact Ne.symm (by assumption) | omega)]; exact k24
              have k35 : h26 (lo + 19) = some (aI cI 366 (updI (updI (mdN Nf fz (n + 1) 6) (6 * ((n : Int) + 1)).toNat a) ((6 * ((n : Int) + 1)) + 1).toNat b)) := by rw [eh26]; exact ch_set_self
              refine gx_aload_n 1 dX12_join_105 rfl rfl ?_
              refine gx_get (ci := 11) (f := 1) (C := RX12) (T := TX12) (N := 12) rfl inX12 (by decide) mw_3_2 dX12_join_106 k27 rfl ?_
              refine gx_bipush (iI 6) dX12_join_109 (by decide) ?_
              refine gx_iload 0 dX12_join_111 rfl ?_
              refine gy_imul dX12_join_113 ?_
              refine gx_iconst (iI 2) dX12_join_114 rfl ?_
              refine gy_iadd dX12_join_115 ?_
              refine gx_iload_n 4 dX12_join_116 rfl rfl ?_
              refine gy_iast dX12_join_117 k35 (by omega) (by omega) (by decide) (fun h36 eh36 => ?_)
              have k37 : h36 (lo + 17) = some (.inr (11, [.ref (lo + 18), .ref (lo + 19), .ref (lo + 20), .int (iI ((n + 1 : Nat) : Int)), .ref (lo + 21), .int (iI c), .ref (lo + 22), .ref (lo + 23), .int (iI hc), .ref (lo + 24), .ref (lo + 25), .int (iI sc)])) := by rw [eh36, ch_set_ne (by first | assumption | exact Ne.symm (by assumption) | omega)]; exact k27
              have k38 : h36 (lo + 18) = some (aI cI 61 (updI Kf (n + 1) 4)) := by rw [eh36, ch_set_ne (by first | assumption | exact Ne.symm (by assumption) | omega)]; exact k28
              have k39 : h36 (lo + 20) = some (aI cI 61 (updI Wf (n + 1) (((Wf a.toNat) + (Wf b.toNat)) + 1))) := by rw [eh36, ch_set_ne (by first | assumption | exact Ne.symm (by assumption) | omega)]; exact k29
              have k40 : h36 (lo + 21) = some (aI cI 6 fz) := by rw [eh36, ch_set_ne (by first | assumption | exact Ne.symm (by assumption) | omega)]; exact k30
              have k41 : h36 (lo + 22) = some (.inl (cL, 1632, .inr (.inl FB))) := by rw [eh36, ch_set_ne (by first | assumption | exact Ne.symm (by assumption) | omega)]; exact k31
              have k42 : h36 (lo + 23) = some (aL cL 200 fh) := by rw [eh36, ch_set_ne (by first | assumption | exact Ne.symm (by assumption) | omega)]; exact k32
              have k43 : h36 (lo + 24) = some (aL cL 101 ff) := by rw [eh36, ch_set_ne (by first | assumption | exact Ne.symm (by assumption) | omega)]; exact k33
              have k44 : h36 (lo + 25) = some (aL cL 101 fl) := by rw [eh36, ch_set_ne (by first | assumption | exact Ne.symm (by assumption) | omega)]; exact k34
              have k45 : h36 (lo + 19) = some (aI cI 366 (updI (updI (updI (mdN Nf fz (n + 1) 6) (6 * ((n : Int) + 1)).toNat a) ((6 * ((n : Int) + 1)) + 1).toNat b) ((6 * ((n : Int) + 1)) + 2).toNat how)) := by rw [eh36]; exact ch_set_self
              refine gx_iload 0 dX12_join_118 rfl ?_
              refine gx_iret rfl dX12_join_120 (by first | exact Nat.le_of_ble_eq_true rfl | (simp only [rM]; omega)) (by first | exact Nat.le_of_ble_eq_true rfl | (simp only [rM]; omega)) ?_
              have hok : (1 ≤ a ∧ a ≤ (n : Int)) ∧ (1 ≤ b ∧ b ≤ (n : Int)) ∧ (0 ≤ how ∧ how ≤ 2) ∧ Wf a.toNat + Wf b.toNat + 1 ≤ 100 := ⟨hq5, hq13, by omega, by omega⟩
              have tN := k45
              rw [show (6 * ((n : Int) + 1) + 2).toNat = 6 * (n + 1) + 2 by omega, show (6 * ((n : Int) + 1) + 1).toNat = 6 * (n + 1) + 1 by omega, show (6 * ((n : Int) + 1)).toNat = 6 * (n + 1) by omega] at tN
              exact ⟨fun _ => ⟨rfl, ⟨k37, k38, tN, k39, k40, k41, k42, k43, k44⟩⟩, fun q => absurd ⟨hok, by omega⟩ q, fun b hb => by rw [eh36, ch_set_ne (by omega), eh26, ch_set_ne (by omega), eh16, ch_set_ne (by omega), mfd b hb], rfl⟩
            · refine gx_bipush (iI (-2)) dX12_join_56 (by decide) ?_
              refine gx_iret rfl dX12_join_58 (by first | exact Nat.le_of_ble_eq_true rfl | (simp only [rM]; omega)) (by first | exact Nat.le_of_ble_eq_true rfl | (simp only [rM]; omega)) ?_
              have hok : (1 ≤ a ∧ a ≤ (n : Int)) ∧ (1 ≤ b ∧ b ≤ (n : Int)) ∧ (0 ≤ how ∧ how ≤ 2) ∧ Wf a.toNat + Wf b.toNat + 1 ≤ 100 := ⟨hq5, hq13, by omega, by omega⟩
              exact ⟨fun q => absurd q.2 (by omega), fun _ => ⟨by rw [if_pos hok], ⟨M0, M1, M2, M3, M4, M5, M6, M7, M8⟩⟩, fun b _ => rfl, rfl⟩
          · refine gx_iconst (iI (-1)) dX12_join_45 rfl ?_
            refine gx_iret rfl dX12_join_46 (by first | exact Nat.le_of_ble_eq_true rfl | (simp only [rM]; omega)) (by first | exact Nat.le_of_ble_eq_true rfl | (simp only [rM]; omega)) ?_
            have hno : ¬ ((1 ≤ a ∧ a ≤ (n : Int)) ∧ (1 ≤ b ∧ b ≤ (n : Int)) ∧ (0 ≤ how ∧ how ≤ 2) ∧ Wf a.toNat + Wf b.toNat + 1 ≤ 100) := by omega
            exact ⟨fun q => absurd q.1 hno, fun _ => ⟨by rw [if_neg hno], ⟨M0, M1, M2, M3, M4, M5, M6, M7, M8⟩⟩, fun b _ => rfl, rfl⟩
set_option maxHeartbeats 4000000 in
set_option maxRecDepth 100000 in
theorem c_X12_solid (l : Launch) (D : va_G) (cI cL cR : ClassId) (lo : Nat) (h : ch_H) (hi : Nat) (Kf Nf Wf fz : Nat → Int) (n : Nat) (c : Int) (FB : Nat → Int64) (fh ff fl : Nat → Int) (hc sc : Int) (MM : mmP cI cL lo h Kf Nf Wf fz n c FB fh ff fl hc sc) (hn : n ≤ 60) (hfz : ∀ j, -5000 ≤ fz j ∧ fz j ≤ 5000) (hc6 : 0 ≤ c ∧ c ≤ 6) (kind : Int) (hk : ir kind) : ch_C l (eE D cI cL cR lo) M_X12_solid (rM 1 0 0) [.ref (lo + 17), .int (iI kind)] h hi (fun r0 h2 hi2 => (((c = szN kind ∧ 0 ≤ rdO fz kind) ∧ n < 60) → r0 = some (.int (iI ((n : Int) + 1))) ∧ mmP cI cL lo h2 (updI Kf (n + 1) kind) (mdN Nf fz (n + 1) 6) (updI Wf (n + 1) 1) fz (n + 1) 0 FB fh ff fl hc sc) ∧ (¬ ((c = szN kind ∧ 0 ≤ rdO fz kind) ∧ n < 60) → r0 = some (.int (iI (if c = szN kind ∧ 0 ≤ rdO fz kind then -2 else -1))) ∧ mmP cI cL lo h2 Kf Nf Wf fz n 0 FB fh ff fl hc sc) ∧ mfr lo h h2 ∧ hi = hi2) := by
  refine ch_C.of rfl (Nat.le_of_ble_eq_true rfl) ?_
  have MM0 := MM
  obtain ⟨M0, M1, M2, M3, M4, M5, M6, M7, M8⟩ := MM
  have hf2 := hfz 2
  have hf3 := hfz 3
  refine gx_aload_n 0 dX12_solid_0 rfl rfl ?_
  refine gx_get (ci := 11) (f := 5) (C := RX12) (T := TX12) (N := 12) rfl inX12 (by decide) mw_3_6 dX12_solid_1 M0 rfl ?_
  refine gx_istore_n [(2, .int (iI c)), (0, .ref (lo + 17)), (1, .int (iI kind))] dX12_solid_4 rfl (by decide) rfl ?_
  refine gx_aload_n 1 dX12_solid_5 rfl rfl ?_
  refine gx_iconst (iI 0) dX12_solid_6 rfl ?_
  refine gy_put (ci := 11) (f := 5) (C := RX12) (T := TX12) (N := 12) (ty := .int) (fs2 := [.ref (lo + 18), .ref (lo + 19), .ref (lo + 20), .int (iI (n : Int)), .ref (lo + 21), .int (iI 0), .ref (lo + 22), .ref (lo + 23), .int (iI hc), .ref (lo + 24), .ref (lo + 25), .int (iI sc)]) tyX12 rfl inX12 tyX12_ok nmX12 (by decide) mw_3_6 (Or.inl rfl) (by decide +kernel) rfl rfl dX12_solid_7 M0 (by simp) rfl (fun h1 eh1 => ?_)
  have k2 : h1 (lo + 18) = some (aI cI 61 Kf) := by rw [eh1, ch_set_ne (by first | assumption | exact Ne.symm (by assumption) | omega)]; exact M1
  have k3 : h1 (lo + 19) = some (aI cI 366 Nf) := by rw [eh1, ch_set_ne (by first | assumption | exact Ne.symm (by assumption) | omega)]; exact M2
  have k4 : h1 (lo + 20) = some (aI cI 61 Wf) := by rw [eh1, ch_set_ne (by first | assumption | exact Ne.symm (by assumption) | omega)]; exact M3
  have k5 : h1 (lo + 21) = some (aI cI 6 fz) := by rw [eh1, ch_set_ne (by first | assumption | exact Ne.symm (by assumption) | omega)]; exact M4
  have k6 : h1 (lo + 22) = some (.inl (cL, 1632, .inr (.inl FB))) := by rw [eh1, ch_set_ne (by first | assumption | exact Ne.symm (by assumption) | omega)]; exact M5
  have k7 : h1 (lo + 23) = some (aL cL 200 fh) := by rw [eh1, ch_set_ne (by first | assumption | exact Ne.symm (by assumption) | omega)]; exact M6
  have k8 : h1 (lo + 24) = some (aL cL 101 ff) := by rw [eh1, ch_set_ne (by first | assumption | exact Ne.symm (by assumption) | omega)]; exact M7
  have k9 : h1 (lo + 25) = some (aL cL 101 fl) := by rw [eh1, ch_set_ne (by first | assumption | exact Ne.symm (by assumption) | omega)]; exact M8
  have k10 : h1 (lo + 17) = some (.inr (11, [.ref (lo + 18), .ref (lo + 19), .ref (lo + 20), .int (iI (n : Int)), .ref (lo + 21), .int (iI 0), .ref (lo + 22), .ref (lo + 23), .int (iI hc), .ref (lo + 24), .ref (lo + 25), .int (iI sc)])) := by rw [eh1]; exact ch_set_self
  refine gx_iload_n 2 dX12_solid_10 rfl rfl ?_
  refine gy_if_ne 19 dX12_solid_11 (by decide) (by constructor <;> omega) (fun c11 => ?_) (fun c11 => ?_)
  · refine gx_iload_n 2 dX12_solid_19 rfl rfl ?_
    refine gx_iconst (iI 1) dX12_solid_20 rfl ?_
    refine gy_icmp_eq 29 dX12_solid_21 (by decide) (by constructor <;> omega) (by decide) (fun c21 => ?_) (fun c21 => ?_)
    · refine gx_iconst (iI 5) dX12_solid_29 rfl ?_
      refine gx_goto 43 dX12_solid_30 (by decide) ?_
      refine gx_istore_n [(3, .int (iI 5)), (2, .int (iI c)), (0, .ref (lo + 17)), (1, .int (iI kind))] dX12_solid_43 rfl (by decide) rfl ?_
      have esz : szN kind = 5 := by unfold szN; rw [if_neg (by omega), if_pos c21]
      have erd : rdO fz kind = fz 2 := by unfold rdO; rw [if_pos (by omega)]
      refine gx_iload_n 1 dX12_solid_44 rfl rfl ?_
      refine gx_iload_n 0 dX12_solid_45 rfl rfl ?_
      refine gy_icmp_eq 51 dX12_solid_46 (by decide) (by constructor <;> omega) (by decide) (fun c46 => ?_) (fun c46 => ?_)
      · refine gx_iload_n 3 dX12_solid_51 rfl rfl ?_
        refine gy_if_le 75 dX12_solid_52 (by decide) (by constructor <;> omega) (fun c52 => ?_) (fun c52 => ?_)
        · refine gx_aload_n 2 dX12_solid_75 rfl rfl ?_
          refine gx_get (ci := 11) (f := 3) (C := RX12) (T := TX12) (N := 12) rfl inX12 (by decide) mw_3_4 dX12_solid_76 k10 rfl ?_
          refine gx_bipush (iI 60) dX12_solid_79 (by decide) ?_
          refine gy_icmp_ne 89 dX12_solid_81 (by decide) (by constructor <;> omega) (by decide) (fun c81 => ?_) (fun c81 => ?_)
          · refine gx_aload_n 2 dX12_solid_89 rfl rfl ?_
            refine gx_iload_n 3 dX12_solid_90 rfl rfl ?_
            refine gx_iconst (iI 1) dX12_solid_91 rfl ?_
            refine gx_callV (ci := 11) (c_X12_made l D cI cL cR lo h1 hi Kf Nf Wf fz n 0 FB fh ff fl hc sc ⟨k10, k2, k3, k4, k5, k6, k7, k8, k9⟩ (by omega) kind 1) ok_X12_made mw_3_47 mw_3_49 mw_p_11 dX12_solid_92 rfl k10 rfl rfl (Nat.le_of_ble_eq_true rfl) (by first | exact Nat.le_of_ble_eq_true rfl | (simp only [rM]; omega)) (by first | exact Nat.le_of_ble_eq_true rfl | (simp only [rM]; omega)) (by first | exact Nat.le_of_ble_eq_true rfl | (simp only [rM]; omega)) (by first | exact Nat.le_of_ble_eq_true rfl | (simp only [rM]; omega)) (fun r11 h12 u13 q14 g15 => ?_)
            obtain ⟨rfl, ⟨P0, P1, P2, P3, P4, P5, P6, P7, P8⟩, mfd, rfl⟩ := q14
            refine ch_Gst (st2 := [.int (iI ((n : Int) + 1))]) rfl ?_
            refine gx_iret rfl dX12_solid_95 (by first | exact Nat.le_of_ble_eq_true rfl | (simp only [rM]; omega)) (by first | exact Nat.le_of_ble_eq_true rfl | (simp only [rM]; omega)) ?_
            have hok : c = szN kind ∧ 0 ≤ rdO fz kind := ⟨by omega, by omega⟩
            exact ⟨fun _ => ⟨rfl, ⟨P0, P1, P2, P3, P4, P5, P6, P7, P8⟩⟩, fun q => absurd ⟨hok, by omega⟩ q, fun b hb => by rw [mfd b hb, eh1, ch_set_ne (by omega)], rfl⟩
          · refine gx_bipush (iI (-2)) dX12_solid_84 (by decide) ?_
            refine gx_goto 95 dX12_solid_86 (by decide) ?_
            refine gx_iret rfl dX12_solid_95 (by first | exact Nat.le_of_ble_eq_true rfl | (simp only [rM]; omega)) (by first | exact Nat.le_of_ble_eq_true rfl | (simp only [rM]; omega)) ?_
            have hok : c = szN kind ∧ 0 ≤ rdO fz kind := ⟨by omega, by omega⟩
            exact ⟨fun q => absurd q.2 (by omega), fun _ => ⟨by rw [if_pos hok], ⟨k10, k2, k3, k4, k5, k6, k7, k8, k9⟩⟩, fun b hb => by rw [eh1, ch_set_ne (by omega)], rfl⟩
        · refine gx_aload_n 2 dX12_solid_55 rfl rfl ?_
          refine gx_get (ci := 11) (f := 4) (C := RX12) (T := TX12) (N := 12) rfl inX12 (by decide) mw_3_5 dX12_solid_56 k10 rfl ?_
          refine gx_iload_n 3 dX12_solid_59 rfl rfl ?_
          refine gx_iconst (iI 2) dX12_solid_60 rfl ?_
          refine gy_icmp_ne 68 dX12_solid_61 (by decide) (by constructor <;> omega) (by decide) (fun c61 => ?_) (fun c61 => ?_)
          · refine gx_iconst (iI 2) dX12_solid_68 rfl ?_
            refine gy_iald dX12_solid_69 k5 (by decide) (by decide) (by decide) ?_
            refine ch_Gst (st2 := [.int (iI (fz 2))]) rfl ?_
            refine gy_if_ge 75 dX12_solid_70 (by decide) (by constructor <;> omega) (fun c70 => ?_) (fun c70 => ?_)
            · refine gx_aload_n 2 dX12_solid_75 rfl rfl ?_
              refine gx_get (ci := 11) (f := 3) (C := RX12) (T := TX12) (N := 12) rfl inX12 (by decide) mw_3_4 dX12_solid_76 k10 rfl ?_
              refine gx_bipush (iI 60) dX12_solid_79 (by decide) ?_
              refine gy_icmp_ne 89 dX12_solid_81 (by decide) (by constructor <;> omega) (by decide) (fun c81 => ?_) (fun c81 => ?_)
              · refine gx_aload_n 2 dX12_solid_89 rfl rfl ?_
                refine gx_iload_n 3 dX12_solid_90 rfl rfl ?_
                refine gx_iconst (iI 1) dX12_solid_91 rfl ?_
                refine gx_callV (ci := 11) (c_X12_made l D cI cL cR lo h1 hi Kf Nf Wf fz n 0 FB fh ff fl hc sc ⟨k10, k2, k3, k4, k5, k6, k7, k8, k9⟩ (by omega) kind 1) ok_X12_made mw_3_47 mw_3_49 mw_p_11 dX12_solid_92 rfl k10 rfl rfl (Nat.le_of_ble_eq_true rfl) (by first | exact Nat.le_of_ble_eq_true rfl | (simp only [rM]; omega)) (by first | exact Nat.le_of_ble_eq_true rfl | (simp only [rM]; omega)) (by first | exact Nat.le_of_ble_eq_true rfl | (simp only [rM]; omega)) (by first | exact Nat.le_of_ble_eq_true rfl | (simp only [rM]; omega)) (fun r16 h17 u18 q19 g20 => ?_)
                obtain ⟨rfl, ⟨P0, P1, P2, P3, P4, P5, P6, P7, P8⟩, mfd, rfl⟩ := q19
                refine ch_Gst (st2 := [.int (iI ((n : Int) + 1))]) rfl ?_
                refine gx_iret rfl dX12_solid_95 (by first | exact Nat.le_of_ble_eq_true rfl | (simp only [rM]; omega)) (by first | exact Nat.le_of_ble_eq_true rfl | (simp only [rM]; omega)) ?_
                have hok : c = szN kind ∧ 0 ≤ rdO fz kind := ⟨by omega, by omega⟩
                exact ⟨fun _ => ⟨rfl, ⟨P0, P1, P2, P3, P4, P5, P6, P7, P8⟩⟩, fun q => absurd ⟨hok, by omega⟩ q, fun b hb => by rw [mfd b hb, eh1, ch_set_ne (by omega)], rfl⟩
              · refine gx_bipush (iI (-2)) dX12_solid_84 (by decide) ?_
                refine gx_goto 95 dX12_solid_86 (by decide) ?_
                refine gx_iret rfl dX12_solid_95 (by first | exact Nat.le_of_ble_eq_true rfl | (simp only [rM]; omega)) (by first | exact Nat.le_of_ble_eq_true rfl | (simp only [rM]; omega)) ?_
                have hok : c = szN kind ∧ 0 ≤ rdO fz kind := ⟨by omega, by omega⟩
                exact ⟨fun q => absurd q.2 (by omega), fun _ => ⟨by rw [if_pos hok], ⟨k10, k2, k3, k4, k5, k6, k7, k8, k9⟩⟩, fun b hb => by rw [eh1, ch_set_ne (by omega)], rfl⟩
            · refine gx_iconst (iI (-1)) dX12_solid_73 rfl ?_
              refine gx_iret rfl dX12_solid_74 (by first | exact Nat.le_of_ble_eq_true rfl | (simp only [rM]; omega)) (by first | exact Nat.le_of_ble_eq_true rfl | (simp only [rM]; omega)) ?_
              have hno : ¬ (c = szN kind ∧ 0 ≤ rdO fz kind) := by omega
              exact ⟨fun q => absurd q.1 hno, fun _ => ⟨by rw [if_neg hno], ⟨k10, k2, k3, k4, k5, k6, k7, k8, k9⟩⟩, fun b hb => by rw [eh1, ch_set_ne (by omega)], rfl⟩
          · refine gx_iconst (iI 3) dX12_solid_64 rfl ?_
            refine gx_goto 69 dX12_solid_65 (by decide) ?_
            refine gy_iald dX12_solid_69 k5 (by decide) (by decide) (by decide) ?_
            refine ch_Gst (st2 := [.int (iI (fz 3))]) rfl ?_
            refine gy_if_ge 75 dX12_solid_70 (by decide) (by constructor <;> omega) (fun c70 => ?_) (fun c70 => ?_)
            · refine gx_aload_n 2 dX12_solid_75 rfl rfl ?_
              refine gx_get (ci := 11) (f := 3) (C := RX12) (T := TX12) (N := 12) rfl inX12 (by decide) mw_3_4 dX12_solid_76 k10 rfl ?_
              refine gx_bipush (iI 60) dX12_solid_79 (by decide) ?_
              refine gy_icmp_ne 89 dX12_solid_81 (by decide) (by constructor <;> omega) (by decide) (fun c81 => ?_) (fun c81 => ?_)
              · refine gx_aload_n 2 dX12_solid_89 rfl rfl ?_
                refine gx_iload_n 3 dX12_solid_90 rfl rfl ?_
                refine gx_iconst (iI 1) dX12_solid_91 rfl ?_
                refine gx_callV (ci := 11) (c_X12_made l D cI cL cR lo h1 hi Kf Nf Wf fz n 0 FB fh ff fl hc sc ⟨k10, k2, k3, k4, k5, k6, k7, k8, k9⟩ (by omega) kind 1) ok_X12_made mw_3_47 mw_3_49 mw_p_11 dX12_solid_92 rfl k10 rfl rfl (Nat.le_of_ble_eq_true rfl) (by first | exact Nat.le_of_ble_eq_true rfl | (simp only [rM]; omega)) (by first | exact Nat.le_of_ble_eq_true rfl | (simp only [rM]; omega)) (by first | exact Nat.le_of_ble_eq_true rfl | (simp only [rM]; omega)) (by first | exact Nat.le_of_ble_eq_true rfl | (simp only [rM]; omega)) (fun r21 h22 u23 q24 g25 => ?_)
                obtain ⟨rfl, ⟨P0, P1, P2, P3, P4, P5, P6, P7, P8⟩, mfd, rfl⟩ := q24
                refine ch_Gst (st2 := [.int (iI ((n : Int) + 1))]) rfl ?_
                refine gx_iret rfl dX12_solid_95 (by first | exact Nat.le_of_ble_eq_true rfl | (simp only [rM]; omega)) (by first | exact Nat.le_of_ble_eq_true rfl | (simp only [rM]; omega)) ?_
                have hok : c = szN kind ∧ 0 ≤ rdO fz kind := ⟨by omega, by omega⟩
                exact ⟨fun _ => ⟨rfl, ⟨P0, P1, P2, P3, P4, P5, P6, P7, P8⟩⟩, fun q => absurd ⟨hok, by omega⟩ q, fun b hb => by rw [mfd b hb, eh1, ch_set_ne (by omega)], rfl⟩
              · refine gx_bipush (iI (-2)) dX12_solid_84 (by decide) ?_
                refine gx_goto 95 dX12_solid_86 (by decide) ?_
                refine gx_iret rfl dX12_solid_95 (by first | exact Nat.le_of_ble_eq_true rfl | (simp only [rM]; omega)) (by first | exact Nat.le_of_ble_eq_true rfl | (simp only [rM]; omega)) ?_
                have hok : c = szN kind ∧ 0 ≤ rdO fz kind := ⟨by omega, by omega⟩
                exact ⟨fun q => absurd q.2 (by omega), fun _ => ⟨by rw [if_pos hok], ⟨k10, k2, k3, k4, k5, k6, k7, k8, k9⟩⟩, fun b hb => by rw [eh1, ch_set_ne (by omega)], rfl⟩
            · refine gx_iconst (iI (-1)) dX12_solid_73 rfl ?_
              refine gx_iret rfl dX12_solid_74 (by first | exact Nat.le_of_ble_eq_true rfl | (simp only [rM]; omega)) (by first | exact Nat.le_of_ble_eq_true rfl | (simp only [rM]; omega)) ?_
              have hno : ¬ (c = szN kind ∧ 0 ≤ rdO fz kind) := by omega
              exact ⟨fun q => absurd q.1 hno, fun _ => ⟨by rw [if_neg hno], ⟨k10, k2, k3, k4, k5, k6, k7, k8, k9⟩⟩, fun b hb => by rw [eh1, ch_set_ne (by omega)], rfl⟩
      · refine gx_iconst (iI (-1)) dX12_solid_49 rfl ?_
        refine gx_iret rfl dX12_solid_50 (by first | exact Nat.le_of_ble_eq_true rfl | (simp only [rM]; omega)) (by first | exact Nat.le_of_ble_eq_true rfl | (simp only [rM]; omega)) ?_
        have hno : ¬ (c = szN kind ∧ 0 ≤ rdO fz kind) := by omega
        exact ⟨fun q => absurd q.1 hno, fun _ => ⟨by rw [if_neg hno], ⟨k10, k2, k3, k4, k5, k6, k7, k8, k9⟩⟩, fun b hb => by rw [eh1, ch_set_ne (by omega)], rfl⟩
    · refine gx_iload_n 2 dX12_solid_24 rfl rfl ?_
      refine gx_iconst (iI 3) dX12_solid_25 rfl ?_
      refine gy_icmp_ne 33 dX12_solid_26 (by decide) (by constructor <;> omega) (by decide) (fun c26 => ?_) (fun c26 => ?_)
      · refine gx_iload_n 2 dX12_solid_33 rfl rfl ?_
        refine gx_iconst (iI 2) dX12_solid_34 rfl ?_
        refine gy_icmp_ne 42 dX12_solid_35 (by decide) (by constructor <;> omega) (by decide) (fun c35 => ?_) (fun c35 => ?_)
        · refine gx_iconst (iI (-1)) dX12_solid_42 rfl ?_
          refine gx_istore_n [(3, .int (iI (-1))), (2, .int (iI c)), (0, .ref (lo + 17)), (1, .int (iI kind))] dX12_solid_43 rfl (by decide) rfl ?_
          have esz : szN kind = (-1) := by unfold szN; rw [if_neg (by omega), if_neg (by omega), if_neg (by omega), if_neg (by omega)]
          refine gx_iload_n 1 dX12_solid_44 rfl rfl ?_
          refine gx_iload_n 0 dX12_solid_45 rfl rfl ?_
          refine gy_icmp_eq 51 dX12_solid_46 (by decide) (by constructor <;> omega) (by decide) (fun c46 => ?_) (fun c46 => ?_)
          · refine gx_iload_n 3 dX12_solid_51 rfl rfl ?_
            refine gy_if_le 75 dX12_solid_52 (by decide) (by constructor <;> omega) (fun c52 => ?_) (fun c52 => ?_)
            · refine gx_aload_n 2 dX12_solid_75 rfl rfl ?_
              refine gx_get (ci := 11) (f := 3) (C := RX12) (T := TX12) (N := 12) rfl inX12 (by decide) mw_3_4 dX12_solid_76 k10 rfl ?_
              refine gx_bipush (iI 60) dX12_solid_79 (by decide) ?_
              refine gy_icmp_ne 89 dX12_solid_81 (by decide) (by constructor <;> omega) (by decide) (fun c81 => ?_) (fun c81 => ?_)
              · refine gx_aload_n 2 dX12_solid_89 rfl rfl ?_
                refine gx_iload_n 3 dX12_solid_90 rfl rfl ?_
                refine gx_iconst (iI 1) dX12_solid_91 rfl ?_
                refine gx_callV (ci := 11) (c_X12_made l D cI cL cR lo h1 hi Kf Nf Wf fz n 0 FB fh ff fl hc sc ⟨k10, k2, k3, k4, k5, k6, k7, k8, k9⟩ (by omega) kind 1) ok_X12_made mw_3_47 mw_3_49 mw_p_11 dX12_solid_92 rfl k10 rfl rfl (Nat.le_of_ble_eq_true rfl) (by first | exact Nat.le_of_ble_eq_true rfl | (simp only [rM]; omega)) (by first | exact Nat.le_of_ble_eq_true rfl | (simp only [rM]; omega)) (by first | exact Nat.le_of_ble_eq_true rfl | (simp only [rM]; omega)) (by first | exact Nat.le_of_ble_eq_true rfl | (simp only [rM]; omega)) (fun r26 h27 u28 q29 g30 => ?_)
                obtain ⟨rfl, ⟨P0, P1, P2, P3, P4, P5, P6, P7, P8⟩, mfd, rfl⟩ := q29
                refine ch_Gst (st2 := [.int (iI ((n : Int) + 1))]) rfl ?_
                refine gx_iret rfl dX12_solid_95 (by first | exact Nat.le_of_ble_eq_true rfl | (simp only [rM]; omega)) (by first | exact Nat.le_of_ble_eq_true rfl | (simp only [rM]; omega)) ?_
                have hok : c = szN kind ∧ 0 ≤ rdO fz kind := ⟨by omega, by omega⟩
                exact ⟨fun _ => ⟨rfl, ⟨P0, P1, P2, P3, P4, P5, P6, P7, P8⟩⟩, fun q => absurd ⟨hok, by omega⟩ q, fun b hb => by rw [mfd b hb, eh1, ch_set_ne (by omega)], rfl⟩
              · refine gx_bipush (iI (-2)) dX12_solid_84 (by decide) ?_
                refine gx_goto 95 dX12_solid_86 (by decide) ?_
                refine gx_iret rfl dX12_solid_95 (by first | exact Nat.le_of_ble_eq_true rfl | (simp only [rM]; omega)) (by first | exact Nat.le_of_ble_eq_true rfl | (simp only [rM]; omega)) ?_
                have hok : c = szN kind ∧ 0 ≤ rdO fz kind := ⟨by omega, by omega⟩
                exact ⟨fun q => absurd q.2 (by omega), fun _ => ⟨by rw [if_pos hok], ⟨k10, k2, k3, k4, k5, k6, k7, k8, k9⟩⟩, fun b hb => by rw [eh1, ch_set_ne (by omega)], rfl⟩
            · refine gx_aload_n 2 dX12_solid_55 rfl rfl ?_
              refine gx_get (ci := 11) (f := 4) (C := RX12) (T := TX12) (N := 12) rfl inX12 (by decide) mw_3_5 dX12_solid_56 k10 rfl ?_
              refine gx_iload_n 3 dX12_solid_59 rfl rfl ?_
              refine gx_iconst (iI 2) dX12_solid_60 rfl ?_
              refine gy_icmp_ne 68 dX12_solid_61 (by decide) (by constructor <;> omega) (by decide) (fun c61 => ?_) (fun c61 => ?_)
              · refine gx_iconst (iI 2) dX12_solid_68 rfl ?_
                refine gy_iald dX12_solid_69 k5 (by decide) (by decide) (by decide) ?_
                refine ch_Gst (st2 := [.int (iI (fz 2))]) rfl ?_
                refine gy_if_ge 75 dX12_solid_70 (by decide) (by constructor <;> omega) (fun c70 => ?_) (fun c70 => ?_)
                · refine gx_aload_n 2 dX12_solid_75 rfl rfl ?_
                  refine gx_get (ci := 11) (f := 3) (C := RX12) (T := TX12) (N := 12) rfl inX12 (by decide) mw_3_4 dX12_solid_76 k10 rfl ?_
                  refine gx_bipush (iI 60) dX12_solid_79 (by decide) ?_
                  refine gy_icmp_ne 89 dX12_solid_81 (by decide) (by constructor <;> omega) (by decide) (fun c81 => ?_) (fun c81 => ?_)
                  · refine gx_aload_n 2 dX12_solid_89 rfl rfl ?_
                    refine gx_iload_n 3 dX12_solid_90 rfl rfl ?_
                    refine gx_iconst (iI 1) dX12_solid_91 rfl ?_
                    refine gx_callV (ci := 11) (c_X12_made l D cI cL cR lo h1 hi Kf Nf Wf fz n 0 FB fh ff fl hc sc ⟨k10, k2, k3, k4, k5, k6, k7, k8, k9⟩ (by omega) kind 1) ok_X12_made mw_3_47 mw_3_49 mw_p_11 dX12_solid_92 rfl k10 rfl rfl (Nat.le_of_ble_eq_true rfl) (by first | exact Nat.le_of_ble_eq_true rfl | (simp only [rM]; omega)) (by first | exact Nat.le_of_ble_eq_true rfl | (simp only [rM]; omega)) (by first | exact Nat.le_of_ble_eq_true rfl | (simp only [rM]; omega)) (by first | exact Nat.le_of_ble_eq_true rfl | (simp only [rM]; omega)) (fun r31 h32 u33 q34 g35 => ?_)
                    obtain ⟨rfl, ⟨P0, P1, P2, P3, P4, P5, P6, P7, P8⟩, mfd, rfl⟩ := q34
                    refine ch_Gst (st2 := [.int (iI ((n : Int) + 1))]) rfl ?_
                    refine gx_iret rfl dX12_solid_95 (by first | exact Nat.le_of_ble_eq_true rfl | (simp only [rM]; omega)) (by first | exact Nat.le_of_ble_eq_true rfl | (simp only [rM]; omega)) ?_
                    have hok : c = szN kind ∧ 0 ≤ rdO fz kind := ⟨by omega, by omega⟩
                    exact ⟨fun _ => ⟨rfl, ⟨P0, P1, P2, P3, P4, P5, P6, P7, P8⟩⟩, fun q => absurd ⟨hok, by omega⟩ q, fun b hb => by rw [mfd b hb, eh1, ch_set_ne (by omega)], rfl⟩
                  · refine gx_bipush (iI (-2)) dX12_solid_84 (by decide) ?_
                    refine gx_goto 95 dX12_solid_86 (by decide) ?_
                    refine gx_iret rfl dX12_solid_95 (by first | exact Nat.le_of_ble_eq_true rfl | (simp only [rM]; omega)) (by first | exact Nat.le_of_ble_eq_true rfl | (simp only [rM]; omega)) ?_
                    have hok : c = szN kind ∧ 0 ≤ rdO fz kind := ⟨by omega, by omega⟩
                    exact ⟨fun q => absurd q.2 (by omega), fun _ => ⟨by rw [if_pos hok], ⟨k10, k2, k3, k4, k5, k6, k7, k8, k9⟩⟩, fun b hb => by rw [eh1, ch_set_ne (by omega)], rfl⟩
                · refine gx_iconst (iI (-1)) dX12_solid_73 rfl ?_
                  refine gx_iret rfl dX12_solid_74 (by first | exact Nat.le_of_ble_eq_true rfl | (simp only [rM]; omega)) (by first | exact Nat.le_of_ble_eq_true rfl | (simp only [rM]; omega)) ?_
                  have hno : ¬ (c = szN kind ∧ 0 ≤ rdO fz kind) := by omega
                  exact ⟨fun q => absurd q.1 hno, fun _ => ⟨by rw [if_neg hno], ⟨k10, k2, k3, k4, k5, k6, k7, k8, k9⟩⟩, fun b hb => by rw [eh1, ch_set_ne (by omega)], rfl⟩
              · refine gx_iconst (iI 3) dX12_solid_64 rfl ?_
                refine gx_goto 69 dX12_solid_65 (by decide) ?_
                refine gy_iald dX12_solid_69 k5 (by decide) (by decide) (by decide) ?_
                refine ch_Gst (st2 := [.int (iI (fz 3))]) rfl ?_
                refine gy_if_ge 75 dX12_solid_70 (by decide) (by constructor <;> omega) (fun c70 => ?_) (fun c70 => ?_)
                · refine gx_aload_n 2 dX12_solid_75 rfl rfl ?_
                  refine gx_get (ci := 11) (f := 3) (C := RX12) (T := TX12) (N := 12) rfl inX12 (by decide) mw_3_4 dX12_solid_76 k10 rfl ?_
                  refine gx_bipush (iI 60) dX12_solid_79 (by decide) ?_
                  refine gy_icmp_ne 89 dX12_solid_81 (by decide) (by constructor <;> omega) (by decide) (fun c81 => ?_) (fun c81 => ?_)
                  · refine gx_aload_n 2 dX12_solid_89 rfl rfl ?_
                    refine gx_iload_n 3 dX12_solid_90 rfl rfl ?_
                    refine gx_iconst (iI 1) dX12_solid_91 rfl ?_
                    refine gx_callV (ci := 11) (c_X12_made l D cI cL cR lo h1 hi Kf Nf Wf fz n 0 FB fh ff fl hc sc ⟨k10, k2, k3, k4, k5, k6, k7, k8, k9⟩ (by omega) kind 1) ok_X12_made mw_3_47 mw_3_49 mw_p_11 dX12_solid_92 rfl k10 rfl rfl (Nat.le_of_ble_eq_true rfl) (by first | exact Nat.le_of_ble_eq_true rfl | (simp only [rM]; omega)) (by first | exact Nat.le_of_ble_eq_true rfl | (simp only [rM]; omega)) (by first | exact Nat.le_of_ble_eq_true rfl | (simp only [rM]; omega)) (by first | exact Nat.le_of_ble_eq_true rfl | (simp only [rM]; omega)) (fun r36 h37 u38 q39 g40 => ?_)
                    obtain ⟨rfl, ⟨P0, P1, P2, P3, P4, P5, P6, P7, P8⟩, mfd, rfl⟩ := q39
                    refine ch_Gst (st2 := [.int (iI ((n : Int) + 1))]) rfl ?_
                    refine gx_iret rfl dX12_solid_95 (by first | exact Nat.le_of_ble_eq_true rfl | (simp only [rM]; omega)) (by first | exact Nat.le_of_ble_eq_true rfl | (simp only [rM]; omega)) ?_
                    have hok : c = szN kind ∧ 0 ≤ rdO fz kind := ⟨by omega, by omega⟩
                    exact ⟨fun _ => ⟨rfl, ⟨P0, P1, P2, P3, P4, P5, P6, P7, P8⟩⟩, fun q => absurd ⟨hok, by omega⟩ q, fun b hb => by rw [mfd b hb, eh1, ch_set_ne (by omega)], rfl⟩
                  · refine gx_bipush (iI (-2)) dX12_solid_84 (by decide) ?_
                    refine gx_goto 95 dX12_solid_86 (by decide) ?_
                    refine gx_iret rfl dX12_solid_95 (by first | exact Nat.le_of_ble_eq_true rfl | (simp only [rM]; omega)) (by first | exact Nat.le_of_ble_eq_true rfl | (simp only [rM]; omega)) ?_
                    have hok : c = szN kind ∧ 0 ≤ rdO fz kind := ⟨by omega, by omega⟩
                    exact ⟨fun q => absurd q.2 (by omega), fun _ => ⟨by rw [if_pos hok], ⟨k10, k2, k3, k4, k5, k6, k7, k8, k9⟩⟩, fun b hb => by rw [eh1, ch_set_ne (by omega)], rfl⟩
                · refine gx_iconst (iI (-1)) dX12_solid_73 rfl ?_
                  refine gx_iret rfl dX12_solid_74 (by first | exact Nat.le_of_ble_eq_true rfl | (simp only [rM]; omega)) (by first | exact Nat.le_of_ble_eq_true rfl | (simp only [rM]; omega)) ?_
                  have hno : ¬ (c = szN kind ∧ 0 ≤ rdO fz kind) := by omega
                  exact ⟨fun q => absurd q.1 hno, fun _ => ⟨by rw [if_neg hno], ⟨k10, k2, k3, k4, k5, k6, k7, k8, k9⟩⟩, fun b hb => by rw [eh1, ch_set_ne (by omega)], rfl⟩
          · refine gx_iconst (iI (-1)) dX12_solid_49 rfl ?_
            refine gx_iret rfl dX12_solid_50 (by first | exact Nat.le_of_ble_eq_true rfl | (simp only [rM]; omega)) (by first | exact Nat.le_of_ble_eq_true rfl | (simp only [rM]; omega)) ?_
            have hno : ¬ (c = szN kind ∧ 0 ≤ rdO fz kind) := by omega
            exact ⟨fun q => absurd q.1 hno, fun _ => ⟨by rw [if_neg hno], ⟨k10, k2, k3, k4, k5, k6, k7, k8, k9⟩⟩, fun b hb => by rw [eh1, ch_set_ne (by omega)], rfl⟩
        · refine gx_iconst (iI 4) dX12_solid_38 rfl ?_
          refine gx_goto 43 dX12_solid_39 (by decide) ?_
          refine gx_istore_n [(3, .int (iI 4)), (2, .int (iI c)), (0, .ref (lo + 17)), (1, .int (iI kind))] dX12_solid_43 rfl (by decide) rfl ?_
          have esz : szN kind = 4 := by unfold szN; rw [if_neg (by omega), if_neg (by omega), if_pos c35]
          have erd : rdO fz kind = fz 3 := by unfold rdO; rw [if_neg (by omega), if_pos (by omega)]
          refine gx_iload_n 1 dX12_solid_44 rfl rfl ?_
          refine gx_iload_n 0 dX12_solid_45 rfl rfl ?_
          refine gy_icmp_eq 51 dX12_solid_46 (by decide) (by constructor <;> omega) (by decide) (fun c46 => ?_) (fun c46 => ?_)
          · refine gx_iload_n 3 dX12_solid_51 rfl rfl ?_
            refine gy_if_le 75 dX12_solid_52 (by decide) (by constructor <;> omega) (fun c52 => ?_) (fun c52 => ?_)
            · refine gx_aload_n 2 dX12_solid_75 rfl rfl ?_
              refine gx_get (ci := 11) (f := 3) (C := RX12) (T := TX12) (N := 12) rfl inX12 (by decide) mw_3_4 dX12_solid_76 k10 rfl ?_
              refine gx_bipush (iI 60) dX12_solid_79 (by decide) ?_
              refine gy_icmp_ne 89 dX12_solid_81 (by decide) (by constructor <;> omega) (by decide) (fun c81 => ?_) (fun c81 => ?_)
              · refine gx_aload_n 2 dX12_solid_89 rfl rfl ?_
                refine gx_iload_n 3 dX12_solid_90 rfl rfl ?_
                refine gx_iconst (iI 1) dX12_solid_91 rfl ?_
                refine gx_callV (ci := 11) (c_X12_made l D cI cL cR lo h1 hi Kf Nf Wf fz n 0 FB fh ff fl hc sc ⟨k10, k2, k3, k4, k5, k6, k7, k8, k9⟩ (by omega) kind 1) ok_X12_made mw_3_47 mw_3_49 mw_p_11 dX12_solid_92 rfl k10 rfl rfl (Nat.le_of_ble_eq_true rfl) (by first | exact Nat.le_of_ble_eq_true rfl | (simp only [rM]; omega)) (by first | exact Nat.le_of_ble_eq_true rfl | (simp only [rM]; omega)) (by first | exact Nat.le_of_ble_eq_true rfl | (simp only [rM]; omega)) (by first | exact Nat.le_of_ble_eq_true rfl | (simp only [rM]; omega)) (fun r41 h42 u43 q44 g45 => ?_)
                obtain ⟨rfl, ⟨P0, P1, P2, P3, P4, P5, P6, P7, P8⟩, mfd, rfl⟩ := q44
                refine ch_Gst (st2 := [.int (iI ((n : Int) + 1))]) rfl ?_
                refine gx_iret rfl dX12_solid_95 (by first | exact Nat.le_of_ble_eq_true rfl | (simp only [rM]; omega)) (by first | exact Nat.le_of_ble_eq_true rfl | (simp only [rM]; omega)) ?_
                have hok : c = szN kind ∧ 0 ≤ rdO fz kind := ⟨by omega, by omega⟩
                exact ⟨fun _ => ⟨rfl, ⟨P0, P1, P2, P3, P4, P5, P6, P7, P8⟩⟩, fun q => absurd ⟨hok, by omega⟩ q, fun b hb => by rw [mfd b hb, eh1, ch_set_ne (by omega)], rfl⟩
              · refine gx_bipush (iI (-2)) dX12_solid_84 (by decide) ?_
                refine gx_goto 95 dX12_solid_86 (by decide) ?_
                refine gx_iret rfl dX12_solid_95 (by first | exact Nat.le_of_ble_eq_true rfl | (simp only [rM]; omega)) (by first | exact Nat.le_of_ble_eq_true rfl | (simp only [rM]; omega)) ?_
                have hok : c = szN kind ∧ 0 ≤ rdO fz kind := ⟨by omega, by omega⟩
                exact ⟨fun q => absurd q.2 (by omega), fun _ => ⟨by rw [if_pos hok], ⟨k10, k2, k3, k4, k5, k6, k7, k8, k9⟩⟩, fun b hb => by rw [eh1, ch_set_ne (by omega)], rfl⟩
            · refine gx_aload_n 2 dX12_solid_55 rfl rfl ?_
              refine gx_get (ci := 11) (f := 4) (C := RX12) (T := TX12) (N := 12) rfl inX12 (by decide) mw_3_5 dX12_solid_56 k10 rfl ?_
              refine gx_iload_n 3 dX12_solid_59 rfl rfl ?_
              refine gx_iconst (iI 2) dX12_solid_60 rfl ?_
              refine gy_icmp_ne 68 dX12_solid_61 (by decide) (by constructor <;> omega) (by decide) (fun c61 => ?_) (fun c61 => ?_)
              · refine gx_iconst (iI 2) dX12_solid_68 rfl ?_
                refine gy_iald dX12_solid_69 k5 (by decide) (by decide) (by decide) ?_
                refine ch_Gst (st2 := [.int (iI (fz 2))]) rfl ?_
                refine gy_if_ge 75 dX12_solid_70 (by decide) (by constructor <;> omega) (fun c70 => ?_) (fun c70 => ?_)
                · refine gx_aload_n 2 dX12_solid_75 rfl rfl ?_
                  refine gx_get (ci := 11) (f := 3) (C := RX12) (T := TX12) (N := 12) rfl inX12 (by decide) mw_3_4 dX12_solid_76 k10 rfl ?_
                  refine gx_bipush (iI 60) dX12_solid_79 (by decide) ?_
                  refine gy_icmp_ne 89 dX12_solid_81 (by decide) (by constructor <;> omega) (by decide) (fun c81 => ?_) (fun c81 => ?_)
                  · refine gx_aload_n 2 dX12_solid_89 rfl rfl ?_
                    refine gx_iload_n 3 dX12_solid_90 rfl rfl ?_
                    refine gx_iconst (iI 1) dX12_solid_91 rfl ?_
                    refine gx_callV (ci := 11) (c_X12_made l D cI cL cR lo h1 hi Kf Nf Wf fz n 0 FB fh ff fl hc sc ⟨k10, k2, k3, k4, k5, k6, k7, k8, k9⟩ (by omega) kind 1) ok_X12_made mw_3_47 mw_3_49 mw_p_11 dX12_solid_92 rfl k10 rfl rfl (Nat.le_of_ble_eq_true rfl) (by first | exact Nat.le_of_ble_eq_true rfl | (simp only [rM]; omega)) (by first | exact Nat.le_of_ble_eq_true rfl | (simp only [rM]; omega)) (by first | exact Nat.le_of_ble_eq_true rfl | (simp only [rM]; omega)) (by first | exact Nat.le_of_ble_eq_true rfl | (simp only [rM]; omega)) (fun r46 h47 u48 q49 g50 => ?_)
                    obtain ⟨rfl, ⟨P0, P1, P2, P3, P4, P5, P6, P7, P8⟩, mfd, rfl⟩ := q49
                    refine ch_Gst (st2 := [.int (iI ((n : Int) + 1))]) rfl ?_
                    refine gx_iret rfl dX12_solid_95 (by first | exact Nat.le_of_ble_eq_true rfl | (simp only [rM]; omega)) (by first | exact Nat.le_of_ble_eq_true rfl | (simp only [rM]; omega)) ?_
                    have hok : c = szN kind ∧ 0 ≤ rdO fz kind := ⟨by omega, by omega⟩
                    exact ⟨fun _ => ⟨rfl, ⟨P0, P1, P2, P3, P4, P5, P6, P7, P8⟩⟩, fun q => absurd ⟨hok, by omega⟩ q, fun b hb => by rw [mfd b hb, eh1, ch_set_ne (by omega)], rfl⟩
                  · refine gx_bipush (iI (-2)) dX12_solid_84 (by decide) ?_
                    refine gx_goto 95 dX12_solid_86 (by decide) ?_
                    refine gx_iret rfl dX12_solid_95 (by first | exact Nat.le_of_ble_eq_true rfl | (simp only [rM]; omega)) (by first | exact Nat.le_of_ble_eq_true rfl | (simp only [rM]; omega)) ?_
                    have hok : c = szN kind ∧ 0 ≤ rdO fz kind := ⟨by omega, by omega⟩
                    exact ⟨fun q => absurd q.2 (by omega), fun _ => ⟨by rw [if_pos hok], ⟨k10, k2, k3, k4, k5, k6, k7, k8, k9⟩⟩, fun b hb => by rw [eh1, ch_set_ne (by omega)], rfl⟩
                · refine gx_iconst (iI (-1)) dX12_solid_73 rfl ?_
                  refine gx_iret rfl dX12_solid_74 (by first | exact Nat.le_of_ble_eq_true rfl | (simp only [rM]; omega)) (by first | exact Nat.le_of_ble_eq_true rfl | (simp only [rM]; omega)) ?_
                  have hno : ¬ (c = szN kind ∧ 0 ≤ rdO fz kind) := by omega
                  exact ⟨fun q => absurd q.1 hno, fun _ => ⟨by rw [if_neg hno], ⟨k10, k2, k3, k4, k5, k6, k7, k8, k9⟩⟩, fun b hb => by rw [eh1, ch_set_ne (by omega)], rfl⟩
              · refine gx_iconst (iI 3) dX12_solid_64 rfl ?_
                refine gx_goto 69 dX12_solid_65 (by decide) ?_
                refine gy_iald dX12_solid_69 k5 (by decide) (by decide) (by decide) ?_
                refine ch_Gst (st2 := [.int (iI (fz 3))]) rfl ?_
                refine gy_if_ge 75 dX12_solid_70 (by decide) (by constructor <;> omega) (fun c70 => ?_) (fun c70 => ?_)
                · refine gx_aload_n 2 dX12_solid_75 rfl rfl ?_
                  refine gx_get (ci := 11) (f := 3) (C := RX12) (T := TX12) (N := 12) rfl inX12 (by decide) mw_3_4 dX12_solid_76 k10 rfl ?_
                  refine gx_bipush (iI 60) dX12_solid_79 (by decide) ?_
                  refine gy_icmp_ne 89 dX12_solid_81 (by decide) (by constructor <;> omega) (by decide) (fun c81 => ?_) (fun c81 => ?_)
                  · refine gx_aload_n 2 dX12_solid_89 rfl rfl ?_
                    refine gx_iload_n 3 dX12_solid_90 rfl rfl ?_
                    refine gx_iconst (iI 1) dX12_solid_91 rfl ?_
                    refine gx_callV (ci := 11) (c_X12_made l D cI cL cR lo h1 hi Kf Nf Wf fz n 0 FB fh ff fl hc sc ⟨k10, k2, k3, k4, k5, k6, k7, k8, k9⟩ (by omega) kind 1) ok_X12_made mw_3_47 mw_3_49 mw_p_11 dX12_solid_92 rfl k10 rfl rfl (Nat.le_of_ble_eq_true rfl) (by first | exact Nat.le_of_ble_eq_true rfl | (simp only [rM]; omega)) (by first | exact Nat.le_of_ble_eq_true rfl | (simp only [rM]; omega)) (by first | exact Nat.le_of_ble_eq_true rfl | (simp only [rM]; omega)) (by first | exact Nat.le_of_ble_eq_true rfl | (simp only [rM]; omega)) (fun r51 h52 u53 q54 g55 => ?_)
                    obtain ⟨rfl, ⟨P0, P1, P2, P3, P4, P5, P6, P7, P8⟩, mfd, rfl⟩ := q54
                    refine ch_Gst (st2 := [.int (iI ((n : Int) + 1))]) rfl ?_
                    refine gx_iret rfl dX12_solid_95 (by first | exact Nat.le_of_ble_eq_true rfl | (simp only [rM]; omega)) (by first | exact Nat.le_of_ble_eq_true rfl | (simp only [rM]; omega)) ?_
                    have hok : c = szN kind ∧ 0 ≤ rdO fz kind := ⟨by omega, by omega⟩
                    exact ⟨fun _ => ⟨rfl, ⟨P0, P1, P2, P3, P4, P5, P6, P7, P8⟩⟩, fun q => absurd ⟨hok, by omega⟩ q, fun b hb => by rw [mfd b hb, eh1, ch_set_ne (by omega)], rfl⟩
                  · refine gx_bipush (iI (-2)) dX12_solid_84 (by decide) ?_
                    refine gx_goto 95 dX12_solid_86 (by decide) ?_
                    refine gx_iret rfl dX12_solid_95 (by first | exact Nat.le_of_ble_eq_true rfl | (simp only [rM]; omega)) (by first | exact Nat.le_of_ble_eq_true rfl | (simp only [rM]; omega)) ?_
                    have hok : c = szN kind ∧ 0 ≤ rdO fz kind := ⟨by omega, by omega⟩
                    exact ⟨fun q => absurd q.2 (by omega), fun _ => ⟨by rw [if_pos hok], ⟨k10, k2, k3, k4, k5, k6, k7, k8, k9⟩⟩, fun b hb => by rw [eh1, ch_set_ne (by omega)], rfl⟩
                · refine gx_iconst (iI (-1)) dX12_solid_73 rfl ?_
                  refine gx_iret rfl dX12_solid_74 (by first | exact Nat.le_of_ble_eq_true rfl | (simp only [rM]; omega)) (by first | exact Nat.le_of_ble_eq_true rfl | (simp only [rM]; omega)) ?_
                  have hno : ¬ (c = szN kind ∧ 0 ≤ rdO fz kind) := by omega
                  exact ⟨fun q => absurd q.1 hno, fun _ => ⟨by rw [if_neg hno], ⟨k10, k2, k3, k4, k5, k6, k7, k8, k9⟩⟩, fun b hb => by rw [eh1, ch_set_ne (by omega)], rfl⟩
          · refine gx_iconst (iI (-1)) dX12_solid_49 rfl ?_
            refine gx_iret rfl dX12_solid_50 (by first | exact Nat.le_of_ble_eq_true rfl | (simp only [rM]; omega)) (by first | exact Nat.le_of_ble_eq_true rfl | (simp only [rM]; omega)) ?_
            have hno : ¬ (c = szN kind ∧ 0 ≤ rdO fz kind) := by omega
            exact ⟨fun q => absurd q.1 hno, fun _ => ⟨by rw [if_neg hno], ⟨k10, k2, k3, k4, k5, k6, k7, k8, k9⟩⟩, fun b hb => by rw [eh1, ch_set_ne (by omega)], rfl⟩
      · refine gx_iconst (iI 5) dX12_solid_29 rfl ?_
        refine gx_goto 43 dX12_solid_30 (by decide) ?_
        refine gx_istore_n [(3, .int (iI 5)), (2, .int (iI c)), (0, .ref (lo + 17)), (1, .int (iI kind))] dX12_solid_43 rfl (by decide) rfl ?_
        have esz : szN kind = 5 := by unfold szN; rw [if_neg (by omega), if_neg (by omega), if_neg (by omega), if_pos c26]
        have erd : rdO fz kind = fz 2 := by unfold rdO; rw [if_neg (by omega), if_neg (by omega), if_pos (by omega)]
        refine gx_iload_n 1 dX12_solid_44 rfl rfl ?_
        refine gx_iload_n 0 dX12_solid_45 rfl rfl ?_
        refine gy_icmp_eq 51 dX12_solid_46 (by decide) (by constructor <;> omega) (by decide) (fun c46 => ?_) (fun c46 => ?_)
        · refine gx_iload_n 3 dX12_solid_51 rfl rfl ?_
          refine gy_if_le 75 dX12_solid_52 (by decide) (by constructor <;> omega) (fun c52 => ?_) (fun c52 => ?_)
          · refine gx_aload_n 2 dX12_solid_75 rfl rfl ?_
            refine gx_get (ci := 11) (f := 3) (C := RX12) (T := TX12) (N := 12) rfl inX12 (by decide) mw_3_4 dX12_solid_76 k10 rfl ?_
            refine gx_bipush (iI 60) dX12_solid_79 (by decide) ?_
            refine gy_icmp_ne 89 dX12_solid_81 (by decide) (by constructor <;> omega) (by decide) (fun c81 => ?_) (fun c81 => ?_)
            · refine gx_aload_n 2 dX12_solid_89 rfl rfl ?_
              refine gx_iload_n 3 dX12_solid_90 rfl rfl ?_
              refine gx_iconst (iI 1) dX12_solid_91 rfl ?_
              refine gx_callV (ci := 11) (c_X12_made l D cI cL cR lo h1 hi Kf Nf Wf fz n 0 FB fh ff fl hc sc ⟨k10, k2, k3, k4, k5, k6, k7, k8, k9⟩ (by omega) kind 1) ok_X12_made mw_3_47 mw_3_49 mw_p_11 dX12_solid_92 rfl k10 rfl rfl (Nat.le_of_ble_eq_true rfl) (by first | exact Nat.le_of_ble_eq_true rfl | (simp only [rM]; omega)) (by first | exact Nat.le_of_ble_eq_true rfl | (simp only [rM]; omega)) (by first | exact Nat.le_of_ble_eq_true rfl | (simp only [rM]; omega)) (by first | exact Nat.le_of_ble_eq_true rfl | (simp only [rM]; omega)) (fun r56 h57 u58 q59 g60 => ?_)
              obtain ⟨rfl, ⟨P0, P1, P2, P3, P4, P5, P6, P7, P8⟩, mfd, rfl⟩ := q59
              refine ch_Gst (st2 := [.int (iI ((n : Int) + 1))]) rfl ?_
              refine gx_iret rfl dX12_solid_95 (by first | exact Nat.le_of_ble_eq_true rfl | (simp only [rM]; omega)) (by first | exact Nat.le_of_ble_eq_true rfl | (simp only [rM]; omega)) ?_
              have hok : c = szN kind ∧ 0 ≤ rdO fz kind := ⟨by omega, by omega⟩
              exact ⟨fun _ => ⟨rfl, ⟨P0, P1, P2, P3, P4, P5, P6, P7, P8⟩⟩, fun q => absurd ⟨hok, by omega⟩ q, fun b hb => by rw [mfd b hb, eh1, ch_set_ne (by omega)], rfl⟩
            · refine gx_bipush (iI (-2)) dX12_solid_84 (by decide) ?_
              refine gx_goto 95 dX12_solid_86 (by decide) ?_
              refine gx_iret rfl dX12_solid_95 (by first | exact Nat.le_of_ble_eq_true rfl | (simp only [rM]; omega)) (by first | exact Nat.le_of_ble_eq_true rfl | (simp only [rM]; omega)) ?_
              have hok : c = szN kind ∧ 0 ≤ rdO fz kind := ⟨by omega, by omega⟩
              exact ⟨fun q => absurd q.2 (by omega), fun _ => ⟨by rw [if_pos hok], ⟨k10, k2, k3, k4, k5, k6, k7, k8, k9⟩⟩, fun b hb => by rw [eh1, ch_set_ne (by omega)], rfl⟩
          · refine gx_aload_n 2 dX12_solid_55 rfl rfl ?_
            refine gx_get (ci := 11) (f := 4) (C := RX12) (T := TX12) (N := 12) rfl inX12 (by decide) mw_3_5 dX12_solid_56 k10 rfl ?_
            refine gx_iload_n 3 dX12_solid_59 rfl rfl ?_
            refine gx_iconst (iI 2) dX12_solid_60 rfl ?_
            refine gy_icmp_ne 68 dX12_solid_61 (by decide) (by constructor <;> omega) (by decide) (fun c61 => ?_) (fun c61 => ?_)
            · refine gx_iconst (iI 2) dX12_solid_68 rfl ?_
              refine gy_iald dX12_solid_69 k5 (by decide) (by decide) (by decide) ?_
              refine ch_Gst (st2 := [.int (iI (fz 2))]) rfl ?_
              refine gy_if_ge 75 dX12_solid_70 (by decide) (by constructor <;> omega) (fun c70 => ?_) (fun c70 => ?_)
              · refine gx_aload_n 2 dX12_solid_75 rfl rfl ?_
                refine gx_get (ci := 11) (f := 3) (C := RX12) (T := TX12) (N := 12) rfl inX12 (by decide) mw_3_4 dX12_solid_76 k10 rfl ?_
                refine gx_bipush (iI 60) dX12_solid_79 (by decide) ?_
                refine gy_icmp_ne 89 dX12_solid_81 (by decide) (by constructor <;> omega) (by decide) (fun c81 => ?_) (fun c81 => ?_)
                · refine gx_aload_n 2 dX12_solid_89 rfl rfl ?_
                  refine gx_iload_n 3 dX12_solid_90 rfl rfl ?_
                  refine gx_iconst (iI 1) dX12_solid_91 rfl ?_
                  refine gx_callV (ci := 11) (c_X12_made l D cI cL cR lo h1 hi Kf Nf Wf fz n 0 FB fh ff fl hc sc ⟨k10, k2, k3, k4, k5, k6, k7, k8, k9⟩ (by omega) kind 1) ok_X12_made mw_3_47 mw_3_49 mw_p_11 dX12_solid_92 rfl k10 rfl rfl (Nat.le_of_ble_eq_true rfl) (by first | exact Nat.le_of_ble_eq_true rfl | (simp only [rM]; omega)) (by first | exact Nat.le_of_ble_eq_true rfl | (simp only [rM]; omega)) (by first | exact Nat.le_of_ble_eq_true rfl | (simp only [rM]; omega)) (by first | exact Nat.le_of_ble_eq_true rfl | (simp only [rM]; omega)) (fun r61 h62 u63 q64 g65 => ?_)
                  obtain ⟨rfl, ⟨P0, P1, P2, P3, P4, P5, P6, P7, P8⟩, mfd, rfl⟩ := q64
                  refine ch_Gst (st2 := [.int (iI ((n : Int) + 1))]) rfl ?_
                  refine gx_iret rfl dX12_solid_95 (by first | exact Nat.le_of_ble_eq_true rfl | (simp only [rM]; omega)) (by first | exact Nat.le_of_ble_eq_true rfl | (simp only [rM]; omega)) ?_
                  have hok : c = szN kind ∧ 0 ≤ rdO fz kind := ⟨by omega, by omega⟩
                  exact ⟨fun _ => ⟨rfl, ⟨P0, P1, P2, P3, P4, P5, P6, P7, P8⟩⟩, fun q => absurd ⟨hok, by omega⟩ q, fun b hb => by rw [mfd b hb, eh1, ch_set_ne (by omega)], rfl⟩
                · refine gx_bipush (iI (-2)) dX12_solid_84 (by decide) ?_
                  refine gx_goto 95 dX12_solid_86 (by decide) ?_
                  refine gx_iret rfl dX12_solid_95 (by first | exact Nat.le_of_ble_eq_true rfl | (simp only [rM]; omega)) (by first | exact Nat.le_of_ble_eq_true rfl | (simp only [rM]; omega)) ?_
                  have hok : c = szN kind ∧ 0 ≤ rdO fz kind := ⟨by omega, by omega⟩
                  exact ⟨fun q => absurd q.2 (by omega), fun _ => ⟨by rw [if_pos hok], ⟨k10, k2, k3, k4, k5, k6, k7, k8, k9⟩⟩, fun b hb => by rw [eh1, ch_set_ne (by omega)], rfl⟩
              · refine gx_iconst (iI (-1)) dX12_solid_73 rfl ?_
                refine gx_iret rfl dX12_solid_74 (by first | exact Nat.le_of_ble_eq_true rfl | (simp only [rM]; omega)) (by first | exact Nat.le_of_ble_eq_true rfl | (simp only [rM]; omega)) ?_
                have hno : ¬ (c = szN kind ∧ 0 ≤ rdO fz kind) := by omega
                exact ⟨fun q => absurd q.1 hno, fun _ => ⟨by rw [if_neg hno], ⟨k10, k2, k3, k4, k5, k6, k7, k8, k9⟩⟩, fun b hb => by rw [eh1, ch_set_ne (by omega)], rfl⟩
            · refine gx_iconst (iI 3) dX12_solid_64 rfl ?_
              refine gx_goto 69 dX12_solid_65 (by decide) ?_
              refine gy_iald dX12_solid_69 k5 (by decide) (by decide) (by decide) ?_
              refine ch_Gst (st2 := [.int (iI (fz 3))]) rfl ?_
              refine gy_if_ge 75 dX12_solid_70 (by decide) (by constructor <;> omega) (fun c70 => ?_) (fun c70 => ?_)
              · refine gx_aload_n 2 dX12_solid_75 rfl rfl ?_
                refine gx_get (ci := 11) (f := 3) (C := RX12) (T := TX12) (N := 12) rfl inX12 (by decide) mw_3_4 dX12_solid_76 k10 rfl ?_
                refine gx_bipush (iI 60) dX12_solid_79 (by decide) ?_
                refine gy_icmp_ne 89 dX12_solid_81 (by decide) (by constructor <;> omega) (by decide) (fun c81 => ?_) (fun c81 => ?_)
                · refine gx_aload_n 2 dX12_solid_89 rfl rfl ?_
                  refine gx_iload_n 3 dX12_solid_90 rfl rfl ?_
                  refine gx_iconst (iI 1) dX12_solid_91 rfl ?_
                  refine gx_callV (ci := 11) (c_X12_made l D cI cL cR lo h1 hi Kf Nf Wf fz n 0 FB fh ff fl hc sc ⟨k10, k2, k3, k4, k5, k6, k7, k8, k9⟩ (by omega) kind 1) ok_X12_made mw_3_47 mw_3_49 mw_p_11 dX12_solid_92 rfl k10 rfl rfl (Nat.le_of_ble_eq_true rfl) (by first | exact Nat.le_of_ble_eq_true rfl | (simp only [rM]; omega)) (by first | exact Nat.le_of_ble_eq_true rfl | (simp only [rM]; omega)) (by first | exact Nat.le_of_ble_eq_true rfl | (simp only [rM]; omega)) (by first | exact Nat.le_of_ble_eq_true rfl | (simp only [rM]; omega)) (fun r66 h67 u68 q69 g70 => ?_)
                  obtain ⟨rfl, ⟨P0, P1, P2, P3, P4, P5, P6, P7, P8⟩, mfd, rfl⟩ := q69
                  refine ch_Gst (st2 := [.int (iI ((n : Int) + 1))]) rfl ?_
                  refine gx_iret rfl dX12_solid_95 (by first | exact Nat.le_of_ble_eq_true rfl | (simp only [rM]; omega)) (by first | exact Nat.le_of_ble_eq_true rfl | (simp only [rM]; omega)) ?_
                  have hok : c = szN kind ∧ 0 ≤ rdO fz kind := ⟨by omega, by omega⟩
                  exact ⟨fun _ => ⟨rfl, ⟨P0, P1, P2, P3, P4, P5, P6, P7, P8⟩⟩, fun q => absurd ⟨hok, by omega⟩ q, fun b hb => by rw [mfd b hb, eh1, ch_set_ne (by omega)], rfl⟩
                · refine gx_bipush (iI (-2)) dX12_solid_84 (by decide) ?_
                  refine gx_goto 95 dX12_solid_86 (by decide) ?_
                  refine gx_iret rfl dX12_solid_95 (by first | exact Nat.le_of_ble_eq_true rfl | (simp only [rM]; omega)) (by first | exact Nat.le_of_ble_eq_true rfl | (simp only [rM]; omega)) ?_
                  have hok : c = szN kind ∧ 0 ≤ rdO fz kind := ⟨by omega, by omega⟩
                  exact ⟨fun q => absurd q.2 (by omega), fun _ => ⟨by rw [if_pos hok], ⟨k10, k2, k3, k4, k5, k6, k7, k8, k9⟩⟩, fun b hb => by rw [eh1, ch_set_ne (by omega)], rfl⟩
              · refine gx_iconst (iI (-1)) dX12_solid_73 rfl ?_
                refine gx_iret rfl dX12_solid_74 (by first | exact Nat.le_of_ble_eq_true rfl | (simp only [rM]; omega)) (by first | exact Nat.le_of_ble_eq_true rfl | (simp only [rM]; omega)) ?_
                have hno : ¬ (c = szN kind ∧ 0 ≤ rdO fz kind) := by omega
                exact ⟨fun q => absurd q.1 hno, fun _ => ⟨by rw [if_neg hno], ⟨k10, k2, k3, k4, k5, k6, k7, k8, k9⟩⟩, fun b hb => by rw [eh1, ch_set_ne (by omega)], rfl⟩
        · refine gx_iconst (iI (-1)) dX12_solid_49 rfl ?_
          refine gx_iret rfl dX12_solid_50 (by first | exact Nat.le_of_ble_eq_true rfl | (simp only [rM]; omega)) (by first | exact Nat.le_of_ble_eq_true rfl | (simp only [rM]; omega)) ?_
          have hno : ¬ (c = szN kind ∧ 0 ≤ rdO fz kind) := by omega
          exact ⟨fun q => absurd q.1 hno, fun _ => ⟨by rw [if_neg hno], ⟨k10, k2, k3, k4, k5, k6, k7, k8, k9⟩⟩, fun b hb => by rw [eh1, ch_set_ne (by omega)], rfl⟩
  · refine gx_bipush (iI 6) dX12_solid_14 (by decide) ?_
    refine gx_goto 43 dX12_solid_16 (by decide) ?_
    refine gx_istore_n [(3, .int (iI 6)), (2, .int (iI c)), (0, .ref (lo + 17)), (1, .int (iI kind))] dX12_solid_43 rfl (by decide) rfl ?_
    have esz : szN kind = 6 := by unfold szN; rw [if_pos c11]
    have erd : rdO fz kind = 0 := by unfold rdO; rw [if_neg (by omega), if_neg (by omega), if_neg (by omega)]
    refine gx_iload_n 1 dX12_solid_44 rfl rfl ?_
    refine gx_iload_n 0 dX12_solid_45 rfl rfl ?_
    refine gy_icmp_eq 51 dX12_solid_46 (by decide) (by constructor <;> omega) (by decide) (fun c46 => ?_) (fun c46 => ?_)
    · refine gx_iload_n 3 dX12_solid_51 rfl rfl ?_
      refine gy_if_le 75 dX12_solid_52 (by decide) (by constructor <;> omega) (fun c52 => ?_) (fun c52 => ?_)
      · refine gx_aload_n 2 dX12_solid_75 rfl rfl ?_
        refine gx_get (ci := 11) (f := 3) (C := RX12) (T := TX12) (N := 12) rfl inX12 (by decide) mw_3_4 dX12_solid_76 k10 rfl ?_
        refine gx_bipush (iI 60) dX12_solid_79 (by decide) ?_
        refine gy_icmp_ne 89 dX12_solid_81 (by decide) (by constructor <;> omega) (by decide) (fun c81 => ?_) (fun c81 => ?_)
        · refine gx_aload_n 2 dX12_solid_89 rfl rfl ?_
          refine gx_iload_n 3 dX12_solid_90 rfl rfl ?_
          refine gx_iconst (iI 1) dX12_solid_91 rfl ?_
          refine gx_callV (ci := 11) (c_X12_made l D cI cL cR lo h1 hi Kf Nf Wf fz n 0 FB fh ff fl hc sc ⟨k10, k2, k3, k4, k5, k6, k7, k8, k9⟩ (by omega) kind 1) ok_X12_made mw_3_47 mw_3_49 mw_p_11 dX12_solid_92 rfl k10 rfl rfl (Nat.le_of_ble_eq_true rfl) (by first | exact Nat.le_of_ble_eq_true rfl | (simp only [rM]; omega)) (by first | exact Nat.le_of_ble_eq_true rfl | (simp only [rM]; omega)) (by first | exact Nat.le_of_ble_eq_true rfl | (simp only [rM]; omega)) (by first | exact Nat.le_of_ble_eq_true rfl | (simp only [rM]; omega)) (fun r71 h72 u73 q74 g75 => ?_)
          obtain ⟨rfl, ⟨P0, P1, P2, P3, P4, P5, P6, P7, P8⟩, mfd, rfl⟩ := q74
          refine ch_Gst (st2 := [.int (iI ((n : Int) + 1))]) rfl ?_
          refine gx_iret rfl dX12_solid_95 (by first | exact Nat.le_of_ble_eq_true rfl | (simp only [rM]; omega)) (by first | exact Nat.le_of_ble_eq_true rfl | (simp only [rM]; omega)) ?_
          have hok : c = szN kind ∧ 0 ≤ rdO fz kind := ⟨by omega, by omega⟩
          exact ⟨fun _ => ⟨rfl, ⟨P0, P1, P2, P3, P4, P5, P6, P7, P8⟩⟩, fun q => absurd ⟨hok, by omega⟩ q, fun b hb => by rw [mfd b hb, eh1, ch_set_ne (by omega)], rfl⟩
        · refine gx_bipush (iI (-2)) dX12_solid_84 (by decide) ?_
          refine gx_goto 95 dX12_solid_86 (by decide) ?_
          refine gx_iret rfl dX12_solid_95 (by first | exact Nat.le_of_ble_eq_true rfl | (simp only [rM]; omega)) (by first | exact Nat.le_of_ble_eq_true rfl | (simp only [rM]; omega)) ?_
          have hok : c = szN kind ∧ 0 ≤ rdO fz kind := ⟨by omega, by omega⟩
          exact ⟨fun q => absurd q.2 (by omega), fun _ => ⟨by rw [if_pos hok], ⟨k10, k2, k3, k4, k5, k6, k7, k8, k9⟩⟩, fun b hb => by rw [eh1, ch_set_ne (by omega)], rfl⟩
      · refine gx_aload_n 2 dX12_solid_55 rfl rfl ?_
        refine gx_get (ci := 11) (f := 4) (C := RX12) (T := TX12) (N := 12) rfl inX12 (by decide) mw_3_5 dX12_solid_56 k10 rfl ?_
        refine gx_iload_n 3 dX12_solid_59 rfl rfl ?_
        refine gx_iconst (iI 2) dX12_solid_60 rfl ?_
        refine gy_icmp_ne 68 dX12_solid_61 (by decide) (by constructor <;> omega) (by decide) (fun c61 => ?_) (fun c61 => ?_)
        · refine gx_iconst (iI 2) dX12_solid_68 rfl ?_
          refine gy_iald dX12_solid_69 k5 (by decide) (by decide) (by decide) ?_
          refine ch_Gst (st2 := [.int (iI (fz 2))]) rfl ?_
          refine gy_if_ge 75 dX12_solid_70 (by decide) (by constructor <;> omega) (fun c70 => ?_) (fun c70 => ?_)
          · refine gx_aload_n 2 dX12_solid_75 rfl rfl ?_
            refine gx_get (ci := 11) (f := 3) (C := RX12) (T := TX12) (N := 12) rfl inX12 (by decide) mw_3_4 dX12_solid_76 k10 rfl ?_
            refine gx_bipush (iI 60) dX12_solid_79 (by decide) ?_
            refine gy_icmp_ne 89 dX12_solid_81 (by decide) (by constructor <;> omega) (by decide) (fun c81 => ?_) (fun c81 => ?_)
            · refine gx_aload_n 2 dX12_solid_89 rfl rfl ?_
              refine gx_iload_n 3 dX12_solid_90 rfl rfl ?_
              refine gx_iconst (iI 1) dX12_solid_91 rfl ?_
              refine gx_callV (ci := 11) (c_X12_made l D cI cL cR lo h1 hi Kf Nf Wf fz n 0 FB fh ff fl hc sc ⟨k10, k2, k3, k4, k5, k6, k7, k8, k9⟩ (by omega) kind 1) ok_X12_made mw_3_47 mw_3_49 mw_p_11 dX12_solid_92 rfl k10 rfl rfl (Nat.le_of_ble_eq_true rfl) (by first | exact Nat.le_of_ble_eq_true rfl | (simp only [rM]; omega)) (by first | exact Nat.le_of_ble_eq_true rfl | (simp only [rM]; omega)) (by first | exact Nat.le_of_ble_eq_true rfl | (simp only [rM]; omega)) (by first | exact Nat.le_of_ble_eq_true rfl | (simp only [rM]; omega)) (fun r76 h77 u78 q79 g80 => ?_)
              obtain ⟨rfl, ⟨P0, P1, P2, P3, P4, P5, P6, P7, P8⟩, mfd, rfl⟩ := q79
              refine ch_Gst (st2 := [.int (iI ((n : Int) + 1))]) rfl ?_
              refine gx_iret rfl dX12_solid_95 (by first | exact Nat.le_of_ble_eq_true rfl | (simp only [rM]; omega)) (by first | exact Nat.le_of_ble_eq_true rfl | (simp only [rM]; omega)) ?_
              have hok : c = szN kind ∧ 0 ≤ rdO fz kind := ⟨by omega, by omega⟩
              exact ⟨fun _ => ⟨rfl, ⟨P0, P1, P2, P3, P4, P5, P6, P7, P8⟩⟩, fun q => absurd ⟨hok, by omega⟩ q, fun b hb => by rw [mfd b hb, eh1, ch_set_ne (by omega)], rfl⟩
            · refine gx_bipush (iI (-2)) dX12_solid_84 (by decide) ?_
              refine gx_goto 95 dX12_solid_86 (by decide) ?_
              refine gx_iret rfl dX12_solid_95 (by first | exact Nat.le_of_ble_eq_true rfl | (simp only [rM]; omega)) (by first | exact Nat.le_of_ble_eq_true rfl | (simp only [rM]; omega)) ?_
              have hok : c = szN kind ∧ 0 ≤ rdO fz kind := ⟨by omega, by omega⟩
              exact ⟨fun q => absurd q.2 (by omega), fun _ => ⟨by rw [if_pos hok], ⟨k10, k2, k3, k4, k5, k6, k7, k8, k9⟩⟩, fun b hb => by rw [eh1, ch_set_ne (by omega)], rfl⟩
          · refine gx_iconst (iI (-1)) dX12_solid_73 rfl ?_
            refine gx_iret rfl dX12_solid_74 (by first | exact Nat.le_of_ble_eq_true rfl | (simp only [rM]; omega)) (by first | exact Nat.le_of_ble_eq_true rfl | (simp only [rM]; omega)) ?_
            have hno : ¬ (c = szN kind ∧ 0 ≤ rdO fz kind) := by omega
            exact ⟨fun q => absurd q.1 hno, fun _ => ⟨by rw [if_neg hno], ⟨k10, k2, k3, k4, k5, k6, k7, k8, k9⟩⟩, fun b hb => by rw [eh1, ch_set_ne (by omega)], rfl⟩
        · refine gx_iconst (iI 3) dX12_solid_64 rfl ?_
          refine gx_goto 69 dX12_solid_65 (by decide) ?_
          refine gy_iald dX12_solid_69 k5 (by decide) (by decide) (by decide) ?_
          refine ch_Gst (st2 := [.int (iI (fz 3))]) rfl ?_
          refine gy_if_ge 75 dX12_solid_70 (by decide) (by constructor <;> omega) (fun c70 => ?_) (fun c70 => ?_)
          · refine gx_aload_n 2 dX12_solid_75 rfl rfl ?_
            refine gx_get (ci := 11) (f := 3) (C := RX12) (T := TX12) (N := 12) rfl inX12 (by decide) mw_3_4 dX12_solid_76 k10 rfl ?_
            refine gx_bipush (iI 60) dX12_solid_79 (by decide) ?_
            refine gy_icmp_ne 89 dX12_solid_81 (by decide) (by constructor <;> omega) (by decide) (fun c81 => ?_) (fun c81 => ?_)
            · refine gx_aload_n 2 dX12_solid_89 rfl rfl ?_
              refine gx_iload_n 3 dX12_solid_90 rfl rfl ?_
              refine gx_iconst (iI 1) dX12_solid_91 rfl ?_
              refine gx_callV (ci := 11) (c_X12_made l D cI cL cR lo h1 hi Kf Nf Wf fz n 0 FB fh ff fl hc sc ⟨k10, k2, k3, k4, k5, k6, k7, k8, k9⟩ (by omega) kind 1) ok_X12_made mw_3_47 mw_3_49 mw_p_11 dX12_solid_92 rfl k10 rfl rfl (Nat.le_of_ble_eq_true rfl) (by first | exact Nat.le_of_ble_eq_true rfl | (simp only [rM]; omega)) (by first | exact Nat.le_of_ble_eq_true rfl | (simp only [rM]; omega)) (by first | exact Nat.le_of_ble_eq_true rfl | (simp only [rM]; omega)) (by first | exact Nat.le_of_ble_eq_true rfl | (simp only [rM]; omega)) (fun r81 h82 u83 q84 g85 => ?_)
              obtain ⟨rfl, ⟨P0, P1, P2, P3, P4, P5, P6, P7, P8⟩, mfd, rfl⟩ := q84
              refine ch_Gst (st2 := [.int (iI ((n : Int) + 1))]) rfl ?_
              refine gx_iret rfl dX12_solid_95 (by first | exact Nat.le_of_ble_eq_true rfl | (simp only [rM]; omega)) (by first | exact Nat.le_of_ble_eq_true rfl | (simp only [rM]; omega)) ?_
              have hok : c = szN kind ∧ 0 ≤ rdO fz kind := ⟨by omega, by omega⟩
              exact ⟨fun _ => ⟨rfl, ⟨P0, P1, P2, P3, P4, P5, P6, P7, P8⟩⟩, fun q => absurd ⟨hok, by omega⟩ q, fun b hb => by rw [mfd b hb, eh1, ch_set_ne (by omega)], rfl⟩
            · refine gx_bipush (iI (-2)) dX12_solid_84 (by decide) ?_
              refine gx_goto 95 dX12_solid_86 (by decide) ?_
              refine gx_iret rfl dX12_solid_95 (by first | exact Nat.le_of_ble_eq_true rfl | (simp only [rM]; omega)) (by first | exact Nat.le_of_ble_eq_true rfl | (simp only [rM]; omega)) ?_
              have hok : c = szN kind ∧ 0 ≤ rdO fz kind := ⟨by omega, by omega⟩
              exact ⟨fun q => absurd q.2 (by omega), fun _ => ⟨by rw [if_pos hok], ⟨k10, k2, k3, k4, k5, k6, k7, k8, k9⟩⟩, fun b hb => by rw [eh1, ch_set_ne (by omega)], rfl⟩
          · refine gx_iconst (iI (-1)) dX12_solid_73 rfl ?_
            refine gx_iret rfl dX12_solid_74 (by first | exact Nat.le_of_ble_eq_true rfl | (simp only [rM]; omega)) (by first | exact Nat.le_of_ble_eq_true rfl | (simp only [rM]; omega)) ?_
            have hno : ¬ (c = szN kind ∧ 0 ≤ rdO fz kind) := by omega
            exact ⟨fun q => absurd q.1 hno, fun _ => ⟨by rw [if_neg hno], ⟨k10, k2, k3, k4, k5, k6, k7, k8, k9⟩⟩, fun b hb => by rw [eh1, ch_set_ne (by omega)], rfl⟩
    · refine gx_iconst (iI (-1)) dX12_solid_49 rfl ?_
      refine gx_iret rfl dX12_solid_50 (by first | exact Nat.le_of_ble_eq_true rfl | (simp only [rM]; omega)) (by first | exact Nat.le_of_ble_eq_true rfl | (simp only [rM]; omega)) ?_
      have hno : ¬ (c = szN kind ∧ 0 ≤ rdO fz kind) := by omega
      exact ⟨fun q => absurd q.1 hno, fun _ => ⟨by rw [if_neg hno], ⟨k10, k2, k3, k4, k5, k6, k7, k8, k9⟩⟩, fun b hb => by rw [eh1, ch_set_ne (by omega)], rfl⟩
set_option maxHeartbeats 4000000 in
set_option maxRecDepth 100000 in
theorem c_X12_span (l : Launch) (D : va_G) (cI cL cR : ClassId) (lo : Nat) (h : ch_H) (hi : Nat) (Kf Nf Wf fz : Nat → Int) (n : Nat) (c : Int) (FB : Nat → Int64) (fh ff fl : Nat → Int) (hc sc : Int) (MM : mmP cI cL lo h Kf Nf Wf fz n c FB fh ff fl hc sc) (hsc : 0 ≤ sc ∧ sc ≤ 100) (k w : Int) (hk : ir k) (hw : ir w) : ch_C l (eE D cI cL cR lo) M_X12_span (rM 0 0 0) [.ref (lo + 17), .int (iI k), .int (iI w)] h hi (fun r0 h2 hi2 => r0 = some (.int (iI (if 0 ≤ k ∧ k < sc ∧ 0 ≤ w ∧ w ≤ 1 then (if w = 0 then ff k.toNat else fl k.toNat) else 0))) ∧ h = h2 ∧ hi = hi2) := by
  refine ch_C.of rfl (Nat.le_of_ble_eq_true rfl) ?_
  have MM0 := MM
  obtain ⟨M0, M1, M2, M3, M4, M5, M6, M7, M8⟩ := MM
  refine gx_iload_n 1 dX12_span_0 rfl rfl ?_
  refine gy_if_lt 21 dX12_span_1 (by decide) (by constructor <;> omega) (fun c1 => ?_) (fun c1 => ?_)
  · refine gx_iconst (iI 0) dX12_span_21 rfl ?_
    refine gx_iret rfl dX12_span_22 (by first | exact Nat.le_of_ble_eq_true rfl | (simp only [rM]; omega)) (by first | exact Nat.le_of_ble_eq_true rfl | (simp only [rM]; omega)) ?_
    exact ⟨by rw [if_neg (by omega)], rfl, rfl⟩
  · refine gx_iload_n 1 dX12_span_4 rfl rfl ?_
    refine gx_aload_n 0 dX12_span_5 rfl rfl ?_
    refine gx_get (ci := 11) (f := 11) (C := RX12) (T := TX12) (N := 12) rfl inX12 (by decide) mw_3_12 dX12_span_6 M0 rfl ?_
    refine gy_icmp_ge 21 dX12_span_9 (by decide) (by constructor <;> omega) (by constructor <;> omega) (fun c9 => ?_) (fun c9 => ?_)
    · refine gx_iconst (iI 0) dX12_span_21 rfl ?_
      refine gx_iret rfl dX12_span_22 (by first | exact Nat.le_of_ble_eq_true rfl | (simp only [rM]; omega)) (by first | exact Nat.le_of_ble_eq_true rfl | (simp only [rM]; omega)) ?_
      exact ⟨by rw [if_neg (by omega)], rfl, rfl⟩
    · refine gx_iload_n 2 dX12_span_12 rfl rfl ?_
      refine gy_if_lt 21 dX12_span_13 (by decide) (by constructor <;> omega) (fun c13 => ?_) (fun c13 => ?_)
      · refine gx_iconst (iI 0) dX12_span_21 rfl ?_
        refine gx_iret rfl dX12_span_22 (by first | exact Nat.le_of_ble_eq_true rfl | (simp only [rM]; omega)) (by first | exact Nat.le_of_ble_eq_true rfl | (simp only [rM]; omega)) ?_
        exact ⟨by rw [if_neg (by omega)], rfl, rfl⟩
      · refine gx_iload_n 2 dX12_span_16 rfl rfl ?_
        refine gx_iconst (iI 1) dX12_span_17 rfl ?_
        refine gy_icmp_le 23 dX12_span_18 (by decide) (by constructor <;> omega) (by decide) (fun c18 => ?_) (fun c18 => ?_)
        · refine gx_iload_n 2 dX12_span_23 rfl rfl ?_
          refine gy_if_ne 36 dX12_span_24 (by decide) (by constructor <;> omega) (fun c24 => ?_) (fun c24 => ?_)
          · refine gx_aload_n 0 dX12_span_36 rfl rfl ?_
            refine gx_get (ci := 11) (f := 10) (C := RX12) (T := TX12) (N := 12) rfl inX12 (by decide) mw_3_11 dX12_span_37 M0 rfl ?_
            refine gx_iload_n 1 dX12_span_40 rfl rfl ?_
            refine gy_lald dX12_span_41 M8 (by omega) (by omega) (by decide) ?_
            refine gy_l2i dX12_span_42 ?_
            refine gx_iret rfl dX12_span_43 (by first | exact Nat.le_of_ble_eq_true rfl | (simp only [rM]; omega)) (by first | exact Nat.le_of_ble_eq_true rfl | (simp only [rM]; omega)) ?_
            exact ⟨by rw [if_pos ⟨by omega, by omega, by omega, by omega⟩, if_neg (by omega)], rfl, rfl⟩
          · refine gx_aload_n 0 dX12_span_27 rfl rfl ?_
            refine gx_get (ci := 11) (f := 9) (C := RX12) (T := TX12) (N := 12) rfl inX12 (by decide) mw_3_10 dX12_span_28 M0 rfl ?_
            refine gx_iload_n 1 dX12_span_31 rfl rfl ?_
            refine gy_lald dX12_span_32 M7 (by omega) (by omega) (by decide) ?_
            refine gx_goto 42 dX12_span_33 (by decide) ?_
            refine gy_l2i dX12_span_42 ?_
            refine gx_iret rfl dX12_span_43 (by first | exact Nat.le_of_ble_eq_true rfl | (simp only [rM]; omega)) (by first | exact Nat.le_of_ble_eq_true rfl | (simp only [rM]; omega)) ?_
            exact ⟨by rw [if_pos ⟨by omega, by omega, by omega, by omega⟩, if_pos (by omega)], rfl, rfl⟩
        · refine gx_iconst (iI 0) dX12_span_21 rfl ?_
          refine gx_iret rfl dX12_span_22 (by first | exact Nat.le_of_ble_eq_true rfl | (simp only [rM]; omega)) (by first | exact Nat.le_of_ble_eq_true rfl | (simp only [rM]; omega)) ?_
          exact ⟨by rw [if_neg (by omega)], rfl, rfl⟩
set_option maxHeartbeats 4000000 in
set_option maxRecDepth 100000 in
theorem c_X12_height (l : Launch) (D : va_G) (cI cL cR : ClassId) (lo : Nat) (h : ch_H) (hi : Nat) (Kf Nf Wf fz : Nat → Int) (n : Nat) (c : Int) (FB : Nat → Int64) (fh ff fl : Nat → Int) (hc sc : Int) (MM : mmP cI cL lo h Kf Nf Wf fz n c FB fh ff fl hc sc) (hh : 0 ≤ hc ∧ hc < 200) (z : Int) : ch_C l (eE D cI cL cR lo) M_X12_height (rM 0 0 0) [.ref (lo + 17), .long (lI z)] h hi (fun r0 h2 hi2 => r0 = none ∧ mmP cI cL lo h2 Kf Nf Wf fz n c FB (updI fh hc.toNat z) ff fl (hc + 1) sc ∧ mfr lo h h2 ∧ hi = hi2) := by
  refine ch_C.of rfl (Nat.le_of_ble_eq_true rfl) ?_
  have MM0 := MM
  obtain ⟨M0, M1, M2, M3, M4, M5, M6, M7, M8⟩ := MM
  refine gx_aload_n 0 dX12_height_0 rfl rfl ?_
  refine gx_get (ci := 11) (f := 7) (C := RX12) (T := TX12) (N := 12) rfl inX12 (by decide) mw_3_8 dX12_height_1 M0 rfl ?_
  refine gx_aload_n 0 dX12_height_4 rfl rfl ?_
  refine gx_get (ci := 11) (f := 8) (C := RX12) (T := TX12) (N := 12) rfl inX12 (by decide) mw_3_9 dX12_height_5 M0 rfl ?_
  refine gx_lload_n 1 dX12_height_8 rfl rfl ?_
  refine gy_last dX12_height_9 M6 (by omega) (by omega) (by decide) (fun h1 eh1 => ?_)
  have k2 : h1 (lo + 17) = some (.inr (11, [.ref (lo + 18), .ref (lo + 19), .ref (lo + 20), .int (iI (n : Int)), .ref (lo + 21), .int (iI c), .ref (lo + 22), .ref (lo + 23), .int (iI hc), .ref (lo + 24), .ref (lo + 25), .int (iI sc)])) := by rw [eh1, ch_set_ne (by first | assumption | exact Ne.symm (by assumption) | omega)]; exact M0
  have k3 : h1 (lo + 18) = some (aI cI 61 Kf) := by rw [eh1, ch_set_ne (by first | assumption | exact Ne.symm (by assumption) | omega)]; exact M1
  have k4 : h1 (lo + 19) = some (aI cI 366 Nf) := by rw [eh1, ch_set_ne (by first | assumption | exact Ne.symm (by assumption) | omega)]; exact M2
  have k5 : h1 (lo + 20) = some (aI cI 61 Wf) := by rw [eh1, ch_set_ne (by first | assumption | exact Ne.symm (by assumption) | omega)]; exact M3
  have k6 : h1 (lo + 21) = some (aI cI 6 fz) := by rw [eh1, ch_set_ne (by first | assumption | exact Ne.symm (by assumption) | omega)]; exact M4
  have k7 : h1 (lo + 22) = some (.inl (cL, 1632, .inr (.inl FB))) := by rw [eh1, ch_set_ne (by first | assumption | exact Ne.symm (by assumption) | omega)]; exact M5
  have k8 : h1 (lo + 24) = some (aL cL 101 ff) := by rw [eh1, ch_set_ne (by first | assumption | exact Ne.symm (by assumption) | omega)]; exact M7
  have k9 : h1 (lo + 25) = some (aL cL 101 fl) := by rw [eh1, ch_set_ne (by first | assumption | exact Ne.symm (by assumption) | omega)]; exact M8
  have k10 : h1 (lo + 23) = some (aL cL 200 (updI fh hc.toNat z)) := by rw [eh1]; exact ch_set_self
  refine gx_aload_n 0 dX12_height_10 rfl rfl ?_
  refine gx_dup dX12_height_11 rfl ?_
  refine gx_get (ci := 11) (f := 8) (C := RX12) (T := TX12) (N := 12) rfl inX12 (by decide) mw_3_9 dX12_height_12 k2 rfl ?_
  refine gx_iconst (iI 1) dX12_height_15 rfl ?_
  refine gy_iadd dX12_height_16 ?_
  refine gy_put (ci := 11) (f := 8) (C := RX12) (T := TX12) (N := 12) (ty := .int) (fs2 := [.ref (lo + 18), .ref (lo + 19), .ref (lo + 20), .int (iI (n : Int)), .ref (lo + 21), .int (iI c), .ref (lo + 22), .ref (lo + 23), .int (iI (hc + 1)), .ref (lo + 24), .ref (lo + 25), .int (iI sc)]) tyX12 rfl inX12 tyX12_ok nmX12 (by decide) mw_3_9 (Or.inl rfl) (by decide +kernel) rfl rfl dX12_height_17 k2 (by simp) rfl (fun h11 eh11 => ?_)
  have k12 : h11 (lo + 18) = some (aI cI 61 Kf) := by rw [eh11, ch_set_ne (by first | assumption | exact Ne.symm (by assumption) | omega)]; exact k3
  have k13 : h11 (lo + 19) = some (aI cI 366 Nf) := by rw [eh11, ch_set_ne (by first | assumption | exact Ne.symm (by assumption) | omega)]; exact k4
  have k14 : h11 (lo + 20) = some (aI cI 61 Wf) := by rw [eh11, ch_set_ne (by first | assumption | exact Ne.symm (by assumption) | omega)]; exact k5
  have k15 : h11 (lo + 21) = some (aI cI 6 fz) := by rw [eh11, ch_set_ne (by first | assumption | exact Ne.symm (by assumption) | omega)]; exact k6
  have k16 : h11 (lo + 22) = some (.inl (cL, 1632, .inr (.inl FB))) := by rw [eh11, ch_set_ne (by first | assumption | exact Ne.symm (by assumption) | omega)]; exact k7
  have k17 : h11 (lo + 24) = some (aL cL 101 ff) := by rw [eh11, ch_set_ne (by first | assumption | exact Ne.symm (by assumption) | omega)]; exact k8
  have k18 : h11 (lo + 25) = some (aL cL 101 fl) := by rw [eh11, ch_set_ne (by first | assumption | exact Ne.symm (by assumption) | omega)]; exact k9
  have k19 : h11 (lo + 23) = some (aL cL 200 (updI fh hc.toNat z)) := by rw [eh11, ch_set_ne (by first | assumption | exact Ne.symm (by assumption) | omega)]; exact k10
  have k20 : h11 (lo + 17) = some (.inr (11, [.ref (lo + 18), .ref (lo + 19), .ref (lo + 20), .int (iI (n : Int)), .ref (lo + 21), .int (iI c), .ref (lo + 22), .ref (lo + 23), .int (iI (hc + 1)), .ref (lo + 24), .ref (lo + 25), .int (iI sc)])) := by rw [eh11]; exact ch_set_self
  refine gx_vret rfl dX12_height_20 (by first | exact Nat.le_of_ble_eq_true rfl | (simp only [rM]; omega)) (by first | exact Nat.le_of_ble_eq_true rfl | (simp only [rM]; omega)) ?_
  exact ⟨rfl, ⟨k20, k12, k13, k14, k15, k16, k19, k17, k18⟩, fun b hb => by rw [eh11, ch_set_ne (by omega), eh1, ch_set_ne (by omega)], rfl⟩
end
