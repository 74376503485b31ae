section
def nearB (v : Int) : Bool := decide (-100000 ≤ v ∧ v ≤ 100000)
set_option maxHeartbeats 4000000 in
set_option maxRecDepth 100000 in
theorem c_X11_isBeyond (l : Launch) (D : va_G) (cI cL cR : ClassId) (lo : Nat) (h : ch_H) (hi : Nat) (v : Int) (hv : ir v) : ch_C l (eE D cI cL cR lo) M_X11_isBeyond (rM 0 0 0) [.int (iI v)] h hi (fun r0 h2 hi2 => r0 = some (.int (iI (bI (!nearB v)))) ∧ h = h2 ∧ hi = hi2) := by
  refine ch_C.of rfl (Nat.le_of_ble_eq_true rfl) ?_
  refine gx_iload_n 0 dX11_isBeyond_0 rfl rfl ?_
  refine gx_ldc (iI (-100000)) (by rw [show iI (-100000) = ((-100000) : Int32) by decide]; exact mw_2_79) dX11_isBeyond_1 ?_
  refine gy_icmp_lt 12 dX11_isBeyond_3 (by decide) (by constructor <;> omega) (by decide) (fun c3 => ?_) (fun c3 => ?_)
  · refine gx_iconst (iI 1) dX11_isBeyond_12 rfl ?_
    refine gx_goto 17 dX11_isBeyond_13 (by decide) ?_
    refine gx_zret rfl rfl dX11_isBeyond_17 (by first | exact Nat.le_of_ble_eq_true rfl | (simp only [rM]; omega)) (by first | exact Nat.le_of_ble_eq_true rfl | (simp only [rM]; omega)) ?_
    exact ⟨by rw [show nearB v = false from decide_eq_false (by omega)]; rfl, rfl, rfl⟩
  · refine gx_iload_n 0 dX11_isBeyond_6 rfl rfl ?_
    refine gx_ldc (iI 100000) (by rw [show iI 100000 = (100000 : Int32) by decide]; exact mw_2_80) dX11_isBeyond_7 ?_
    refine gy_icmp_le 16 dX11_isBeyond_9 (by decide) (by constructor <;> omega) (by decide) (fun c9 => ?_) (fun c9 => ?_)
    · refine gx_iconst (iI 0) dX11_isBeyond_16 rfl ?_
      refine gx_zret rfl rfl dX11_isBeyond_17 (by first | exact Nat.le_of_ble_eq_true rfl | (simp only [rM]; omega)) (by first | exact Nat.le_of_ble_eq_true rfl | (simp only [rM]; omega)) ?_
      exact ⟨by rw [show nearB v = true from decide_eq_true (by omega)]; rfl, rfl, rfl⟩
    · refine gx_iconst (iI 1) dX11_isBeyond_12 rfl ?_
      refine gx_goto 17 dX11_isBeyond_13 (by decide) ?_
      refine gx_zret rfl rfl dX11_isBeyond_17 (by first | exact Nat.le_of_ble_eq_true rfl | (simp only [rM]; omega)) (by first | exact Nat.le_of_ble_eq_true rfl | (simp only [rM]; omega)) ?_
      exact ⟨by rw [show nearB v = false from decide_eq_false (by omega)]; rfl, rfl, rfl⟩
set_option maxHeartbeats 4000000 in
set_option maxRecDepth 100000 in
theorem c_X11_isFull (l : Launch) (D : va_G) (cI cL cR : ClassId) (lo : Nat) (h : ch_H) (hi : Nat) (c : Int) (n : Nat) (hn : n ≤ 60) (hZ : h lo = some (.inr (10, [.ref (lo + 1), .int (iI c), .ref (lo + 2), .int (iI (n : Int)), .ref (lo + 3), .ref (lo + 13), .ref (lo + 15)]))) : ch_C l (eE D cI cL cR lo) M_X11_isFull (rM 0 0 0) [.ref lo] h hi (fun r0 h2 hi2 => r0 = some (.int (iI (bI (decide (60 ≤ n))))) ∧ h = h2 ∧ hi = hi2) := by
  refine ch_C.of rfl (Nat.le_of_ble_eq_true rfl) ?_
  refine gx_aload_n 0 dX11_isFull_0 rfl rfl ?_
  refine gx_get (ci := 10) (f := 3) (C := RX11) (T := TX11) (N := 7) rfl inX11 (by decide) mw_1_93 dX11_isFull_1 hZ rfl ?_
  refine gx_bipush (iI 60) dX11_isFull_4 (by decide) ?_
  refine gy_icmp_lt 13 dX11_isFull_6 (by decide) (by constructor <;> omega) (by decide) (fun c6 => ?_) (fun c6 => ?_)
  · refine gx_iconst (iI 0) dX11_isFull_13 rfl ?_
    refine gx_zret rfl rfl dX11_isFull_14 (by first | exact Nat.le_of_ble_eq_true rfl | (simp only [rM]; omega)) (by first | exact Nat.le_of_ble_eq_true rfl | (simp only [rM]; omega)) ?_
    exact ⟨by rw [show decide (60 ≤ n) = false from decide_eq_false (by omega)]; rfl, rfl, rfl⟩
  · refine gx_iconst (iI 1) dX11_isFull_9 rfl ?_
    refine gx_goto 14 dX11_isFull_10 (by decide) ?_
    refine gx_zret rfl rfl dX11_isFull_14 (by first | exact Nat.le_of_ble_eq_true rfl | (simp only [rM]; omega)) (by first | exact Nat.le_of_ble_eq_true rfl | (simp only [rM]; omega)) ?_
    exact ⟨by rw [show decide (60 ≤ n) = true from decide_eq_true (by omega)]; rfl, rfl, rfl⟩
set_option maxHeartbeats 4000000 in
set_option maxRecDepth 100000 in
theorem c_X11_useUpSizes (l : Launch) (D : va_G) (cI cL cR : ClassId) (lo : Nat) (h : ch_H) (hi : Nat) (c : Int) (n : Nat) (hn : n ≤ 60) (hZ : h lo = some (.inr (10, [.ref (lo + 1), .int (iI c), .ref (lo + 2), .int (iI (n : Int)), .ref (lo + 3), .ref (lo + 13), .ref (lo + 15)]))) : ch_C l (eE D cI cL cR lo) M_X11_useUpSizes (rM 0 0 0) [.ref lo] h hi (fun r0 h2 hi2 => r0 = some (.int (iI c)) ∧ h2 = ch_set h lo (.inr (10, [.ref (lo + 1), .int (iI 0), .ref (lo + 2), .int (iI (n : Int)), .ref (lo + 3), .ref (lo + 13), .ref (lo + 15)])) ∧ hi = hi2) := by
  refine ch_C.of rfl (Nat.le_of_ble_eq_true rfl) ?_
  refine gx_aload_n 0 dX11_useUpSizes_0 rfl rfl ?_
  refine gx_get (ci := 10) (f := 1) (C := RX11) (T := TX11) (N := 7) rfl inX11 (by decide) mw_1_91 dX11_useUpSizes_1 hZ rfl ?_
  refine gx_istore_n [(1, .int (iI c)), (0, .ref lo)] dX11_useUpSizes_4 rfl (by decide) rfl ?_
  refine gx_aload_n 1 dX11_useUpSizes_5 rfl rfl ?_
  refine gx_iconst (iI 0) dX11_useUpSizes_6 rfl ?_
  refine gy_put (ci := 10) (f := 1) (C := RX11) (T := TX11) (N := 7) (ty := .int) (fs2 := [.ref (lo + 1), .int (iI 0), .ref (lo + 2), .int (iI (n : Int)), .ref (lo + 3), .ref (lo + 13), .ref (lo + 15)]) tyX11 rfl inX11 tyX11_ok nmX11 (by decide) mw_1_91 (Or.inl rfl) (by decide +kernel) rfl rfl dX11_useUpSizes_7 hZ (by simp) rfl (fun h1 eh1 => ?_)
  have k2 : h1 lo = some (.inr (10, [.ref (lo + 1), .int (iI 0), .ref (lo + 2), .int (iI (n : Int)), .ref (lo + 3), .ref (lo + 13), .ref (lo + 15)])) := by rw [eh1]; exact ch_set_self
  refine gx_iload_n 0 dX11_useUpSizes_10 rfl rfl ?_
  refine gx_iret rfl dX11_useUpSizes_11 (by first | exact Nat.le_of_ble_eq_true rfl | (simp only [rM]; omega)) (by first | exact Nat.le_of_ble_eq_true rfl | (simp only [rM]; omega)) ?_
  exact ⟨rfl, eh1, rfl⟩
set_option maxHeartbeats 4000000 in
set_option maxRecDepth 100000 in
theorem c_X11_findN (l : Launch) (D : va_G) (cI cL cR : ClassId) (lo : Nat) (h : ch_H) (hi : Nat) (c : Int) (n : Nat) (hn : n ≤ 60) (hZ : h lo = some (.inr (10, [.ref (lo + 1), .int (iI c), .ref (lo + 2), .int (iI (n : Int)), .ref (lo + 3), .ref (lo + 13), .ref (lo + 15)]))) (ga : Nat → Option Nat) (hG : h (lo + 2) = some (aR cR 60 ga)) (s : Int) (hs : ir s) (hno : s < 1 ∨ (n : Int) < s) : ch_C l (eE D cI cL cR lo) M_X11_find (rM 0 0 0) [.ref lo, .int (iI s)] h hi (fun r0 h2 hi2 => r0 = some .null ∧ h = h2 ∧ hi = hi2) := by
  refine ch_C.of rfl (Nat.le_of_ble_eq_true rfl) ?_
  refine gx_iload_n 1 dX11_find_0 rfl rfl ?_
  refine gx_iconst (iI 1) dX11_find_1 rfl ?_
  refine gy_icmp_lt 13 dX11_find_2 (by decide) (by constructor <;> omega) (by decide) (fun c2 => ?_) (fun c2 => ?_)
  · refine gx_null dX11_find_13 ?_
    refine gx_goto 25 dX11_find_14 (by decide) ?_
    refine gx_aret rfl (Or.inl ⟨_, rfl⟩) (Or.inl rfl) dX11_find_25 (by first | exact Nat.le_of_ble_eq_true rfl | (simp only [rM]; omega)) (by first | exact Nat.le_of_ble_eq_true rfl | (simp only [rM]; omega)) ?_
    exact ⟨rfl, rfl, rfl⟩
  · refine gx_iload_n 1 dX11_find_5 rfl rfl ?_
    refine gx_aload_n 0 dX11_find_6 rfl rfl ?_
    refine gx_get (ci := 10) (f := 3) (C := RX11) (T := TX11) (N := 7) rfl inX11 (by decide) mw_1_93 dX11_find_7 hZ rfl ?_
    refine gy_icmp_le 17 dX11_find_10 (by decide) (by constructor <;> omega) (by constructor <;> omega) (fun c10 => ?_) (fun c10 => ?_)
    · refine gx_aload_n 0 dX11_find_17 rfl rfl ?_
      refine gx_get (ci := 10) (f := 2) (C := RX11) (T := TX11) (N := 7) rfl inX11 (by decide) mw_1_92 dX11_find_18 hZ rfl ?_
      refine gx_iload_n 1 dX11_find_21 rfl rfl ?_
      refine gx_iconst (iI 1) dX11_find_22 rfl ?_
      refine gy_isub dX11_find_23 ?_
      refine gy_aald dX11_find_24 hG (by omega) (by omega) (by decide) ?_
      refine gx_aret rfl (Or.inl ⟨_, rfl⟩) ch_rfv dX11_find_25 (by first | exact Nat.le_of_ble_eq_true rfl | (simp only [rM]; omega)) (by first | exact Nat.le_of_ble_eq_true rfl | (simp only [rM]; omega)) ?_
      exfalso; omega
    · refine gx_null dX11_find_13 ?_
      refine gx_goto 25 dX11_find_14 (by decide) ?_
      refine gx_aret rfl (Or.inl ⟨_, rfl⟩) (Or.inl rfl) dX11_find_25 (by first | exact Nat.le_of_ble_eq_true rfl | (simp only [rM]; omega)) (by first | exact Nat.le_of_ble_eq_true rfl | (simp only [rM]; omega)) ?_
      exact ⟨rfl, rfl, rfl⟩
set_option maxHeartbeats 4000000 in
set_option maxRecDepth 100000 in
theorem c_X11_findY (l : Launch) (D : va_G) (cI cL cR : ClassId) (lo : Nat) (h : ch_H) (hi : Nat) (c : Int) (n : Nat) (hn : n ≤ 60) (hZ : h lo = some (.inr (10, [.ref (lo + 1), .int (iI c), .ref (lo + 2), .int (iI (n : Int)), .ref (lo + 3), .ref (lo + 13), .ref (lo + 15)]))) (ga : Nat → Option Nat) (hG : h (lo + 2) = some (aR cR 60 ga)) (s : Int) (hs : 1 ≤ s ∧ s ≤ (n : Int)) (p : Nat) (hp : ga (s - 1).toNat = some p) : ch_C l (eE D cI cL cR lo) M_X11_find (rM 0 0 0) [.ref lo, .int (iI s)] h hi (fun r0 h2 hi2 => r0 = some (.ref p) ∧ h = h2 ∧ hi = hi2) := by
  refine ch_C.of rfl (Nat.le_of_ble_eq_true rfl) ?_
  refine gx_iload_n 1 dX11_find_0 rfl rfl ?_
  refine gx_iconst (iI 1) dX11_find_1 rfl ?_
  refine gy_icmp_lt 13 dX11_find_2 (by decide) (by constructor <;> omega) (by decide) (fun c2 => absurd c2 (by omega)) (fun c2 => ?_)
  refine gx_iload_n 1 dX11_find_5 rfl rfl ?_
  refine gx_aload_n 0 dX11_find_6 rfl rfl ?_
  refine gx_get (ci := 10) (f := 3) (C := RX11) (T := TX11) (N := 7) rfl inX11 (by decide) mw_1_93 dX11_find_7 hZ rfl ?_
  refine gy_icmp_le 17 dX11_find_10 (by decide) (by constructor <;> omega) (by constructor <;> omega) (fun c10 => ?_) (fun c10 => absurd c10 (by omega))
  refine gx_aload_n 0 dX11_find_17 rfl rfl ?_
  refine gx_get (ci := 10) (f := 2) (C := RX11) (T := TX11) (N := 7) rfl inX11 (by decide) mw_1_92 dX11_find_18 hZ rfl ?_
  refine gx_iload_n 1 dX11_find_21 rfl rfl ?_
  refine gx_iconst (iI 1) dX11_find_22 rfl ?_
  refine gy_isub dX11_find_23 ?_
  refine gy_aald dX11_find_24 hG (by omega) (by omega) (by decide) ?_
  refine ch_Gst (st2 := [.ref p]) (by rw [hp]; try rfl) ?_
  refine gx_aret rfl (Or.inl ⟨_, rfl⟩) (Or.inr ⟨_, rfl⟩) dX11_find_25 (by first | exact Nat.le_of_ble_eq_true rfl | (simp only [rM]; omega)) (by first | exact Nat.le_of_ble_eq_true rfl | (simp only [rM]; omega)) ?_
  exact ⟨rfl, rfl, rfl⟩
set_option maxHeartbeats 4000000 in
set_option maxRecDepth 100000 in
theorem c_X11_keep (l : Launch) (D : va_G) (cI cL cR : ClassId) (lo : Nat) (h : ch_H) (hi : Nat) (c : Int) (n : Nat) (hn : n ≤ 60) (hZ : h lo = some (.inr (10, [.ref (lo + 1), .int (iI c), .ref (lo + 2), .int (iI (n : Int)), .ref (lo + 3), .ref (lo + 13), .ref (lo + 15)]))) (ga : Nat → Option Nat) (hG : h (lo + 2) = some (aR cR 60 ga)) (p ci : Nat) (vs : List Value) (hp : h p = some (.inr (ci, vs))) (hS : isS ci) (hpl : lo + 13 ≤ p) (hnf : n < 60) : ch_C l (eE D cI cL cR lo) M_X11_keep (rM 1 0 0) [.ref lo, .ref p] h hi (fun r0 h2 hi2 => r0 = some (.int (iI ((n : Int) + 1))) ∧ h2 = ch_set (ch_set h (lo + 2) (aR cR 60 (va_up ga n (some p)))) lo (.inr (10, [.ref (lo + 1), .int (iI c), .ref (lo + 2), .int (iI ((n : Int) + 1)), .ref (lo + 3), .ref (lo + 13), .ref (lo + 15)])) ∧ hi = hi2) := by
  refine ch_C.of rfl (Nat.le_of_ble_eq_true rfl) ?_
  obtain ⟨rS, hrS, hcS, -⟩ := hS
  have hnt : decide (60 ≤ n) = false := decide_eq_false (by omega)
  refine gx_aload_n 1 dX11_keep_0 rfl rfl ?_
  refine gx_ifnullA dX11_keep_1 ?_
  refine gx_aload_n 0 dX11_keep_4 rfl rfl ?_
  refine gx_callV (ci := 10) (c_X11_isFull l D cI cL cR lo h hi c n hn hZ) ok_X11_isFull mw_1_131 mw_1_133 mw_p_2 dX11_keep_5 rfl hZ rfl rfl (Nat.le_of_ble_eq_true rfl) (by first | exact Nat.le_of_ble_eq_true rfl | (simp only [rM]; omega)) (by first | exact Nat.le_of_ble_eq_true rfl | (simp only [rM]; omega)) (by first | exact Nat.le_of_ble_eq_true rfl | (simp only [rM]; omega)) (by first | exact Nat.le_of_ble_eq_true rfl | (simp only [rM]; omega)) (fun r1 h2 u3 q4 g5 => ?_)
  obtain ⟨rfl, rfl, rfl⟩ := q4
  refine ch_Gst (st2 := [.int (iI (bI (decide (60 ≤ n))))]) rfl ?_
  refine gy_if_eq 13 dX11_keep_8 (by decide) ir_bI (fun c8 => ?_) (fun c8 => absurd c8 (by rw [hnt]; decide))
  refine gx_aload_n 0 dX11_keep_13 rfl rfl ?_
  refine gx_get (ci := 10) (f := 2) (C := RX11) (T := TX11) (N := 7) rfl inX11 (by decide) mw_1_92 dX11_keep_14 hZ rfl ?_
  refine gx_aload_n 0 dX11_keep_17 rfl rfl ?_
  refine gx_get (ci := 10) (f := 3) (C := RX11) (T := TX11) (N := 7) rfl inX11 (by decide) mw_1_93 dX11_keep_18 hZ rfl ?_
  refine gx_aload_n 1 dX11_keep_21 rfl rfl ?_
  refine gy_aast (ci := ci) hrS hcS dX11_keep_22 hG hp (by omega) (by omega) (by decide) (fun h6 eh6 => ?_)
  have k7 : h6 lo = some (.inr (10, [.ref (lo + 1), .int (iI c), .ref (lo + 2), .int (iI (n : Int)), .ref (lo + 3), .ref (lo + 13), .ref (lo + 15)])) := by rw [eh6, ch_set_ne (ch_ne hZ hG (by intro q; cases q))]; exact hZ
  have k8 : h6 p = some (.inr (ci, vs)) := by rw [eh6, ch_set_ne (by first | assumption | exact Ne.symm (by assumption) | omega)]; exact hp
  have k9 : h6 (lo + 2) = some (aR cR 60 (va_up ga (n : Int).toNat (some p))) := by rw [eh6]; exact ch_set_self
  refine gx_aload_n 0 dX11_keep_23 rfl rfl ?_
  refine gx_dup dX11_keep_24 rfl ?_
  refine gx_get (ci := 10) (f := 3) (C := RX11) (T := TX11) (N := 7) rfl inX11 (by decide) mw_1_93 dX11_keep_25 k7 rfl ?_
  refine gx_iconst (iI 1) dX11_keep_28 rfl ?_
  refine gy_iadd dX11_keep_29 ?_
  refine gy_put (ci := 10) (f := 3) (C := RX11) (T := TX11) (N := 7) (ty := .int) (fs2 := [.ref (lo + 1), .int (iI c), .ref (lo + 2), .int (iI ((n : Int) + 1)), .ref (lo + 3), .ref (lo + 13), .ref (lo + 15)]) tyX11 rfl inX11 tyX11_ok nmX11 (by decide) mw_1_93 (Or.inl rfl) (by decide +kernel) rfl rfl dX11_keep_30 k7 (by simp) rfl (fun h10 eh10 => ?_)
  have k11 : h10 p = some (.inr (ci, vs)) := by rw [eh10, ch_set_ne (by first | assumption | exact Ne.symm (by assumption) | omega)]; exact k8
  have k12 : h10 (lo + 2) = some (aR cR 60 (va_up ga (n : Int).toNat (some p))) := by rw [eh10, ch_set_ne (by first | assumption | exact Ne.symm (by assumption) | omega)]; exact k9
  have k13 : h10 lo = some (.inr (10, [.ref (lo + 1), .int (iI c), .ref (lo + 2), .int (iI ((n : Int) + 1)), .ref (lo + 3), .ref (lo + 13), .ref (lo + 15)])) := by rw [eh10]; exact ch_set_self
  refine gx_aload_n 0 dX11_keep_33 rfl rfl ?_
  refine gx_get (ci := 10) (f := 3) (C := RX11) (T := TX11) (N := 7) rfl inX11 (by decide) mw_1_93 dX11_keep_34 k13 rfl ?_
  refine gx_iret rfl dX11_keep_37 (by first | exact Nat.le_of_ble_eq_true rfl | (simp only [rM]; omega)) (by first | exact Nat.le_of_ble_eq_true rfl | (simp only [rM]; omega)) ?_
  exact ⟨rfl, by rw [eh10, eh6, Int.toNat_natCast], rfl⟩
def szN (k : Int) : Int := if k = 0 then 6 else if k = 1 then 5 else if k = 2 then 4 else if k = 3 then 5 else -1
def rdO (fz : Nat → Int) (k : Int) : Int := if k = 1 then fz 2 else if k = 2 then fz 3 else if k = 3 then fz 2 else 0
set_option maxHeartbeats 4000000 in
set_option maxRecDepth 100000 in
theorem c_X11_sizesNeeded (l : Launch) (D : va_G) (cI cL cR : ClassId) (lo : Nat) (h : ch_H) (hi : Nat) (k : Int) (hk : ir k) : ch_C l (eE D cI cL cR lo) M_X11_sizesNeeded (rM 0 0 0) [.int (iI k)] h hi (fun r0 h2 hi2 => r0 = some (.int (iI (szN k))) ∧ h = h2 ∧ hi = hi2) := by
  refine ch_C.of rfl (Nat.le_of_ble_eq_true rfl) ?_
  refine gx_iload_n 0 dX11_sizesNeeded_0 rfl rfl ?_
  by_cases w1_0 : k = 0
  · refine gy_tin 0 w1_0 32 dX11_sizesNeeded_1 (by decide) (by decide) (by decide) rfl (by decide) ?_
    refine gx_bipush (iI 6) dX11_sizesNeeded_32 (by decide) ?_
    refine gx_iret rfl dX11_sizesNeeded_34 (by first | exact Nat.le_of_ble_eq_true rfl | (simp only [rM]; omega)) (by first | exact Nat.le_of_ble_eq_true rfl | (simp only [rM]; omega)) ?_
    exact ⟨by unfold szN; rw [if_pos w1_0], rfl, rfl⟩
  · skip
    by_cases w1_1 : k = 1
    · refine gy_tin 1 w1_1 35 dX11_sizesNeeded_1 (by decide) (by decide) (by decide) rfl (by decide) ?_
      refine gx_iconst (iI 5) dX11_sizesNeeded_35 rfl ?_
      refine gx_iret rfl dX11_sizesNeeded_36 (by first | exact Nat.le_of_ble_eq_true rfl | (simp only [rM]; omega)) (by first | exact Nat.le_of_ble_eq_true rfl | (simp only [rM]; omega)) ?_
      exact ⟨by unfold szN; rw [if_neg (by omega), if_pos w1_1], rfl, rfl⟩
    · skip
      by_cases w1_2 : k = 2
      · refine gy_tin 2 w1_2 37 dX11_sizesNeeded_1 (by decide) (by decide) (by decide) rfl (by decide) ?_
        refine gx_iconst (iI 4) dX11_sizesNeeded_37 rfl ?_
        refine gx_iret rfl dX11_sizesNeeded_38 (by first | exact Nat.le_of_ble_eq_true rfl | (simp only [rM]; omega)) (by first | exact Nat.le_of_ble_eq_true rfl | (simp only [rM]; omega)) ?_
        exact ⟨by unfold szN; rw [if_neg (by omega), if_neg (by omega), if_pos w1_2], rfl, rfl⟩
      · skip
        by_cases w1_3 : k = 3
        · refine gy_tin 3 w1_3 35 dX11_sizesNeeded_1 (by decide) (by decide) (by decide) rfl (by decide) ?_
          refine gx_iconst (iI 5) dX11_sizesNeeded_35 rfl ?_
          refine gx_iret rfl dX11_sizesNeeded_36 (by first | exact Nat.le_of_ble_eq_true rfl | (simp only [rM]; omega)) (by first | exact Nat.le_of_ble_eq_true rfl | (simp only [rM]; omega)) ?_
          exact ⟨by unfold szN; rw [if_neg (by omega), if_neg (by omega), if_neg (by omega), if_pos w1_3], rfl, rfl⟩
        · skip
          refine gy_tout 39 dX11_sizesNeeded_1 (by constructor <;> omega) (by omega) (by decide) ?_
          refine gx_iconst (iI (-1)) dX11_sizesNeeded_39 rfl ?_
          refine gx_iret rfl dX11_sizesNeeded_40 (by first | exact Nat.le_of_ble_eq_true rfl | (simp only [rM]; omega)) (by first | exact Nat.le_of_ble_eq_true rfl | (simp only [rM]; omega)) ?_
          exact ⟨by unfold szN; rw [if_neg (by omega), if_neg (by omega), if_neg (by omega), if_neg (by omega)], rfl, rfl⟩
set_option maxHeartbeats 4000000 in
set_option maxRecDepth 100000 in
theorem c_X11_radiusOf (l : Launch) (D : va_G) (cI cL cR : ClassId) (lo : Nat) (h : ch_H) (hi : Nat) (c : Int) (n : Nat) (hn : n ≤ 60) (hZ : h lo = some (.inr (10, [.ref (lo + 1), .int (iI c), .ref (lo + 2), .int (iI (n : Int)), .ref (lo + 3), .ref (lo + 13), .ref (lo + 15)]))) (fz : Nat → Int) (hF : h (lo + 1) = some (aI cI 6 fz)) (k : Int) (hk : ir k) : ch_C l (eE D cI cL cR lo) M_X11_radiusOf (rM 0 0 0) [.ref lo, .int (iI k)] h hi (fun r0 h2 hi2 => r0 = some (.int (iI (rdO fz k))) ∧ h = h2 ∧ hi = hi2) := by
  refine ch_C.of rfl (Nat.le_of_ble_eq_true rfl) ?_
  refine gx_iload_n 1 dX11_radiusOf_0 rfl rfl ?_
  by_cases w1_1 : k = 1
  · refine gy_tin 1 w1_1 28 dX11_radiusOf_1 (by decide) (by decide) (by decide) rfl (by decide) ?_
    refine gx_aload_n 0 dX11_radiusOf_28 rfl rfl ?_
    refine gx_get (ci := 10) (f := 0) (C := RX11) (T := TX11) (N := 7) rfl inX11 (by decide) mw_1_90 dX11_radiusOf_29 hZ rfl ?_
    refine gx_iconst (iI 2) dX11_radiusOf_32 rfl ?_
    refine gy_iald dX11_radiusOf_33 hF (by decide) (by decide) (by decide) ?_
    refine ch_Gst (st2 := [.int (iI (fz 2))]) rfl ?_
    refine gx_iret rfl dX11_radiusOf_34 (by first | exact Nat.le_of_ble_eq_true rfl | (simp only [rM]; omega)) (by first | exact Nat.le_of_ble_eq_true rfl | (simp only [rM]; omega)) ?_
    exact ⟨by unfold rdO; rw [if_pos w1_1], rfl, rfl⟩
  · skip
    by_cases w1_2 : k = 2
    · refine gy_tin 2 w1_2 35 dX11_radiusOf_1 (by decide) (by decide) (by decide) rfl (by decide) ?_
      refine gx_aload_n 0 dX11_radiusOf_35 rfl rfl ?_
      refine gx_get (ci := 10) (f := 0) (C := RX11) (T := TX11) (N := 7) rfl inX11 (by decide) mw_1_90 dX11_radiusOf_36 hZ rfl ?_
      refine gx_iconst (iI 3) dX11_radiusOf_39 rfl ?_
      refine gy_iald dX11_radiusOf_40 hF (by decide) (by decide) (by decide) ?_
      refine ch_Gst (st2 := [.int (iI (fz 3))]) rfl ?_
      refine gx_iret rfl dX11_radiusOf_41 (by first | exact Nat.le_of_ble_eq_true rfl | (simp only [rM]; omega)) (by first | exact Nat.le_of_ble_eq_true rfl | (simp only [rM]; omega)) ?_
      exact ⟨by unfold rdO; rw [if_neg (by omega), if_pos w1_2], rfl, rfl⟩
    · skip
      by_cases w1_3 : k = 3
      · refine gy_tin 3 w1_3 28 dX11_radiusOf_1 (by decide) (by decide) (by decide) rfl (by decide) ?_
        refine gx_aload_n 0 dX11_radiusOf_28 rfl rfl ?_
        refine gx_get (ci := 10) (f := 0) (C := RX11) (T := TX11) (N := 7) rfl inX11 (by decide) mw_1_90 dX11_radiusOf_29 hZ rfl ?_
        refine gx_iconst (iI 2) dX11_radiusOf_32 rfl ?_
        refine gy_iald dX11_radiusOf_33 hF (by decide) (by decide) (by decide) ?_
        refine ch_Gst (st2 := [.int (iI (fz 2))]) rfl ?_
        refine gx_iret rfl dX11_radiusOf_34 (by first | exact Nat.le_of_ble_eq_true rfl | (simp only [rM]; omega)) (by first | exact Nat.le_of_ble_eq_true rfl | (simp only [rM]; omega)) ?_
        exact ⟨by unfold rdO; rw [if_neg (by omega), if_neg (by omega), if_pos w1_3], rfl, rfl⟩
      · skip
        refine gy_tout 42 dX11_radiusOf_1 (by constructor <;> omega) (by omega) (by decide) ?_
        refine gx_iconst (iI 0) dX11_radiusOf_42 rfl ?_
        refine gx_iret rfl dX11_radiusOf_43 (by first | exact Nat.le_of_ble_eq_true rfl | (simp only [rM]; omega)) (by first | exact Nat.le_of_ble_eq_true rfl | (simp only [rM]; omega)) ?_
        exact ⟨by unfold rdO; rw [if_neg (by omega), if_neg (by omega), if_neg (by omega)], rfl, rfl⟩
set_option maxHeartbeats 4000000 in
set_option maxRecDepth 100000 in
theorem c_X11_newShape_0 (l : Launch) (D : va_G) (cI cL cR : ClassId) (lo : Nat) (h : ch_H) (hi : Nat) (c : Int) (n : Nat) (hn : n ≤ 60) (hZ : h lo = some (.inr (10, [.ref (lo + 1), .int (iI c), .ref (lo + 2), .int (iI (n : Int)), .ref (lo + 3), .ref (lo + 13), .ref (lo + 15)]))) (fz : Nat → Int) (hF : h (lo + 1) = some (aI cI 6 fz)) (hhi : lo + 26 ≤ hi) : ch_C l (eE D cI cL cR lo) M_X11_newShape (rM 3 1 7) [.ref lo, .int (iI 0)] h hi (fun r0 h2 hi2 => r0 = some (.ref hi) ∧ h2 = ch_set h hi (.inr (1, [.int (iI 1), .int (iI (fz 0)), .int (iI (fz 1)), .int (iI (fz 2)), .int (iI (fz 3)), .int (iI (fz 4)), .int (iI (fz 5))])) ∧ hi + 1 = hi2) := by
  refine ch_C.of rfl (Nat.le_of_ble_eq_true rfl) ?_
  refine gx_iload_n 1 dX11_newShape_0 rfl rfl ?_
  refine gy_tin 0 rfl 32 dX11_newShape_1 (by decide) (by decide) (by decide) rfl (by decide) ?_
  refine gy_new (ci := 1) (C := RX1) (T := TX1) (N := 7) [.int (iI 0), .int (iI 0), .int (iI 0), .int (iI 0), .int (iI 0), .int (iI 0), .int (iI 0)] tyX1 rfl inX1 tyX1_ok mw_1_139 mw_1_140 mw_1_7 (fun j hj => by rcases (show j = 0 ∨ j = 1 ∨ j = 2 ∨ j = 3 ∨ j = 4 ∨ j = 5 ∨ j = 6 by omega) with rfl | rfl | rfl | rfl | rfl | rfl | rfl <;> rfl) (by first | exact Nat.le_of_ble_eq_true rfl | (simp only [rM]; omega)) (by first | exact Nat.le_of_ble_eq_true rfl | (simp only [rM]; omega)) dX11_newShape_32 (fun h1 eh1 => ?_)
  have k2 : h1 lo = some (.inr (10, [.ref (lo + 1), .int (iI c), .ref (lo + 2), .int (iI (n : Int)), .ref (lo + 3), .ref (lo + 13), .ref (lo + 15)])) := by rw [eh1, ch_set_ne (by first | assumption | omega)]; exact hZ
  have k3 : h1 (lo + 1) = some (aI cI 6 fz) := by rw [eh1, ch_set_ne (by first | assumption | omega)]; exact hF
  have k4 : h1 hi = some (.inr (1, [.int (iI 0), .int (iI 0), .int (iI 0), .int (iI 0), .int (iI 0), .int (iI 0), .int (iI 0)])) := by rw [eh1]; exact ch_set_self
  refine gx_dup dX11_newShape_35 rfl ?_
  refine gx_aload_n 0 dX11_newShape_36 rfl rfl ?_
  refine gx_get (ci := 10) (f := 0) (C := RX11) (T := TX11) (N := 7) rfl inX11 (by decide) mw_1_90 dX11_newShape_37 k2 rfl ?_
  refine gx_iconst (iI 0) dX11_newShape_40 rfl ?_
  refine gy_iald dX11_newShape_41 k3 (by decide) (by decide) (by decide) ?_
  refine ch_Gst (st2 := [.int (iI (fz 0)), .ref hi, .ref hi]) rfl ?_
  refine gx_aload_n 0 dX11_newShape_42 rfl rfl ?_
  refine gx_get (ci := 10) (f := 0) (C := RX11) (T := TX11) (N := 7) rfl inX11 (by decide) mw_1_90 dX11_newShape_43 k2 rfl ?_
  refine gx_iconst (iI 1) dX11_newShape_46 rfl ?_
  refine gy_iald dX11_newShape_47 k3 (by decide) (by decide) (by decide) ?_
  refine ch_Gst (st2 := [.int (iI (fz 1)), .int (iI (fz 0)), .ref hi, .ref hi]) rfl ?_
  refine gx_aload_n 0 dX11_newShape_48 rfl rfl ?_
  refine gx_get (ci := 10) (f := 0) (C := RX11) (T := TX11) (N := 7) rfl inX11 (by decide) mw_1_90 dX11_newShape_49 k2 rfl ?_
  refine gx_iconst (iI 2) dX11_newShape_52 rfl ?_
  refine gy_iald dX11_newShape_53 k3 (by decide) (by decide) (by decide) ?_
  refine ch_Gst (st2 := [.int (iI (fz 2)), .int (iI (fz 1)), .int (iI (fz 0)), .ref hi, .ref hi]) rfl ?_
  refine gx_aload_n 0 dX11_newShape_54 rfl rfl ?_
  refine gx_get (ci := 10) (f := 0) (C := RX11) (T := TX11) (N := 7) rfl inX11 (by decide) mw_1_90 dX11_newShape_55 k2 rfl ?_
  refine gx_iconst (iI 3) dX11_newShape_58 rfl ?_
  refine gy_iald dX11_newShape_59 k3 (by decide) (by decide) (by decide) ?_
  refine ch_Gst (st2 := [.int (iI (fz 3)), .int (iI (fz 2)), .int (iI (fz 1)), .int (iI (fz 0)), .ref hi, .ref hi]) rfl ?_
  refine gx_aload_n 0 dX11_newShape_60 rfl rfl ?_
  refine gx_get (ci := 10) (f := 0) (C := RX11) (T := TX11) (N := 7) rfl inX11 (by decide) mw_1_90 dX11_newShape_61 k2 rfl ?_
  refine gx_iconst (iI 4) dX11_newShape_64 rfl ?_
  refine gy_iald dX11_newShape_65 k3 (by decide) (by decide) (by decide) ?_
  refine ch_Gst (st2 := [.int (iI (fz 4)), .int (iI (fz 3)), .int (iI (fz 2)), .int (iI (fz 1)), .int (iI (fz 0)), .ref hi, .ref hi]) rfl ?_
  refine gx_aload_n 0 dX11_newShape_66 rfl rfl ?_
  refine gx_get (ci := 10) (f := 0) (C := RX11) (T := TX11) (N := 7) rfl inX11 (by decide) mw_1_90 dX11_newShape_67 k2 rfl ?_
  refine gx_iconst (iI 5) dX11_newShape_70 rfl ?_
  refine gy_iald dX11_newShape_71 k3 (by decide) (by decide) (by decide) ?_
  refine ch_Gst (st2 := [.int (iI (fz 5)), .int (iI (fz 4)), .int (iI (fz 3)), .int (iI (fz 2)), .int (iI (fz 1)), .int (iI (fz 0)), .ref hi, .ref hi]) rfl ?_
  refine gx_callI (c_X1_init l D cI cL cR lo h1 (hi + 1) hi (fz 0) (fz 1) (fz 2) (fz 3) (fz 4) (fz 5) k4) ok_X1_init mw_1_141 mw_1_142 rfl rfl dX11_newShape_72 rfl rfl (Nat.le_of_ble_eq_true rfl) (by first | exact Nat.le_of_ble_eq_true rfl | (simp only [rM]; omega)) (by first | exact Nat.le_of_ble_eq_true rfl | (simp only [rM]; omega)) (by first | exact Nat.le_of_ble_eq_true rfl | (simp only [rM]; omega)) (by first | exact Nat.le_of_ble_eq_true rfl | (simp only [rM]; omega)) (fun r5 h6 u7 q8 g9 => ?_)
  obtain ⟨rfl, eh0, rfl⟩ := q8
  have k10 : h6 lo = some (.inr (10, [.ref (lo + 1), .int (iI c), .ref (lo + 2), .int (iI (n : Int)), .ref (lo + 3), .ref (lo + 13), .ref (lo + 15)])) := by rw [eh0, ch_set_ne (ch_ne k2 k4 (by intro q; cases q))]; exact k2
  have k11 : h6 (lo + 1) = some (aI cI 6 fz) := by rw [eh0, ch_set_ne (by first | assumption | exact Ne.symm (by assumption) | omega)]; exact k3
  have k12 : h6 hi = some (.inr (1, [.int (iI 1), .int (iI (fz 0)), .int (iI (fz 1)), .int (iI (fz 2)), .int (iI (fz 3)), .int (iI (fz 4)), .int (iI (fz 5))])) := by rw [eh0]; exact ch_set_self
  refine ch_Gst (st2 := [.ref hi]) rfl ?_
  refine gx_aret rfl (Or.inl ⟨_, rfl⟩) (Or.inr ⟨_, rfl⟩) dX11_newShape_75 (by first | exact Nat.le_of_ble_eq_true rfl | (simp only [rM]; omega)) (by first | exact Nat.le_of_ble_eq_true rfl | (simp only [rM]; omega)) ?_
  exact ⟨rfl, by rw [eh0, eh1, ch_set_set], rfl⟩
set_option maxHeartbeats 4000000 in
set_option maxRecDepth 100000 in
theorem c_X11_newShape_1 (l : Launch) (D : va_G) (cI cL cR : ClassId) (lo : Nat) (h : ch_H) (hi : Nat) (c : Int) (n : Nat) (hn : n ≤ 60) (hZ : h lo = some (.inr (10, [.ref (lo + 1), .int (iI c), .ref (lo + 2), .int (iI (n : Int)), .ref (lo + 3), .ref (lo + 13), .ref (lo + 15)]))) (fz : Nat → Int) (hF : h (lo + 1) = some (aI cI 6 fz)) (hhi : lo + 26 ≤ hi) : ch_C l (eE D cI cL cR lo) M_X11_newShape (rM 3 1 7) [.ref lo, .int (iI 1)] h hi (fun r0 h2 hi2 => r0 = some (.ref hi) ∧ h2 = ch_set h hi (.inr (6, [.int (iI 1), .int (iI (fz 0)), .int (iI (fz 1)), .int (iI (fz 2)), .int (iI (fz 3)), .int (iI (fz 4))])) ∧ hi + 1 = hi2) := by
  refine ch_C.of rfl (Nat.le_of_ble_eq_true rfl) ?_
  refine gx_iload_n 1 dX11_newShape_0 rfl rfl ?_
  refine gy_tin 1 rfl 76 dX11_newShape_1 (by decide) (by decide) (by decide) rfl (by decide) ?_
  refine gy_new (ci := 6) (C := RX6) (T := TX6) (N := 6) [.int (iI 0), .int (iI 0), .int (iI 0), .int (iI 0), .int (iI 0), .int (iI 0)] tyX6 rfl inX6 tyX6_ok mw_1_174 mw_1_175 mw_1_8 (fun j hj => by rcases (show j = 0 ∨ j = 1 ∨ j = 2 ∨ j = 3 ∨ j = 4 ∨ j = 5 by omega) with rfl | rfl | rfl | rfl | rfl | rfl <;> rfl) (by first | exact Nat.le_of_ble_eq_true rfl | (simp only [rM]; omega)) (by first | exact Nat.le_of_ble_eq_true rfl | (simp only [rM]; omega)) dX11_newShape_76 (fun h1 eh1 => ?_)
  have k2 : h1 lo = some (.inr (10, [.ref (lo + 1), .int (iI c), .ref (lo + 2), .int (iI (n : Int)), .ref (lo + 3), .ref (lo + 13), .ref (lo + 15)])) := by rw [eh1, ch_set_ne (by first | assumption | omega)]; exact hZ
  have k3 : h1 (lo + 1) = some (aI cI 6 fz) := by rw [eh1, ch_set_ne (by first | assumption | omega)]; exact hF
  have k4 : h1 hi = some (.inr (6, [.int (iI 0), .int (iI 0), .int (iI 0), .int (iI 0), .int (iI 0), .int (iI 0)])) := by rw [eh1]; exact ch_set_self
  refine gx_dup dX11_newShape_79 rfl ?_
  refine gx_aload_n 0 dX11_newShape_80 rfl rfl ?_
  refine gx_get (ci := 10) (f := 0) (C := RX11) (T := TX11) (N := 7) rfl inX11 (by decide) mw_1_90 dX11_newShape_81 k2 rfl ?_
  refine gx_iconst (iI 0) dX11_newShape_84 rfl ?_
  refine gy_iald dX11_newShape_85 k3 (by decide) (by decide) (by decide) ?_
  refine ch_Gst (st2 := [.int (iI (fz 0)), .ref hi, .ref hi]) rfl ?_
  refine gx_aload_n 0 dX11_newShape_86 rfl rfl ?_
  refine gx_get (ci := 10) (f := 0) (C := RX11) (T := TX11) (N := 7) rfl inX11 (by decide) mw_1_90 dX11_newShape_87 k2 rfl ?_
  refine gx_iconst (iI 1) dX11_newShape_90 rfl ?_
  refine gy_iald dX11_newShape_91 k3 (by decide) (by decide) (by decide) ?_
  refine ch_Gst (st2 := [.int (iI (fz 1)), .int (iI (fz 0)), .ref hi, .ref hi]) rfl ?_
  refine gx_aload_n 0 dX11_newShape_92 rfl rfl ?_
  refine gx_get (ci := 10) (f := 0) (C := RX11) (T := TX11) (N := 7) rfl inX11 (by decide) mw_1_90 dX11_newShape_93 k2 rfl ?_
  refine gx_iconst (iI 2) dX11_newShape_96 rfl ?_
  refine gy_iald dX11_newShape_97 k3 (by decide) (by decide) (by decide) ?_
  refine ch_Gst (st2 := [.int (iI (fz 2)), .int (iI (fz 1)), .int (iI (fz 0)), .ref hi, .ref hi]) rfl ?_
  refine gx_aload_n 0 dX11_newShape_98 rfl rfl ?_
  refine gx_get (ci := 10) (f := 0) (C := RX11) (T := TX11) (N := 7) rfl inX11 (by decide) mw_1_90 dX11_newShape_99 k2 rfl ?_
  refine gx_iconst (iI 3) dX11_newShape_102 rfl ?_
  refine gy_iald dX11_newShape_103 k3 (by decide) (by decide) (by decide) ?_
  refine ch_Gst (st2 := [.int (iI (fz 3)), .int (iI (fz 2)), .int (iI (fz 1)), .int (iI (fz 0)), .ref hi, .ref hi]) rfl ?_
  refine gx_aload_n 0 dX11_newShape_104 rfl rfl ?_
  refine gx_get (ci := 10) (f := 0) (C := RX11) (T := TX11) (N := 7) rfl inX11 (by decide) mw_1_90 dX11_newShape_105 k2 rfl ?_
  refine gx_iconst (iI 4) dX11_newShape_108 rfl ?_
  refine gy_iald dX11_newShape_109 k3 (by decide) (by decide) (by decide) ?_
  refine ch_Gst (st2 := [.int (iI (fz 4)), .int (iI (fz 3)), .int (iI (fz 2)), .int (iI (fz 1)), .int (iI (fz 0)), .ref hi, .ref hi]) rfl ?_
  refine gx_callI (c_X6_init l D cI cL cR lo h1 (hi + 1) hi (fz 0) (fz 1) (fz 2) (fz 3) (fz 4) k4) ok_X6_init mw_1_176 mw_1_177 rfl rfl dX11_newShape_110 rfl rfl (Nat.le_of_ble_eq_true rfl) (by first | exact Nat.le_of_ble_eq_true rfl | (simp only [rM]; omega)) (by first | exact Nat.le_of_ble_eq_true rfl | (simp only [rM]; omega)) (by first | exact Nat.le_of_ble_eq_true rfl | (simp only [rM]; omega)) (by first | exact Nat.le_of_ble_eq_true rfl | (simp only [rM]; omega)) (fun r5 h6 u7 q8 g9 => ?_)
  obtain ⟨rfl, eh0, rfl⟩ := q8
  have k10 : h6 lo = some (.inr (10, [.ref (lo + 1), .int (iI c), .ref (lo + 2), .int (iI (n : Int)), .ref (lo + 3), .ref (lo + 13), .ref (lo + 15)])) := by rw [eh0, ch_set_ne (ch_ne k2 k4 (by intro q; cases q))]; exact k2
  have k11 : h6 (lo + 1) = some (aI cI 6 fz) := by rw [eh0, ch_set_ne (by first | assumption | exact Ne.symm (by assumption) | omega)]; exact k3
  have k12 : h6 hi = some (.inr (6, [.int (iI 1), .int (iI (fz 0)), .int (iI (fz 1)), .int (iI (fz 2)), .int (iI (fz 3)), .int (iI (fz 4))])) := by rw [eh0]; exact ch_set_self
  refine ch_Gst (st2 := [.ref hi]) rfl ?_
  refine gx_aret rfl (Or.inl ⟨_, rfl⟩) (Or.inr ⟨_, rfl⟩) dX11_newShape_113 (by first | exact Nat.le_of_ble_eq_true rfl | (simp only [rM]; omega)) (by first | exact Nat.le_of_ble_eq_true rfl | (simp only [rM]; omega)) ?_
  exact ⟨rfl, by rw [eh0, eh1, ch_set_set], rfl⟩
set_option maxHeartbeats 4000000 in
set_option maxRecDepth 100000 in
theorem c_X11_newShape_2 (l : Launch) (D : va_G) (cI cL cR : ClassId) (lo : Nat) (h : ch_H) (hi : Nat) (c : Int) (n : Nat) (hn : n ≤ 60) (hZ : h lo = some (.inr (10, [.ref (lo + 1), .int (iI c), .ref (lo + 2), .int (iI (n : Int)), .ref (lo + 3), .ref (lo + 13), .ref (lo + 15)]))) (fz : Nat → Int) (hF : h (lo + 1) = some (aI cI 6 fz)) (hhi : lo + 26 ≤ hi) : ch_C l (eE D cI cL cR lo) M_X11_newShape (rM 3 1 7) [.ref lo, .int (iI 2)] h hi (fun r0 h2 hi2 => r0 = some (.ref hi) ∧ h2 = ch_set h hi (.inr (0, [.int (iI 1), .int (iI (fz 0)), .int (iI (fz 1)), .int (iI (fz 2)), .int (iI (fz 3))])) ∧ hi + 1 = hi2) := by
  refine ch_C.of rfl (Nat.le_of_ble_eq_true rfl) ?_
  refine gx_iload_n 1 dX11_newShape_0 rfl rfl ?_
  refine gy_tin 2 rfl 114 dX11_newShape_1 (by decide) (by decide) (by decide) rfl (by decide) ?_
  refine gy_new (ci := 0) (C := RX0) (T := TX0) (N := 5) [.int (iI 0), .int (iI 0), .int (iI 0), .int (iI 0), .int (iI 0)] tyX0 rfl inX0 tyX0_ok mw_1_197 mw_1_198 mw_1_9 (fun j hj => by rcases (show j = 0 ∨ j = 1 ∨ j = 2 ∨ j = 3 ∨ j = 4 by omega) with rfl | rfl | rfl | rfl | rfl <;> rfl) (by first | exact Nat.le_of_ble_eq_true rfl | (simp only [rM]; omega)) (by first | exact Nat.le_of_ble_eq_true rfl | (simp only [rM]; omega)) dX11_newShape_114 (fun h1 eh1 => ?_)
  have k2 : h1 lo = some (.inr (10, [.ref (lo + 1), .int (iI c), .ref (lo + 2), .int (iI (n : Int)), .ref (lo + 3), .ref (lo + 13), .ref (lo + 15)])) := by rw [eh1, ch_set_ne (by first | assumption | omega)]; exact hZ
  have k3 : h1 (lo + 1) = some (aI cI 6 fz) := by rw [eh1, ch_set_ne (by first | assumption | omega)]; exact hF
  have k4 : h1 hi = some (.inr (0, [.int (iI 0), .int (iI 0), .int (iI 0), .int (iI 0), .int (iI 0)])) := by rw [eh1]; exact ch_set_self
  refine gx_dup dX11_newShape_117 rfl ?_
  refine gx_aload_n 0 dX11_newShape_118 rfl rfl ?_
  refine gx_get (ci := 10) (f := 0) (C := RX11) (T := TX11) (N := 7) rfl inX11 (by decide) mw_1_90 dX11_newShape_119 k2 rfl ?_
  refine gx_iconst (iI 0) dX11_newShape_122 rfl ?_
  refine gy_iald dX11_newShape_123 k3 (by decide) (by decide) (by decide) ?_
  refine ch_Gst (st2 := [.int (iI (fz 0)), .ref hi, .ref hi]) rfl ?_
  refine gx_aload_n 0 dX11_newShape_124 rfl rfl ?_
  refine gx_get (ci := 10) (f := 0) (C := RX11) (T := TX11) (N := 7) rfl inX11 (by decide) mw_1_90 dX11_newShape_125 k2 rfl ?_
  refine gx_iconst (iI 1) dX11_newShape_128 rfl ?_
  refine gy_iald dX11_newShape_129 k3 (by decide) (by decide) (by decide) ?_
  refine ch_Gst (st2 := [.int (iI (fz 1)), .int (iI (fz 0)), .ref hi, .ref hi]) rfl ?_
  refine gx_aload_n 0 dX11_newShape_130 rfl rfl ?_
  refine gx_get (ci := 10) (f := 0) (C := RX11) (T := TX11) (N := 7) rfl inX11 (by decide) mw_1_90 dX11_newShape_131 k2 rfl ?_
  refine gx_iconst (iI 2) dX11_newShape_134 rfl ?_
  refine gy_iald dX11_newShape_135 k3 (by decide) (by decide) (by decide) ?_
  refine ch_Gst (st2 := [.int (iI (fz 2)), .int (iI (fz 1)), .int (iI (fz 0)), .ref hi, .ref hi]) rfl ?_
  refine gx_aload_n 0 dX11_newShape_136 rfl rfl ?_
  refine gx_get (ci := 10) (f := 0) (C := RX11) (T := TX11) (N := 7) rfl inX11 (by decide) mw_1_90 dX11_newShape_137 k2 rfl ?_
  refine gx_iconst (iI 3) dX11_newShape_140 rfl ?_
  refine gy_iald dX11_newShape_141 k3 (by decide) (by decide) (by decide) ?_
  refine ch_Gst (st2 := [.int (iI (fz 3)), .int (iI (fz 2)), .int (iI (fz 1)), .int (iI (fz 0)), .ref hi, .ref hi]) rfl ?_
  refine gx_callI (c_X0_init l D cI cL cR lo h1 (hi + 1) hi (fz 0) (fz 1) (fz 2) (fz 3) k4) ok_X0_init mw_1_199 mw_1_200 rfl rfl dX11_newShape_142 rfl rfl (Nat.le_of_ble_eq_true rfl) (by first | exact Nat.le_of_ble_eq_true rfl | (simp only [rM]; omega)) (by first | exact Nat.le_of_ble_eq_true rfl | (simp only [rM]; omega)) (by first | exact Nat.le_of_ble_eq_true rfl | (simp only [rM]; omega)) (by first | exact Nat.le_of_ble_eq_true rfl | (simp only [rM]; omega)) (fun r5 h6 u7 q8 g9 => ?_)
  obtain ⟨rfl, eh0, rfl⟩ := q8
  have k10 : h6 lo = some (.inr (10, [.ref (lo + 1), .int (iI c), .ref (lo + 2), .int (iI (n : Int)), .ref (lo + 3), .ref (lo + 13), .ref (lo + 15)])) := by rw [eh0, ch_set_ne (ch_ne k2 k4 (by intro q; cases q))]; exact k2
  have k11 : h6 (lo + 1) = some (aI cI 6 fz) := by rw [eh0, ch_set_ne (by first | assumption | exact Ne.symm (by assumption) | omega)]; exact k3
  have k12 : h6 hi = some (.inr (0, [.int (iI 1), .int (iI (fz 0)), .int (iI (fz 1)), .int (iI (fz 2)), .int (iI (fz 3))])) := by rw [eh0]; exact ch_set_self
  refine ch_Gst (st2 := [.ref hi]) rfl ?_
  refine gx_aret rfl (Or.inl ⟨_, rfl⟩) (Or.inr ⟨_, rfl⟩) dX11_newShape_145 (by first | exact Nat.le_of_ble_eq_true rfl | (simp only [rM]; omega)) (by first | exact Nat.le_of_ble_eq_true rfl | (simp only [rM]; omega)) ?_
  exact ⟨rfl, by rw [eh0, eh1, ch_set_set], rfl⟩
set_option maxHeartbeats 4000000 in
set_option maxRecDepth 100000 in
theorem c_X11_newShape_3 (l : Launch) (D : va_G) (cI cL cR : ClassId) (lo : Nat) (h : ch_H) (hi : Nat) (c : Int) (n : Nat) (hn : n ≤ 60) (hZ : h lo = some (.inr (10, [.ref (lo + 1), .int (iI c), .ref (lo + 2), .int (iI (n : Int)), .ref (lo + 3), .ref (lo + 13), .ref (lo + 15)]))) (fz : Nat → Int) (hF : h (lo + 1) = some (aI cI 6 fz)) (hhi : lo + 26 ≤ hi) : ch_C l (eE D cI cL cR lo) M_X11_newShape (rM 3 1 7) [.ref lo, .int (iI 3)] h hi (fun r0 h2 hi2 => r0 = some (.ref hi) ∧ h2 = ch_set h hi (.inr (2, [.int (iI 1), .int (iI (fz 0)), .int (iI (fz 1)), .int (iI (fz 2)), .int (iI (fz 3)), .int (iI (fz 4))])) ∧ hi + 1 = hi2) := by
  refine ch_C.of rfl (Nat.le_of_ble_eq_true rfl) ?_
  refine gx_iload_n 1 dX11_newShape_0 rfl rfl ?_
  refine gy_tin 3 rfl 146 dX11_newShape_1 (by decide) (by decide) (by decide) rfl (by decide) ?_
  refine gy_new (ci := 2) (C := RX2) (T := TX2) (N := 6) [.int (iI 0), .int (iI 0), .int (iI 0), .int (iI 0), .int (iI 0), .int (iI 0)] tyX2 rfl inX2 tyX2_ok mw_1_217 mw_1_218 mw_1_10 (fun j hj => by rcases (show j = 0 ∨ j = 1 ∨ j = 2 ∨ j = 3 ∨ j = 4 ∨ j = 5 by omega) with rfl | rfl | rfl | rfl | rfl | rfl <;> rfl) (by first | exact Nat.le_of_ble_eq_true rfl | (simp only [rM]; omega)) (by first | exact Nat.le_of_ble_eq_true rfl | (simp only [rM]; omega)) dX11_newShape_146 (fun h1 eh1 => ?_)
  have k2 : h1 lo = some (.inr (10, [.ref (lo + 1), .int (iI c), .ref (lo + 2), .int (iI (n : Int)), .ref (lo + 3), .ref (lo + 13), .ref (lo + 15)])) := by rw [eh1, ch_set_ne (by first | assumption | omega)]; exact hZ
  have k3 : h1 (lo + 1) = some (aI cI 6 fz) := by rw [eh1, ch_set_ne (by first | assumption | omega)]; exact hF
  have k4 : h1 hi = some (.inr (2, [.int (iI 0), .int (iI 0), .int (iI 0), .int (iI 0), .int (iI 0), .int (iI 0)])) := by rw [eh1]; exact ch_set_self
  refine gx_dup dX11_newShape_149 rfl ?_
  refine gx_aload_n 0 dX11_newShape_150 rfl rfl ?_
  refine gx_get (ci := 10) (f := 0) (C := RX11) (T := TX11) (N := 7) rfl inX11 (by decide) mw_1_90 dX11_newShape_151 k2 rfl ?_
  refine gx_iconst (iI 0) dX11_newShape_154 rfl ?_
  refine gy_iald dX11_newShape_155 k3 (by decide) (by decide) (by decide) ?_
  refine ch_Gst (st2 := [.int (iI (fz 0)), .ref hi, .ref hi]) rfl ?_
  refine gx_aload_n 0 dX11_newShape_156 rfl rfl ?_
  refine gx_get (ci := 10) (f := 0) (C := RX11) (T := TX11) (N := 7) rfl inX11 (by decide) mw_1_90 dX11_newShape_157 k2 rfl ?_
  refine gx_iconst (iI 1) dX11_newShape_160 rfl ?_
  refine gy_iald dX11_newShape_161 k3 (by decide) (by decide) (by decide) ?_
  refine ch_Gst (st2 := [.int (iI (fz 1)), .int (iI (fz 0)), .ref hi, .ref hi]) rfl ?_
  refine gx_aload_n 0 dX11_newShape_162 rfl rfl ?_
  refine gx_get (ci := 10) (f := 0) (C := RX11) (T := TX11) (N := 7) rfl inX11 (by decide) mw_1_90 dX11_newShape_163 k2 rfl ?_
  refine gx_iconst (iI 2) dX11_newShape_166 rfl ?_
  refine gy_iald dX11_newShape_167 k3 (by decide) (by decide) (by decide) ?_
  refine ch_Gst (st2 := [.int (iI (fz 2)), .int (iI (fz 1)), .int (iI (fz 0)), .ref hi, .ref hi]) rfl ?_
  refine gx_aload_n 0 dX11_newShape_168 rfl rfl ?_
  refine gx_get (ci := 10) (f := 0) (C := RX11) (T := TX11) (N := 7) rfl inX11 (by decide) mw_1_90 dX11_newShape_169 k2 rfl ?_
  refine gx_iconst (iI 3) dX11_newShape_172 rfl ?_
  refine gy_iald dX11_newShape_173 k3 (by decide) (by decide) (by decide) ?_
  refine ch_Gst (st2 := [.int (iI (fz 3)), .int (iI (fz 2)), .int (iI (fz 1)), .int (iI (fz 0)), .ref hi, .ref hi]) rfl ?_
  refine gx_aload_n 0 dX11_newShape_174 rfl rfl ?_
  refine gx_get (ci := 10) (f := 0) (C := RX11) (T := TX11) (N := 7) rfl inX11 (by decide) mw_1_90 dX11_newShape_175 k2 rfl ?_
  refine gx_iconst (iI 4) dX11_newShape_178 rfl ?_
  refine gy_iald dX11_newShape_179 k3 (by decide) (by decide) (by decide) ?_
  refine ch_Gst (st2 := [.int (iI (fz 4)), .int (iI (fz 3)), .int (iI (fz 2)), .int (iI (fz 1)), .int (iI (fz 0)), .ref hi, .ref hi]) rfl ?_
  refine gx_callI (c_X2_init l D cI cL cR lo h1 (hi + 1) hi (fz 0) (fz 1) (fz 2) (fz 3) (fz 4) k4) ok_X2_init mw_1_219 mw_1_220 rfl rfl dX11_newShape_180 rfl rfl (Nat.le_of_ble_eq_true rfl) (by first | exact Nat.le_of_ble_eq_true rfl | (simp only [rM]; omega)) (by first | exact Nat.le_of_ble_eq_true rfl | (simp only [rM]; omega)) (by first | exact Nat.le_of_ble_eq_true rfl | (simp only [rM]; omega)) (by first | exact Nat.le_of_ble_eq_true rfl | (simp only [rM]; omega)) (fun r5 h6 u7 q8 g9 => ?_)
  obtain ⟨rfl, eh0, rfl⟩ := q8
  have k10 : h6 lo = some (.inr (10, [.ref (lo + 1), .int (iI c), .ref (lo + 2), .int (iI (n : Int)), .ref (lo + 3), .ref (lo + 13), .ref (lo + 15)])) := by rw [eh0, ch_set_ne (ch_ne k2 k4 (by intro q; cases q))]; exact k2
  have k11 : h6 (lo + 1) = some (aI cI 6 fz) := by rw [eh0, ch_set_ne (by first | assumption | exact Ne.symm (by assumption) | omega)]; exact k3
  have k12 : h6 hi = some (.inr (2, [.int (iI 1), .int (iI (fz 0)), .int (iI (fz 1)), .int (iI (fz 2)), .int (iI (fz 3)), .int (iI (fz 4))])) := by rw [eh0]; exact ch_set_self
  refine ch_Gst (st2 := [.ref hi]) rfl ?_
  refine gx_aret rfl (Or.inl ⟨_, rfl⟩) (Or.inr ⟨_, rfl⟩) dX11_newShape_183 (by first | exact Nat.le_of_ble_eq_true rfl | (simp only [rM]; omega)) (by first | exact Nat.le_of_ble_eq_true rfl | (simp only [rM]; omega)) ?_
  exact ⟨rfl, by rw [eh0, eh1, ch_set_set], rfl⟩
/-- the edges that a look finds: none beyond the bound -/
def edN (Kf Nf : Nat → Int) (s : Nat) (x y : Int) : List Int := if nearB x = true ∧ nearB y = true then ed Kf Nf s x y 0 else []
set_option maxHeartbeats 4000000 in
set_option maxRecDepth 100000 in
theorem c_X11_lookOver (l : Launch) (D : va_G) (cI cL cR : ClassId) (lo : Nat) (h : ch_H) (hi : Nat) (gw : Nat → Option Nat) (fx fy fl fh : Nat → Int) (wc : Int) (Ls : List (List Int)) (W : wwP cI cR lo h gw fx fy fl fh wc Ls) (c : Int) (r g : Nat) (nr : Int) (fg : Nat → Int) (hr : h r = some (.inr (7, [.ref g, .int (iI nr)]))) (hg : h g = some (aI cI 100 fg)) (hrl : lo + 13 ≤ r) (hgl : lo + 13 ≤ g) (n : Nat) (Ad : Nat → Nat) (Kf Nf Wf : Nat → Int) (hn : n ≤ 60) (hZ : h lo = some (.inr (10, [.ref (lo + 1), .int (iI c), .ref (lo + 2), .int (iI (n : Int)), .ref (lo + 3), .ref (lo + 13), .ref (lo + 15)]))) (HA : soA lo h n Ad Kf Nf Wf) (hrA : ∀ s, 1 ≤ s → s ≤ n → Ad s ≠ r ∧ Ad s ≠ g) (s : Nat) (hs1 : 1 ≤ s) (hs2 : s ≤ n) (x y : Int) (hx : ir x) (hy : ir y) : ch_C l (eE D cI cL cR lo) M_X11_lookOver (rM 5 0 0) [.ref lo, .ref (Ad s), .int (iI x), .int (iI y), .ref r] h hi (fun r0 h2 hi2 => r0 = none ∧ wwE cI cR lo h2 ∧ ruP cI h2 r g (edN Kf Nf s x y) ∧ ch_fr (r :: g :: wwL lo) h h2 ∧ hi = hi2) := by
  refine ch_C.of rfl (Nat.le_of_ble_eq_true rfl) ?_
  obtain ⟨vK, hK⟩ := wwP_K W
  refine gx_iload_n 2 dX11_lookOver_0 rfl rfl ?_
  refine gx_callS (c_X11_isBeyond l D cI cL cR lo h hi x (by constructor <;> omega)) ok_X11_isBeyond mw_2_76 mw_2_77 dX11_lookOver_1 rfl rfl (Nat.le_of_ble_eq_true rfl) (by first | exact Nat.le_of_ble_eq_true rfl | (simp only [rM]; omega)) (by first | exact Nat.le_of_ble_eq_true rfl | (simp only [rM]; omega)) (by first | exact Nat.le_of_ble_eq_true rfl | (simp only [rM]; omega)) (by first | exact Nat.le_of_ble_eq_true rfl | (simp only [rM]; omega)) (fun r1 h2 u3 q4 g5 => ?_)
  obtain ⟨rfl, rfl, rfl⟩ := q4
  refine ch_Gst (st2 := [.int (iI (bI (!nearB x)))]) rfl ?_
  refine gy_if_ne 14 dX11_lookOver_4 (by decide) ir_bI (fun c4 => ?_) (fun c4 => ?_)
  · refine gx_aload 4 dX11_lookOver_14 rfl ?_
    refine gx_callV (ci := 7) (c_X7_clear l D cI cL cR lo h hi r g nr hr) ok_X7_clear mw_2_85 mw_2_86 mw_2_87 dX11_lookOver_16 rfl hr rfl rfl (Nat.le_of_ble_eq_true rfl) (by first | exact Nat.le_of_ble_eq_true rfl | (simp only [rM]; omega)) (by first | exact Nat.le_of_ble_eq_true rfl | (simp only [rM]; omega)) (by first | exact Nat.le_of_ble_eq_true rfl | (simp only [rM]; omega)) (by first | exact Nat.le_of_ble_eq_true rfl | (simp only [rM]; omega)) (fun r6 h7 u8 q9 g10 => ?_)
    obtain ⟨rfl, eh0, rfl⟩ := q9
    have k11 : h7 lo = some (.inr (10, [.ref (lo + 1), .int (iI c), .ref (lo + 2), .int (iI (n : Int)), .ref (lo + 3), .ref (lo + 13), .ref (lo + 15)])) := by rw [eh0, ch_set_ne (ch_ne hZ hr (by intro q; cases q))]; exact hZ
    have k12 : h7 (lo + 3) = some (.inr (9, vK)) := by rw [eh0, ch_set_ne (by first | assumption | exact Ne.symm (by assumption) | omega)]; exact hK
    have k13 : h7 g = some (aI cI 100 fg) := by rw [eh0, ch_set_ne (ch_ne hg hr (by intro q; cases q))]; exact hg
    have k14 : h7 r = some (.inr (7, [.ref g, .int (iI 0)])) := by rw [eh0]; exact ch_set_self
    refine ch_Gst (st2 := []) rfl ?_
    refine gx_goto 34 dX11_lookOver_19 (by decide) ?_
    refine gx_vret rfl dX11_lookOver_34 (by first | exact Nat.le_of_ble_eq_true rfl | (simp only [rM]; omega)) (by first | exact Nat.le_of_ble_eq_true rfl | (simp only [rM]; omega)) ?_
    have nx : nearB x = false := by have := bI_1 c4; simpa using this
    refine ⟨rfl, ⟨gw, fx, fy, fl, fh, wc, Ls, wwP_fr W (fun b b1 b2 => by rw [eh0, ch_set_ne (by omega)])⟩, ?_, ?_, rfl⟩
    · unfold edN; rw [if_neg (by rw [nx]; simp)]; exact ⟨fg, k14, k13, by simp, fun j hj => absurd hj (by simp), fun j hj => absurd hj (by simp)⟩
    · intro b hb; simp only [List.mem_cons, not_or] at hb; rw [eh0, ch_set_ne hb.1]
  · refine gx_iload_n 3 dX11_lookOver_7 rfl rfl ?_
    refine gx_callS (c_X11_isBeyond l D cI cL cR lo h hi y (by constructor <;> omega)) ok_X11_isBeyond mw_2_76 mw_2_77 dX11_lookOver_8 rfl rfl (Nat.le_of_ble_eq_true rfl) (by first | exact Nat.le_of_ble_eq_true rfl | (simp only [rM]; omega)) (by first | exact Nat.le_of_ble_eq_true rfl | (simp only [rM]; omega)) (by first | exact Nat.le_of_ble_eq_true rfl | (simp only [rM]; omega)) (by first | exact Nat.le_of_ble_eq_true rfl | (simp only [rM]; omega)) (fun r15 h16 u17 q18 g19 => ?_)
    obtain ⟨rfl, rfl, rfl⟩ := q18
    refine ch_Gst (st2 := [.int (iI (bI (!nearB y)))]) rfl ?_
    refine gy_if_eq 22 dX11_lookOver_11 (by decide) ir_bI (fun c11 => ?_) (fun c11 => ?_)
    · refine gx_aload_n 0 dX11_lookOver_22 rfl rfl ?_
      refine gx_get (ci := 10) (f := 4) (C := RX11) (T := TX11) (N := 7) rfl inX11 (by decide) mw_1_94 dX11_lookOver_23 hZ rfl ?_
      refine gx_aload_n 1 dX11_lookOver_26 rfl rfl ?_
      refine gx_iload_n 2 dX11_lookOver_27 rfl rfl ?_
      refine gx_iload_n 3 dX11_lookOver_28 rfl rfl ?_
      refine gx_aload 4 dX11_lookOver_29 rfl ?_
      have nx : nearB x = true := by have := bI_0 c4; simpa using this
      have ny : nearB y = true := by have := bI_0 c11; simpa using this
      have nx2 := of_decide_eq_true nx
      have ny2 := of_decide_eq_true ny
      refine gx_callV (ci := 9) (c_X10_over l D cI cL cR lo h hi gw fx fy fl fh wc Ls W r g nr fg hr hg hrl hgl n Ad Kf Nf Wf hn HA hrA s hs1 hs2 x y nx2 ny2) ok_X10_over mw_2_89 mw_2_90 mw_2_91 dX11_lookOver_31 rfl hK rfl rfl (Nat.le_of_ble_eq_true rfl) (by first | exact Nat.le_of_ble_eq_true rfl | (simp only [rM]; omega)) (by first | exact Nat.le_of_ble_eq_true rfl | (simp only [rM]; omega)) (by first | exact Nat.le_of_ble_eq_true rfl | (simp only [rM]; omega)) (by first | exact Nat.le_of_ble_eq_true rfl | (simp only [rM]; omega)) (fun r20 h21 u22 q23 g24 => ?_)
      obtain ⟨rfl, WE, RU, FR, rfl⟩ := q23
      refine ch_Gst (st2 := []) rfl ?_
      refine gx_vret rfl dX11_lookOver_34 (by first | exact Nat.le_of_ble_eq_true rfl | (simp only [rM]; omega)) (by first | exact Nat.le_of_ble_eq_true rfl | (simp only [rM]; omega)) ?_
      exact ⟨rfl, WE, by unfold edN; rw [if_pos ⟨nx, ny⟩]; exact RU, FR, rfl⟩
    · refine gx_aload 4 dX11_lookOver_14 rfl ?_
      refine gx_callV (ci := 7) (c_X7_clear l D cI cL cR lo h hi r g nr hr) ok_X7_clear mw_2_85 mw_2_86 mw_2_87 dX11_lookOver_16 rfl hr rfl rfl (Nat.le_of_ble_eq_true rfl) (by first | exact Nat.le_of_ble_eq_true rfl | (simp only [rM]; omega)) (by first | exact Nat.le_of_ble_eq_true rfl | (simp only [rM]; omega)) (by first | exact Nat.le_of_ble_eq_true rfl | (simp only [rM]; omega)) (by first | exact Nat.le_of_ble_eq_true rfl | (simp only [rM]; omega)) (fun r25 h26 u27 q28 g29 => ?_)
      obtain ⟨rfl, eh0, rfl⟩ := q28
      have k30 : h26 lo = some (.inr (10, [.ref (lo + 1), .int (iI c), .ref (lo + 2), .int (iI (n : Int)), .ref (lo + 3), .ref (lo + 13), .ref (lo + 15)])) := by rw [eh0, ch_set_ne (ch_ne hZ hr (by intro q; cases q))]; exact hZ
      have k31 : h26 (lo + 3) = some (.inr (9, vK)) := by rw [eh0, ch_set_ne (by first | assumption | exact Ne.symm (by assumption) | omega)]; exact hK
      have k32 : h26 g = some (aI cI 100 fg) := by rw [eh0, ch_set_ne (ch_ne hg hr (by intro q; cases q))]; exact hg
      have k33 : h26 r = some (.inr (7, [.ref g, .int (iI 0)])) := by rw [eh0]; exact ch_set_self
      refine ch_Gst (st2 := []) rfl ?_
      refine gx_goto 34 dX11_lookOver_19 (by decide) ?_
      refine gx_vret rfl dX11_lookOver_34 (by first | exact Nat.le_of_ble_eq_true rfl | (simp only [rM]; omega)) (by first | exact Nat.le_of_ble_eq_true rfl | (simp only [rM]; omega)) ?_
      have nx : nearB y = false := by have := bI_1 c11; simpa using this
      refine ⟨rfl, ⟨gw, fx, fy, fl, fh, wc, Ls, wwP_fr W (fun b b1 b2 => by rw [eh0, ch_set_ne (by omega)])⟩, ?_, ?_, rfl⟩
      · unfold edN; rw [if_neg (by rw [nx]; simp)]; exact ⟨fg, k33, k32, by simp, fun j hj => absurd hj (by simp), fun j hj => absurd hj (by simp)⟩
      · intro b hb; simp only [List.mem_cons, not_or] at hb; rw [eh0, ch_set_ne hb.1]
end
