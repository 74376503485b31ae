section
set_option maxHeartbeats 4000000 in
set_option maxRecDepth 100000 in
theorem c_X7_clear (l : Launch) (D : va_G) (cI cL cR : ClassId) (lo : Nat) (h : ch_H) (hi : Nat) (r e : Nat) (n : Int) (hr : h r = some (.inr (7, [.ref e, .int (iI n)]))) : ch_C l (eE D cI cL cR lo) M_X7_clear (rM 0 0 0) [.ref r] h hi (fun r0 h2 hi2 => r0 = none ∧ h2 = ch_set h r (.inr (7, [.ref e, .int (iI 0)])) ∧ hi2 = hi) := by
  refine ch_C.of rfl (Nat.le_of_ble_eq_true rfl) ?_
  refine gx_aload_n 0 dX7_clear_0 rfl rfl ?_
  refine gx_iconst (iI 0) dX7_clear_1 rfl ?_
  refine gy_put (ci := 7) (f := 1) (C := RX7) (T := TX7) (N := 2) (ty := .int) (fs2 := [.ref e, .int (iI 0)]) tyX7 rfl inX7 tyX7_ok nmX7 (by decide) mw_1_84 (Or.inl rfl) (by decide +kernel) rfl rfl dX7_clear_2 hr (by simp) rfl (fun h1 eh1 => ?_)
  have k2 : h1 r = some (.inr (7, [.ref e, .int (iI 0)])) := by rw [eh1]; exact ch_set_self
  refine gx_vret rfl dX7_clear_5 (by first | decide | (simp only [rM]; omega)) (by first | decide | (simp only [rM]; omega)) ?_
  exact ⟨rfl, eh1, rfl⟩
set_option maxHeartbeats 4000000 in
set_option maxRecDepth 100000 in
theorem c_X7_runCount (l : Launch) (D : va_G) (cI cL cR : ClassId) (lo : Nat) (h : ch_H) (hi : Nat) (r e : Nat) (n : Int) (hr : h r = some (.inr (7, [.ref e, .int (iI n)]))) (hn : 0 ≤ n ∧ n ≤ 100) : ch_C l (eE D cI cL cR lo) M_X7_runCount (rM 0 0 0) [.ref r] h hi (fun r0 h2 hi2 => r0 = some (.int (iI (n / 2))) ∧ h2 = h ∧ hi2 = hi) := by
  refine ch_C.of rfl (Nat.le_of_ble_eq_true rfl) ?_
  refine gx_aload_n 0 dX7_runCount_0 rfl rfl ?_
  refine gx_get (ci := 7) (f := 1) (C := RX7) (T := TX7) (N := 2) rfl inX7 (by decide) mw_1_84 dX7_runCount_1 hr rfl ?_
  refine gx_iconst (iI 2) dX7_runCount_4 rfl ?_
  refine gy_idiv dX7_runCount_5 (by constructor <;> omega) (by decide) (by omega) (by decide) ?_
  refine gx_iret rfl dX7_runCount_6 (by first | decide | (simp only [rM]; omega)) (by first | decide | (simp only [rM]; omega)) ?_
  exact ⟨rfl, rfl, rfl⟩
/-- what firstOf and lastOf answer -/
def ruF (f : Nat → Int) (n k : Int) : Int := if 0 ≤ k ∧ k < n / 2 then f (2 * k).toNat else 0
def ruL (f : Nat → Int) (n k : Int) : Int := if 0 ≤ k ∧ k < n / 2 then f (2 * k + 1).toNat - 1 else 0
set_option maxHeartbeats 4000000 in
set_option maxRecDepth 100000 in
theorem c_X7_firstOf (l : Launch) (D : va_G) (cI cL cR : ClassId) (lo : Nat) (h : ch_H) (hi : Nat) (r e : Nat) (n : Int) (f : Nat → Int) (hr : h r = some (.inr (7, [.ref e, .int (iI n)]))) (he : h e = some (aI cI 100 f)) (hn : 0 ≤ n ∧ n ≤ 100) (z : Int) (hz : ir z) : ch_C l (eE D cI cL cR lo) M_X7_firstOf (rM 1 0 0) [.ref r, .int (iI z)] h hi (fun r0 h2 hi2 => r0 = some (.int (iI (ruF f n z))) ∧ h2 = h ∧ hi2 = hi) := by
  refine ch_C.of rfl (Nat.le_of_ble_eq_true rfl) ?_
  refine gx_iload_n 1 dX7_firstOf_0 rfl rfl ?_
  refine gy_if_lt 12 dX7_firstOf_1 (by decide) (by constructor <;> omega) (fun c1 => ?_) (fun c1 => ?_)
  · refine gx_iconst (iI 0) dX7_firstOf_12 rfl ?_
    refine gx_goto 24 dX7_firstOf_13 (by decide) ?_
    refine gx_iret rfl dX7_firstOf_24 (by first | decide | (simp only [rM]; omega)) (by first | decide | (simp only [rM]; omega)) ?_
    exact ⟨by unfold ruF; rw [if_neg (by omega)], rfl, rfl⟩
  · refine gx_iload_n 1 dX7_firstOf_4 rfl rfl ?_
    refine gx_aload_n 0 dX7_firstOf_5 rfl rfl ?_
    refine gx_callV (ci := 7) (c_X7_runCount l D cI cL cR lo h hi r e n hr hn) ok_X7_runCount mw_2_197 mw_2_198 mw_2_199 dX7_firstOf_6 rfl hr rfl rfl (Nat.le_of_ble_eq_true rfl) (by first | decide | (simp only [rM]; omega)) (by first | decide | (simp only [rM]; omega)) (by first | decide | (simp only [rM]; omega)) (by first | decide | (simp only [rM]; omega)) (fun r1 h2 u3 q4 g5 => ?_)
    obtain ⟨rfl, rfl, rfl⟩ := q4
    refine ch_Gst (st2 := [.int (iI (n / 2)), .int (iI z)]) rfl ?_
    refine gy_icmp_lt 16 dX7_firstOf_9 (by decide) (by constructor <;> omega) (by constructor <;> omega) (fun c9 => ?_) (fun c9 => ?_)
    · refine gx_aload_n 0 dX7_firstOf_16 rfl rfl ?_
      refine gx_get (ci := 7) (f := 0) (C := RX7) (T := TX7) (N := 2) rfl inX7 (by decide) mw_1_83 dX7_firstOf_17 hr rfl ?_
      refine gx_iconst (iI 2) dX7_firstOf_20 rfl ?_
      refine gx_iload_n 1 dX7_firstOf_21 rfl rfl ?_
      refine gy_imul dX7_firstOf_22 ?_
      refine gy_iald dX7_firstOf_23 he (by omega) (by omega) (by decide) ?_
      refine gx_iret rfl dX7_firstOf_24 (by first | decide | (simp only [rM]; omega)) (by first | decide | (simp only [rM]; omega)) ?_
      exact ⟨by unfold ruF; rw [if_pos ⟨by omega, by omega⟩], rfl, rfl⟩
    · refine gx_iconst (iI 0) dX7_firstOf_12 rfl ?_
      refine gx_goto 24 dX7_firstOf_13 (by decide) ?_
      refine gx_iret rfl dX7_firstOf_24 (by first | decide | (simp only [rM]; omega)) (by first | decide | (simp only [rM]; omega)) ?_
      exact ⟨by unfold ruF; rw [if_neg (by omega)], rfl, rfl⟩
set_option maxHeartbeats 4000000 in
set_option maxRecDepth 100000 in
theorem c_X7_lastOf (l : Launch) (D : va_G) (cI cL cR : ClassId) (lo : Nat) (h : ch_H) (hi : Nat) (r e : Nat) (n : Int) (f : Nat → Int) (hr : h r = some (.inr (7, [.ref e, .int (iI n)]))) (he : h e = some (aI cI 100 f)) (hn : 0 ≤ n ∧ n ≤ 100) (z : Int) (hz : ir z) : ch_C l (eE D cI cL cR lo) M_X7_lastOf (rM 1 0 0) [.ref r, .int (iI z)] h hi (fun r0 h2 hi2 => r0 = some (.int (iI (ruL f n z))) ∧ h2 = h ∧ hi2 = hi) := by
  refine ch_C.of rfl (Nat.le_of_ble_eq_true rfl) ?_
  refine gx_iload_n 1 dX7_lastOf_0 rfl rfl ?_
  refine gy_if_lt 12 dX7_lastOf_1 (by decide) (by constructor <;> omega) (fun c1 => ?_) (fun c1 => ?_)
  · refine gx_iconst (iI 0) dX7_lastOf_12 rfl ?_
    refine gx_goto 28 dX7_lastOf_13 (by decide) ?_
    refine gx_iret rfl dX7_lastOf_28 (by first | decide | (simp only [rM]; omega)) (by first | decide | (simp only [rM]; omega)) ?_
    exact ⟨by unfold ruL; rw [if_neg (by omega)], rfl, rfl⟩
  · refine gx_iload_n 1 dX7_lastOf_4 rfl rfl ?_
    refine gx_aload_n 0 dX7_lastOf_5 rfl rfl ?_
    refine gx_callV (ci := 7) (c_X7_runCount l D cI cL cR lo h hi r e n hr hn) ok_X7_runCount mw_2_197 mw_2_198 mw_2_199 dX7_lastOf_6 rfl hr rfl rfl (Nat.le_of_ble_eq_true rfl) (by first | decide | (simp only [rM]; omega)) (by first | decide | (simp only [rM]; omega)) (by first | decide | (simp only [rM]; omega)) (by first | decide | (simp only [rM]; omega)) (fun r1 h2 u3 q4 g5 => ?_)
    obtain ⟨rfl, rfl, rfl⟩ := q4
    refine ch_Gst (st2 := [.int (iI (n / 2)), .int (iI z)]) rfl ?_
    refine gy_icmp_lt 16 dX7_lastOf_9 (by decide) (by constructor <;> omega) (by constructor <;> omega) (fun c9 => ?_) (fun c9 => ?_)
    · refine gx_aload_n 0 dX7_lastOf_16 rfl rfl ?_
      refine gx_get (ci := 7) (f := 0) (C := RX7) (T := TX7) (N := 2) rfl inX7 (by decide) mw_1_83 dX7_lastOf_17 hr rfl ?_
      refine gx_iconst (iI 2) dX7_lastOf_20 rfl ?_
      refine gx_iload_n 1 dX7_lastOf_21 rfl rfl ?_
      refine gy_imul dX7_lastOf_22 ?_
      refine gx_iconst (iI 1) dX7_lastOf_23 rfl ?_
      refine gy_iadd dX7_lastOf_24 ?_
      refine gy_iald dX7_lastOf_25 he (by omega) (by omega) (by decide) ?_
      refine gx_iconst (iI 1) dX7_lastOf_26 rfl ?_
      refine gy_isub dX7_lastOf_27 ?_
      refine gx_iret rfl dX7_lastOf_28 (by first | decide | (simp only [rM]; omega)) (by first | decide | (simp only [rM]; omega)) ?_
      exact ⟨by unfold ruL; rw [if_pos ⟨by omega, by omega⟩], rfl, rfl⟩
    · refine gx_iconst (iI 0) dX7_lastOf_12 rfl ?_
      refine gx_goto 28 dX7_lastOf_13 (by decide) ?_
      refine gx_iret rfl dX7_lastOf_28 (by first | decide | (simp only [rM]; omega)) (by first | decide | (simp only [rM]; omega)) ?_
      exact ⟨by unfold ruL; rw [if_neg (by omega)], rfl, rfl⟩
end
