section
theorem rtB_in {v : Int} : ∀ (k : Nat) (low high : Int), low ≤ high → low ≤ rtB v k low high ∧ rtB v k low high ≤ high := by
  intro k
  induction k with
  | zero => intro low high h; exact ⟨Int.le_refl _, h⟩
  | succ k ih =>
    intro low high h
    rw [rtB]
    by_cases h1 : low < high
    · rw [if_pos h1]
      by_cases h2 : sqI (low + (high - low + 1) / 2) ≤ v
      · rw [if_pos h2]
        have := ih (low + (high - low + 1) / 2) high (by omega)
        omega
      · rw [if_neg h2]
        have := ih low (low + (high - low + 1) / 2 - 1) (by omega)
        omega
    · rw [if_neg h1]; omega
theorem ldB_in {nd rr : Int} : ∀ (k : Nat) (low high : Int), low ≤ high → low ≤ ldB nd rr k low high ∧ ldB nd rr k low high ≤ high := by
  intro k
  induction k with
  | zero => intro low high h; exact ⟨Int.le_refl _, h⟩
  | succ k ih =>
    intro low high h
    rw [ldB]
    by_cases h1 : low < high
    · rw [if_pos h1]
      by_cases h2 : nd ≤ rr * sqI (low + (high - low) / 2)
      · rw [if_pos h2]
        have := ih low (low + (high - low) / 2) (by omega)
        omega
      · rw [if_neg h2]
        have := ih (low + (high - low) / 2 + 1) high (by omega)
        omega
    · rw [if_neg h1]; omega
/-- the edges of a kind over a place, raised -/
def bxS (x y z eX eY eZ px py t : Int) : List Int := if x ≤ px ∧ px < eX ∧ y ≤ py ∧ py < eY then seg (z + t) (eZ + t) else []
def poS (x y r z eZ px py t : Int) : List Int := if sqI (px - x) + sqI (py - y) ≤ sqI r then seg (z + t) (eZ + t) else []
def baS (x y z r px py t : Int) : List Int := if sqI r - sqI (px - x) - sqI (py - y) < 0 then [] else seg (z - rtB (sqI r - sqI (px - x) - sqI (py - y)) 32 0 r + t) (z + rtB (sqI r - sqI (px - x) - sqI (py - y)) 32 0 r + 1 + t)
def coS (x y r z eZ px py t : Int) : List Int := if eZ ≤ z ∨ sqI r < sqI (px - x) + sqI (py - y) then [] else seg (z + t) (eZ - ldB ((sqI (px - x) + sqI (py - y)) * sqI (eZ - z)) (sqI r) 32 1 (eZ - z) + 1 + t)
set_option maxHeartbeats 4000000 in
set_option maxRecDepth 100000 in
theorem c_X8_init_0 (l : Launch) (D : va_G) (cI cL cR : ClassId) (lo : Nat) (h : ch_H) (hi : Nat) (p : Nat) (wt : Int) (hp : h p = some (.inr (0, [.int (iI 0), .int (iI 0), .int (iI 0), .int (iI 0), .int (iI 0)]))) : ch_C l (eE D cI cL cR lo) M_X8_init (rM 1 0 0) [.ref p, .int (iI wt)] h hi (fun r0 h2 hi2 => r0 = none ∧ h2 = ch_set h p (.inr (0, [.int (iI wt), .int (iI 0), .int (iI 0), .int (iI 0), .int (iI 0)])) ∧ hi = hi2) := by
  refine ch_C.of rfl (Nat.le_of_ble_eq_true rfl) ?_
  refine gx_aload_n 0 dX8_init_0 rfl rfl ?_
  refine gx_objInit mw_1_147 mw_1_21 mw_1_22 dX8_init_1 (by decide) (Nat.le_of_ble_eq_true rfl) ?_
  refine gx_aload_n 0 dX8_init_4 rfl rfl ?_
  refine gx_iload_n 1 dX8_init_5 rfl rfl ?_
  refine gy_put (ci := 0) (f := 0) (C := RX0) (T := TX0) (N := 5) (ty := .int) (fs2 := [.int (iI wt), .int (iI 0), .int (iI 0), .int (iI 0), .int (iI 0)]) tyX0 rfl inX0 tyX0_ok nmX0 (by decide) mw_1_157 (Or.inr ⟨rfl, rfl, rfl⟩) (by decide +kernel) rfl rfl dX8_init_6 hp (by simp) rfl (fun h1 eh1 => ?_)
  have k2 : h1 p = some (.inr (0, [.int (iI wt), .int (iI 0), .int (iI 0), .int (iI 0), .int (iI 0)])) := by rw [eh1]; exact ch_set_self
  refine gx_vret rfl dX8_init_9 (by first | exact Nat.le_of_ble_eq_true rfl | (simp only [rM]; omega)) (by first | exact Nat.le_of_ble_eq_true rfl | (simp only [rM]; omega)) ?_
  exact ⟨rfl, eh1, rfl⟩
set_option maxHeartbeats 4000000 in
set_option maxRecDepth 100000 in
theorem c_X8_init_1 (l : Launch) (D : va_G) (cI cL cR : ClassId) (lo : Nat) (h : ch_H) (hi : Nat) (p : Nat) (wt : Int) (hp : h p = some (.inr (1, [.int (iI 0), .int (iI 0), .int (iI 0), .int (iI 0), .int (iI 0), .int (iI 0), .int (iI 0)]))) : ch_C l (eE D cI cL cR lo) M_X8_init (rM 1 0 0) [.ref p, .int (iI wt)] h hi (fun r0 h2 hi2 => r0 = none ∧ h2 = ch_set h p (.inr (1, [.int (iI wt), .int (iI 0), .int (iI 0), .int (iI 0), .int (iI 0), .int (iI 0), .int (iI 0)])) ∧ hi = hi2) := by
  refine ch_C.of rfl (Nat.le_of_ble_eq_true rfl) ?_
  refine gx_aload_n 0 dX8_init_0 rfl rfl ?_
  refine gx_objInit mw_1_147 mw_1_21 mw_1_22 dX8_init_1 (by decide) (Nat.le_of_ble_eq_true rfl) ?_
  refine gx_aload_n 0 dX8_init_4 rfl rfl ?_
  refine gx_iload_n 1 dX8_init_5 rfl rfl ?_
  refine gy_put (ci := 1) (f := 0) (C := RX1) (T := TX1) (N := 7) (ty := .int) (fs2 := [.int (iI wt), .int (iI 0), .int (iI 0), .int (iI 0), .int (iI 0), .int (iI 0), .int (iI 0)]) tyX1 rfl inX1 tyX1_ok nmX1 (by decide) mw_1_157 (Or.inr ⟨rfl, rfl, rfl⟩) (by decide +kernel) rfl rfl dX8_init_6 hp (by simp) rfl (fun h1 eh1 => ?_)
  have k2 : h1 p = some (.inr (1, [.int (iI wt), .int (iI 0), .int (iI 0), .int (iI 0), .int (iI 0), .int (iI 0), .int (iI 0)])) := by rw [eh1]; exact ch_set_self
  refine gx_vret rfl dX8_init_9 (by first | exact Nat.le_of_ble_eq_true rfl | (simp only [rM]; omega)) (by first | exact Nat.le_of_ble_eq_true rfl | (simp only [rM]; omega)) ?_
  exact ⟨rfl, eh1, rfl⟩
set_option maxHeartbeats 4000000 in
set_option maxRecDepth 100000 in
theorem c_X8_init_2 (l : Launch) (D : va_G) (cI cL cR : ClassId) (lo : Nat) (h : ch_H) (hi : Nat) (p : Nat) (wt : Int) (hp : h p = some (.inr (2, [.int (iI 0), .int (iI 0), .int (iI 0), .int (iI 0), .int (iI 0), .int (iI 0)]))) : ch_C l (eE D cI cL cR lo) M_X8_init (rM 1 0 0) [.ref p, .int (iI wt)] h hi (fun r0 h2 hi2 => r0 = none ∧ h2 = ch_set h p (.inr (2, [.int (iI wt), .int (iI 0), .int (iI 0), .int (iI 0), .int (iI 0), .int (iI 0)])) ∧ hi = hi2) := by
  refine ch_C.of rfl (Nat.le_of_ble_eq_true rfl) ?_
  refine gx_aload_n 0 dX8_init_0 rfl rfl ?_
  refine gx_objInit mw_1_147 mw_1_21 mw_1_22 dX8_init_1 (by decide) (Nat.le_of_ble_eq_true rfl) ?_
  refine gx_aload_n 0 dX8_init_4 rfl rfl ?_
  refine gx_iload_n 1 dX8_init_5 rfl rfl ?_
  refine gy_put (ci := 2) (f := 0) (C := RX2) (T := TX2) (N := 6) (ty := .int) (fs2 := [.int (iI wt), .int (iI 0), .int (iI 0), .int (iI 0), .int (iI 0), .int (iI 0)]) tyX2 rfl inX2 tyX2_ok nmX2 (by decide) mw_1_157 (Or.inr ⟨rfl, rfl, rfl⟩) (by decide +kernel) rfl rfl dX8_init_6 hp (by simp) rfl (fun h1 eh1 => ?_)
  have k2 : h1 p = some (.inr (2, [.int (iI wt), .int (iI 0), .int (iI 0), .int (iI 0), .int (iI 0), .int (iI 0)])) := by rw [eh1]; exact ch_set_self
  refine gx_vret rfl dX8_init_9 (by first | exact Nat.le_of_ble_eq_true rfl | (simp only [rM]; omega)) (by first | exact Nat.le_of_ble_eq_true rfl | (simp only [rM]; omega)) ?_
  exact ⟨rfl, eh1, rfl⟩
set_option maxHeartbeats 4000000 in
set_option maxRecDepth 100000 in
theorem c_X8_init_4 (l : Launch) (D : va_G) (cI cL cR : ClassId) (lo : Nat) (h : ch_H) (hi : Nat) (p : Nat) (wt : Int) (hp : h p = some (.inr (4, [.int (iI 0), .null, .null, .int (iI 0)]))) : ch_C l (eE D cI cL cR lo) M_X8_init (rM 1 0 0) [.ref p, .int (iI wt)] h hi (fun r0 h2 hi2 => r0 = none ∧ h2 = ch_set h p (.inr (4, [.int (iI wt), .null, .null, .int (iI 0)])) ∧ hi = hi2) := by
  refine ch_C.of rfl (Nat.le_of_ble_eq_true rfl) ?_
  refine gx_aload_n 0 dX8_init_0 rfl rfl ?_
  refine gx_objInit mw_1_147 mw_1_21 mw_1_22 dX8_init_1 (by decide) (Nat.le_of_ble_eq_true rfl) ?_
  refine gx_aload_n 0 dX8_init_4 rfl rfl ?_
  refine gx_iload_n 1 dX8_init_5 rfl rfl ?_
  refine gy_put (ci := 4) (f := 0) (C := RX4) (T := TX4) (N := 4) (ty := .int) (fs2 := [.int (iI wt), .null, .null, .int (iI 0)]) tyX4 rfl inX4 tyX4_ok nmX4 (by decide) mw_1_157 (Or.inr ⟨rfl, rfl, rfl⟩) (by decide +kernel) rfl rfl dX8_init_6 hp (by simp) rfl (fun h1 eh1 => ?_)
  have k2 : h1 p = some (.inr (4, [.int (iI wt), .null, .null, .int (iI 0)])) := by rw [eh1]; exact ch_set_self
  refine gx_vret rfl dX8_init_9 (by first | exact Nat.le_of_ble_eq_true rfl | (simp only [rM]; omega)) (by first | exact Nat.le_of_ble_eq_true rfl | (simp only [rM]; omega)) ?_
  exact ⟨rfl, eh1, rfl⟩
set_option maxHeartbeats 4000000 in
set_option maxRecDepth 100000 in
theorem c_X8_init_5 (l : Launch) (D : va_G) (cI cL cR : ClassId) (lo : Nat) (h : ch_H) (hi : Nat) (p : Nat) (wt : Int) (hp : h p = some (.inr (5, [.int (iI 0), .null, .int (iI 0), .int (iI 0), .int (iI 0)]))) : ch_C l (eE D cI cL cR lo) M_X8_init (rM 1 0 0) [.ref p, .int (iI wt)] h hi (fun r0 h2 hi2 => r0 = none ∧ h2 = ch_set h p (.inr (5, [.int (iI wt), .null, .int (iI 0), .int (iI 0), .int (iI 0)])) ∧ hi = hi2) := by
  refine ch_C.of rfl (Nat.le_of_ble_eq_true rfl) ?_
  refine gx_aload_n 0 dX8_init_0 rfl rfl ?_
  refine gx_objInit mw_1_147 mw_1_21 mw_1_22 dX8_init_1 (by decide) (Nat.le_of_ble_eq_true rfl) ?_
  refine gx_aload_n 0 dX8_init_4 rfl rfl ?_
  refine gx_iload_n 1 dX8_init_5 rfl rfl ?_
  refine gy_put (ci := 5) (f := 0) (C := RX5) (T := TX5) (N := 5) (ty := .int) (fs2 := [.int (iI wt), .null, .int (iI 0), .int (iI 0), .int (iI 0)]) tyX5 rfl inX5 tyX5_ok nmX5 (by decide) mw_1_157 (Or.inr ⟨rfl, rfl, rfl⟩) (by decide +kernel) rfl rfl dX8_init_6 hp (by simp) rfl (fun h1 eh1 => ?_)
  have k2 : h1 p = some (.inr (5, [.int (iI wt), .null, .int (iI 0), .int (iI 0), .int (iI 0)])) := by rw [eh1]; exact ch_set_self
  refine gx_vret rfl dX8_init_9 (by first | exact Nat.le_of_ble_eq_true rfl | (simp only [rM]; omega)) (by first | exact Nat.le_of_ble_eq_true rfl | (simp only [rM]; omega)) ?_
  exact ⟨rfl, eh1, rfl⟩
set_option maxHeartbeats 4000000 in
set_option maxRecDepth 100000 in
theorem c_X8_init_6 (l : Launch) (D : va_G) (cI cL cR : ClassId) (lo : Nat) (h : ch_H) (hi : Nat) (p : Nat) (wt : Int) (hp : h p = some (.inr (6, [.int (iI 0), .int (iI 0), .int (iI 0), .int (iI 0), .int (iI 0), .int (iI 0)]))) : ch_C l (eE D cI cL cR lo) M_X8_init (rM 1 0 0) [.ref p, .int (iI wt)] h hi (fun r0 h2 hi2 => r0 = none ∧ h2 = ch_set h p (.inr (6, [.int (iI wt), .int (iI 0), .int (iI 0), .int (iI 0), .int (iI 0), .int (iI 0)])) ∧ hi = hi2) := by
  refine ch_C.of rfl (Nat.le_of_ble_eq_true rfl) ?_
  refine gx_aload_n 0 dX8_init_0 rfl rfl ?_
  refine gx_objInit mw_1_147 mw_1_21 mw_1_22 dX8_init_1 (by decide) (Nat.le_of_ble_eq_true rfl) ?_
  refine gx_aload_n 0 dX8_init_4 rfl rfl ?_
  refine gx_iload_n 1 dX8_init_5 rfl rfl ?_
  refine gy_put (ci := 6) (f := 0) (C := RX6) (T := TX6) (N := 6) (ty := .int) (fs2 := [.int (iI wt), .int (iI 0), .int (iI 0), .int (iI 0), .int (iI 0), .int (iI 0)]) tyX6 rfl inX6 tyX6_ok nmX6 (by decide) mw_1_157 (Or.inr ⟨rfl, rfl, rfl⟩) (by decide +kernel) rfl rfl dX8_init_6 hp (by simp) rfl (fun h1 eh1 => ?_)
  have k2 : h1 p = some (.inr (6, [.int (iI wt), .int (iI 0), .int (iI 0), .int (iI 0), .int (iI 0), .int (iI 0)])) := by rw [eh1]; exact ch_set_self
  refine gx_vret rfl dX8_init_9 (by first | exact Nat.le_of_ble_eq_true rfl | (simp only [rM]; omega)) (by first | exact Nat.le_of_ble_eq_true rfl | (simp only [rM]; omega)) ?_
  exact ⟨rfl, eh1, rfl⟩
set_option maxHeartbeats 4000000 in
set_option maxRecDepth 100000 in
theorem c_X8_init_8 (l : Launch) (D : va_G) (cI cL cR : ClassId) (lo : Nat) (h : ch_H) (hi : Nat) (p : Nat) (wt : Int) (hp : h p = some (.inr (8, [.int (iI 0), .null]))) : ch_C l (eE D cI cL cR lo) M_X8_init (rM 1 0 0) [.ref p, .int (iI wt)] h hi (fun r0 h2 hi2 => r0 = none ∧ h2 = ch_set h p (.inr (8, [.int (iI wt), .null])) ∧ hi = hi2) := by
  refine ch_C.of rfl (Nat.le_of_ble_eq_true rfl) ?_
  refine gx_aload_n 0 dX8_init_0 rfl rfl ?_
  refine gx_objInit mw_1_147 mw_1_21 mw_1_22 dX8_init_1 (by decide) (Nat.le_of_ble_eq_true rfl) ?_
  refine gx_aload_n 0 dX8_init_4 rfl rfl ?_
  refine gx_iload_n 1 dX8_init_5 rfl rfl ?_
  refine gy_put (ci := 8) (f := 0) (C := RX9) (T := TX9) (N := 2) (ty := .int) (fs2 := [.int (iI wt), .null]) tyX9 rfl inX9 tyX9_ok nmX9 (by decide) mw_1_157 (Or.inr ⟨rfl, rfl, rfl⟩) (by decide +kernel) rfl rfl dX8_init_6 hp (by simp) rfl (fun h1 eh1 => ?_)
  have k2 : h1 p = some (.inr (8, [.int (iI wt), .null])) := by rw [eh1]; exact ch_set_self
  refine gx_vret rfl dX8_init_9 (by first | exact Nat.le_of_ble_eq_true rfl | (simp only [rM]; omega)) (by first | exact Nat.le_of_ble_eq_true rfl | (simp only [rM]; omega)) ?_
  exact ⟨rfl, eh1, rfl⟩
set_option maxHeartbeats 4000000 in
set_option maxRecDepth 100000 in
theorem c_X0_init (l : Launch) (D : va_G) (cI cL cR : ClassId) (lo : Nat) (h : ch_H) (hi : Nat) (p : Nat) (x y z r : Int) (hp : h p = some (.inr (0, [.int (iI 0), .int (iI 0), .int (iI 0), .int (iI 0), .int (iI 0)]))) : ch_C l (eE D cI cL cR lo) M_X0_init (rM 2 0 0) [.ref p, .int (iI x), .int (iI y), .int (iI z), .int (iI r)] h hi (fun r0 h2 hi2 => r0 = none ∧ h2 = ch_set h p (.inr (0, [.int (iI 1), .int (iI x), .int (iI y), .int (iI z), .int (iI r)])) ∧ hi = hi2) := by
  refine ch_C.of rfl (Nat.le_of_ble_eq_true rfl) ?_
  refine gx_aload_n 0 dX0_init_0 rfl rfl ?_
  refine gx_iconst (iI 1) dX0_init_1 rfl ?_
  refine gx_callI (c_X8_init_0 l D cI cL cR lo h hi p 1 hp) ok_X8_init mw_1_202 mw_1_145 rfl rfl dX0_init_2 rfl rfl (Nat.le_of_ble_eq_true rfl) (by first | exact Nat.le_of_ble_eq_true rfl | (simp only [rM]; omega)) (by first | exact Nat.le_of_ble_eq_true rfl | (simp only [rM]; omega)) (by first | exact Nat.le_of_ble_eq_true rfl | (simp only [rM]; omega)) (by first | exact Nat.le_of_ble_eq_true rfl | (simp only [rM]; omega)) (fun r1 h2 u3 q4 g5 => ?_)
  obtain ⟨rfl, eh0, rfl⟩ := q4
  have k6 : h2 p = some (.inr (0, [.int (iI 1), .int (iI 0), .int (iI 0), .int (iI 0), .int (iI 0)])) := by rw [eh0]; exact ch_set_self
  refine ch_Gst (st2 := []) rfl ?_
  refine gx_aload_n 0 dX0_init_5 rfl rfl ?_
  refine gx_iload_n 1 dX0_init_6 rfl rfl ?_
  refine gy_put (ci := 0) (f := 1) (C := RX0) (T := TX0) (N := 5) (ty := .int) (fs2 := [.int (iI 1), .int (iI x), .int (iI 0), .int (iI 0), .int (iI 0)]) tyX0 rfl inX0 tyX0_ok nmX0 (by decide) mw_1_203 (Or.inr ⟨rfl, rfl, rfl⟩) (by decide +kernel) rfl rfl dX0_init_7 k6 (by simp) rfl (fun h7 eh7 => ?_)
  have k8 : h7 p = some (.inr (0, [.int (iI 1), .int (iI x), .int (iI 0), .int (iI 0), .int (iI 0)])) := by rw [eh7]; exact ch_set_self
  refine gx_aload_n 0 dX0_init_10 rfl rfl ?_
  refine gx_iload_n 2 dX0_init_11 rfl rfl ?_
  refine gy_put (ci := 0) (f := 2) (C := RX0) (T := TX0) (N := 5) (ty := .int) (fs2 := [.int (iI 1), .int (iI x), .int (iI y), .int (iI 0), .int (iI 0)]) tyX0 rfl inX0 tyX0_ok nmX0 (by decide) mw_1_204 (Or.inr ⟨rfl, rfl, rfl⟩) (by decide +kernel) rfl rfl dX0_init_12 k8 (by simp) rfl (fun h9 eh9 => ?_)
  have k10 : h9 p = some (.inr (0, [.int (iI 1), .int (iI x), .int (iI y), .int (iI 0), .int (iI 0)])) := by rw [eh9]; exact ch_set_self
  refine gx_aload_n 0 dX0_init_15 rfl rfl ?_
  refine gx_iload_n 3 dX0_init_16 rfl rfl ?_
  refine gy_put (ci := 0) (f := 3) (C := RX0) (T := TX0) (N := 5) (ty := .int) (fs2 := [.int (iI 1), .int (iI x), .int (iI y), .int (iI z), .int (iI 0)]) tyX0 rfl inX0 tyX0_ok nmX0 (by decide) mw_1_205 (Or.inr ⟨rfl, rfl, rfl⟩) (by decide +kernel) rfl rfl dX0_init_17 k10 (by simp) rfl (fun h11 eh11 => ?_)
  have k12 : h11 p = some (.inr (0, [.int (iI 1), .int (iI x), .int (iI y), .int (iI z), .int (iI 0)])) := by rw [eh11]; exact ch_set_self
  refine gx_aload_n 0 dX0_init_20 rfl rfl ?_
  refine gx_iload 4 dX0_init_21 rfl ?_
  refine gy_put (ci := 0) (f := 4) (C := RX0) (T := TX0) (N := 5) (ty := .int) (fs2 := [.int (iI 1), .int (iI x), .int (iI y), .int (iI z), .int (iI r)]) tyX0 rfl inX0 tyX0_ok nmX0 (by decide) mw_1_206 (Or.inr ⟨rfl, rfl, rfl⟩) (by decide +kernel) rfl rfl dX0_init_23 k12 (by simp) rfl (fun h13 eh13 => ?_)
  have k14 : h13 p = some (.inr (0, [.int (iI 1), .int (iI x), .int (iI y), .int (iI z), .int (iI r)])) := by rw [eh13]; exact ch_set_self
  refine gx_vret rfl dX0_init_26 (by first | exact Nat.le_of_ble_eq_true rfl | (simp only [rM]; omega)) (by first | exact Nat.le_of_ble_eq_true rfl | (simp only [rM]; omega)) ?_
  exact ⟨rfl, by rw [eh13, eh11, eh9, eh7, eh0]; simp only [ch_set_set], rfl⟩
set_option maxHeartbeats 4000000 in
set_option maxRecDepth 100000 in
theorem c_X1_init (l : Launch) (D : va_G) (cI cL cR : ClassId) (lo : Nat) (h : ch_H) (hi : Nat) (p : Nat) (x y z eX eY eZ : Int) (hp : h p = some (.inr (1, [.int (iI 0), .int (iI 0), .int (iI 0), .int (iI 0), .int (iI 0), .int (iI 0), .int (iI 0)]))) : ch_C l (eE D cI cL cR lo) M_X1_init (rM 2 0 0) [.ref p, .int (iI x), .int (iI y), .int (iI z), .int (iI eX), .int (iI eY), .int (iI eZ)] h hi (fun r0 h2 hi2 => r0 = none ∧ h2 = ch_set h p (.inr (1, [.int (iI 1), .int (iI x), .int (iI y), .int (iI z), .int (iI eX), .int (iI eY), .int (iI eZ)])) ∧ hi = hi2) := by
  refine ch_C.of rfl (Nat.le_of_ble_eq_true rfl) ?_
  refine gx_aload_n 0 dX1_init_0 rfl rfl ?_
  refine gx_iconst (iI 1) dX1_init_1 rfl ?_
  refine gx_callI (c_X8_init_1 l D cI cL cR lo h hi p 1 hp) ok_X8_init mw_1_144 mw_1_145 rfl rfl dX1_init_2 rfl rfl (Nat.le_of_ble_eq_true rfl) (by first | exact Nat.le_of_ble_eq_true rfl | (simp only [rM]; omega)) (by first | exact Nat.le_of_ble_eq_true rfl | (simp only [rM]; omega)) (by first | exact Nat.le_of_ble_eq_true rfl | (simp only [rM]; omega)) (by first | exact Nat.le_of_ble_eq_true rfl | (simp only [rM]; omega)) (fun r1 h2 u3 q4 g5 => ?_)
  obtain ⟨rfl, eh0, rfl⟩ := q4
  have k6 : h2 p = some (.inr (1, [.int (iI 1), .int (iI 0), .int (iI 0), .int (iI 0), .int (iI 0), .int (iI 0), .int (iI 0)])) := by rw [eh0]; exact ch_set_self
  refine ch_Gst (st2 := []) rfl ?_
  refine gx_aload_n 0 dX1_init_5 rfl rfl ?_
  refine gx_iload_n 1 dX1_init_6 rfl rfl ?_
  refine gy_put (ci := 1) (f := 1) (C := RX1) (T := TX1) (N := 7) (ty := .int) (fs2 := [.int (iI 1), .int (iI x), .int (iI 0), .int (iI 0), .int (iI 0), .int (iI 0), .int (iI 0)]) tyX1 rfl inX1 tyX1_ok nmX1 (by decide) mw_1_148 (Or.inr ⟨rfl, rfl, rfl⟩) (by decide +kernel) rfl rfl dX1_init_7 k6 (by simp) rfl (fun h7 eh7 => ?_)
  have k8 : h7 p = some (.inr (1, [.int (iI 1), .int (iI x), .int (iI 0), .int (iI 0), .int (iI 0), .int (iI 0), .int (iI 0)])) := by rw [eh7]; exact ch_set_self
  refine gx_aload_n 0 dX1_init_10 rfl rfl ?_
  refine gx_iload_n 2 dX1_init_11 rfl rfl ?_
  refine gy_put (ci := 1) (f := 2) (C := RX1) (T := TX1) (N := 7) (ty := .int) (fs2 := [.int (iI 1), .int (iI x), .int (iI y), .int (iI 0), .int (iI 0), .int (iI 0), .int (iI 0)]) tyX1 rfl inX1 tyX1_ok nmX1 (by decide) mw_1_149 (Or.inr ⟨rfl, rfl, rfl⟩) (by decide +kernel) rfl rfl dX1_init_12 k8 (by simp) rfl (fun h9 eh9 => ?_)
  have k10 : h9 p = some (.inr (1, [.int (iI 1), .int (iI x), .int (iI y), .int (iI 0), .int (iI 0), .int (iI 0), .int (iI 0)])) := by rw [eh9]; exact ch_set_self
  refine gx_aload_n 0 dX1_init_15 rfl rfl ?_
  refine gx_iload_n 3 dX1_init_16 rfl rfl ?_
  refine gy_put (ci := 1) (f := 3) (C := RX1) (T := TX1) (N := 7) (ty := .int) (fs2 := [.int (iI 1), .int (iI x), .int (iI y), .int (iI z), .int (iI 0), .int (iI 0), .int (iI 0)]) tyX1 rfl inX1 tyX1_ok nmX1 (by decide) mw_1_150 (Or.inr ⟨rfl, rfl, rfl⟩) (by decide +kernel) rfl rfl dX1_init_17 k10 (by simp) rfl (fun h11 eh11 => ?_)
  have k12 : h11 p = some (.inr (1, [.int (iI 1), .int (iI x), .int (iI y), .int (iI z), .int (iI 0), .int (iI 0), .int (iI 0)])) := by rw [eh11]; exact ch_set_self
  refine gx_aload_n 0 dX1_init_20 rfl rfl ?_
  refine gx_iload 4 dX1_init_21 rfl ?_
  refine gy_put (ci := 1) (f := 4) (C := RX1) (T := TX1) (N := 7) (ty := .int) (fs2 := [.int (iI 1), .int (iI x), .int (iI y), .int (iI z), .int (iI eX), .int (iI 0), .int (iI 0)]) tyX1 rfl inX1 tyX1_ok nmX1 (by decide) mw_1_151 (Or.inr ⟨rfl, rfl, rfl⟩) (by decide +kernel) rfl rfl dX1_init_23 k12 (by simp) rfl (fun h13 eh13 => ?_)
  have k14 : h13 p = some (.inr (1, [.int (iI 1), .int (iI x), .int (iI y), .int (iI z), .int (iI eX), .int (iI 0), .int (iI 0)])) := by rw [eh13]; exact ch_set_self
  refine gx_aload_n 0 dX1_init_26 rfl rfl ?_
  refine gx_iload 5 dX1_init_27 rfl ?_
  refine gy_put (ci := 1) (f := 5) (C := RX1) (T := TX1) (N := 7) (ty := .int) (fs2 := [.int (iI 1), .int (iI x), .int (iI y), .int (iI z), .int (iI eX), .int (iI eY), .int (iI 0)]) tyX1 rfl inX1 tyX1_ok nmX1 (by decide) mw_1_152 (Or.inr ⟨rfl, rfl, rfl⟩) (by decide +kernel) rfl rfl dX1_init_29 k14 (by simp) rfl (fun h15 eh15 => ?_)
  have k16 : h15 p = some (.inr (1, [.int (iI 1), .int (iI x), .int (iI y), .int (iI z), .int (iI eX), .int (iI eY), .int (iI 0)])) := by rw [eh15]; exact ch_set_self
  refine gx_aload_n 0 dX1_init_32 rfl rfl ?_
  refine gx_iload 6 dX1_init_33 rfl ?_
  refine gy_put (ci := 1) (f := 6) (C := RX1) (T := TX1) (N := 7) (ty := .int) (fs2 := [.int (iI 1), .int (iI x), .int (iI y), .int (iI z), .int (iI eX), .int (iI eY), .int (iI eZ)]) tyX1 rfl inX1 tyX1_ok nmX1 (by decide) mw_1_153 (Or.inr ⟨rfl, rfl, rfl⟩) (by decide +kernel) rfl rfl dX1_init_35 k16 (by simp) rfl (fun h17 eh17 => ?_)
  have k18 : h17 p = some (.inr (1, [.int (iI 1), .int (iI x), .int (iI y), .int (iI z), .int (iI eX), .int (iI eY), .int (iI eZ)])) := by rw [eh17]; exact ch_set_self
  refine gx_vret rfl dX1_init_38 (by first | exact Nat.le_of_ble_eq_true rfl | (simp only [rM]; omega)) (by first | exact Nat.le_of_ble_eq_true rfl | (simp only [rM]; omega)) ?_
  exact ⟨rfl, by rw [eh17, eh15, eh13, eh11, eh9, eh7, eh0]; simp only [ch_set_set], rfl⟩
set_option maxHeartbeats 4000000 in
set_option maxRecDepth 100000 in
theorem c_X2_init (l : Launch) (D : va_G) (cI cL cR : ClassId) (lo : Nat) (h : ch_H) (hi : Nat) (p : Nat) (x y r z eZ : Int) (hp : h p = some (.inr (2, [.int (iI 0), .int (iI 0), .int (iI 0), .int (iI 0), .int (iI 0), .int (iI 0)]))) : ch_C l (eE D cI cL cR lo) M_X2_init (rM 2 0 0) [.ref p, .int (iI x), .int (iI y), .int (iI r), .int (iI z), .int (iI eZ)] h hi (fun r0 h2 hi2 => r0 = none ∧ h2 = ch_set h p (.inr (2, [.int (iI 1), .int (iI x), .int (iI y), .int (iI r), .int (iI z), .int (iI eZ)])) ∧ hi = hi2) := by
  refine ch_C.of rfl (Nat.le_of_ble_eq_true rfl) ?_
  refine gx_aload_n 0 dX2_init_0 rfl rfl ?_
  refine gx_iconst (iI 1) dX2_init_1 rfl ?_
  refine gx_callI (c_X8_init_2 l D cI cL cR lo h hi p 1 hp) ok_X8_init mw_1_222 mw_1_145 rfl rfl dX2_init_2 rfl rfl (Nat.le_of_ble_eq_true rfl) (by first | exact Nat.le_of_ble_eq_true rfl | (simp only [rM]; omega)) (by first | exact Nat.le_of_ble_eq_true rfl | (simp only [rM]; omega)) (by first | exact Nat.le_of_ble_eq_true rfl | (simp only [rM]; omega)) (by first | exact Nat.le_of_ble_eq_true rfl | (simp only [rM]; omega)) (fun r1 h2 u3 q4 g5 => ?_)
  obtain ⟨rfl, eh0, rfl⟩ := q4
  have k6 : h2 p = some (.inr (2, [.int (iI 1), .int (iI 0), .int (iI 0), .int (iI 0), .int (iI 0), .int (iI 0)])) := by rw [eh0]; exact ch_set_self
  refine ch_Gst (st2 := []) rfl ?_
  refine gx_aload_n 0 dX2_init_5 rfl rfl ?_
  refine gx_iload_n 1 dX2_init_6 rfl rfl ?_
  refine gy_put (ci := 2) (f := 1) (C := RX2) (T := TX2) (N := 6) (ty := .int) (fs2 := [.int (iI 1), .int (iI x), .int (iI 0), .int (iI 0), .int (iI 0), .int (iI 0)]) tyX2 rfl inX2 tyX2_ok nmX2 (by decide) mw_1_223 (Or.inr ⟨rfl, rfl, rfl⟩) (by decide +kernel) rfl rfl dX2_init_7 k6 (by simp) rfl (fun h7 eh7 => ?_)
  have k8 : h7 p = some (.inr (2, [.int (iI 1), .int (iI x), .int (iI 0), .int (iI 0), .int (iI 0), .int (iI 0)])) := by rw [eh7]; exact ch_set_self
  refine gx_aload_n 0 dX2_init_10 rfl rfl ?_
  refine gx_iload_n 2 dX2_init_11 rfl rfl ?_
  refine gy_put (ci := 2) (f := 2) (C := RX2) (T := TX2) (N := 6) (ty := .int) (fs2 := [.int (iI 1), .int (iI x), .int (iI y), .int (iI 0), .int (iI 0), .int (iI 0)]) tyX2 rfl inX2 tyX2_ok nmX2 (by decide) mw_1_224 (Or.inr ⟨rfl, rfl, rfl⟩) (by decide +kernel) rfl rfl dX2_init_12 k8 (by simp) rfl (fun h9 eh9 => ?_)
  have k10 : h9 p = some (.inr (2, [.int (iI 1), .int (iI x), .int (iI y), .int (iI 0), .int (iI 0), .int (iI 0)])) := by rw [eh9]; exact ch_set_self
  refine gx_aload_n 0 dX2_init_15 rfl rfl ?_
  refine gx_iload_n 3 dX2_init_16 rfl rfl ?_
  refine gy_put (ci := 2) (f := 3) (C := RX2) (T := TX2) (N := 6) (ty := .int) (fs2 := [.int (iI 1), .int (iI x), .int (iI y), .int (iI r), .int (iI 0), .int (iI 0)]) tyX2 rfl inX2 tyX2_ok nmX2 (by decide) mw_1_225 (Or.inr ⟨rfl, rfl, rfl⟩) (by decide +kernel) rfl rfl dX2_init_17 k10 (by simp) rfl (fun h11 eh11 => ?_)
  have k12 : h11 p = some (.inr (2, [.int (iI 1), .int (iI x), .int (iI y), .int (iI r), .int (iI 0), .int (iI 0)])) := by rw [eh11]; exact ch_set_self
  refine gx_aload_n 0 dX2_init_20 rfl rfl ?_
  refine gx_iload 4 dX2_init_21 rfl ?_
  refine gy_put (ci := 2) (f := 4) (C := RX2) (T := TX2) (N := 6) (ty := .int) (fs2 := [.int (iI 1), .int (iI x), .int (iI y), .int (iI r), .int (iI z), .int (iI 0)]) tyX2 rfl inX2 tyX2_ok nmX2 (by decide) mw_1_226 (Or.inr ⟨rfl, rfl, rfl⟩) (by decide +kernel) rfl rfl dX2_init_23 k12 (by simp) rfl (fun h13 eh13 => ?_)
  have k14 : h13 p = some (.inr (2, [.int (iI 1), .int (iI x), .int (iI y), .int (iI r), .int (iI z), .int (iI 0)])) := by rw [eh13]; exact ch_set_self
  refine gx_aload_n 0 dX2_init_26 rfl rfl ?_
  refine gx_iload 5 dX2_init_27 rfl ?_
  refine gy_put (ci := 2) (f := 5) (C := RX2) (T := TX2) (N := 6) (ty := .int) (fs2 := [.int (iI 1), .int (iI x), .int (iI y), .int (iI r), .int (iI z), .int (iI eZ)]) tyX2 rfl inX2 tyX2_ok nmX2 (by decide) mw_1_227 (Or.inr ⟨rfl, rfl, rfl⟩) (by decide +kernel) rfl rfl dX2_init_29 k14 (by simp) rfl (fun h15 eh15 => ?_)
  have k16 : h15 p = some (.inr (2, [.int (iI 1), .int (iI x), .int (iI y), .int (iI r), .int (iI z), .int (iI eZ)])) := by rw [eh15]; exact ch_set_self
  refine gx_vret rfl dX2_init_32 (by first | exact Nat.le_of_ble_eq_true rfl | (simp only [rM]; omega)) (by first | exact Nat.le_of_ble_eq_true rfl | (simp only [rM]; omega)) ?_
  exact ⟨rfl, by rw [eh15, eh13, eh11, eh9, eh7, eh0]; simp only [ch_set_set], rfl⟩
set_option maxHeartbeats 4000000 in
set_option maxRecDepth 100000 in
theorem c_X6_init (l : Launch) (D : va_G) (cI cL cR : ClassId) (lo : Nat) (h : ch_H) (hi : Nat) (p : Nat) (x y r z eZ : Int) (hp : h p = some (.inr (6, [.int (iI 0), .int (iI 0), .int (iI 0), .int (iI 0), .int (iI 0), .int (iI 0)]))) : ch_C l (eE D cI cL cR lo) M_X6_init (rM 2 0 0) [.ref p, .int (iI x), .int (iI y), .int (iI r), .int (iI z), .int (iI eZ)] h hi (fun r0 h2 hi2 => r0 = none ∧ h2 = ch_set h p (.inr (6, [.int (iI 1), .int (iI x), .int (iI y), .int (iI r), .int (iI z), .int (iI eZ)])) ∧ hi = hi2) := by
  refine ch_C.of rfl (Nat.le_of_ble_eq_true rfl) ?_
  refine gx_aload_n 0 dX6_init_0 rfl rfl ?_
  refine gx_iconst (iI 1) dX6_init_1 rfl ?_
  refine gx_callI (c_X8_init_6 l D cI cL cR lo h hi p 1 hp) ok_X8_init mw_1_179 mw_1_145 rfl rfl dX6_init_2 rfl rfl (Nat.le_of_ble_eq_true rfl) (by first | exact Nat.le_of_ble_eq_true rfl | (simp only [rM]; omega)) (by first | exact Nat.le_of_ble_eq_true rfl | (simp only [rM]; omega)) (by first | exact Nat.le_of_ble_eq_true rfl | (simp only [rM]; omega)) (by first | exact Nat.le_of_ble_eq_true rfl | (simp only [rM]; omega)) (fun r1 h2 u3 q4 g5 => ?_)
  obtain ⟨rfl, eh0, rfl⟩ := q4
  have k6 : h2 p = some (.inr (6, [.int (iI 1), .int (iI 0), .int (iI 0), .int (iI 0), .int (iI 0), .int (iI 0)])) := by rw [eh0]; exact ch_set_self
  refine ch_Gst (st2 := []) rfl ?_
  refine gx_aload_n 0 dX6_init_5 rfl rfl ?_
  refine gx_iload_n 1 dX6_init_6 rfl rfl ?_
  refine gy_put (ci := 6) (f := 1) (C := RX6) (T := TX6) (N := 6) (ty := .int) (fs2 := [.int (iI 1), .int (iI x), .int (iI 0), .int (iI 0), .int (iI 0), .int (iI 0)]) tyX6 rfl inX6 tyX6_ok nmX6 (by decide) mw_1_180 (Or.inr ⟨rfl, rfl, rfl⟩) (by decide +kernel) rfl rfl dX6_init_7 k6 (by simp) rfl (fun h7 eh7 => ?_)
  have k8 : h7 p = some (.inr (6, [.int (iI 1), .int (iI x), .int (iI 0), .int (iI 0), .int (iI 0), .int (iI 0)])) := by rw [eh7]; exact ch_set_self
  refine gx_aload_n 0 dX6_init_10 rfl rfl ?_
  refine gx_iload_n 2 dX6_init_11 rfl rfl ?_
  refine gy_put (ci := 6) (f := 2) (C := RX6) (T := TX6) (N := 6) (ty := .int) (fs2 := [.int (iI 1), .int (iI x), .int (iI y), .int (iI 0), .int (iI 0), .int (iI 0)]) tyX6 rfl inX6 tyX6_ok nmX6 (by decide) mw_1_181 (Or.inr ⟨rfl, rfl, rfl⟩) (by decide +kernel) rfl rfl dX6_init_12 k8 (by simp) rfl (fun h9 eh9 => ?_)
  have k10 : h9 p = some (.inr (6, [.int (iI 1), .int (iI x), .int (iI y), .int (iI 0), .int (iI 0), .int (iI 0)])) := by rw [eh9]; exact ch_set_self
  refine gx_aload_n 0 dX6_init_15 rfl rfl ?_
  refine gx_iload_n 3 dX6_init_16 rfl rfl ?_
  refine gy_put (ci := 6) (f := 3) (C := RX6) (T := TX6) (N := 6) (ty := .int) (fs2 := [.int (iI 1), .int (iI x), .int (iI y), .int (iI r), .int (iI 0), .int (iI 0)]) tyX6 rfl inX6 tyX6_ok nmX6 (by decide) mw_1_182 (Or.inr ⟨rfl, rfl, rfl⟩) (by decide +kernel) rfl rfl dX6_init_17 k10 (by simp) rfl (fun h11 eh11 => ?_)
  have k12 : h11 p = some (.inr (6, [.int (iI 1), .int (iI x), .int (iI y), .int (iI r), .int (iI 0), .int (iI 0)])) := by rw [eh11]; exact ch_set_self
  refine gx_aload_n 0 dX6_init_20 rfl rfl ?_
  refine gx_iload 4 dX6_init_21 rfl ?_
  refine gy_put (ci := 6) (f := 4) (C := RX6) (T := TX6) (N := 6) (ty := .int) (fs2 := [.int (iI 1), .int (iI x), .int (iI y), .int (iI r), .int (iI z), .int (iI 0)]) tyX6 rfl inX6 tyX6_ok nmX6 (by decide) mw_1_183 (Or.inr ⟨rfl, rfl, rfl⟩) (by decide +kernel) rfl rfl dX6_init_23 k12 (by simp) rfl (fun h13 eh13 => ?_)
  have k14 : h13 p = some (.inr (6, [.int (iI 1), .int (iI x), .int (iI y), .int (iI r), .int (iI z), .int (iI 0)])) := by rw [eh13]; exact ch_set_self
  refine gx_aload_n 0 dX6_init_26 rfl rfl ?_
  refine gx_iload 5 dX6_init_27 rfl ?_
  refine gy_put (ci := 6) (f := 5) (C := RX6) (T := TX6) (N := 6) (ty := .int) (fs2 := [.int (iI 1), .int (iI x), .int (iI y), .int (iI r), .int (iI z), .int (iI eZ)]) tyX6 rfl inX6 tyX6_ok nmX6 (by decide) mw_1_184 (Or.inr ⟨rfl, rfl, rfl⟩) (by decide +kernel) rfl rfl dX6_init_29 k14 (by simp) rfl (fun h15 eh15 => ?_)
  have k16 : h15 p = some (.inr (6, [.int (iI 1), .int (iI x), .int (iI y), .int (iI r), .int (iI z), .int (iI eZ)])) := by rw [eh15]; exact ch_set_self
  refine gx_vret rfl dX6_init_32 (by first | exact Nat.le_of_ble_eq_true rfl | (simp only [rM]; omega)) (by first | exact Nat.le_of_ble_eq_true rfl | (simp only [rM]; omega)) ?_
  exact ⟨rfl, by rw [eh15, eh13, eh11, eh9, eh7, eh0]; simp only [ch_set_set], rfl⟩
set_option maxHeartbeats 4000000 in
set_option maxRecDepth 100000 in
theorem c_X4_init (l : Launch) (D : va_G) (cI cL cR : ClassId) (lo : Nat) (h : ch_H) (hi : Nat) (p a b ca cb : Nat) (va vb : List Value) (wa wb how : Int) (hp : h p = some (.inr (4, [.int (iI 0), .null, .null, .int (iI 0)]))) (ha : h a = some (.inr (ca, .int (iI wa) :: va))) (hb : h b = some (.inr (cb, .int (iI wb) :: vb))) (hSa : isS ca) (hSb : isS cb) (nap : a ≠ p) (nbp : b ≠ p) : ch_C l (eE D cI cL cR lo) M_X4_init (rM 2 0 0) [.ref p, .ref a, .ref b, .int (iI how)] h hi (fun r0 h2 hi2 => r0 = none ∧ h2 = ch_set h p (.inr (4, [.int (iI (wa + wb + 1)), .ref a, .ref b, .int (iI how)])) ∧ hi = hi2) := by
  refine ch_C.of rfl (Nat.le_of_ble_eq_true rfl) ?_
  refine gx_aload_n 0 dX4_init_0 rfl rfl ?_
  refine gx_aload_n 1 dX4_init_1 rfl rfl ?_
  refine gy_getw hSa mw_1_154 dX4_init_2 ha ?_
  refine gx_aload_n 2 dX4_init_5 rfl rfl ?_
  refine gy_getw hSb mw_1_154 dX4_init_6 hb ?_
  refine gy_iadd dX4_init_9 ?_
  refine gx_iconst (iI 1) dX4_init_10 rfl ?_
  refine gy_iadd dX4_init_11 ?_
  refine gx_callI (c_X8_init_4 l D cI cL cR lo h hi p ((wa + wb) + 1) hp) ok_X8_init mw_2_17 mw_1_145 rfl rfl dX4_init_12 rfl rfl (Nat.le_of_ble_eq_true rfl) (by first | exact Nat.le_of_ble_eq_true rfl | (simp only [rM]; omega)) (by first | exact Nat.le_of_ble_eq_true rfl | (simp only [rM]; omega)) (by first | exact Nat.le_of_ble_eq_true rfl | (simp only [rM]; omega)) (by first | exact Nat.le_of_ble_eq_true rfl | (simp only [rM]; omega)) (fun r1 h2 u3 q4 g5 => ?_)
  obtain ⟨rfl, eh0, rfl⟩ := q4
  have k6 : h2 a = some (.inr (ca, (.int (iI wa) :: va))) := by rw [eh0, ch_set_ne (nap)]; exact ha
  have k7 : h2 b = some (.inr (cb, (.int (iI wb) :: vb))) := by rw [eh0, ch_set_ne (nbp)]; exact hb
  have k8 : h2 p = some (.inr (4, [.int (iI ((wa + wb) + 1)), .null, .null, .int (iI 0)])) := by rw [eh0]; exact ch_set_self
  refine ch_Gst (st2 := []) rfl ?_
  refine gx_aload_n 0 dX4_init_15 rfl rfl ?_
  refine gx_aload_n 1 dX4_init_16 rfl rfl ?_
  refine gy_put (ci := 4) (f := 1) (C := RX4) (T := TX4) (N := 4) (ty := .object "SpanSolids$Solid") (fs2 := [.int (iI ((wa + wb) + 1)), .ref a, .null, .int (iI 0)]) tyX4 rfl inX4 tyX4_ok nmX4 (by decide) mw_2_18 (Or.inr ⟨rfl, rfl, rfl⟩) (by decide +kernel) rfl rfl dX4_init_17 k8 (by simp) rfl (fun h9 eh9 => ?_)
  have k10 : h9 a = some (.inr (ca, (.int (iI wa) :: va))) := by rw [eh9, ch_set_ne (nap)]; exact k6
  have k11 : h9 b = some (.inr (cb, (.int (iI wb) :: vb))) := by rw [eh9, ch_set_ne (nbp)]; exact k7
  have k12 : h9 p = some (.inr (4, [.int (iI ((wa + wb) + 1)), .ref a, .null, .int (iI 0)])) := by rw [eh9]; exact ch_set_self
  refine gx_aload_n 0 dX4_init_20 rfl rfl ?_
  refine gx_aload_n 2 dX4_init_21 rfl rfl ?_
  refine gy_put (ci := 4) (f := 2) (C := RX4) (T := TX4) (N := 4) (ty := .object "SpanSolids$Solid") (fs2 := [.int (iI ((wa + wb) + 1)), .ref a, .ref b, .int (iI 0)]) tyX4 rfl inX4 tyX4_ok nmX4 (by decide) mw_2_19 (Or.inr ⟨rfl, rfl, rfl⟩) (by decide +kernel) rfl rfl dX4_init_22 k12 (by simp) rfl (fun h13 eh13 => ?_)
  have k14 : h13 a = some (.inr (ca, (.int (iI wa) :: va))) := by rw [eh13, ch_set_ne (nap)]; exact k10
  have k15 : h13 b = some (.inr (cb, (.int (iI wb) :: vb))) := by rw [eh13, ch_set_ne (nbp)]; exact k11
  have k16 : h13 p = some (.inr (4, [.int (iI ((wa + wb) + 1)), .ref a, .ref b, .int (iI 0)])) := by rw [eh13]; exact ch_set_self
  refine gx_aload_n 0 dX4_init_25 rfl rfl ?_
  refine gx_iload_n 3 dX4_init_26 rfl rfl ?_
  refine gy_put (ci := 4) (f := 3) (C := RX4) (T := TX4) (N := 4) (ty := .int) (fs2 := [.int (iI ((wa + wb) + 1)), .ref a, .ref b, .int (iI how)]) tyX4 rfl inX4 tyX4_ok nmX4 (by decide) mw_2_20 (Or.inr ⟨rfl, rfl, rfl⟩) (by decide +kernel) rfl rfl dX4_init_27 k16 (by simp) rfl (fun h17 eh17 => ?_)
  have k18 : h17 a = some (.inr (ca, (.int (iI wa) :: va))) := by rw [eh17, ch_set_ne (nap)]; exact k14
  have k19 : h17 b = some (.inr (cb, (.int (iI wb) :: vb))) := by rw [eh17, ch_set_ne (nbp)]; exact k15
  have k20 : h17 p = some (.inr (4, [.int (iI ((wa + wb) + 1)), .ref a, .ref b, .int (iI how)])) := by rw [eh17]; exact ch_set_self
  refine gx_vret rfl dX4_init_30 (by first | exact Nat.le_of_ble_eq_true rfl | (simp only [rM]; omega)) (by first | exact Nat.le_of_ble_eq_true rfl | (simp only [rM]; omega)) ?_
  exact ⟨rfl, by rw [eh17, eh13, eh9, eh0]; simp only [ch_set_set], rfl⟩
set_option maxHeartbeats 4000000 in
set_option maxRecDepth 100000 in
theorem c_X5_init (l : Launch) (D : va_G) (cI cL cR : ClassId) (lo : Nat) (h : ch_H) (hi : Nat) (p a ca : Nat) (va : List Value) (wa bx bY bz : Int) (hp : h p = some (.inr (5, [.int (iI 0), .null, .int (iI 0), .int (iI 0), .int (iI 0)]))) (ha : h a = some (.inr (ca, .int (iI wa) :: va))) (hSa : isS ca) (nap : a ≠ p) : ch_C l (eE D cI cL cR lo) M_X5_init (rM 2 0 0) [.ref p, .ref a, .int (iI bx), .int (iI bY), .int (iI bz)] h hi (fun r0 h2 hi2 => r0 = none ∧ h2 = ch_set h p (.inr (5, [.int (iI (wa + 1)), .ref a, .int (iI bx), .int (iI bY), .int (iI bz)])) ∧ hi = hi2) := by
  refine ch_C.of rfl (Nat.le_of_ble_eq_true rfl) ?_
  refine gx_aload_n 0 dX5_init_0 rfl rfl ?_
  refine gx_aload_n 1 dX5_init_1 rfl rfl ?_
  refine gy_getw hSa mw_1_155 dX5_init_2 ha ?_
  refine gx_iconst (iI 1) dX5_init_5 rfl ?_
  refine gy_iadd dX5_init_6 ?_
  refine gx_callI (c_X8_init_5 l D cI cL cR lo h hi p (wa + 1) hp) ok_X8_init mw_2_38 mw_1_145 rfl rfl dX5_init_7 rfl rfl (Nat.le_of_ble_eq_true rfl) (by first | exact Nat.le_of_ble_eq_true rfl | (simp only [rM]; omega)) (by first | exact Nat.le_of_ble_eq_true rfl | (simp only [rM]; omega)) (by first | exact Nat.le_of_ble_eq_true rfl | (simp only [rM]; omega)) (by first | exact Nat.le_of_ble_eq_true rfl | (simp only [rM]; omega)) (fun r1 h2 u3 q4 g5 => ?_)
  obtain ⟨rfl, eh0, rfl⟩ := q4
  have k6 : h2 a = some (.inr (ca, (.int (iI wa) :: va))) := by rw [eh0, ch_set_ne (nap)]; exact ha
  have k7 : h2 p = some (.inr (5, [.int (iI (wa + 1)), .null, .int (iI 0), .int (iI 0), .int (iI 0)])) := by rw [eh0]; exact ch_set_self
  refine ch_Gst (st2 := []) rfl ?_
  refine gx_aload_n 0 dX5_init_10 rfl rfl ?_
  refine gx_aload_n 1 dX5_init_11 rfl rfl ?_
  refine gy_put (ci := 5) (f := 1) (C := RX5) (T := TX5) (N := 5) (ty := .object "SpanSolids$Solid") (fs2 := [.int (iI (wa + 1)), .ref a, .int (iI 0), .int (iI 0), .int (iI 0)]) tyX5 rfl inX5 tyX5_ok nmX5 (by decide) mw_2_39 (Or.inr ⟨rfl, rfl, rfl⟩) (by decide +kernel) rfl rfl dX5_init_12 k7 (by simp) rfl (fun h8 eh8 => ?_)
  have k9 : h8 a = some (.inr (ca, (.int (iI wa) :: va))) := by rw [eh8, ch_set_ne (nap)]; exact k6
  have k10 : h8 p = some (.inr (5, [.int (iI (wa + 1)), .ref a, .int (iI 0), .int (iI 0), .int (iI 0)])) := by rw [eh8]; exact ch_set_self
  refine gx_aload_n 0 dX5_init_15 rfl rfl ?_
  refine gx_iload_n 2 dX5_init_16 rfl rfl ?_
  refine gy_put (ci := 5) (f := 2) (C := RX5) (T := TX5) (N := 5) (ty := .int) (fs2 := [.int (iI (wa + 1)), .ref a, .int (iI bx), .int (iI 0), .int (iI 0)]) tyX5 rfl inX5 tyX5_ok nmX5 (by decide) mw_2_40 (Or.inr ⟨rfl, rfl, rfl⟩) (by decide +kernel) rfl rfl dX5_init_17 k10 (by simp) rfl (fun h11 eh11 => ?_)
  have k12 : h11 a = some (.inr (ca, (.int (iI wa) :: va))) := by rw [eh11, ch_set_ne (nap)]; exact k9
  have k13 : h11 p = some (.inr (5, [.int (iI (wa + 1)), .ref a, .int (iI bx), .int (iI 0), .int (iI 0)])) := by rw [eh11]; exact ch_set_self
  refine gx_aload_n 0 dX5_init_20 rfl rfl ?_
  refine gx_iload_n 3 dX5_init_21 rfl rfl ?_
  refine gy_put (ci := 5) (f := 3) (C := RX5) (T := TX5) (N := 5) (ty := .int) (fs2 := [.int (iI (wa + 1)), .ref a, .int (iI bx), .int (iI bY), .int (iI 0)]) tyX5 rfl inX5 tyX5_ok nmX5 (by decide) mw_2_41 (Or.inr ⟨rfl, rfl, rfl⟩) (by decide +kernel) rfl rfl dX5_init_22 k13 (by simp) rfl (fun h14 eh14 => ?_)
  have k15 : h14 a = some (.inr (ca, (.int (iI wa) :: va))) := by rw [eh14, ch_set_ne (nap)]; exact k12
  have k16 : h14 p = some (.inr (5, [.int (iI (wa + 1)), .ref a, .int (iI bx), .int (iI bY), .int (iI 0)])) := by rw [eh14]; exact ch_set_self
  refine gx_aload_n 0 dX5_init_25 rfl rfl ?_
  refine gx_iload 4 dX5_init_26 rfl ?_
  refine gy_put (ci := 5) (f := 4) (C := RX5) (T := TX5) (N := 5) (ty := .int) (fs2 := [.int (iI (wa + 1)), .ref a, .int (iI bx), .int (iI bY), .int (iI bz)]) tyX5 rfl inX5 tyX5_ok nmX5 (by decide) mw_2_42 (Or.inr ⟨rfl, rfl, rfl⟩) (by decide +kernel) rfl rfl dX5_init_28 k16 (by simp) rfl (fun h17 eh17 => ?_)
  have k18 : h17 a = some (.inr (ca, (.int (iI wa) :: va))) := by rw [eh17, ch_set_ne (nap)]; exact k15
  have k19 : h17 p = some (.inr (5, [.int (iI (wa + 1)), .ref a, .int (iI bx), .int (iI bY), .int (iI bz)])) := by rw [eh17]; exact ch_set_self
  refine gx_vret rfl dX5_init_31 (by first | exact Nat.le_of_ble_eq_true rfl | (simp only [rM]; omega)) (by first | exact Nat.le_of_ble_eq_true rfl | (simp only [rM]; omega)) ?_
  exact ⟨rfl, by rw [eh17, eh14, eh11, eh8, eh0]; simp only [ch_set_set], rfl⟩
set_option maxHeartbeats 4000000 in
set_option maxRecDepth 100000 in
theorem c_X9_init (l : Launch) (D : va_G) (cI cL cR : ClassId) (lo : Nat) (h : ch_H) (hi : Nat) (p a ca : Nat) (va : List Value) (wa : Int) (hp : h p = some (.inr (8, [.int (iI 0), .null]))) (ha : h a = some (.inr (ca, .int (iI wa) :: va))) (hSa : isS ca) (nap : a ≠ p) : ch_C l (eE D cI cL cR lo) M_X9_init (rM 2 0 0) [.ref p, .ref a] h hi (fun r0 h2 hi2 => r0 = none ∧ h2 = ch_set h p (.inr (8, [.int (iI (wa + 1)), .ref a])) ∧ hi = hi2) := by
  refine ch_C.of rfl (Nat.le_of_ble_eq_true rfl) ?_
  refine gx_aload_n 0 dX9_init_0 rfl rfl ?_
  refine gx_aload_n 1 dX9_init_1 rfl rfl ?_
  refine gy_getw hSa mw_1_156 dX9_init_2 ha ?_
  refine gx_iconst (iI 1) dX9_init_5 rfl ?_
  refine gy_iadd dX9_init_6 ?_
  refine gx_callI (c_X8_init_8 l D cI cL cR lo h hi p (wa + 1) hp) ok_X8_init mw_2_62 mw_1_145 rfl rfl dX9_init_7 rfl rfl (Nat.le_of_ble_eq_true rfl) (by first | exact Nat.le_of_ble_eq_true rfl | (simp only [rM]; omega)) (by first | exact Nat.le_of_ble_eq_true rfl | (simp only [rM]; omega)) (by first | exact Nat.le_of_ble_eq_true rfl | (simp only [rM]; omega)) (by first | exact Nat.le_of_ble_eq_true rfl | (simp only [rM]; omega)) (fun r1 h2 u3 q4 g5 => ?_)
  obtain ⟨rfl, eh0, rfl⟩ := q4
  have k6 : h2 a = some (.inr (ca, (.int (iI wa) :: va))) := by rw [eh0, ch_set_ne (nap)]; exact ha
  have k7 : h2 p = some (.inr (8, [.int (iI (wa + 1)), .null])) := by rw [eh0]; exact ch_set_self
  refine ch_Gst (st2 := []) rfl ?_
  refine gx_aload_n 0 dX9_init_10 rfl rfl ?_
  refine gx_aload_n 1 dX9_init_11 rfl rfl ?_
  refine gy_put (ci := 8) (f := 1) (C := RX9) (T := TX9) (N := 2) (ty := .object "SpanSolids$Solid") (fs2 := [.int (iI (wa + 1)), .ref a]) tyX9 rfl inX9 tyX9_ok nmX9 (by decide) mw_2_63 (Or.inr ⟨rfl, rfl, rfl⟩) (by decide +kernel) rfl rfl dX9_init_12 k7 (by simp) rfl (fun h8 eh8 => ?_)
  have k9 : h8 a = some (.inr (ca, (.int (iI wa) :: va))) := by rw [eh8, ch_set_ne (nap)]; exact k6
  have k10 : h8 p = some (.inr (8, [.int (iI (wa + 1)), .ref a])) := by rw [eh8]; exact ch_set_self
  refine gx_vret rfl dX9_init_15 (by first | exact Nat.le_of_ble_eq_true rfl | (simp only [rM]; omega)) (by first | exact Nat.le_of_ble_eq_true rfl | (simp only [rM]; omega)) ?_
  exact ⟨rfl, by rw [eh8, eh0]; simp only [ch_set_set], rfl⟩
end
