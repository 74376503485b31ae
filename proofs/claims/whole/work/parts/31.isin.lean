section
/-- isInKind -/
def ikB (Kf Nf : Nat → Int) (s : Nat) (x y z : Int) : Bool :=
  if Kf s = 0 then decide (Nf (6 * s) ≤ x ∧ Nf (6 * s + 1) ≤ y ∧ Nf (6 * s + 2) ≤ z ∧ x < Nf (6 * s + 3) ∧ y < Nf (6 * s + 4) ∧ z < Nf (6 * s + 5))
  else if Kf s = 2 then decide (sqI (x - Nf (6 * s)) + sqI (y - Nf (6 * s + 1)) + sqI (z - Nf (6 * s + 2)) ≤ sqI (Nf (6 * s + 3)))
  else decide (Nf (6 * s + 3) ≤ z ∧ z < Nf (6 * s + 4) ∧ sqI (x - Nf (6 * s)) + sqI (y - Nf (6 * s + 1)) ≤ Nf (6 * s + 2) * Nf (6 * s + 2) ∧ (Kf s = 1 ∨ (sqI (x - Nf (6 * s)) + sqI (y - Nf (6 * s + 1))) * sqI (Nf (6 * s + 4) - Nf (6 * s + 3)) ≤ Nf (6 * s + 2) * Nf (6 * s + 2) * sqI (Nf (6 * s + 4) - z)))
/-- isIn -/
def inB (Kf Nf : Nat → Int) (s : Nat) (x y z : Int) : Bool :=
  if Kf s = 4 then (if h : (Nf (6 * s)).toNat < s ∧ (Nf (6 * s + 1)).toNat < s then jnB (Nf (6 * s + 2)) (inB Kf Nf (Nf (6 * s)).toNat x y z) (inB Kf Nf (Nf (6 * s + 1)).toNat x y z) else false)
  else if Kf s = 5 then (if h : (Nf (6 * s + 3)).toNat < s then inB Kf Nf (Nf (6 * s + 3)).toNat (x - Nf (6 * s)) (y - Nf (6 * s + 1)) (z - Nf (6 * s + 2)) else false)
  else if Kf s = 6 then (if h : (Nf (6 * s)).toNat < s then inB Kf Nf (Nf (6 * s)).toNat y (-x) z else false)
  else ikB Kf Nf s x y z
termination_by s
decreasing_by
  · exact h.1
  · exact h.2
  · exact h
  · exact h
set_option maxHeartbeats 4000000 in
set_option maxRecDepth 100000 in
theorem c_X12_init (l : Launch) (D : va_G) (cI cL cR : ClassId) (lo : Nat) (h : ch_H) (hX : h (lo + 17) = some (.inr (11, [.null, .null, .null, .int (iI 0), .null, .int (iI 0), .null, .null, .int (iI 0), .null, .null, .int (iI 0)]))) : ch_C l (eE D cI cL cR lo) M_X12_init (rM 1 8 2528) [.ref (lo + 17)] h (lo + 18) (fun r0 h2 hi2 => r0 = none ∧ mmP cI cL lo h2 (fun _ => 0) (fun _ => 0) (fun _ => 0) (fun _ => 0) 0 0 (fun _ => lI 0) (fun _ => 0) (fun _ => 0) (fun _ => 0) 0 0 ∧ (∀ b, b < lo + 17 → h2 b = h b) ∧ hi2 = lo + 26) := by
  refine ch_C.of rfl (Nat.le_of_ble_eq_true rfl) ?_
  refine gx_aload_n 0 dX12_init_0 rfl rfl ?_
  refine gx_objInit mw_3_0 mw_1_21 mw_1_22 dX12_init_1 (by decide) (Nat.le_of_ble_eq_true rfl) ?_
  refine gx_aload_n 0 dX12_init_4 rfl rfl ?_
  refine gx_bipush (iI 61) dX12_init_5 (by decide) ?_
  refine gy_newi 61 mw_1_54 dX12_init_7 rfl (by decide) (by first | exact Nat.le_of_ble_eq_true rfl | (simp only [rM]; omega)) (by first | exact Nat.le_of_ble_eq_true rfl | (simp only [rM]; omega)) (fun h1 eh1 => ?_)
  have k2 : h1 (lo + 17) = some (.inr (11, [.null, .null, .null, .int (iI 0), .null, .int (iI 0), .null, .null, .int (iI 0), .null, .null, .int (iI 0)])) := by rw [eh1, ch_set_ne (by first | assumption | omega)]; exact hX
  have k3 : h1 (lo + 18) = some (aI cI 61 (fun _ => 0)) := by rw [eh1]; exact ch_set_self
  refine gy_put (ci := 11) (f := 0) (C := RX12) (T := TX12) (N := 12) (ty := .array (.int)) (fs2 := [.ref (lo + 18), .null, .null, .int (iI 0), .null, .int (iI 0), .null, .null, .int (iI 0), .null, .null, .int (iI 0)]) tyX12 rfl inX12 tyX12_ok nmX12 (by decide) mw_3_1 (Or.inr ⟨rfl, rfl, rfl⟩) (by decide +kernel) rfl rfl dX12_init_9 k2 (by simp) rfl (fun h4 eh4 => ?_)
  have k5 : h4 (lo + 18) = some (aI cI 61 (fun _ => 0)) := by rw [eh4, ch_set_ne (by first | assumption | exact Ne.symm (by assumption) | omega)]; exact k3
  have k6 : h4 (lo + 17) = some (.inr (11, [.ref (lo + 18), .null, .null, .int (iI 0), .null, .int (iI 0), .null, .null, .int (iI 0), .null, .null, .int (iI 0)])) := by rw [eh4]; exact ch_set_self
  refine gx_aload_n 0 dX12_init_12 rfl rfl ?_
  refine gx_sipush (iI 366) dX12_init_13 (by decide) ?_
  refine gy_newi 366 mw_1_54 dX12_init_16 rfl (by decide) (by first | exact Nat.le_of_ble_eq_true rfl | (simp only [rM]; omega)) (by first | exact Nat.le_of_ble_eq_true rfl | (simp only [rM]; omega)) (fun h7 eh7 => ?_)
  have k8 : h7 (lo + 18) = some (aI cI 61 (fun _ => 0)) := by rw [eh7, ch_set_ne (by first | assumption | omega)]; exact k5
  have k9 : h7 (lo + 17) = some (.inr (11, [.ref (lo + 18), .null, .null, .int (iI 0), .null, .int (iI 0), .null, .null, .int (iI 0), .null, .null, .int (iI 0)])) := by rw [eh7, ch_set_ne (by first | assumption | omega)]; exact k6
  have k10 : h7 (lo + 19) = some (aI cI 366 (fun _ => 0)) := by rw [eh7]; exact ch_set_self
  refine gy_put (ci := 11) (f := 1) (C := RX12) (T := TX12) (N := 12) (ty := .array (.int)) (fs2 := [.ref (lo + 18), .ref (lo + 19), .null, .int (iI 0), .null, .int (iI 0), .null, .null, .int (iI 0), .null, .null, .int (iI 0)]) tyX12 rfl inX12 tyX12_ok nmX12 (by decide) mw_3_2 (Or.inr ⟨rfl, rfl, rfl⟩) (by decide +kernel) rfl rfl dX12_init_18 k9 (by simp) rfl (fun h11 eh11 => ?_)
  have k12 : h11 (lo + 18) = some (aI cI 61 (fun _ => 0)) := by rw [eh11, ch_set_ne (by first | assumption | exact Ne.symm (by assumption) | omega)]; exact k8
  have k13 : h11 (lo + 19) = some (aI cI 366 (fun _ => 0)) := by rw [eh11, ch_set_ne (by first | assumption | exact Ne.symm (by assumption) | omega)]; exact k10
  have k14 : h11 (lo + 17) = some (.inr (11, [.ref (lo + 18), .ref (lo + 19), .null, .int (iI 0), .null, .int (iI 0), .null, .null, .int (iI 0), .null, .null, .int (iI 0)])) := by rw [eh11]; exact ch_set_self
  refine gx_aload_n 0 dX12_init_21 rfl rfl ?_
  refine gx_bipush (iI 61) dX12_init_22 (by decide) ?_
  refine gy_newi 61 mw_1_54 dX12_init_24 rfl (by decide) (by first | exact Nat.le_of_ble_eq_true rfl | (simp only [rM]; omega)) (by first | exact Nat.le_of_ble_eq_true rfl | (simp only [rM]; omega)) (fun h15 eh15 => ?_)
  have k16 : h15 (lo + 18) = some (aI cI 61 (fun _ => 0)) := by rw [eh15, ch_set_ne (by first | assumption | omega)]; exact k12
  have k17 : h15 (lo + 19) = some (aI cI 366 (fun _ => 0)) := by rw [eh15, ch_set_ne (by first | assumption | omega)]; exact k13
  have k18 : h15 (lo + 17) = some (.inr (11, [.ref (lo + 18), .ref (lo + 19), .null, .int (iI 0), .null, .int (iI 0), .null, .null, .int (iI 0), .null, .null, .int (iI 0)])) := by rw [eh15, ch_set_ne (by first | assumption | omega)]; exact k14
  have k19 : h15 (lo + 20) = some (aI cI 61 (fun _ => 0)) := by rw [eh15]; exact ch_set_self
  refine gy_put (ci := 11) (f := 2) (C := RX12) (T := TX12) (N := 12) (ty := .array (.int)) (fs2 := [.ref (lo + 18), .ref (lo + 19), .ref (lo + 20), .int (iI 0), .null, .int (iI 0), .null, .null, .int (iI 0), .null, .null, .int (iI 0)]) tyX12 rfl inX12 tyX12_ok nmX12 (by decide) mw_3_3 (Or.inr ⟨rfl, rfl, rfl⟩) (by decide +kernel) rfl rfl dX12_init_26 k18 (by simp) rfl (fun h20 eh20 => ?_)
  have k21 : h20 (lo + 18) = some (aI cI 61 (fun _ => 0)) := by rw [eh20, ch_set_ne (by first | assumption | exact Ne.symm (by assumption) | omega)]; exact k16
  have k22 : h20 (lo + 19) = some (aI cI 366 (fun _ => 0)) := by rw [eh20, ch_set_ne (by first | assumption | exact Ne.symm (by assumption) | omega)]; exact k17
  have k23 : h20 (lo + 20) = some (aI cI 61 (fun _ => 0)) := by rw [eh20, ch_set_ne (by first | assumption | exact Ne.symm (by assumption) | omega)]; exact k19
  have k24 : h20 (lo + 17) = some (.inr (11, [.ref (lo + 18), .ref (lo + 19), .ref (lo + 20), .int (iI 0), .null, .int (iI 0), .null, .null, .int (iI 0), .null, .null, .int (iI 0)])) := by rw [eh20]; exact ch_set_self
  refine gx_aload_n 0 dX12_init_29 rfl rfl ?_
  refine gx_bipush (iI 6) dX12_init_30 (by decide) ?_
  refine gy_newi 6 mw_1_54 dX12_init_32 rfl (by decide) (by first | exact Nat.le_of_ble_eq_true rfl | (simp only [rM]; omega)) (by first | exact Nat.le_of_ble_eq_true rfl | (simp only [rM]; omega)) (fun h25 eh25 => ?_)
  have k26 : h25 (lo + 18) = some (aI cI 61 (fun _ => 0)) := by rw [eh25, ch_set_ne (by first | assumption | omega)]; exact k21
  have k27 : h25 (lo + 19) = some (aI cI 366 (fun _ => 0)) := by rw [eh25, ch_set_ne (by first | assumption | omega)]; exact k22
  have k28 : h25 (lo + 20) = some (aI cI 61 (fun _ => 0)) := by rw [eh25, ch_set_ne (by first | assumption | omega)]; exact k23
  have k29 : h25 (lo + 17) = some (.inr (11, [.ref (lo + 18), .ref (lo + 19), .ref (lo + 20), .int (iI 0), .null, .int (iI 0), .null, .null, .int (iI 0), .null, .null, .int (iI 0)])) := by rw [eh25, ch_set_ne (by first | assumption | omega)]; exact k24
  have k30 : h25 (lo + 21) = some (aI cI 6 (fun _ => 0)) := by rw [eh25]; exact ch_set_self
  refine gy_put (ci := 11) (f := 4) (C := RX12) (T := TX12) (N := 12) (ty := .array (.int)) (fs2 := [.ref (lo + 18), .ref (lo + 19), .ref (lo + 20), .int (iI 0), .ref (lo + 21), .int (iI 0), .null, .null, .int (iI 0), .null, .null, .int (iI 0)]) tyX12 rfl inX12 tyX12_ok nmX12 (by decide) mw_3_5 (Or.inr ⟨rfl, rfl, rfl⟩) (by decide +kernel) rfl rfl dX12_init_34 k29 (by simp) rfl (fun h31 eh31 => ?_)
  have k32 : h31 (lo + 18) = some (aI cI 61 (fun _ => 0)) := by rw [eh31, ch_set_ne (by first | assumption | exact Ne.symm (by assumption) | omega)]; exact k26
  have k33 : h31 (lo + 19) = some (aI cI 366 (fun _ => 0)) := by rw [eh31, ch_set_ne (by first | assumption | exact Ne.symm (by assumption) | omega)]; exact k27
  have k34 : h31 (lo + 20) = some (aI cI 61 (fun _ => 0)) := by rw [eh31, ch_set_ne (by first | assumption | exact Ne.symm (by assumption) | omega)]; exact k28
  have k35 : h31 (lo + 21) = some (aI cI 6 (fun _ => 0)) := by rw [eh31, ch_set_ne (by first | assumption | exact Ne.symm (by assumption) | omega)]; exact k30
  have k36 : h31 (lo + 17) = some (.inr (11, [.ref (lo + 18), .ref (lo + 19), .ref (lo + 20), .int (iI 0), .ref (lo + 21), .int (iI 0), .null, .null, .int (iI 0), .null, .null, .int (iI 0)])) := by rw [eh31]; exact ch_set_self
  refine gx_aload_n 0 dX12_init_37 rfl rfl ?_
  refine gx_sipush (iI 1632) dX12_init_38 (by decide) ?_
  refine gy_newl 1632 mw_3_38 dX12_init_41 rfl (by decide) (by first | exact Nat.le_of_ble_eq_true rfl | (simp only [rM]; omega)) (by first | exact Nat.le_of_ble_eq_true rfl | (simp only [rM]; omega)) (fun h37 eh37 => ?_)
  have k38 : h37 (lo + 18) = some (aI cI 61 (fun _ => 0)) := by rw [eh37, ch_set_ne (by first | assumption | omega)]; exact k32
  have k39 : h37 (lo + 19) = some (aI cI 366 (fun _ => 0)) := by rw [eh37, ch_set_ne (by first | assumption | omega)]; exact k33
  have k40 : h37 (lo + 20) = some (aI cI 61 (fun _ => 0)) := by rw [eh37, ch_set_ne (by first | assumption | omega)]; exact k34
  have k41 : h37 (lo + 21) = some (aI cI 6 (fun _ => 0)) := by rw [eh37, ch_set_ne (by first | assumption | omega)]; exact k35
  have k42 : h37 (lo + 17) = some (.inr (11, [.ref (lo + 18), .ref (lo + 19), .ref (lo + 20), .int (iI 0), .ref (lo + 21), .int (iI 0), .null, .null, .int (iI 0), .null, .null, .int (iI 0)])) := by rw [eh37, ch_set_ne (by first | assumption | omega)]; exact k36
  have k43 : h37 (lo + 22) = some (aL cL 1632 (fun _ => 0)) := by rw [eh37]; exact ch_set_self
  refine gy_put (ci := 11) (f := 6) (C := RX12) (T := TX12) (N := 12) (ty := .array (.long)) (fs2 := [.ref (lo + 18), .ref (lo + 19), .ref (lo + 20), .int (iI 0), .ref (lo + 21), .int (iI 0), .ref (lo + 22), .null, .int (iI 0), .null, .null, .int (iI 0)]) tyX12 rfl inX12 tyX12_ok nmX12 (by decide) mw_3_7 (Or.inr ⟨rfl, rfl, rfl⟩) (by decide +kernel) rfl rfl dX12_init_43 k42 (by simp) rfl (fun h44 eh44 => ?_)
  have k45 : h44 (lo + 18) = some (aI cI 61 (fun _ => 0)) := by rw [eh44, ch_set_ne (by first | assumption | exact Ne.symm (by assumption) | omega)]; exact k38
  have k46 : h44 (lo + 19) = some (aI cI 366 (fun _ => 0)) := by rw [eh44, ch_set_ne (by first | assumption | exact Ne.symm (by assumption) | omega)]; exact k39
  have k47 : h44 (lo + 20) = some (aI cI 61 (fun _ => 0)) := by rw [eh44, ch_set_ne (by first | assumption | exact Ne.symm (by assumption) | omega)]; exact k40
  have k48 : h44 (lo + 21) = some (aI cI 6 (fun _ => 0)) := by rw [eh44, ch_set_ne (by first | assumption | exact Ne.symm (by assumption) | omega)]; exact k41
  have k49 : h44 (lo + 22) = some (aL cL 1632 (fun _ => 0)) := by rw [eh44, ch_set_ne (by first | assumption | exact Ne.symm (by assumption) | omega)]; exact k43
  have k50 : h44 (lo + 17) = some (.inr (11, [.ref (lo + 18), .ref (lo + 19), .ref (lo + 20), .int (iI 0), .ref (lo + 21), .int (iI 0), .ref (lo + 22), .null, .int (iI 0), .null, .null, .int (iI 0)])) := by rw [eh44]; exact ch_set_self
  refine gx_aload_n 0 dX12_init_46 rfl rfl ?_
  refine gx_sipush (iI 200) dX12_init_47 (by decide) ?_
  refine gy_newl 200 mw_3_38 dX12_init_50 rfl (by decide) (by first | exact Nat.le_of_ble_eq_true rfl | (simp only [rM]; omega)) (by first | exact Nat.le_of_ble_eq_true rfl | (simp only [rM]; omega)) (fun h51 eh51 => ?_)
  have k52 : h51 (lo + 18) = some (aI cI 61 (fun _ => 0)) := by rw [eh51, ch_set_ne (by first | assumption | omega)]; exact k45
  have k53 : h51 (lo + 19) = some (aI cI 366 (fun _ => 0)) := by rw [eh51, ch_set_ne (by first | assumption | omega)]; exact k46
  have k54 : h51 (lo + 20) = some (aI cI 61 (fun _ => 0)) := by rw [eh51, ch_set_ne (by first | assumption | omega)]; exact k47
  have k55 : h51 (lo + 21) = some (aI cI 6 (fun _ => 0)) := by rw [eh51, ch_set_ne (by first | assumption | omega)]; exact k48
  have k56 : h51 (lo + 22) = some (aL cL 1632 (fun _ => 0)) := by rw [eh51, ch_set_ne (by first | assumption | omega)]; exact k49
  have k57 : h51 (lo + 17) = some (.inr (11, [.ref (lo + 18), .ref (lo + 19), .ref (lo + 20), .int (iI 0), .ref (lo + 21), .int (iI 0), .ref (lo + 22), .null, .int (iI 0), .null, .null, .int (iI 0)])) := by rw [eh51, ch_set_ne (by first | assumption | omega)]; exact k50
  have k58 : h51 (lo + 23) = some (aL cL 200 (fun _ => 0)) := by rw [eh51]; exact ch_set_self
  refine gy_put (ci := 11) (f := 7) (C := RX12) (T := TX12) (N := 12) (ty := .array (.long)) (fs2 := [.ref (lo + 18), .ref (lo + 19), .ref (lo + 20), .int (iI 0), .ref (lo + 21), .int (iI 0), .ref (lo + 22), .ref (lo + 23), .int (iI 0), .null, .null, .int (iI 0)]) tyX12 rfl inX12 tyX12_ok nmX12 (by decide) mw_3_8 (Or.inr ⟨rfl, rfl, rfl⟩) (by decide +kernel) rfl rfl dX12_init_52 k57 (by simp) rfl (fun h59 eh59 => ?_)
  have k60 : h59 (lo + 18) = some (aI cI 61 (fun _ => 0)) := by rw [eh59, ch_set_ne (by first | assumption | exact Ne.symm (by assumption) | omega)]; exact k52
  have k61 : h59 (lo + 19) = some (aI cI 366 (fun _ => 0)) := by rw [eh59, ch_set_ne (by first | assumption | exact Ne.symm (by assumption) | omega)]; exact k53
  have k62 : h59 (lo + 20) = some (aI cI 61 (fun _ => 0)) := by rw [eh59, ch_set_ne (by first | assumption | exact Ne.symm (by assumption) | omega)]; exact k54
  have k63 : h59 (lo + 21) = some (aI cI 6 (fun _ => 0)) := by rw [eh59, ch_set_ne (by first | assumption | exact Ne.symm (by assumption) | omega)]; exact k55
  have k64 : h59 (lo + 22) = some (aL cL 1632 (fun _ => 0)) := by rw [eh59, ch_set_ne (by first | assumption | exact Ne.symm (by assumption) | omega)]; exact k56
  have k65 : h59 (lo + 23) = some (aL cL 200 (fun _ => 0)) := by rw [eh59, ch_set_ne (by first | assumption | exact Ne.symm (by assumption) | omega)]; exact k58
  have k66 : h59 (lo + 17) = some (.inr (11, [.ref (lo + 18), .ref (lo + 19), .ref (lo + 20), .int (iI 0), .ref (lo + 21), .int (iI 0), .ref (lo + 22), .ref (lo + 23), .int (iI 0), .null, .null, .int (iI 0)])) := by rw [eh59]; exact ch_set_self
  refine gx_aload_n 0 dX12_init_55 rfl rfl ?_
  refine gx_bipush (iI 101) dX12_init_56 (by decide) ?_
  refine gy_newl 101 mw_3_38 dX12_init_58 rfl (by decide) (by first | exact Nat.le_of_ble_eq_true rfl | (simp only [rM]; omega)) (by first | exact Nat.le_of_ble_eq_true rfl | (simp only [rM]; omega)) (fun h67 eh67 => ?_)
  have k68 : h67 (lo + 18) = some (aI cI 61 (fun _ => 0)) := by rw [eh67, ch_set_ne (by first | assumption | omega)]; exact k60
  have k69 : h67 (lo + 19) = some (aI cI 366 (fun _ => 0)) := by rw [eh67, ch_set_ne (by first | assumption | omega)]; exact k61
  have k70 : h67 (lo + 20) = some (aI cI 61 (fun _ => 0)) := by rw [eh67, ch_set_ne (by first | assumption | omega)]; exact k62
  have k71 : h67 (lo + 21) = some (aI cI 6 (fun _ => 0)) := by rw [eh67, ch_set_ne (by first | assumption | omega)]; exact k63
  have k72 : h67 (lo + 22) = some (aL cL 1632 (fun _ => 0)) := by rw [eh67, ch_set_ne (by first | assumption | omega)]; exact k64
  have k73 : h67 (lo + 23) = some (aL cL 200 (fun _ => 0)) := by rw [eh67, ch_set_ne (by first | assumption | omega)]; exact k65
  have k74 : h67 (lo + 17) = some (.inr (11, [.ref (lo + 18), .ref (lo + 19), .ref (lo + 20), .int (iI 0), .ref (lo + 21), .int (iI 0), .ref (lo + 22), .ref (lo + 23), .int (iI 0), .null, .null, .int (iI 0)])) := by rw [eh67, ch_set_ne (by first | assumption | omega)]; exact k66
  have k75 : h67 (lo + 24) = some (aL cL 101 (fun _ => 0)) := by rw [eh67]; exact ch_set_self
  refine gy_put (ci := 11) (f := 9) (C := RX12) (T := TX12) (N := 12) (ty := .array (.long)) (fs2 := [.ref (lo + 18), .ref (lo + 19), .ref (lo + 20), .int (iI 0), .ref (lo + 21), .int (iI 0), .ref (lo + 22), .ref (lo + 23), .int (iI 0), .ref (lo + 24), .null, .int (iI 0)]) tyX12 rfl inX12 tyX12_ok nmX12 (by decide) mw_3_10 (Or.inr ⟨rfl, rfl, rfl⟩) (by decide +kernel) rfl rfl dX12_init_60 k74 (by simp) rfl (fun h76 eh76 => ?_)
  have k77 : h76 (lo + 18) = some (aI cI 61 (fun _ => 0)) := by rw [eh76, ch_set_ne (by first | assumption | exact Ne.symm (by assumption) | omega)]; exact k68
  have k78 : h76 (lo + 19) = some (aI cI 366 (fun _ => 0)) := by rw [eh76, ch_set_ne (by first | assumption | exact Ne.symm (by assumption) | omega)]; exact k69
  have k79 : h76 (lo + 20) = some (aI cI 61 (fun _ => 0)) := by rw [eh76, ch_set_ne (by first | assumption | exact Ne.symm (by assumption) | omega)]; exact k70
  have k80 : h76 (lo + 21) = some (aI cI 6 (fun _ => 0)) := by rw [eh76, ch_set_ne (by first | assumption | exact Ne.symm (by assumption) | omega)]; exact k71
  have k81 : h76 (lo + 22) = some (aL cL 1632 (fun _ => 0)) := by rw [eh76, ch_set_ne (by first | assumption | exact Ne.symm (by assumption) | omega)]; exact k72
  have k82 : h76 (lo + 23) = some (aL cL 200 (fun _ => 0)) := by rw [eh76, ch_set_ne (by first | assumption | exact Ne.symm (by assumption) | omega)]; exact k73
  have k83 : h76 (lo + 24) = some (aL cL 101 (fun _ => 0)) := by rw [eh76, ch_set_ne (by first | assumption | exact Ne.symm (by assumption) | omega)]; exact k75
  have k84 : h76 (lo + 17) = some (.inr (11, [.ref (lo + 18), .ref (lo + 19), .ref (lo + 20), .int (iI 0), .ref (lo + 21), .int (iI 0), .ref (lo + 22), .ref (lo + 23), .int (iI 0), .ref (lo + 24), .null, .int (iI 0)])) := by rw [eh76]; exact ch_set_self
  refine gx_aload_n 0 dX12_init_63 rfl rfl ?_
  refine gx_bipush (iI 101) dX12_init_64 (by decide) ?_
  refine gy_newl 101 mw_3_38 dX12_init_66 rfl (by decide) (by first | exact Nat.le_of_ble_eq_true rfl | (simp only [rM]; omega)) (by first | exact Nat.le_of_ble_eq_true rfl | (simp only [rM]; omega)) (fun h85 eh85 => ?_)
  have k86 : h85 (lo + 18) = some (aI cI 61 (fun _ => 0)) := by rw [eh85, ch_set_ne (by first | assumption | omega)]; exact k77
  have k87 : h85 (lo + 19) = some (aI cI 366 (fun _ => 0)) := by rw [eh85, ch_set_ne (by first | assumption | omega)]; exact k78
  have k88 : h85 (lo + 20) = some (aI cI 61 (fun _ => 0)) := by rw [eh85, ch_set_ne (by first | assumption | omega)]; exact k79
  have k89 : h85 (lo + 21) = some (aI cI 6 (fun _ => 0)) := by rw [eh85, ch_set_ne (by first | assumption | omega)]; exact k80
  have k90 : h85 (lo + 22) = some (aL cL 1632 (fun _ => 0)) := by rw [eh85, ch_set_ne (by first | assumption | omega)]; exact k81
  have k91 : h85 (lo + 23) = some (aL cL 200 (fun _ => 0)) := by rw [eh85, ch_set_ne (by first | assumption | omega)]; exact k82
  have k92 : h85 (lo + 24) = some (aL cL 101 (fun _ => 0)) := by rw [eh85, ch_set_ne (by first | assumption | omega)]; exact k83
  have k93 : h85 (lo + 17) = some (.inr (11, [.ref (lo + 18), .ref (lo + 19), .ref (lo + 20), .int (iI 0), .ref (lo + 21), .int (iI 0), .ref (lo + 22), .ref (lo + 23), .int (iI 0), .ref (lo + 24), .null, .int (iI 0)])) := by rw [eh85, ch_set_ne (by first | assumption | omega)]; exact k84
  have k94 : h85 (lo + 25) = some (aL cL 101 (fun _ => 0)) := by rw [eh85]; exact ch_set_self
  refine gy_put (ci := 11) (f := 10) (C := RX12) (T := TX12) (N := 12) (ty := .array (.long)) (fs2 := [.ref (lo + 18), .ref (lo + 19), .ref (lo + 20), .int (iI 0), .ref (lo + 21), .int (iI 0), .ref (lo + 22), .ref (lo + 23), .int (iI 0), .ref (lo + 24), .ref (lo + 25), .int (iI 0)]) tyX12 rfl inX12 tyX12_ok nmX12 (by decide) mw_3_11 (Or.inr ⟨rfl, rfl, rfl⟩) (by decide +kernel) rfl rfl dX12_init_68 k93 (by simp) rfl (fun h95 eh95 => ?_)
  have k96 : h95 (lo + 18) = some (aI cI 61 (fun _ => 0)) := by rw [eh95, ch_set_ne (by first | assumption | exact Ne.symm (by assumption) | omega)]; exact k86
  have k97 : h95 (lo + 19) = some (aI cI 366 (fun _ => 0)) := by rw [eh95, ch_set_ne (by first | assumption | exact Ne.symm (by assumption) | omega)]; exact k87
  have k98 : h95 (lo + 20) = some (aI cI 61 (fun _ => 0)) := by rw [eh95, ch_set_ne (by first | assumption | exact Ne.symm (by assumption) | omega)]; exact k88
  have k99 : h95 (lo + 21) = some (aI cI 6 (fun _ => 0)) := by rw [eh95, ch_set_ne (by first | assumption | exact Ne.symm (by assumption) | omega)]; exact k89
  have k100 : h95 (lo + 22) = some (aL cL 1632 (fun _ => 0)) := by rw [eh95, ch_set_ne (by first | assumption | exact Ne.symm (by assumption) | omega)]; exact k90
  have k101 : h95 (lo + 23) = some (aL cL 200 (fun _ => 0)) := by rw [eh95, ch_set_ne (by first | assumption | exact Ne.symm (by assumption) | omega)]; exact k91
  have k102 : h95 (lo + 24) = some (aL cL 101 (fun _ => 0)) := by rw [eh95, ch_set_ne (by first | assumption | exact Ne.symm (by assumption) | omega)]; exact k92
  have k103 : h95 (lo + 25) = some (aL cL 101 (fun _ => 0)) := by rw [eh95, ch_set_ne (by first | assumption | exact Ne.symm (by assumption) | omega)]; exact k94
  have k104 : h95 (lo + 17) = some (.inr (11, [.ref (lo + 18), .ref (lo + 19), .ref (lo + 20), .int (iI 0), .ref (lo + 21), .int (iI 0), .ref (lo + 22), .ref (lo + 23), .int (iI 0), .ref (lo + 24), .ref (lo + 25), .int (iI 0)])) := by rw [eh95]; exact ch_set_self
  refine gx_vret rfl dX12_init_71 (by first | exact Nat.le_of_ble_eq_true rfl | (simp only [rM]; omega)) (by first | exact Nat.le_of_ble_eq_true rfl | (simp only [rM]; omega)) ?_
  exact ⟨rfl, ⟨k104, k96, k97, k98, k99, k100, k101, k102, k103⟩, fun b hb => by rw [eh95, ch_set_ne (by omega), eh85, ch_set_ne (by omega), eh76, ch_set_ne (by omega), eh67, ch_set_ne (by omega), eh59, ch_set_ne (by omega), eh51, ch_set_ne (by omega), eh44, ch_set_ne (by omega), eh37, ch_set_ne (by omega), eh31, ch_set_ne (by omega), eh25, ch_set_ne (by omega), eh20, ch_set_ne (by omega), eh15, ch_set_ne (by omega), eh11, ch_set_ne (by omega), eh7, ch_set_ne (by omega), eh4, ch_set_ne (by omega), eh1, ch_set_ne (by omega)], rfl⟩
set_option maxHeartbeats 4000000 in
set_option maxRecDepth 100000 in
theorem c_X12_isInKind (l : Launch) (D : va_G) (cI cL cR : ClassId) (lo : Nat) (h : ch_H) (hi : Nat) (Kf Nf Wf fz : Nat → Int) (n : Nat) (c : Int) (FB : Nat → Int64) (fh ff fl : Nat → Int) (hc sc : Int) (MM : mmP cI cL lo h Kf Nf Wf fz n c FB fh ff fl hc sc) (s : Nat) (hs : s ≤ 60) (hk : 0 ≤ Kf s ∧ Kf s ≤ 3) (hN : ∀ k, k < 6 → -5000 ≤ Nf (6 * s + k) ∧ Nf (6 * s + k) ≤ 5000) (x y z : Int) (hx : -900000 ≤ x ∧ x ≤ 900000) (hy : -900000 ≤ y ∧ y ≤ 900000) (hz : -900000 ≤ z ∧ z ≤ 900000) : ch_C l (eE D cI cL cR lo) M_X12_isInKind (rM 1 0 0) [.ref (lo + 17), .int (iI (s : Int)), .long (lI x), .long (lI y), .long (lI z)] h hi (fun r0 h2 hi2 => r0 = some (.int (iI (bI (ikB Kf Nf s x y z)))) ∧ h = h2 ∧ hi = hi2) := by
  refine ch_C.of rfl (Nat.le_of_ble_eq_true rfl) ?_
  have MM0 := MM
  obtain ⟨M0, M1, M2, M3, M4, M5, M6, M7, M8⟩ := MM
  have n0 : -5000 ≤ Nf (6 * s) ∧ Nf (6 * s) ≤ 5000 := hN 0 (by omega)
  have n1 := hN 1 (by omega)
  have n2 := hN 2 (by omega)
  have n3 := hN 3 (by omega)
  have n4 := hN 4 (by omega)
  have n5 := hN 5 (by omega)
  have q1 := sqI_b (v := x - Nf (6 * s)) (by omega)
  have q2 := sqI_b (v := y - Nf (6 * s + 1)) (by omega)
  have q3 := sqI_b (v := z - Nf (6 * s + 2)) (by omega)
  have q4 := sqI_b (v := Nf (6 * s + 3)) (by omega)
  have q5 := sqI_s (v := Nf (6 * s + 4) - Nf (6 * s + 3)) (by omega)
  have q6 : 0 ≤ Nf (6 * s + 2) * Nf (6 * s + 2) ∧ Nf (6 * s + 2) * Nf (6 * s + 2) ≤ 25000000 := ⟨sqI_nn _, sqI_le (B := 5000) (by omega) (by omega)⟩
  refine gx_aload_n 0 dX12_isInKind_0 rfl rfl ?_
  refine gx_get (ci := 11) (f := 0) (C := RX12) (T := TX12) (N := 12) rfl inX12 (by decide) mw_3_1 dX12_isInKind_1 M0 rfl ?_
  refine gx_iload_n 1 dX12_isInKind_4 rfl rfl ?_
  refine gy_iald dX12_isInKind_5 M1 (by omega) (by omega) (by decide) ?_
  refine ch_Gst (st2 := [.int (iI (Kf s))]) (by rw [Int.toNat_natCast]; try rfl) ?_
  refine gy_if_ne 91 dX12_isInKind_6 (by decide) (by constructor <;> omega) (fun c6 => ?_) (fun c6 => ?_)
  · refine gx_lload_n 2 dX12_isInKind_91 rfl rfl ?_
    refine gx_aload_n 0 dX12_isInKind_92 rfl rfl ?_
    refine gx_iload_n 1 dX12_isInKind_93 rfl rfl ?_
    refine gx_iconst (iI 0) dX12_isInKind_94 rfl ?_
    refine gx_callV (ci := 11) (c_X12_number l D cI cL cR lo h hi Kf Nf Wf fz n c FB fh ff fl hc sc MM0 s 0 (by omega) (by omega)) ok_X12_number mw_3_80 mw_3_82 mw_p_14 dX12_isInKind_95 rfl M0 rfl rfl (Nat.le_of_ble_eq_true rfl) (by first | exact Nat.le_of_ble_eq_true rfl | (simp only [rM]; omega)) (by first | exact Nat.le_of_ble_eq_true rfl | (simp only [rM]; omega)) (by first | exact Nat.le_of_ble_eq_true rfl | (simp only [rM]; omega)) (by first | exact Nat.le_of_ble_eq_true rfl | (simp only [rM]; omega)) (fun r1 h2 u3 q4 g5 => ?_)
    obtain ⟨rfl, rfl, rfl⟩ := q4
    refine ch_Gst (st2 := [.int (iI (Nf (6 * s))), .long (lI x)]) rfl ?_
    refine gy_i2l dX12_isInKind_98 (by constructor <;> omega) ?_
    refine gy_lsub dX12_isInKind_99 ?_
    refine gx_callS (c_X12_square l D cI cL cR lo h hi (x - (Nf (6 * s)))) ok_X12_square mw_3_88 mw_3_89 dX12_isInKind_100 rfl rfl (Nat.le_of_ble_eq_true rfl) (by first | exact Nat.le_of_ble_eq_true rfl | (simp only [rM]; omega)) (by first | exact Nat.le_of_ble_eq_true rfl | (simp only [rM]; omega)) (by first | exact Nat.le_of_ble_eq_true rfl | (simp only [rM]; omega)) (by first | exact Nat.le_of_ble_eq_true rfl | (simp only [rM]; omega)) (fun r6 h7 u8 q9 g10 => ?_)
    obtain ⟨rfl, rfl, rfl⟩ := q9
    refine ch_Gst (st2 := [.long (lI (sqI (x - (Nf (6 * s)))))]) rfl ?_
    refine gx_lload 3 dX12_isInKind_103 rfl ?_
    refine gx_aload_n 0 dX12_isInKind_105 rfl rfl ?_
    refine gx_iload_n 1 dX12_isInKind_106 rfl rfl ?_
    refine gx_iconst (iI 1) dX12_isInKind_107 rfl ?_
    refine gx_callV (ci := 11) (c_X12_number l D cI cL cR lo h hi Kf Nf Wf fz n c FB fh ff fl hc sc MM0 s 1 (by omega) (by omega)) ok_X12_number mw_3_80 mw_3_82 mw_p_14 dX12_isInKind_108 rfl M0 rfl rfl (Nat.le_of_ble_eq_true rfl) (by first | exact Nat.le_of_ble_eq_true rfl | (simp only [rM]; omega)) (by first | exact Nat.le_of_ble_eq_true rfl | (simp only [rM]; omega)) (by first | exact Nat.le_of_ble_eq_true rfl | (simp only [rM]; omega)) (by first | exact Nat.le_of_ble_eq_true rfl | (simp only [rM]; omega)) (fun r11 h12 u13 q14 g15 => ?_)
    obtain ⟨rfl, rfl, rfl⟩ := q14
    refine ch_Gst (st2 := [.int (iI (Nf (6 * s + 1))), .long (lI y), .long (lI (sqI (x - (Nf (6 * s)))))]) rfl ?_
    refine gy_i2l dX12_isInKind_111 (by constructor <;> omega) ?_
    refine gy_lsub dX12_isInKind_112 ?_
    refine gx_callS (c_X12_square l D cI cL cR lo h hi (y - (Nf (6 * s + 1)))) ok_X12_square mw_3_88 mw_3_89 dX12_isInKind_113 rfl rfl (Nat.le_of_ble_eq_true rfl) (by first | exact Nat.le_of_ble_eq_true rfl | (simp only [rM]; omega)) (by first | exact Nat.le_of_ble_eq_true rfl | (simp only [rM]; omega)) (by first | exact Nat.le_of_ble_eq_true rfl | (simp only [rM]; omega)) (by first | exact Nat.le_of_ble_eq_true rfl | (simp only [rM]; omega)) (fun r16 h17 u18 q19 g20 => ?_)
    obtain ⟨rfl, rfl, rfl⟩ := q19
    refine ch_Gst (st2 := [.long (lI (sqI (y - (Nf (6 * s + 1))))), .long (lI (sqI (x - (Nf (6 * s)))))]) rfl ?_
    refine gy_ladd dX12_isInKind_116 ?_
    refine gx_lstore [(8, .long (lI ((sqI (x - (Nf (6 * s)))) + (sqI (y - (Nf (6 * s + 1))))))), (0, .ref (lo + 17)), (1, .int (iI (s : Int))), (2, .long (lI x)), (4, .long (lI y)), (6, .long (lI z))] dX12_isInKind_117 (by decide) rfl ?_
    refine gx_aload_n 1 dX12_isInKind_119 rfl rfl ?_
    refine gx_get (ci := 11) (f := 0) (C := RX12) (T := TX12) (N := 12) rfl inX12 (by decide) mw_3_1 dX12_isInKind_120 M0 rfl ?_
    refine gx_iload_n 2 dX12_isInKind_123 rfl rfl ?_
    refine gy_iald dX12_isInKind_124 M1 (by omega) (by omega) (by decide) ?_
    refine ch_Gst (st2 := [.int (iI (Kf s))]) (by rw [Int.toNat_natCast]; try rfl) ?_
    refine gx_iconst (iI 2) dX12_isInKind_125 rfl ?_
    refine gy_icmp_ne 165 dX12_isInKind_126 (by decide) (by constructor <;> omega) (by decide) (fun c126 => ?_) (fun c126 => ?_)
    · refine gx_aload_n 1 dX12_isInKind_165 rfl rfl ?_
      refine gx_iload_n 2 dX12_isInKind_166 rfl rfl ?_
      refine gx_iconst (iI 2) dX12_isInKind_167 rfl ?_
      refine gx_callV (ci := 11) (c_X12_number l D cI cL cR lo h hi Kf Nf Wf fz n c FB fh ff fl hc sc MM0 s 2 (by omega) (by omega)) ok_X12_number mw_3_80 mw_3_82 mw_p_14 dX12_isInKind_168 rfl M0 rfl rfl (Nat.le_of_ble_eq_true rfl) (by first | exact Nat.le_of_ble_eq_true rfl | (simp only [rM]; omega)) (by first | exact Nat.le_of_ble_eq_true rfl | (simp only [rM]; omega)) (by first | exact Nat.le_of_ble_eq_true rfl | (simp only [rM]; omega)) (by first | exact Nat.le_of_ble_eq_true rfl | (simp only [rM]; omega)) (fun r21 h22 u23 q24 g25 => ?_)
      obtain ⟨rfl, rfl, rfl⟩ := q24
      refine ch_Gst (st2 := [.int (iI (Nf (6 * s + 2)))]) rfl ?_
      refine gy_i2l dX12_isInKind_171 (by constructor <;> omega) ?_
      refine gx_lstore [(10, .long (lI (Nf (6 * s + 2)))), (8, .long (lI ((sqI (x - (Nf (6 * s)))) + (sqI (y - (Nf (6 * s + 1))))))), (0, .ref (lo + 17)), (1, .int (iI (s : Int))), (2, .long (lI x)), (4, .long (lI y)), (6, .long (lI z))] dX12_isInKind_172 (by decide) rfl ?_
      refine gx_lload 6 dX12_isInKind_174 rfl ?_
      refine gx_aload_n 2 dX12_isInKind_176 rfl rfl ?_
      refine gx_iload_n 3 dX12_isInKind_177 rfl rfl ?_
      refine gx_iconst (iI 3) dX12_isInKind_178 rfl ?_
      refine gx_callV (ci := 11) (c_X12_number l D cI cL cR lo h hi Kf Nf Wf fz n c FB fh ff fl hc sc MM0 s 3 (by omega) (by omega)) ok_X12_number mw_3_80 mw_3_82 mw_p_14 dX12_isInKind_179 rfl M0 rfl rfl (Nat.le_of_ble_eq_true rfl) (by first | exact Nat.le_of_ble_eq_true rfl | (simp only [rM]; omega)) (by first | exact Nat.le_of_ble_eq_true rfl | (simp only [rM]; omega)) (by first | exact Nat.le_of_ble_eq_true rfl | (simp only [rM]; omega)) (by first | exact Nat.le_of_ble_eq_true rfl | (simp only [rM]; omega)) (fun r26 h27 u28 q29 g30 => ?_)
      obtain ⟨rfl, rfl, rfl⟩ := q29
      refine ch_Gst (st2 := [.int (iI (Nf (6 * s + 3))), .long (lI z)]) rfl ?_
      refine gy_i2l dX12_isInKind_182 (by constructor <;> omega) ?_
      refine gy_lcmp_lt 211 dX12_isInKind_183 dX12_isInKind_184 (by decide) (by constructor <;> omega) (by constructor <;> omega) (fun c183 => ?_) (fun c183 => ?_)
      · refine gx_iconst (iI 0) dX12_isInKind_211 rfl ?_
        refine gx_zret rfl rfl dX12_isInKind_212 (by first | exact Nat.le_of_ble_eq_true rfl | (simp only [rM]; omega)) (by first | exact Nat.le_of_ble_eq_true rfl | (simp only [rM]; omega)) ?_
        refine ⟨?_, rfl, rfl⟩
        have e : ikB Kf Nf s x y z = false := by unfold ikB; rw [if_neg (by omega), if_neg (by omega)]; exact decide_eq_false (by omega)
        rw [e]; rfl
      · refine gx_lload 6 dX12_isInKind_187 rfl ?_
        refine gx_aload_n 2 dX12_isInKind_189 rfl rfl ?_
        refine gx_iload_n 3 dX12_isInKind_190 rfl rfl ?_
        refine gx_iconst (iI 4) dX12_isInKind_191 rfl ?_
        refine gx_callV (ci := 11) (c_X12_number l D cI cL cR lo h hi Kf Nf Wf fz n c FB fh ff fl hc sc MM0 s 4 (by omega) (by omega)) ok_X12_number mw_3_80 mw_3_82 mw_p_14 dX12_isInKind_192 rfl M0 rfl rfl (Nat.le_of_ble_eq_true rfl) (by first | exact Nat.le_of_ble_eq_true rfl | (simp only [rM]; omega)) (by first | exact Nat.le_of_ble_eq_true rfl | (simp only [rM]; omega)) (by first | exact Nat.le_of_ble_eq_true rfl | (simp only [rM]; omega)) (by first | exact Nat.le_of_ble_eq_true rfl | (simp only [rM]; omega)) (fun r31 h32 u33 q34 g35 => ?_)
        obtain ⟨rfl, rfl, rfl⟩ := q34
        refine ch_Gst (st2 := [.int (iI (Nf (6 * s + 4))), .long (lI z)]) rfl ?_
        refine gy_i2l dX12_isInKind_195 (by constructor <;> omega) ?_
        refine gy_lcmp_ge 211 dX12_isInKind_196 dX12_isInKind_197 (by decide) (by constructor <;> omega) (by constructor <;> omega) (fun c196 => ?_) (fun c196 => ?_)
        · refine gx_iconst (iI 0) dX12_isInKind_211 rfl ?_
          refine gx_zret rfl rfl dX12_isInKind_212 (by first | exact Nat.le_of_ble_eq_true rfl | (simp only [rM]; omega)) (by first | exact Nat.le_of_ble_eq_true rfl | (simp only [rM]; omega)) ?_
          refine ⟨?_, rfl, rfl⟩
          have e : ikB Kf Nf s x y z = false := by unfold ikB; rw [if_neg (by omega), if_neg (by omega)]; exact decide_eq_false (by omega)
          rw [e]; rfl
        · refine gx_lload 1 dX12_isInKind_200 rfl ?_
          refine gx_lload 0 dX12_isInKind_202 rfl ?_
          refine gx_lload 0 dX12_isInKind_204 rfl ?_
          refine gy_lmul dX12_isInKind_206 ?_
          refine gy_lcmp_le 213 dX12_isInKind_207 dX12_isInKind_208 (by decide) (by constructor <;> omega) (by constructor <;> omega) (fun c207 => ?_) (fun c207 => ?_)
          · have q7 := sqI_s (v := Nf (6 * s + 4) - z) (by omega)
            have q8 := mul_b (a := sqI (x - Nf (6 * s)) + sqI (y - Nf (6 * s + 1))) (A := 25000000) ⟨by omega, by omega⟩ q5
            have q9 := mul_b q6 q7
            refine gx_aload_n 2 dX12_isInKind_213 rfl rfl ?_
            refine gx_get (ci := 11) (f := 0) (C := RX12) (T := TX12) (N := 12) rfl inX12 (by decide) mw_3_1 dX12_isInKind_214 M0 rfl ?_
            refine gx_iload_n 3 dX12_isInKind_217 rfl rfl ?_
            refine gy_iald dX12_isInKind_218 M1 (by omega) (by omega) (by decide) ?_
            refine ch_Gst (st2 := [.int (iI (Kf s))]) (by rw [Int.toNat_natCast]; try rfl) ?_
            refine gx_iconst (iI 1) dX12_isInKind_219 rfl ?_
            refine gy_icmp_eq 266 dX12_isInKind_220 (by decide) (by constructor <;> omega) (by decide) (fun c220 => ?_) (fun c220 => ?_)
            · refine gx_iconst (iI 1) dX12_isInKind_266 rfl ?_
              refine gx_goto 271 dX12_isInKind_267 (by decide) ?_
              refine gx_zret rfl rfl dX12_isInKind_271 (by first | exact Nat.le_of_ble_eq_true rfl | (simp only [rM]; omega)) (by first | exact Nat.le_of_ble_eq_true rfl | (simp only [rM]; omega)) ?_
              refine ⟨?_, rfl, rfl⟩
              have e : ikB Kf Nf s x y z = true := by unfold ikB; rw [if_neg (by omega), if_neg (by omega)]; exact decide_eq_true (by omega)
              rw [e]; rfl
            · refine gx_lload 1 dX12_isInKind_223 rfl ?_
              refine gx_aload_n 2 dX12_isInKind_225 rfl rfl ?_
              refine gx_iload_n 3 dX12_isInKind_226 rfl rfl ?_
              refine gx_iconst (iI 4) dX12_isInKind_227 rfl ?_
              refine gx_callV (ci := 11) (c_X12_number l D cI cL cR lo h hi Kf Nf Wf fz n c FB fh ff fl hc sc MM0 s 4 (by omega) (by omega)) ok_X12_number mw_3_80 mw_3_82 mw_p_14 dX12_isInKind_228 rfl M0 rfl rfl (Nat.le_of_ble_eq_true rfl) (by first | exact Nat.le_of_ble_eq_true rfl | (simp only [rM]; omega)) (by first | exact Nat.le_of_ble_eq_true rfl | (simp only [rM]; omega)) (by first | exact Nat.le_of_ble_eq_true rfl | (simp only [rM]; omega)) (by first | exact Nat.le_of_ble_eq_true rfl | (simp only [rM]; omega)) (fun r36 h37 u38 q39 g40 => ?_)
              obtain ⟨rfl, rfl, rfl⟩ := q39
              refine ch_Gst (st2 := [.int (iI (Nf (6 * s + 4))), .long (lI ((sqI (x - (Nf (6 * s)))) + (sqI (y - (Nf (6 * s + 1))))))]) rfl ?_
              refine gx_aload_n 2 dX12_isInKind_231 rfl rfl ?_
              refine gx_iload_n 3 dX12_isInKind_232 rfl rfl ?_
              refine gx_iconst (iI 3) dX12_isInKind_233 rfl ?_
              refine gx_callV (ci := 11) (c_X12_number l D cI cL cR lo h hi Kf Nf Wf fz n c FB fh ff fl hc sc MM0 s 3 (by omega) (by omega)) ok_X12_number mw_3_80 mw_3_82 mw_p_14 dX12_isInKind_234 rfl M0 rfl rfl (Nat.le_of_ble_eq_true rfl) (by first | exact Nat.le_of_ble_eq_true rfl | (simp only [rM]; omega)) (by first | exact Nat.le_of_ble_eq_true rfl | (simp only [rM]; omega)) (by first | exact Nat.le_of_ble_eq_true rfl | (simp only [rM]; omega)) (by first | exact Nat.le_of_ble_eq_true rfl | (simp only [rM]; omega)) (fun r41 h42 u43 q44 g45 => ?_)
              obtain ⟨rfl, rfl, rfl⟩ := q44
              refine ch_Gst (st2 := [.int (iI (Nf (6 * s + 3))), .int (iI (Nf (6 * s + 4))), .long (lI ((sqI (x - (Nf (6 * s)))) + (sqI (y - (Nf (6 * s + 1))))))]) rfl ?_
              refine gy_isub dX12_isInKind_237 ?_
              refine gy_i2l dX12_isInKind_238 (by constructor <;> omega) ?_
              refine gx_callS (c_X12_square l D cI cL cR lo h hi ((Nf (6 * s + 4)) - (Nf (6 * s + 3)))) ok_X12_square mw_3_88 mw_3_89 dX12_isInKind_239 rfl rfl (Nat.le_of_ble_eq_true rfl) (by first | exact Nat.le_of_ble_eq_true rfl | (simp only [rM]; omega)) (by first | exact Nat.le_of_ble_eq_true rfl | (simp only [rM]; omega)) (by first | exact Nat.le_of_ble_eq_true rfl | (simp only [rM]; omega)) (by first | exact Nat.le_of_ble_eq_true rfl | (simp only [rM]; omega)) (fun r46 h47 u48 q49 g50 => ?_)
              obtain ⟨rfl, rfl, rfl⟩ := q49
              refine ch_Gst (st2 := [.long (lI (sqI ((Nf (6 * s + 4)) - (Nf (6 * s + 3))))), .long (lI ((sqI (x - (Nf (6 * s)))) + (sqI (y - (Nf (6 * s + 1))))))]) rfl ?_
              refine gy_lmul dX12_isInKind_242 ?_
              refine gx_lload 0 dX12_isInKind_243 rfl ?_
              refine gx_lload 0 dX12_isInKind_245 rfl ?_
              refine gy_lmul dX12_isInKind_247 ?_
              refine gx_aload_n 2 dX12_isInKind_248 rfl rfl ?_
              refine gx_iload_n 3 dX12_isInKind_249 rfl rfl ?_
              refine gx_iconst (iI 4) dX12_isInKind_250 rfl ?_
              refine gx_callV (ci := 11) (c_X12_number l D cI cL cR lo h hi Kf Nf Wf fz n c FB fh ff fl hc sc MM0 s 4 (by omega) (by omega)) ok_X12_number mw_3_80 mw_3_82 mw_p_14 dX12_isInKind_251 rfl M0 rfl rfl (Nat.le_of_ble_eq_true rfl) (by first | exact Nat.le_of_ble_eq_true rfl | (simp only [rM]; omega)) (by first | exact Nat.le_of_ble_eq_true rfl | (simp only [rM]; omega)) (by first | exact Nat.le_of_ble_eq_true rfl | (simp only [rM]; omega)) (by first | exact Nat.le_of_ble_eq_true rfl | (simp only [rM]; omega)) (fun r51 h52 u53 q54 g55 => ?_)
              obtain ⟨rfl, rfl, rfl⟩ := q54
              refine ch_Gst (st2 := [.int (iI (Nf (6 * s + 4))), .long (lI ((Nf (6 * s + 2)) * (Nf (6 * s + 2)))), .long (lI (((sqI (x - (Nf (6 * s)))) + (sqI (y - (Nf (6 * s + 1))))) * (sqI ((Nf (6 * s + 4)) - (Nf (6 * s + 3))))))]) rfl ?_
              refine gy_i2l dX12_isInKind_254 (by constructor <;> omega) ?_
              refine gx_lload 6 dX12_isInKind_255 rfl ?_
              refine gy_lsub dX12_isInKind_257 ?_
              refine gx_callS (c_X12_square l D cI cL cR lo h hi ((Nf (6 * s + 4)) - z)) ok_X12_square mw_3_88 mw_3_89 dX12_isInKind_258 rfl rfl (Nat.le_of_ble_eq_true rfl) (by first | exact Nat.le_of_ble_eq_true rfl | (simp only [rM]; omega)) (by first | exact Nat.le_of_ble_eq_true rfl | (simp only [rM]; omega)) (by first | exact Nat.le_of_ble_eq_true rfl | (simp only [rM]; omega)) (by first | exact Nat.le_of_ble_eq_true rfl | (simp only [rM]; omega)) (fun r56 h57 u58 q59 g60 => ?_)
              obtain ⟨rfl, rfl, rfl⟩ := q59
              refine ch_Gst (st2 := [.long (lI (sqI ((Nf (6 * s + 4)) - z))), .long (lI ((Nf (6 * s + 2)) * (Nf (6 * s + 2)))), .long (lI (((sqI (x - (Nf (6 * s)))) + (sqI (y - (Nf (6 * s + 1))))) * (sqI ((Nf (6 * s + 4)) - (Nf (6 * s + 3))))))]) rfl ?_
              refine gy_lmul dX12_isInKind_261 ?_
              refine gy_lcmp_gt 270 dX12_isInKind_262 dX12_isInKind_263 (by decide) (by constructor <;> omega) (by constructor <;> omega) (fun c262 => ?_) (fun c262 => ?_)
              · refine gx_iconst (iI 0) dX12_isInKind_270 rfl ?_
                refine gx_zret rfl rfl dX12_isInKind_271 (by first | exact Nat.le_of_ble_eq_true rfl | (simp only [rM]; omega)) (by first | exact Nat.le_of_ble_eq_true rfl | (simp only [rM]; omega)) ?_
                refine ⟨?_, rfl, rfl⟩
                have e : ikB Kf Nf s x y z = false := by unfold ikB; rw [if_neg (by omega), if_neg (by omega)]; exact decide_eq_false (by omega)
                rw [e]; rfl
              · refine gx_iconst (iI 1) dX12_isInKind_266 rfl ?_
                refine gx_goto 271 dX12_isInKind_267 (by decide) ?_
                refine gx_zret rfl rfl dX12_isInKind_271 (by first | exact Nat.le_of_ble_eq_true rfl | (simp only [rM]; omega)) (by first | exact Nat.le_of_ble_eq_true rfl | (simp only [rM]; omega)) ?_
                refine ⟨?_, rfl, rfl⟩
                have e : ikB Kf Nf s x y z = true := by unfold ikB; rw [if_neg (by omega), if_neg (by omega)]; exact decide_eq_true (by omega)
                rw [e]; rfl
          · refine gx_iconst (iI 0) dX12_isInKind_211 rfl ?_
            refine gx_zret rfl rfl dX12_isInKind_212 (by first | exact Nat.le_of_ble_eq_true rfl | (simp only [rM]; omega)) (by first | exact Nat.le_of_ble_eq_true rfl | (simp only [rM]; omega)) ?_
            refine ⟨?_, rfl, rfl⟩
            have e : ikB Kf Nf s x y z = false := by unfold ikB; rw [if_neg (by omega), if_neg (by omega)]; exact decide_eq_false (by omega)
            rw [e]; rfl
    · refine gx_lload 0 dX12_isInKind_129 rfl ?_
      refine gx_lload 5 dX12_isInKind_131 rfl ?_
      refine gx_aload_n 1 dX12_isInKind_133 rfl rfl ?_
      refine gx_iload_n 2 dX12_isInKind_134 rfl rfl ?_
      refine gx_iconst (iI 2) dX12_isInKind_135 rfl ?_
      refine gx_callV (ci := 11) (c_X12_number l D cI cL cR lo h hi Kf Nf Wf fz n c FB fh ff fl hc sc MM0 s 2 (by omega) (by omega)) ok_X12_number mw_3_80 mw_3_82 mw_p_14 dX12_isInKind_136 rfl M0 rfl rfl (Nat.le_of_ble_eq_true rfl) (by first | exact Nat.le_of_ble_eq_true rfl | (simp only [rM]; omega)) (by first | exact Nat.le_of_ble_eq_true rfl | (simp only [rM]; omega)) (by first | exact Nat.le_of_ble_eq_true rfl | (simp only [rM]; omega)) (by first | exact Nat.le_of_ble_eq_true rfl | (simp only [rM]; omega)) (fun r61 h62 u63 q64 g65 => ?_)
      obtain ⟨rfl, rfl, rfl⟩ := q64
      refine ch_Gst (st2 := [.int (iI (Nf (6 * s + 2))), .long (lI z), .long (lI ((sqI (x - (Nf (6 * s)))) + (sqI (y - (Nf (6 * s + 1))))))]) rfl ?_
      refine gy_i2l dX12_isInKind_139 (by constructor <;> omega) ?_
      refine gy_lsub dX12_isInKind_140 ?_
      refine gx_callS (c_X12_square l D cI cL cR lo h hi (z - (Nf (6 * s + 2)))) ok_X12_square mw_3_88 mw_3_89 dX12_isInKind_141 rfl rfl (Nat.le_of_ble_eq_true rfl) (by first | exact Nat.le_of_ble_eq_true rfl | (simp only [rM]; omega)) (by first | exact Nat.le_of_ble_eq_true rfl | (simp only [rM]; omega)) (by first | exact Nat.le_of_ble_eq_true rfl | (simp only [rM]; omega)) (by first | exact Nat.le_of_ble_eq_true rfl | (simp only [rM]; omega)) (fun r66 h67 u68 q69 g70 => ?_)
      obtain ⟨rfl, rfl, rfl⟩ := q69
      refine ch_Gst (st2 := [.long (lI (sqI (z - (Nf (6 * s + 2))))), .long (lI ((sqI (x - (Nf (6 * s)))) + (sqI (y - (Nf (6 * s + 1))))))]) rfl ?_
      refine gy_ladd dX12_isInKind_144 ?_
      refine gx_aload_n 1 dX12_isInKind_145 rfl rfl ?_
      refine gx_iload_n 2 dX12_isInKind_146 rfl rfl ?_
      refine gx_iconst (iI 3) dX12_isInKind_147 rfl ?_
      refine gx_callV (ci := 11) (c_X12_number l D cI cL cR lo h hi Kf Nf Wf fz n c FB fh ff fl hc sc MM0 s 3 (by omega) (by omega)) ok_X12_number mw_3_80 mw_3_82 mw_p_14 dX12_isInKind_148 rfl M0 rfl rfl (Nat.le_of_ble_eq_true rfl) (by first | exact Nat.le_of_ble_eq_true rfl | (simp only [rM]; omega)) (by first | exact Nat.le_of_ble_eq_true rfl | (simp only [rM]; omega)) (by first | exact Nat.le_of_ble_eq_true rfl | (simp only [rM]; omega)) (by first | exact Nat.le_of_ble_eq_true rfl | (simp only [rM]; omega)) (fun r71 h72 u73 q74 g75 => ?_)
      obtain ⟨rfl, rfl, rfl⟩ := q74
      refine ch_Gst (st2 := [.int (iI (Nf (6 * s + 3))), .long (lI (((sqI (x - (Nf (6 * s)))) + (sqI (y - (Nf (6 * s + 1))))) + (sqI (z - (Nf (6 * s + 2))))))]) rfl ?_
      refine gy_i2l dX12_isInKind_151 (by constructor <;> omega) ?_
      refine gx_callS (c_X12_square l D cI cL cR lo h hi (Nf (6 * s + 3))) ok_X12_square mw_3_88 mw_3_89 dX12_isInKind_152 rfl rfl (Nat.le_of_ble_eq_true rfl) (by first | exact Nat.le_of_ble_eq_true rfl | (simp only [rM]; omega)) (by first | exact Nat.le_of_ble_eq_true rfl | (simp only [rM]; omega)) (by first | exact Nat.le_of_ble_eq_true rfl | (simp only [rM]; omega)) (by first | exact Nat.le_of_ble_eq_true rfl | (simp only [rM]; omega)) (fun r76 h77 u78 q79 g80 => ?_)
      obtain ⟨rfl, rfl, rfl⟩ := q79
      refine ch_Gst (st2 := [.long (lI (sqI (Nf (6 * s + 3)))), .long (lI (((sqI (x - (Nf (6 * s)))) + (sqI (y - (Nf (6 * s + 1))))) + (sqI (z - (Nf (6 * s + 2))))))]) rfl ?_
      refine gy_lcmp_gt 163 dX12_isInKind_155 dX12_isInKind_156 (by decide) (by constructor <;> omega) (by constructor <;> omega) (fun c155 => ?_) (fun c155 => ?_)
      · refine gx_iconst (iI 0) dX12_isInKind_163 rfl ?_
        refine gx_zret rfl rfl dX12_isInKind_164 (by first | exact Nat.le_of_ble_eq_true rfl | (simp only [rM]; omega)) (by first | exact Nat.le_of_ble_eq_true rfl | (simp only [rM]; omega)) ?_
        refine ⟨?_, rfl, rfl⟩
        have e : ikB Kf Nf s x y z = false := by unfold ikB; rw [if_neg (by omega), if_pos (by omega)]; exact decide_eq_false (by omega)
        rw [e]; rfl
      · refine gx_iconst (iI 1) dX12_isInKind_159 rfl ?_
        refine gx_goto 164 dX12_isInKind_160 (by decide) ?_
        refine gx_zret rfl rfl dX12_isInKind_164 (by first | exact Nat.le_of_ble_eq_true rfl | (simp only [rM]; omega)) (by first | exact Nat.le_of_ble_eq_true rfl | (simp only [rM]; omega)) ?_
        refine ⟨?_, rfl, rfl⟩
        have e : ikB Kf Nf s x y z = true := by unfold ikB; rw [if_neg (by omega), if_pos (by omega)]; exact decide_eq_true (by omega)
        rw [e]; rfl
  · refine gx_lload_n 2 dX12_isInKind_9 rfl rfl ?_
    refine gx_aload_n 0 dX12_isInKind_10 rfl rfl ?_
    refine gx_iload_n 1 dX12_isInKind_11 rfl rfl ?_
    refine gx_iconst (iI 0) dX12_isInKind_12 rfl ?_
    refine gx_callV (ci := 11) (c_X12_number l D cI cL cR lo h hi Kf Nf Wf fz n c FB fh ff fl hc sc MM0 s 0 (by omega) (by omega)) ok_X12_number mw_3_80 mw_3_82 mw_p_14 dX12_isInKind_13 rfl M0 rfl rfl (Nat.le_of_ble_eq_true rfl) (by first | exact Nat.le_of_ble_eq_true rfl | (simp only [rM]; omega)) (by first | exact Nat.le_of_ble_eq_true rfl | (simp only [rM]; omega)) (by first | exact Nat.le_of_ble_eq_true rfl | (simp only [rM]; omega)) (by first | exact Nat.le_of_ble_eq_true rfl | (simp only [rM]; omega)) (fun r81 h82 u83 q84 g85 => ?_)
    obtain ⟨rfl, rfl, rfl⟩ := q84
    refine ch_Gst (st2 := [.int (iI (Nf (6 * s))), .long (lI x)]) rfl ?_
    refine gy_i2l dX12_isInKind_16 (by constructor <;> omega) ?_
    refine gy_lcmp_lt 89 dX12_isInKind_17 dX12_isInKind_18 (by decide) (by constructor <;> omega) (by constructor <;> omega) (fun c17 => ?_) (fun c17 => ?_)
    · refine gx_iconst (iI 0) dX12_isInKind_89 rfl ?_
      refine gx_zret rfl rfl dX12_isInKind_90 (by first | exact Nat.le_of_ble_eq_true rfl | (simp only [rM]; omega)) (by first | exact Nat.le_of_ble_eq_true rfl | (simp only [rM]; omega)) ?_
      refine ⟨?_, rfl, rfl⟩
      have e : ikB Kf Nf s x y z = false := by unfold ikB; rw [if_pos c6]; exact decide_eq_false (by omega)
      rw [e]; rfl
    · refine gx_lload 3 dX12_isInKind_21 rfl ?_
      refine gx_aload_n 0 dX12_isInKind_23 rfl rfl ?_
      refine gx_iload_n 1 dX12_isInKind_24 rfl rfl ?_
      refine gx_iconst (iI 1) dX12_isInKind_25 rfl ?_
      refine gx_callV (ci := 11) (c_X12_number l D cI cL cR lo h hi Kf Nf Wf fz n c FB fh ff fl hc sc MM0 s 1 (by omega) (by omega)) ok_X12_number mw_3_80 mw_3_82 mw_p_14 dX12_isInKind_26 rfl M0 rfl rfl (Nat.le_of_ble_eq_true rfl) (by first | exact Nat.le_of_ble_eq_true rfl | (simp only [rM]; omega)) (by first | exact Nat.le_of_ble_eq_true rfl | (simp only [rM]; omega)) (by first | exact Nat.le_of_ble_eq_true rfl | (simp only [rM]; omega)) (by first | exact Nat.le_of_ble_eq_true rfl | (simp only [rM]; omega)) (fun r86 h87 u88 q89 g90 => ?_)
      obtain ⟨rfl, rfl, rfl⟩ := q89
      refine ch_Gst (st2 := [.int (iI (Nf (6 * s + 1))), .long (lI y)]) rfl ?_
      refine gy_i2l dX12_isInKind_29 (by constructor <;> omega) ?_
      refine gy_lcmp_lt 89 dX12_isInKind_30 dX12_isInKind_31 (by decide) (by constructor <;> omega) (by constructor <;> omega) (fun c30 => ?_) (fun c30 => ?_)
      · refine gx_iconst (iI 0) dX12_isInKind_89 rfl ?_
        refine gx_zret rfl rfl dX12_isInKind_90 (by first | exact Nat.le_of_ble_eq_true rfl | (simp only [rM]; omega)) (by first | exact Nat.le_of_ble_eq_true rfl | (simp only [rM]; omega)) ?_
        refine ⟨?_, rfl, rfl⟩
        have e : ikB Kf Nf s x y z = false := by unfold ikB; rw [if_pos c6]; exact decide_eq_false (by omega)
        rw [e]; rfl
      · refine gx_lload 4 dX12_isInKind_34 rfl ?_
        refine gx_aload_n 0 dX12_isInKind_36 rfl rfl ?_
        refine gx_iload_n 1 dX12_isInKind_37 rfl rfl ?_
        refine gx_iconst (iI 2) dX12_isInKind_38 rfl ?_
        refine gx_callV (ci := 11) (c_X12_number l D cI cL cR lo h hi Kf Nf Wf fz n c FB fh ff fl hc sc MM0 s 2 (by omega) (by omega)) ok_X12_number mw_3_80 mw_3_82 mw_p_14 dX12_isInKind_39 rfl M0 rfl rfl (Nat.le_of_ble_eq_true rfl) (by first | exact Nat.le_of_ble_eq_true rfl | (simp only [rM]; omega)) (by first | exact Nat.le_of_ble_eq_true rfl | (simp only [rM]; omega)) (by first | exact Nat.le_of_ble_eq_true rfl | (simp only [rM]; omega)) (by first | exact Nat.le_of_ble_eq_true rfl | (simp only [rM]; omega)) (fun r91 h92 u93 q94 g95 => ?_)
        obtain ⟨rfl, rfl, rfl⟩ := q94
        refine ch_Gst (st2 := [.int (iI (Nf (6 * s + 2))), .long (lI z)]) rfl ?_
        refine gy_i2l dX12_isInKind_42 (by constructor <;> omega) ?_
        refine gy_lcmp_lt 89 dX12_isInKind_43 dX12_isInKind_44 (by decide) (by constructor <;> omega) (by constructor <;> omega) (fun c43 => ?_) (fun c43 => ?_)
        · refine gx_iconst (iI 0) dX12_isInKind_89 rfl ?_
          refine gx_zret rfl rfl dX12_isInKind_90 (by first | exact Nat.le_of_ble_eq_true rfl | (simp only [rM]; omega)) (by first | exact Nat.le_of_ble_eq_true rfl | (simp only [rM]; omega)) ?_
          refine ⟨?_, rfl, rfl⟩
          have e : ikB Kf Nf s x y z = false := by unfold ikB; rw [if_pos c6]; exact decide_eq_false (by omega)
          rw [e]; rfl
        · refine gx_lload_n 2 dX12_isInKind_47 rfl rfl ?_
          refine gx_aload_n 0 dX12_isInKind_48 rfl rfl ?_
          refine gx_iload_n 1 dX12_isInKind_49 rfl rfl ?_
          refine gx_iconst (iI 3) dX12_isInKind_50 rfl ?_
          refine gx_callV (ci := 11) (c_X12_number l D cI cL cR lo h hi Kf Nf Wf fz n c FB fh ff fl hc sc MM0 s 3 (by omega) (by omega)) ok_X12_number mw_3_80 mw_3_82 mw_p_14 dX12_isInKind_51 rfl M0 rfl rfl (Nat.le_of_ble_eq_true rfl) (by first | exact Nat.le_of_ble_eq_true rfl | (simp only [rM]; omega)) (by first | exact Nat.le_of_ble_eq_true rfl | (simp only [rM]; omega)) (by first | exact Nat.le_of_ble_eq_true rfl | (simp only [rM]; omega)) (by first | exact Nat.le_of_ble_eq_true rfl | (simp only [rM]; omega)) (fun r96 h97 u98 q99 g100 => ?_)
          obtain ⟨rfl, rfl, rfl⟩ := q99
          refine ch_Gst (st2 := [.int (iI (Nf (6 * s + 3))), .long (lI x)]) rfl ?_
          refine gy_i2l dX12_isInKind_54 (by constructor <;> omega) ?_
          refine gy_lcmp_ge 89 dX12_isInKind_55 dX12_isInKind_56 (by decide) (by constructor <;> omega) (by constructor <;> omega) (fun c55 => ?_) (fun c55 => ?_)
          · refine gx_iconst (iI 0) dX12_isInKind_89 rfl ?_
            refine gx_zret rfl rfl dX12_isInKind_90 (by first | exact Nat.le_of_ble_eq_true rfl | (simp only [rM]; omega)) (by first | exact Nat.le_of_ble_eq_true rfl | (simp only [rM]; omega)) ?_
            refine ⟨?_, rfl, rfl⟩
            have e : ikB Kf Nf s x y z = false := by unfold ikB; rw [if_pos c6]; exact decide_eq_false (by omega)
            rw [e]; rfl
          · refine gx_lload 3 dX12_isInKind_59 rfl ?_
            refine gx_aload_n 0 dX12_isInKind_61 rfl rfl ?_
            refine gx_iload_n 1 dX12_isInKind_62 rfl rfl ?_
            refine gx_iconst (iI 4) dX12_isInKind_63 rfl ?_
            refine gx_callV (ci := 11) (c_X12_number l D cI cL cR lo h hi Kf Nf Wf fz n c FB fh ff fl hc sc MM0 s 4 (by omega) (by omega)) ok_X12_number mw_3_80 mw_3_82 mw_p_14 dX12_isInKind_64 rfl M0 rfl rfl (Nat.le_of_ble_eq_true rfl) (by first | exact Nat.le_of_ble_eq_true rfl | (simp only [rM]; omega)) (by first | exact Nat.le_of_ble_eq_true rfl | (simp only [rM]; omega)) (by first | exact Nat.le_of_ble_eq_true rfl | (simp only [rM]; omega)) (by first | exact Nat.le_of_ble_eq_true rfl | (simp only [rM]; omega)) (fun r101 h102 u103 q104 g105 => ?_)
            obtain ⟨rfl, rfl, rfl⟩ := q104
            refine ch_Gst (st2 := [.int (iI (Nf (6 * s + 4))), .long (lI y)]) rfl ?_
            refine gy_i2l dX12_isInKind_67 (by constructor <;> omega) ?_
            refine gy_lcmp_ge 89 dX12_isInKind_68 dX12_isInKind_69 (by decide) (by constructor <;> omega) (by constructor <;> omega) (fun c68 => ?_) (fun c68 => ?_)
            · refine gx_iconst (iI 0) dX12_isInKind_89 rfl ?_
              refine gx_zret rfl rfl dX12_isInKind_90 (by first | exact Nat.le_of_ble_eq_true rfl | (simp only [rM]; omega)) (by first | exact Nat.le_of_ble_eq_true rfl | (simp only [rM]; omega)) ?_
              refine ⟨?_, rfl, rfl⟩
              have e : ikB Kf Nf s x y z = false := by unfold ikB; rw [if_pos c6]; exact decide_eq_false (by omega)
              rw [e]; rfl
            · refine gx_lload 4 dX12_isInKind_72 rfl ?_
              refine gx_aload_n 0 dX12_isInKind_74 rfl rfl ?_
              refine gx_iload_n 1 dX12_isInKind_75 rfl rfl ?_
              refine gx_iconst (iI 5) dX12_isInKind_76 rfl ?_
              refine gx_callV (ci := 11) (c_X12_number l D cI cL cR lo h hi Kf Nf Wf fz n c FB fh ff fl hc sc MM0 s 5 (by omega) (by omega)) ok_X12_number mw_3_80 mw_3_82 mw_p_14 dX12_isInKind_77 rfl M0 rfl rfl (Nat.le_of_ble_eq_true rfl) (by first | exact Nat.le_of_ble_eq_true rfl | (simp only [rM]; omega)) (by first | exact Nat.le_of_ble_eq_true rfl | (simp only [rM]; omega)) (by first | exact Nat.le_of_ble_eq_true rfl | (simp only [rM]; omega)) (by first | exact Nat.le_of_ble_eq_true rfl | (simp only [rM]; omega)) (fun r106 h107 u108 q109 g110 => ?_)
              obtain ⟨rfl, rfl, rfl⟩ := q109
              refine ch_Gst (st2 := [.int (iI (Nf (6 * s + 5))), .long (lI z)]) rfl ?_
              refine gy_i2l dX12_isInKind_80 (by constructor <;> omega) ?_
              refine gy_lcmp_ge 89 dX12_isInKind_81 dX12_isInKind_82 (by decide) (by constructor <;> omega) (by constructor <;> omega) (fun c81 => ?_) (fun c81 => ?_)
              · refine gx_iconst (iI 0) dX12_isInKind_89 rfl ?_
                refine gx_zret rfl rfl dX12_isInKind_90 (by first | exact Nat.le_of_ble_eq_true rfl | (simp only [rM]; omega)) (by first | exact Nat.le_of_ble_eq_true rfl | (simp only [rM]; omega)) ?_
                refine ⟨?_, rfl, rfl⟩
                have e : ikB Kf Nf s x y z = false := by unfold ikB; rw [if_pos c6]; exact decide_eq_false (by omega)
                rw [e]; rfl
              · refine gx_iconst (iI 1) dX12_isInKind_85 rfl ?_
                refine gx_goto 90 dX12_isInKind_86 (by decide) ?_
                refine gx_zret rfl rfl dX12_isInKind_90 (by first | exact Nat.le_of_ble_eq_true rfl | (simp only [rM]; omega)) (by first | exact Nat.le_of_ble_eq_true rfl | (simp only [rM]; omega)) ?_
                refine ⟨?_, rfl, rfl⟩
                have e : ikB Kf Nf s x y z = true := by unfold ikB; rw [if_pos c6]; exact decide_eq_true (by omega)
                rw [e]; rfl
theorem wfS_4 {Kf Nf Wf : Nat → Int} {s : Nat} (w : wfS Kf Nf Wf s) (k : Kf s = 4) : Kf s = 4 ∧ 1 ≤ Nf (6 * s) ∧ Nf (6 * s) < s ∧ 1 ≤ Nf (6 * s + 1) ∧ Nf (6 * s + 1) < s ∧ 0 ≤ Nf (6 * s + 2) ∧ Nf (6 * s + 2) ≤ 2 ∧ Wf s = Wf (Nf (6 * s)).toNat + Wf (Nf (6 * s + 1)).toNat + 1 := by
  rcases w.2 with q | q | q | q
  · exact absurd q.1 (by omega)
  · exact q
  · exact absurd q.1 (by omega)
  · exact absurd q.1 (by omega)
theorem wfS_5 {Kf Nf Wf : Nat → Int} {s : Nat} (w : wfS Kf Nf Wf s) (k : Kf s = 5) : 1 ≤ Nf (6 * s + 3) ∧ Nf (6 * s + 3) < s ∧ (-5000 ≤ Nf (6 * s) ∧ Nf (6 * s) ≤ 5000) ∧ (-5000 ≤ Nf (6 * s + 1) ∧ Nf (6 * s + 1) ≤ 5000) ∧ (-5000 ≤ Nf (6 * s + 2) ∧ Nf (6 * s + 2) ≤ 5000) ∧ Wf s = Wf (Nf (6 * s + 3)).toNat + 1 := by
  rcases w.2 with q | q | q | q
  · exact absurd q.1 (by omega)
  · exact absurd q.1 (by omega)
  · exact q.2
  · exact absurd q.1 (by omega)
theorem wfS_6 {Kf Nf Wf : Nat → Int} {s : Nat} (w : wfS Kf Nf Wf s) (k : Kf s = 6) : 1 ≤ Nf (6 * s) ∧ Nf (6 * s) < s ∧ Wf s = Wf (Nf (6 * s)).toNat + 1 := by
  rcases w.2 with q | q | q | q
  · exact absurd q.1 (by omega)
  · exact absurd q.1 (by omega)
  · exact absurd q.1 (by omega)
  · exact q.2
theorem wfS_k {Kf Nf Wf : Nat → Int} {s : Nat} (w : wfS Kf Nf Wf s) (h4 : Kf s ≠ 4) (h5 : Kf s ≠ 5) (h6 : Kf s ≠ 6) : (0 ≤ Kf s ∧ Kf s ≤ 3) ∧ Wf s = 1 ∧ (∀ k, k < 6 → -5000 ≤ Nf (6 * s + k) ∧ Nf (6 * s + k) ≤ 5000) ∧ ((Kf s = 1 ∨ Kf s = 3) → 0 ≤ Nf (6 * s + 2)) ∧ (Kf s = 2 → 0 ≤ Nf (6 * s + 3)) := by
  rcases w.2 with q | q | q | q
  · exact q
  · exact absurd q.1 h4
  · exact absurd q.1 h5
  · exact absurd q.1 h6
theorem inB_4 {Kf Nf : Nat → Int} {s : Nat} {x y z : Int} (k : Kf s = 4) (h1 : (Nf (6 * s)).toNat < s) (h2 : (Nf (6 * s + 1)).toNat < s) : inB Kf Nf s x y z = jnB (Nf (6 * s + 2)) (inB Kf Nf (Nf (6 * s)).toNat x y z) (inB Kf Nf (Nf (6 * s + 1)).toNat x y z) := by
  conv => lhs; rw [inB]
  rw [if_pos k, dif_pos ⟨h1, h2⟩]
theorem inB_5 {Kf Nf : Nat → Int} {s : Nat} {x y z : Int} (k : Kf s = 5) (h1 : (Nf (6 * s + 3)).toNat < s) : inB Kf Nf s x y z = inB Kf Nf (Nf (6 * s + 3)).toNat (x - Nf (6 * s)) (y - Nf (6 * s + 1)) (z - Nf (6 * s + 2)) := by
  conv => lhs; rw [inB]
  rw [if_neg (by omega), if_pos k, dif_pos h1]
theorem inB_6 {Kf Nf : Nat → Int} {s : Nat} {x y z : Int} (k : Kf s = 6) (h1 : (Nf (6 * s)).toNat < s) : inB Kf Nf s x y z = inB Kf Nf (Nf (6 * s)).toNat y (-x) z := by
  conv => lhs; rw [inB]
  rw [if_neg (by omega), if_neg (by omega), if_pos k, dif_pos h1]
theorem inB_k {Kf Nf : Nat → Int} {s : Nat} {x y z : Int} (k : Kf s ≤ 3) : inB Kf Nf s x y z = ikB Kf Nf s x y z := by
  conv => lhs; rw [inB]
  rw [if_neg (by omega), if_neg (by omega), if_neg (by omega)]
theorem kf_in {Kf Nf Wf : Nat → Int} {s : Nat} (w : wfS Kf Nf Wf s) : 0 ≤ Kf s ∧ Kf s ≤ 6 := by
  rcases w.2 with q | q | q | q <;> omega
set_option maxHeartbeats 4000000 in
set_option maxRecDepth 100000 in
theorem c_X12_isIn (l : Launch) (D : va_G) (cI cL cR : ClassId) (lo : Nat) (h : ch_H) (hi : Nat) (Kf Nf Wf fz : Nat → Int) (n : Nat) (c : Int) (FB : Nat → Int64) (fh ff fl : Nat → Int) (hc sc : Int) (MM : mmP cI cL lo h Kf Nf Wf fz n c FB fh ff fl hc sc) (hn : n ≤ 60) (HW : ∀ s, 1 ≤ s → s ≤ n → wfS Kf Nf Wf s) : ∀ (s : Nat), 1 ≤ s → s ≤ n → ∀ (x y z : Int), (-400000 + 5000 * (s : Int) ≤ x ∧ x ≤ 400000 - 5000 * (s : Int)) → (-400000 + 5000 * (s : Int) ≤ y ∧ y ≤ 400000 - 5000 * (s : Int)) → (-800000 + 5000 * (s : Int) ≤ z ∧ z ≤ 800000 - 5000 * (s : Int)) → ch_C l (eE D cI cL cR lo) M_X12_isIn (rM (s + 3) 0 0) [.ref (lo + 17), .int (iI (s : Int)), .long (lI x), .long (lI y), .long (lI z)] h hi (fun r0 h2 hi2 => r0 = some (.int (iI (bI (inB Kf Nf s x y z)))) ∧ h = h2 ∧ hi = hi2) := by
  intro s
  induction s using Nat.strongRecOn with
  | ind s ih =>
    intro h1s h2s x y z hx hy hz
    refine ch_C.of rfl (Nat.le_of_ble_eq_true rfl) ?_
    have MM0 := MM
    obtain ⟨M0, M1, M2, M3, M4, M5, M6, M7, M8⟩ := MM
    have hwf := HW s h1s h2s
    obtain ⟨hWs, hk⟩ := hwf
    have hkf := kf_in (HW s h1s h2s)
    refine gx_aload_n 0 dX12_isIn_0 rfl rfl ?_
    refine gx_get (ci := 11) (f := 0) (C := RX12) (T := TX12) (N := 12) rfl inX12 (by decide) mw_3_1 dX12_isIn_1 M0 rfl ?_
    refine gx_iload_n 1 dX12_isIn_4 rfl rfl ?_
    refine gy_iald dX12_isIn_5 M1 (by omega) (by omega) (by decide) ?_
    refine ch_Gst (st2 := [.int (iI (Kf s))]) (by rw [Int.toNat_natCast]; try rfl) ?_
    by_cases w6_4 : Kf s = 4
    · refine gy_tin 4 w6_4 32 dX12_isIn_6 (by decide) (by decide) (by decide) rfl (by decide) ?_
      obtain ⟨k4, a1, a2, b1, b2, c1, c2, hw4⟩ := wfS_4 (HW s h1s h2s) w6_4
      refine gx_aload_n 0 dX12_isIn_32 rfl rfl ?_
      refine gx_aload_n 0 dX12_isIn_33 rfl rfl ?_
      refine gx_iload_n 1 dX12_isIn_34 rfl rfl ?_
      refine gx_iconst (iI 0) dX12_isIn_35 rfl ?_
      refine gx_callV (ci := 11) (c_X12_number l D cI cL cR lo h hi Kf Nf Wf fz n c FB fh ff fl hc sc MM0 s 0 (by omega) (by omega)) ok_X12_number mw_3_80 mw_3_82 mw_p_14 dX12_isIn_36 rfl M0 rfl rfl (Nat.le_of_ble_eq_true rfl) (by first | exact Nat.le_of_ble_eq_true rfl | (simp only [rM]; omega)) (by first | exact Nat.le_of_ble_eq_true rfl | (simp only [rM]; omega)) (by first | exact Nat.le_of_ble_eq_true rfl | (simp only [rM]; omega)) (by first | exact Nat.le_of_ble_eq_true rfl | (simp only [rM]; omega)) (fun r1 h2 u3 q4 g5 => ?_)
      obtain ⟨rfl, rfl, rfl⟩ := q4
      refine ch_Gst (st2 := [.int (iI (Nf (6 * s))), .ref (lo + 17)]) rfl ?_
      refine gx_lload_n 2 dX12_isIn_39 rfl rfl ?_
      refine gx_lload 3 dX12_isIn_40 rfl ?_
      refine gx_lload 4 dX12_isIn_42 rfl ?_
      refine ch_Gst (st2 := [.long (lI z), .long (lI y), .long (lI x), .int (iI ((Nf (6 * s)).toNat : Int)), .ref (lo + 17)]) (by rw [Int.toNat_of_nonneg (show 0 ≤ Nf (6 * s) by omega)]) ?_
      refine gx_callV (ci := 11) (ih (Nf (6 * s)).toNat (by omega) (by omega) (by omega) x y z (by omega) (by omega) (by omega)) ok_X12_isIn mw_3_76 mw_3_78 mw_p_13 dX12_isIn_44 rfl M0 rfl rfl (Nat.le_of_ble_eq_true rfl) (by first | exact Nat.le_of_ble_eq_true rfl | (simp only [rM]; omega)) (by first | exact Nat.le_of_ble_eq_true rfl | (simp only [rM]; omega)) (by first | exact Nat.le_of_ble_eq_true rfl | (simp only [rM]; omega)) (by first | exact Nat.le_of_ble_eq_true rfl | (simp only [rM]; omega)) (fun r6 h7 u8 q9 g10 => ?_)
      obtain ⟨rfl, rfl, rfl⟩ := q9
      refine ch_Gst (st2 := [.int (iI (bI (inB Kf Nf (Nf (6 * s)).toNat x y z)))]) rfl ?_
      refine gx_istore [(8, .int (iI (bI (inB Kf Nf (Nf (6 * s)).toNat x y z)))), (0, .ref (lo + 17)), (1, .int (iI (s : Int))), (2, .long (lI x)), (4, .long (lI y)), (6, .long (lI z))] dX12_isIn_47 (by decide) rfl ?_
      refine gx_aload_n 1 dX12_isIn_49 rfl rfl ?_
      refine gx_aload_n 1 dX12_isIn_50 rfl rfl ?_
      refine gx_iload_n 2 dX12_isIn_51 rfl rfl ?_
      refine gx_iconst (iI 1) dX12_isIn_52 rfl ?_
      refine gx_callV (ci := 11) (c_X12_number l D cI cL cR lo h hi Kf Nf Wf fz n c FB fh ff fl hc sc MM0 s 1 (by omega) (by omega)) ok_X12_number mw_3_80 mw_3_82 mw_p_14 dX12_isIn_53 rfl M0 rfl rfl (Nat.le_of_ble_eq_true rfl) (by first | exact Nat.le_of_ble_eq_true rfl | (simp only [rM]; omega)) (by first | exact Nat.le_of_ble_eq_true rfl | (simp only [rM]; omega)) (by first | exact Nat.le_of_ble_eq_true rfl | (simp only [rM]; omega)) (by first | exact Nat.le_of_ble_eq_true rfl | (simp only [rM]; omega)) (fun r11 h12 u13 q14 g15 => ?_)
      obtain ⟨rfl, rfl, rfl⟩ := q14
      refine ch_Gst (st2 := [.int (iI (Nf (6 * s + 1))), .ref (lo + 17)]) rfl ?_
      refine gx_lload_n 3 dX12_isIn_56 rfl rfl ?_
      refine gx_lload 4 dX12_isIn_57 rfl ?_
      refine gx_lload 5 dX12_isIn_59 rfl ?_
      refine ch_Gst (st2 := [.long (lI z), .long (lI y), .long (lI x), .int (iI ((Nf (6 * s + 1)).toNat : Int)), .ref (lo + 17)]) (by rw [Int.toNat_of_nonneg (show 0 ≤ Nf (6 * s + 1) by omega)]) ?_
      refine gx_callV (ci := 11) (ih (Nf (6 * s + 1)).toNat (by omega) (by omega) (by omega) x y z (by omega) (by omega) (by omega)) ok_X12_isIn mw_3_76 mw_3_78 mw_p_13 dX12_isIn_61 rfl M0 rfl rfl (Nat.le_of_ble_eq_true rfl) (by first | exact Nat.le_of_ble_eq_true rfl | (simp only [rM]; omega)) (by first | exact Nat.le_of_ble_eq_true rfl | (simp only [rM]; omega)) (by first | exact Nat.le_of_ble_eq_true rfl | (simp only [rM]; omega)) (by first | exact Nat.le_of_ble_eq_true rfl | (simp only [rM]; omega)) (fun r16 h17 u18 q19 g20 => ?_)
      obtain ⟨rfl, rfl, rfl⟩ := q19
      refine ch_Gst (st2 := [.int (iI (bI (inB Kf Nf (Nf (6 * s + 1)).toNat x y z)))]) rfl ?_
      refine gx_istore [(9, .int (iI (bI (inB Kf Nf (Nf (6 * s + 1)).toNat x y z)))), (8, .int (iI (bI (inB Kf Nf (Nf (6 * s)).toNat x y z)))), (0, .ref (lo + 17)), (1, .int (iI (s : Int))), (2, .long (lI x)), (4, .long (lI y)), (6, .long (lI z))] dX12_isIn_64 (by decide) rfl ?_
      refine gx_aload_n 2 dX12_isIn_66 rfl rfl ?_
      refine gx_iload_n 3 dX12_isIn_67 rfl rfl ?_
      refine gx_iconst (iI 2) dX12_isIn_68 rfl ?_
      refine gx_callV (ci := 11) (c_X12_number l D cI cL cR lo h hi Kf Nf Wf fz n c FB fh ff fl hc sc MM0 s 2 (by omega) (by omega)) ok_X12_number mw_3_80 mw_3_82 mw_p_14 dX12_isIn_69 rfl M0 rfl rfl (Nat.le_of_ble_eq_true rfl) (by first | exact Nat.le_of_ble_eq_true rfl | (simp only [rM]; omega)) (by first | exact Nat.le_of_ble_eq_true rfl | (simp only [rM]; omega)) (by first | exact Nat.le_of_ble_eq_true rfl | (simp only [rM]; omega)) (by first | exact Nat.le_of_ble_eq_true rfl | (simp only [rM]; omega)) (fun r21 h22 u23 q24 g25 => ?_)
      obtain ⟨rfl, rfl, rfl⟩ := q24
      refine ch_Gst (st2 := [.int (iI (Nf (6 * s + 2)))]) rfl ?_
      refine gy_if_ne 93 dX12_isIn_72 (by decide) (by constructor <;> omega) (fun c72 => ?_) (fun c72 => ?_)
      · refine gx_aload_n 2 dX12_isIn_93 rfl rfl ?_
        refine gx_iload_n 3 dX12_isIn_94 rfl rfl ?_
        refine gx_iconst (iI 2) dX12_isIn_95 rfl ?_
        refine gx_callV (ci := 11) (c_X12_number l D cI cL cR lo h hi Kf Nf Wf fz n c FB fh ff fl hc sc MM0 s 2 (by omega) (by omega)) ok_X12_number mw_3_80 mw_3_82 mw_p_14 dX12_isIn_96 rfl M0 rfl rfl (Nat.le_of_ble_eq_true rfl) (by first | exact Nat.le_of_ble_eq_true rfl | (simp only [rM]; omega)) (by first | exact Nat.le_of_ble_eq_true rfl | (simp only [rM]; omega)) (by first | exact Nat.le_of_ble_eq_true rfl | (simp only [rM]; omega)) (by first | exact Nat.le_of_ble_eq_true rfl | (simp only [rM]; omega)) (fun r26 h27 u28 q29 g30 => ?_)
        obtain ⟨rfl, rfl, rfl⟩ := q29
        refine ch_Gst (st2 := [.int (iI (Nf (6 * s + 2)))]) rfl ?_
        refine gx_iconst (iI 1) dX12_isIn_99 rfl ?_
        refine gy_icmp_ne 121 dX12_isIn_100 (by decide) (by constructor <;> omega) (by decide) (fun c100 => ?_) (fun c100 => ?_)
        · refine gx_iload 1 dX12_isIn_121 rfl ?_
          refine gy_if_eq 135 dX12_isIn_123 (by decide) ir_bI (fun c123 => ?_) (fun c123 => ?_)
          · refine gx_iconst (iI 0) dX12_isIn_135 rfl ?_
            refine gx_zret rfl rfl dX12_isIn_136 (by first | exact Nat.le_of_ble_eq_true rfl | (simp only [rM]; omega)) (by first | exact Nat.le_of_ble_eq_true rfl | (simp only [rM]; omega)) ?_
            refine ⟨?_, rfl, rfl⟩
            rw [inB_4 w6_4 (by omega) (by omega)]
            generalize inB Kf Nf (Nf (6 * s)).toNat x y z = p at *
            generalize inB Kf Nf (Nf (6 * s + 1)).toNat x y z = q at *
            rw [jnB, if_neg (by omega), if_neg (by omega)]
            clear ih
            revert c123; cases p <;> cases q <;> decide
          · refine gx_iload 0 dX12_isIn_126 rfl ?_
            refine gy_if_ne 135 dX12_isIn_128 (by decide) ir_bI (fun c128 => ?_) (fun c128 => ?_)
            · refine gx_iconst (iI 0) dX12_isIn_135 rfl ?_
              refine gx_zret rfl rfl dX12_isIn_136 (by first | exact Nat.le_of_ble_eq_true rfl | (simp only [rM]; omega)) (by first | exact Nat.le_of_ble_eq_true rfl | (simp only [rM]; omega)) ?_
              refine ⟨?_, rfl, rfl⟩
              rw [inB_4 w6_4 (by omega) (by omega)]
              generalize inB Kf Nf (Nf (6 * s)).toNat x y z = p at *
              generalize inB Kf Nf (Nf (6 * s + 1)).toNat x y z = q at *
              rw [jnB, if_neg (by omega), if_neg (by omega)]
              clear ih
              revert c123 c128; cases p <;> cases q <;> decide
            · refine gx_iconst (iI 1) dX12_isIn_131 rfl ?_
              refine gx_goto 136 dX12_isIn_132 (by decide) ?_
              refine gx_zret rfl rfl dX12_isIn_136 (by first | exact Nat.le_of_ble_eq_true rfl | (simp only [rM]; omega)) (by first | exact Nat.le_of_ble_eq_true rfl | (simp only [rM]; omega)) ?_
              refine ⟨?_, rfl, rfl⟩
              rw [inB_4 w6_4 (by omega) (by omega)]
              generalize inB Kf Nf (Nf (6 * s)).toNat x y z = p at *
              generalize inB Kf Nf (Nf (6 * s + 1)).toNat x y z = q at *
              rw [jnB, if_neg (by omega), if_neg (by omega)]
              clear ih
              revert c123 c128; cases p <;> cases q <;> decide
        · refine gx_iload 1 dX12_isIn_103 rfl ?_
          refine gy_if_eq 117 dX12_isIn_105 (by decide) ir_bI (fun c105 => ?_) (fun c105 => ?_)
          · refine gx_iconst (iI 0) dX12_isIn_117 rfl ?_
            refine gx_goto 136 dX12_isIn_118 (by decide) ?_
            refine gx_zret rfl rfl dX12_isIn_136 (by first | exact Nat.le_of_ble_eq_true rfl | (simp only [rM]; omega)) (by first | exact Nat.le_of_ble_eq_true rfl | (simp only [rM]; omega)) ?_
            refine ⟨?_, rfl, rfl⟩
            rw [inB_4 w6_4 (by omega) (by omega)]
            generalize inB Kf Nf (Nf (6 * s)).toNat x y z = p at *
            generalize inB Kf Nf (Nf (6 * s + 1)).toNat x y z = q at *
            rw [jnB, if_neg (by omega), if_pos (by omega)]
            clear ih
            revert c105; cases p <;> cases q <;> decide
          · refine gx_iload 0 dX12_isIn_108 rfl ?_
            refine gy_if_eq 117 dX12_isIn_110 (by decide) ir_bI (fun c110 => ?_) (fun c110 => ?_)
            · refine gx_iconst (iI 0) dX12_isIn_117 rfl ?_
              refine gx_goto 136 dX12_isIn_118 (by decide) ?_
              refine gx_zret rfl rfl dX12_isIn_136 (by first | exact Nat.le_of_ble_eq_true rfl | (simp only [rM]; omega)) (by first | exact Nat.le_of_ble_eq_true rfl | (simp only [rM]; omega)) ?_
              refine ⟨?_, rfl, rfl⟩
              rw [inB_4 w6_4 (by omega) (by omega)]
              generalize inB Kf Nf (Nf (6 * s)).toNat x y z = p at *
              generalize inB Kf Nf (Nf (6 * s + 1)).toNat x y z = q at *
              rw [jnB, if_neg (by omega), if_pos (by omega)]
              clear ih
              revert c105 c110; cases p <;> cases q <;> decide
            · refine gx_iconst (iI 1) dX12_isIn_113 rfl ?_
              refine gx_goto 136 dX12_isIn_114 (by decide) ?_
              refine gx_zret rfl rfl dX12_isIn_136 (by first | exact Nat.le_of_ble_eq_true rfl | (simp only [rM]; omega)) (by first | exact Nat.le_of_ble_eq_true rfl | (simp only [rM]; omega)) ?_
              refine ⟨?_, rfl, rfl⟩
              rw [inB_4 w6_4 (by omega) (by omega)]
              generalize inB Kf Nf (Nf (6 * s)).toNat x y z = p at *
              generalize inB Kf Nf (Nf (6 * s + 1)).toNat x y z = q at *
              rw [jnB, if_neg (by omega), if_pos (by omega)]
              clear ih
              revert c105 c110; cases p <;> cases q <;> decide
      · refine gx_iload 1 dX12_isIn_75 rfl ?_
        refine gy_if_ne 85 dX12_isIn_77 (by decide) ir_bI (fun c77 => ?_) (fun c77 => ?_)
        · refine gx_iconst (iI 1) dX12_isIn_85 rfl ?_
          refine gx_goto 136 dX12_isIn_86 (by decide) ?_
          refine gx_zret rfl rfl dX12_isIn_136 (by first | exact Nat.le_of_ble_eq_true rfl | (simp only [rM]; omega)) (by first | exact Nat.le_of_ble_eq_true rfl | (simp only [rM]; omega)) ?_
          refine ⟨?_, rfl, rfl⟩
          rw [inB_4 w6_4 (by omega) (by omega)]
          generalize inB Kf Nf (Nf (6 * s)).toNat x y z = p at *
          generalize inB Kf Nf (Nf (6 * s + 1)).toNat x y z = q at *
          rw [jnB, if_pos c72]
          clear ih
          revert c77; cases p <;> cases q <;> decide
        · refine gx_iload 0 dX12_isIn_80 rfl ?_
          refine gy_if_eq 89 dX12_isIn_82 (by decide) ir_bI (fun c82 => ?_) (fun c82 => ?_)
          · refine gx_iconst (iI 0) dX12_isIn_89 rfl ?_
            refine gx_goto 136 dX12_isIn_90 (by decide) ?_
            refine gx_zret rfl rfl dX12_isIn_136 (by first | exact Nat.le_of_ble_eq_true rfl | (simp only [rM]; omega)) (by first | exact Nat.le_of_ble_eq_true rfl | (simp only [rM]; omega)) ?_
            refine ⟨?_, rfl, rfl⟩
            rw [inB_4 w6_4 (by omega) (by omega)]
            generalize inB Kf Nf (Nf (6 * s)).toNat x y z = p at *
            generalize inB Kf Nf (Nf (6 * s + 1)).toNat x y z = q at *
            rw [jnB, if_pos c72]
            clear ih
            revert c77 c82; cases p <;> cases q <;> decide
          · refine gx_iconst (iI 1) dX12_isIn_85 rfl ?_
            refine gx_goto 136 dX12_isIn_86 (by decide) ?_
            refine gx_zret rfl rfl dX12_isIn_136 (by first | exact Nat.le_of_ble_eq_true rfl | (simp only [rM]; omega)) (by first | exact Nat.le_of_ble_eq_true rfl | (simp only [rM]; omega)) ?_
            refine ⟨?_, rfl, rfl⟩
            rw [inB_4 w6_4 (by omega) (by omega)]
            generalize inB Kf Nf (Nf (6 * s)).toNat x y z = p at *
            generalize inB Kf Nf (Nf (6 * s + 1)).toNat x y z = q at *
            rw [jnB, if_pos c72]
            clear ih
            revert c77 c82; cases p <;> cases q <;> decide
    · skip
      by_cases w6_5 : Kf s = 5
      · refine gy_tin 5 w6_5 137 dX12_isIn_6 (by decide) (by decide) (by decide) rfl (by decide) ?_
        obtain ⟨a1, a2, m0, m1, m2, hw4⟩ := wfS_5 (HW s h1s h2s) w6_5
        refine gx_aload_n 0 dX12_isIn_137 rfl rfl ?_
        refine gx_aload_n 0 dX12_isIn_138 rfl rfl ?_
        refine gx_iload_n 1 dX12_isIn_139 rfl rfl ?_
        refine gx_iconst (iI 3) dX12_isIn_140 rfl ?_
        refine gx_callV (ci := 11) (c_X12_number l D cI cL cR lo h hi Kf Nf Wf fz n c FB fh ff fl hc sc MM0 s 3 (by omega) (by omega)) ok_X12_number mw_3_80 mw_3_82 mw_p_14 dX12_isIn_141 rfl M0 rfl rfl (Nat.le_of_ble_eq_true rfl) (by first | exact Nat.le_of_ble_eq_true rfl | (simp only [rM]; omega)) (by first | exact Nat.le_of_ble_eq_true rfl | (simp only [rM]; omega)) (by first | exact Nat.le_of_ble_eq_true rfl | (simp only [rM]; omega)) (by first | exact Nat.le_of_ble_eq_true rfl | (simp only [rM]; omega)) (fun r31 h32 u33 q34 g35 => ?_)
        obtain ⟨rfl, rfl, rfl⟩ := q34
        refine ch_Gst (st2 := [.int (iI (Nf (6 * s + 3))), .ref (lo + 17)]) rfl ?_
        refine gx_lload_n 2 dX12_isIn_144 rfl rfl ?_
        refine gx_aload_n 0 dX12_isIn_145 rfl rfl ?_
        refine gx_iload_n 1 dX12_isIn_146 rfl rfl ?_
        refine gx_iconst (iI 0) dX12_isIn_147 rfl ?_
        refine gx_callV (ci := 11) (c_X12_number l D cI cL cR lo h hi Kf Nf Wf fz n c FB fh ff fl hc sc MM0 s 0 (by omega) (by omega)) ok_X12_number mw_3_80 mw_3_82 mw_p_14 dX12_isIn_148 rfl M0 rfl rfl (Nat.le_of_ble_eq_true rfl) (by first | exact Nat.le_of_ble_eq_true rfl | (simp only [rM]; omega)) (by first | exact Nat.le_of_ble_eq_true rfl | (simp only [rM]; omega)) (by first | exact Nat.le_of_ble_eq_true rfl | (simp only [rM]; omega)) (by first | exact Nat.le_of_ble_eq_true rfl | (simp only [rM]; omega)) (fun r36 h37 u38 q39 g40 => ?_)
        obtain ⟨rfl, rfl, rfl⟩ := q39
        refine ch_Gst (st2 := [.int (iI (Nf (6 * s))), .long (lI x), .int (iI (Nf (6 * s + 3))), .ref (lo + 17)]) rfl ?_
        refine gy_i2l dX12_isIn_151 (by constructor <;> omega) ?_
        refine gy_lsub dX12_isIn_152 ?_
        refine gx_lload 3 dX12_isIn_153 rfl ?_
        refine gx_aload_n 0 dX12_isIn_155 rfl rfl ?_
        refine gx_iload_n 1 dX12_isIn_156 rfl rfl ?_
        refine gx_iconst (iI 1) dX12_isIn_157 rfl ?_
        refine gx_callV (ci := 11) (c_X12_number l D cI cL cR lo h hi Kf Nf Wf fz n c FB fh ff fl hc sc MM0 s 1 (by omega) (by omega)) ok_X12_number mw_3_80 mw_3_82 mw_p_14 dX12_isIn_158 rfl M0 rfl rfl (Nat.le_of_ble_eq_true rfl) (by first | exact Nat.le_of_ble_eq_true rfl | (simp only [rM]; omega)) (by first | exact Nat.le_of_ble_eq_true rfl | (simp only [rM]; omega)) (by first | exact Nat.le_of_ble_eq_true rfl | (simp only [rM]; omega)) (by first | exact Nat.le_of_ble_eq_true rfl | (simp only [rM]; omega)) (fun r41 h42 u43 q44 g45 => ?_)
        obtain ⟨rfl, rfl, rfl⟩ := q44
        refine ch_Gst (st2 := [.int (iI (Nf (6 * s + 1))), .long (lI y), .long (lI (x - (Nf (6 * s)))), .int (iI (Nf (6 * s + 3))), .ref (lo + 17)]) rfl ?_
        refine gy_i2l dX12_isIn_161 (by constructor <;> omega) ?_
        refine gy_lsub dX12_isIn_162 ?_
        refine gx_lload 4 dX12_isIn_163 rfl ?_
        refine gx_aload_n 0 dX12_isIn_165 rfl rfl ?_
        refine gx_iload_n 1 dX12_isIn_166 rfl rfl ?_
        refine gx_iconst (iI 2) dX12_isIn_167 rfl ?_
        refine gx_callV (ci := 11) (c_X12_number l D cI cL cR lo h hi Kf Nf Wf fz n c FB fh ff fl hc sc MM0 s 2 (by omega) (by omega)) ok_X12_number mw_3_80 mw_3_82 mw_p_14 dX12_isIn_168 rfl M0 rfl rfl (Nat.le_of_ble_eq_true rfl) (by first | exact Nat.le_of_ble_eq_true rfl | (simp only [rM]; omega)) (by first | exact Nat.le_of_ble_eq_true rfl | (simp only [rM]; omega)) (by first | exact Nat.le_of_ble_eq_true rfl | (simp only [rM]; omega)) (by first | exact Nat.le_of_ble_eq_true rfl | (simp only [rM]; omega)) (fun r46 h47 u48 q49 g50 => ?_)
        obtain ⟨rfl, rfl, rfl⟩ := q49
        refine ch_Gst (st2 := [.int (iI (Nf (6 * s + 2))), .long (lI z), .long (lI (y - (Nf (6 * s + 1)))), .long (lI (x - (Nf (6 * s)))), .int (iI (Nf (6 * s + 3))), .ref (lo + 17)]) rfl ?_
        refine gy_i2l dX12_isIn_171 (by constructor <;> omega) ?_
        refine gy_lsub dX12_isIn_172 ?_
        refine ch_Gst (st2 := [.long (lI (z - (Nf (6 * s + 2)))), .long (lI (y - (Nf (6 * s + 1)))), .long (lI (x - (Nf (6 * s)))), .int (iI ((Nf (6 * s + 3)).toNat : Int)), .ref (lo + 17)]) (by rw [Int.toNat_of_nonneg (show 0 ≤ Nf (6 * s + 3) by omega)]) ?_
        refine gx_callV (ci := 11) (ih (Nf (6 * s + 3)).toNat (by omega) (by omega) (by omega) (x - (Nf (6 * s))) (y - (Nf (6 * s + 1))) (z - (Nf (6 * s + 2))) (by omega) (by omega) (by omega)) ok_X12_isIn mw_3_76 mw_3_78 mw_p_13 dX12_isIn_173 rfl M0 rfl rfl (Nat.le_of_ble_eq_true rfl) (by first | exact Nat.le_of_ble_eq_true rfl | (simp only [rM]; omega)) (by first | exact Nat.le_of_ble_eq_true rfl | (simp only [rM]; omega)) (by first | exact Nat.le_of_ble_eq_true rfl | (simp only [rM]; omega)) (by first | exact Nat.le_of_ble_eq_true rfl | (simp only [rM]; omega)) (fun r51 h52 u53 q54 g55 => ?_)
        obtain ⟨rfl, rfl, rfl⟩ := q54
        refine ch_Gst (st2 := [.int (iI (bI (inB Kf Nf (Nf (6 * s + 3)).toNat (x - (Nf (6 * s))) (y - (Nf (6 * s + 1))) (z - (Nf (6 * s + 2))))))]) rfl ?_
        refine gx_zret rfl iI_bI dX12_isIn_176 (by first | exact Nat.le_of_ble_eq_true rfl | (simp only [rM]; omega)) (by first | exact Nat.le_of_ble_eq_true rfl | (simp only [rM]; omega)) ?_
        exact ⟨by rw [inB_5 w6_5 (by omega)], rfl, rfl⟩
      · skip
        by_cases w6_6 : Kf s = 6
        · refine gy_tin 6 w6_6 177 dX12_isIn_6 (by decide) (by decide) (by decide) rfl (by decide) ?_
          obtain ⟨a1, a2, hw4⟩ := wfS_6 (HW s h1s h2s) w6_6
          refine gx_aload_n 0 dX12_isIn_177 rfl rfl ?_
          refine gx_aload_n 0 dX12_isIn_178 rfl rfl ?_
          refine gx_iload_n 1 dX12_isIn_179 rfl rfl ?_
          refine gx_iconst (iI 0) dX12_isIn_180 rfl ?_
          refine gx_callV (ci := 11) (c_X12_number l D cI cL cR lo h hi Kf Nf Wf fz n c FB fh ff fl hc sc MM0 s 0 (by omega) (by omega)) ok_X12_number mw_3_80 mw_3_82 mw_p_14 dX12_isIn_181 rfl M0 rfl rfl (Nat.le_of_ble_eq_true rfl) (by first | exact Nat.le_of_ble_eq_true rfl | (simp only [rM]; omega)) (by first | exact Nat.le_of_ble_eq_true rfl | (simp only [rM]; omega)) (by first | exact Nat.le_of_ble_eq_true rfl | (simp only [rM]; omega)) (by first | exact Nat.le_of_ble_eq_true rfl | (simp only [rM]; omega)) (fun r56 h57 u58 q59 g60 => ?_)
          obtain ⟨rfl, rfl, rfl⟩ := q59
          refine ch_Gst (st2 := [.int (iI (Nf (6 * s))), .ref (lo + 17)]) rfl ?_
          refine gx_lload 3 dX12_isIn_184 rfl ?_
          refine gx_lload_n 2 dX12_isIn_186 rfl rfl ?_
          refine gy_lneg dX12_isIn_187 ?_
          refine gx_lload 4 dX12_isIn_188 rfl ?_
          refine ch_Gst (st2 := [.long (lI z), .long (lI (-x)), .long (lI y), .int (iI ((Nf (6 * s)).toNat : Int)), .ref (lo + 17)]) (by rw [Int.toNat_of_nonneg (show 0 ≤ Nf (6 * s) by omega)]) ?_
          refine gx_callV (ci := 11) (ih (Nf (6 * s)).toNat (by omega) (by omega) (by omega) y (-x) z (by omega) (by omega) (by omega)) ok_X12_isIn mw_3_76 mw_3_78 mw_p_13 dX12_isIn_190 rfl M0 rfl rfl (Nat.le_of_ble_eq_true rfl) (by first | exact Nat.le_of_ble_eq_true rfl | (simp only [rM]; omega)) (by first | exact Nat.le_of_ble_eq_true rfl | (simp only [rM]; omega)) (by first | exact Nat.le_of_ble_eq_true rfl | (simp only [rM]; omega)) (by first | exact Nat.le_of_ble_eq_true rfl | (simp only [rM]; omega)) (fun r61 h62 u63 q64 g65 => ?_)
          obtain ⟨rfl, rfl, rfl⟩ := q64
          refine ch_Gst (st2 := [.int (iI (bI (inB Kf Nf (Nf (6 * s)).toNat y (-x) z)))]) rfl ?_
          refine gx_zret rfl iI_bI dX12_isIn_193 (by first | exact Nat.le_of_ble_eq_true rfl | (simp only [rM]; omega)) (by first | exact Nat.le_of_ble_eq_true rfl | (simp only [rM]; omega)) ?_
          exact ⟨by rw [inB_6 w6_6 (by omega)], rfl, rfl⟩
        · skip
          refine gy_tout 194 dX12_isIn_6 (by constructor <;> omega) (by omega) (by decide) ?_
          have hkk := wfS_k (HW s h1s h2s) (by omega) (by omega) (by omega)
          refine gx_aload_n 0 dX12_isIn_194 rfl rfl ?_
          refine gx_iload_n 1 dX12_isIn_195 rfl rfl ?_
          refine gx_lload_n 2 dX12_isIn_196 rfl rfl ?_
          refine gx_lload 3 dX12_isIn_197 rfl ?_
          refine gx_lload 4 dX12_isIn_199 rfl ?_
          obtain ⟨hk3, hw3, hN, hr1, hr2⟩ := hkk
          refine gx_callV (ci := 11) (c_X12_isInKind l D cI cL cR lo h hi Kf Nf Wf fz n c FB fh ff fl hc sc MM0 s (by omega) hk3 hN x y z (by omega) (by omega) (by omega)) ok_X12_isInKind mw_3_84 mw_3_86 mw_p_15 dX12_isIn_201 rfl M0 rfl rfl (Nat.le_of_ble_eq_true rfl) (by first | exact Nat.le_of_ble_eq_true rfl | (simp only [rM]; omega)) (by first | exact Nat.le_of_ble_eq_true rfl | (simp only [rM]; omega)) (by first | exact Nat.le_of_ble_eq_true rfl | (simp only [rM]; omega)) (by first | exact Nat.le_of_ble_eq_true rfl | (simp only [rM]; omega)) (fun r66 h67 u68 q69 g70 => ?_)
          obtain ⟨rfl, rfl, rfl⟩ := q69
          refine ch_Gst (st2 := [.int (iI (bI (ikB Kf Nf s x y z)))]) rfl ?_
          refine gx_zret rfl iI_bI dX12_isIn_204 (by first | exact Nat.le_of_ble_eq_true rfl | (simp only [rM]; omega)) (by first | exact Nat.le_of_ble_eq_true rfl | (simp only [rM]; omega)) ?_
          exact ⟨by rw [inB_k (by omega)], rfl, rfl⟩
end
