section
set_option maxHeartbeats 4000000 in
set_option maxRecDepth 100000 in
theorem c_X7_init (l : Launch) (D : va_G) (cI cL cR : ClassId) (lo : Nat) (h : ch_H) (hi : Nat) (r : Nat) (hlt : r < hi) (hr : h r = some (.inr (7, [.null, .int (iI 0)]))) : ch_C l (eE D cI cL cR lo) M_X7_init (rM 1 1 100) [.ref r] h hi (fun r0 h2 hi2 => r0 = none ∧ h2 = ch_set (ch_set h hi (aI cI 100 (fun _ => 0))) r (.inr (7, [.ref hi, .int (iI 0)])) ∧ hi + 1 = hi2) := by
  refine ch_C.of rfl (Nat.le_of_ble_eq_true rfl) ?_
  refine gx_aload_n 0 dX7_init_0 rfl rfl ?_
  refine gx_objInit mw_1_82 mw_1_21 mw_1_22 dX7_init_1 (by decide) (Nat.le_of_ble_eq_true rfl) ?_
  refine gx_aload_n 0 dX7_init_4 rfl rfl ?_
  refine gx_bipush (iI 100) dX7_init_5 (by decide) ?_
  refine gy_newi 100 mw_1_54 dX7_init_7 rfl (by decide) (by first | exact Nat.le_of_ble_eq_true rfl | (simp only [rM]; omega)) (by first | exact Nat.le_of_ble_eq_true rfl | (simp only [rM]; omega)) (fun h1 eh1 => ?_)
  have k2 : h1 r = some (.inr (7, [.null, .int (iI 0)])) := by rw [eh1, ch_set_ne (by first | assumption | omega)]; exact hr
  have k3 : h1 hi = some (aI cI 100 (fun _ => 0)) := by rw [eh1]; exact ch_set_self
  refine gy_put (ci := 7) (f := 0) (C := RX7) (T := TX7) (N := 2) (ty := .array (.int)) (fs2 := [.ref hi, .int (iI 0)]) tyX7 rfl inX7 tyX7_ok nmX7 (by decide) mw_1_83 (Or.inr ⟨rfl, rfl, rfl⟩) (by decide +kernel) rfl rfl dX7_init_9 k2 (by simp) rfl (fun h4 eh4 => ?_)
  have k5 : h4 hi = some (aI cI 100 (fun _ => 0)) := by rw [eh4, ch_set_ne (ch_ne k3 k2 (by intro q; cases q))]; exact k3
  have k6 : h4 r = some (.inr (7, [.ref hi, .int (iI 0)])) := by rw [eh4]; exact ch_set_self
  refine gx_aload_n 0 dX7_init_12 rfl rfl ?_
  refine gx_iconst (iI 0) dX7_init_13 rfl ?_
  refine gy_put (ci := 7) (f := 1) (C := RX7) (T := TX7) (N := 2) (ty := .int) (fs2 := [.ref hi, .int (iI 0)]) tyX7 rfl inX7 tyX7_ok nmX7 (by decide) mw_1_84 (Or.inl rfl) (by decide +kernel) rfl rfl dX7_init_14 k6 (by simp) rfl (fun h7 eh7 => ?_)
  have k8 : h7 hi = some (aI cI 100 (fun _ => 0)) := by rw [eh7, ch_set_ne (ch_ne k5 k6 (by intro q; cases q))]; exact k5
  have k9 : h7 r = some (.inr (7, [.ref hi, .int (iI 0)])) := by rw [eh7]; exact ch_set_self
  refine gx_vret rfl dX7_init_17 (by first | exact Nat.le_of_ble_eq_true rfl | (simp only [rM]; omega)) (by first | exact Nat.le_of_ble_eq_true rfl | (simp only [rM]; omega)) ?_
  exact ⟨rfl, by rw [eh7, eh4, eh1]; simp only [ch_set_set], rfl⟩
set_option maxHeartbeats 4000000 in
set_option maxRecDepth 100000 in
theorem c_X3_init (l : Launch) (D : va_G) (cI cL cR : ClassId) (lo : Nat) (h : ch_H) (hi : Nat) (F : Nat) (hlt : F < hi) (hF : h F = some (.inr (3, [.null, .null, .null, .int (iI 0), .int (iI 0)]))) : ch_C l (eE D cI cL cR lo) M_X3_init (rM 1 3 250) [.ref F] h hi (fun r0 h2 hi2 => r0 = none ∧ h2 F = some (.inr (3, [.ref hi, .ref (hi + 1), .ref (hi + 1 + 1), .int (iI 0), .int (iI 0)])) ∧ h2 hi = some (aI cI 100 (fun _ => 0)) ∧ h2 (hi + 1) = some (aI cI 50 (fun _ => 0)) ∧ h2 (hi + 1 + 1) = some (aI cI 100 (fun _ => 0)) ∧ ch_fr [F, hi, hi + 1, hi + 1 + 1] h h2 ∧ hi + 1 + 1 + 1 = hi2) := by
  refine ch_C.of rfl (Nat.le_of_ble_eq_true rfl) ?_
  refine gx_aload_n 0 dX3_init_0 rfl rfl ?_
  refine gx_objInit mw_1_37 mw_1_21 mw_1_22 dX3_init_1 (by decide) (Nat.le_of_ble_eq_true rfl) ?_
  refine gx_aload_n 0 dX3_init_4 rfl rfl ?_
  refine gx_bipush (iI 100) dX3_init_5 (by decide) ?_
  refine gy_newi 100 mw_1_54 dX3_init_7 rfl (by decide) (by first | exact Nat.le_of_ble_eq_true rfl | (simp only [rM]; omega)) (by first | exact Nat.le_of_ble_eq_true rfl | (simp only [rM]; omega)) (fun h1 eh1 => ?_)
  have k2 : h1 F = some (.inr (3, [.null, .null, .null, .int (iI 0), .int (iI 0)])) := by rw [eh1, ch_set_ne (by first | assumption | omega)]; exact hF
  have k3 : h1 hi = some (aI cI 100 (fun _ => 0)) := by rw [eh1]; exact ch_set_self
  refine gy_put (ci := 3) (f := 0) (C := RX3) (T := TX3) (N := 5) (ty := .array (.int)) (fs2 := [.ref hi, .null, .null, .int (iI 0), .int (iI 0)]) tyX3 rfl inX3 tyX3_ok nmX3 (by decide) mw_1_38 (Or.inr ⟨rfl, rfl, rfl⟩) (by decide +kernel) rfl rfl dX3_init_9 k2 (by simp) rfl (fun h4 eh4 => ?_)
  have k5 : h4 hi = some (aI cI 100 (fun _ => 0)) := by rw [eh4, ch_set_ne (ch_ne k3 k2 (by intro q; cases q))]; exact k3
  have k6 : h4 F = some (.inr (3, [.ref hi, .null, .null, .int (iI 0), .int (iI 0)])) := by rw [eh4]; exact ch_set_self
  refine gx_aload_n 0 dX3_init_12 rfl rfl ?_
  refine gx_bipush (iI 50) dX3_init_13 (by decide) ?_
  refine gy_newi 50 mw_1_54 dX3_init_15 rfl (by decide) (by first | exact Nat.le_of_ble_eq_true rfl | (simp only [rM]; omega)) (by first | exact Nat.le_of_ble_eq_true rfl | (simp only [rM]; omega)) (fun h7 eh7 => ?_)
  have k8 : h7 hi = some (aI cI 100 (fun _ => 0)) := by rw [eh7, ch_set_ne (by first | assumption | omega)]; exact k5
  have k9 : h7 F = some (.inr (3, [.ref hi, .null, .null, .int (iI 0), .int (iI 0)])) := by rw [eh7, ch_set_ne (by first | assumption | omega)]; exact k6
  have k10 : h7 (hi + 1) = some (aI cI 50 (fun _ => 0)) := by rw [eh7]; exact ch_set_self
  refine gy_put (ci := 3) (f := 1) (C := RX3) (T := TX3) (N := 5) (ty := .array (.int)) (fs2 := [.ref hi, .ref (hi + 1), .null, .int (iI 0), .int (iI 0)]) tyX3 rfl inX3 tyX3_ok nmX3 (by decide) mw_1_39 (Or.inr ⟨rfl, rfl, rfl⟩) (by decide +kernel) rfl rfl dX3_init_17 k9 (by simp) rfl (fun h11 eh11 => ?_)
  have k12 : h11 hi = some (aI cI 100 (fun _ => 0)) := by rw [eh11, ch_set_ne (ch_ne k8 k9 (by intro q; cases q))]; exact k8
  have k13 : h11 (hi + 1) = some (aI cI 50 (fun _ => 0)) := by rw [eh11, ch_set_ne (ch_ne k10 k9 (by intro q; cases q))]; exact k10
  have k14 : h11 F = some (.inr (3, [.ref hi, .ref (hi + 1), .null, .int (iI 0), .int (iI 0)])) := by rw [eh11]; exact ch_set_self
  refine gx_aload_n 0 dX3_init_20 rfl rfl ?_
  refine gx_bipush (iI 100) dX3_init_21 (by decide) ?_
  refine gy_newi 100 mw_1_54 dX3_init_23 rfl (by decide) (by first | exact Nat.le_of_ble_eq_true rfl | (simp only [rM]; omega)) (by first | exact Nat.le_of_ble_eq_true rfl | (simp only [rM]; omega)) (fun h15 eh15 => ?_)
  have k16 : h15 hi = some (aI cI 100 (fun _ => 0)) := by rw [eh15, ch_set_ne (by first | assumption | omega)]; exact k12
  have k17 : h15 (hi + 1) = some (aI cI 50 (fun _ => 0)) := by rw [eh15, ch_set_ne (by first | assumption | omega)]; exact k13
  have k18 : h15 F = some (.inr (3, [.ref hi, .ref (hi + 1), .null, .int (iI 0), .int (iI 0)])) := by rw [eh15, ch_set_ne (by first | assumption | omega)]; exact k14
  have k19 : h15 (hi + 1 + 1) = some (aI cI 100 (fun _ => 0)) := by rw [eh15]; exact ch_set_self
  refine gy_put (ci := 3) (f := 2) (C := RX3) (T := TX3) (N := 5) (ty := .array (.int)) (fs2 := [.ref hi, .ref (hi + 1), .ref (hi + 1 + 1), .int (iI 0), .int (iI 0)]) tyX3 rfl inX3 tyX3_ok nmX3 (by decide) mw_1_40 (Or.inr ⟨rfl, rfl, rfl⟩) (by decide +kernel) rfl rfl dX3_init_25 k18 (by simp) rfl (fun h20 eh20 => ?_)
  have k21 : h20 hi = some (aI cI 100 (fun _ => 0)) := by rw [eh20, ch_set_ne (ch_ne k16 k18 (by intro q; cases q))]; exact k16
  have k22 : h20 (hi + 1) = some (aI cI 50 (fun _ => 0)) := by rw [eh20, ch_set_ne (ch_ne k17 k18 (by intro q; cases q))]; exact k17
  have k23 : h20 (hi + 1 + 1) = some (aI cI 100 (fun _ => 0)) := by rw [eh20, ch_set_ne (ch_ne k19 k18 (by intro q; cases q))]; exact k19
  have k24 : h20 F = some (.inr (3, [.ref hi, .ref (hi + 1), .ref (hi + 1 + 1), .int (iI 0), .int (iI 0)])) := by rw [eh20]; exact ch_set_self
  refine gx_aload_n 0 dX3_init_28 rfl rfl ?_
  refine gx_iconst (iI 0) dX3_init_29 rfl ?_
  refine gy_put (ci := 3) (f := 3) (C := RX3) (T := TX3) (N := 5) (ty := .int) (fs2 := [.ref hi, .ref (hi + 1), .ref (hi + 1 + 1), .int (iI 0), .int (iI 0)]) tyX3 rfl inX3 tyX3_ok nmX3 (by decide) mw_1_41 (Or.inl rfl) (by decide +kernel) rfl rfl dX3_init_30 k24 (by simp) rfl (fun h25 eh25 => ?_)
  have k26 : h25 hi = some (aI cI 100 (fun _ => 0)) := by rw [eh25, ch_set_ne (ch_ne k21 k24 (by intro q; cases q))]; exact k21
  have k27 : h25 (hi + 1) = some (aI cI 50 (fun _ => 0)) := by rw [eh25, ch_set_ne (ch_ne k22 k24 (by intro q; cases q))]; exact k22
  have k28 : h25 (hi + 1 + 1) = some (aI cI 100 (fun _ => 0)) := by rw [eh25, ch_set_ne (ch_ne k23 k24 (by intro q; cases q))]; exact k23
  have k29 : h25 F = some (.inr (3, [.ref hi, .ref (hi + 1), .ref (hi + 1 + 1), .int (iI 0), .int (iI 0)])) := by rw [eh25]; exact ch_set_self
  refine gx_aload_n 0 dX3_init_33 rfl rfl ?_
  refine gx_iconst (iI 0) dX3_init_34 rfl ?_
  refine gy_put (ci := 3) (f := 4) (C := RX3) (T := TX3) (N := 5) (ty := .int) (fs2 := [.ref hi, .ref (hi + 1), .ref (hi + 1 + 1), .int (iI 0), .int (iI 0)]) tyX3 rfl inX3 tyX3_ok nmX3 (by decide) mw_1_42 (Or.inl rfl) (by decide +kernel) rfl rfl dX3_init_35 k29 (by simp) rfl (fun h30 eh30 => ?_)
  have k31 : h30 hi = some (aI cI 100 (fun _ => 0)) := by rw [eh30, ch_set_ne (ch_ne k26 k29 (by intro q; cases q))]; exact k26
  have k32 : h30 (hi + 1) = some (aI cI 50 (fun _ => 0)) := by rw [eh30, ch_set_ne (ch_ne k27 k29 (by intro q; cases q))]; exact k27
  have k33 : h30 (hi + 1 + 1) = some (aI cI 100 (fun _ => 0)) := by rw [eh30, ch_set_ne (ch_ne k28 k29 (by intro q; cases q))]; exact k28
  have k34 : h30 F = some (.inr (3, [.ref hi, .ref (hi + 1), .ref (hi + 1 + 1), .int (iI 0), .int (iI 0)])) := by rw [eh30]; exact ch_set_self
  refine gx_vret rfl dX3_init_38 (by first | exact Nat.le_of_ble_eq_true rfl | (simp only [rM]; omega)) (by first | exact Nat.le_of_ble_eq_true rfl | (simp only [rM]; omega)) ?_
  exact ⟨rfl, k34, k31, k32, k33, (by rw [eh30]; exact ch_frS (by rw [eh25]; exact ch_frS (by rw [eh20]; exact ch_frS (by rw [eh15]; exact ch_frS (by rw [eh11]; exact ch_frS (by rw [eh7]; exact ch_frS (by rw [eh4]; exact ch_frS (by rw [eh1]; exact ch_frS ch_fr0 (by simp)) (by simp)) (by simp)) (by simp)) (by simp)) (by simp)) (by simp)) (by simp)), rfl⟩
set_option maxHeartbeats 4000000 in
set_option maxRecDepth 100000 in
theorem c_X3_clear (l : Launch) (D : va_G) (cI cL cR : ClassId) (lo : Nat) (h : ch_H) (hi : Nat) (F e s m : Nat) (ec sc : Int) (hF : h F = some (.inr (3, [.ref e, .ref s, .ref m, .int (iI ec), .int (iI sc)]))) : ch_C l (eE D cI cL cR lo) M_X3_clear (rM 0 0 0) [.ref F] h hi (fun r0 h2 hi2 => r0 = none ∧ h2 = ch_set h F (.inr (3, [.ref e, .ref s, .ref m, .int (iI 0), .int (iI 0)])) ∧ hi = hi2) := by
  refine ch_C.of rfl (Nat.le_of_ble_eq_true rfl) ?_
  refine gx_aload_n 0 dX3_clear_0 rfl rfl ?_
  refine gx_iconst (iI 0) dX3_clear_1 rfl ?_
  refine gy_put (ci := 3) (f := 3) (C := RX3) (T := TX3) (N := 5) (ty := .int) (fs2 := [.ref e, .ref s, .ref m, .int (iI 0), .int (iI sc)]) tyX3 rfl inX3 tyX3_ok nmX3 (by decide) mw_1_41 (Or.inl rfl) (by decide +kernel) rfl rfl dX3_clear_2 hF (by simp) rfl (fun h1 eh1 => ?_)
  have k2 : h1 F = some (.inr (3, [.ref e, .ref s, .ref m, .int (iI 0), .int (iI sc)])) := by rw [eh1]; exact ch_set_self
  refine gx_aload_n 0 dX3_clear_5 rfl rfl ?_
  refine gx_iconst (iI 0) dX3_clear_6 rfl ?_
  refine gy_put (ci := 3) (f := 4) (C := RX3) (T := TX3) (N := 5) (ty := .int) (fs2 := [.ref e, .ref s, .ref m, .int (iI 0), .int (iI 0)]) tyX3 rfl inX3 tyX3_ok nmX3 (by decide) mw_1_42 (Or.inl rfl) (by decide +kernel) rfl rfl dX3_clear_7 k2 (by simp) rfl (fun h3 eh3 => ?_)
  have k4 : h3 F = some (.inr (3, [.ref e, .ref s, .ref m, .int (iI 0), .int (iI 0)])) := by rw [eh3]; exact ch_set_self
  refine gx_vret rfl dX3_clear_10 (by first | exact Nat.le_of_ble_eq_true rfl | (simp only [rM]; omega)) (by first | exact Nat.le_of_ble_eq_true rfl | (simp only [rM]; omega)) ?_
  exact ⟨rfl, by rw [eh3, eh1, ch_set_set], rfl⟩
set_option maxHeartbeats 4000000 in
set_option maxRecDepth 100000 in
theorem c_X3_add (l : Launch) (D : va_G) (cI cL cR : ClassId) (lo : Nat) (h : ch_H) (hi : Nat) (F e s m : Nat) (ec sc : Int) (fe fs fm : Nat → Int) (hF : h F = some (.inr (3, [.ref e, .ref s, .ref m, .int (iI ec), .int (iI sc)]))) (he : h e = some (aI cI 100 fe)) (hs : h s = some (aI cI 50 fs)) (hm : h m = some (aI cI 100 fm)) (nes : e ≠ s) (nem : e ≠ m) (nsm : s ≠ m) (h1 : 0 ≤ sc ∧ sc < 50) (h2 : 0 ≤ ec ∧ ec + 2 ≤ 100) (a b : Int) (ha : ir a) (hb : ir b) : ch_C l (eE D cI cL cR lo) M_X3_add (rM 0 0 0) [.ref F, .int (iI a), .int (iI b)] h hi (fun r0 h2 hi2 => r0 = none ∧ h2 F = some (.inr (3, [.ref e, .ref s, .ref m, .int (iI (if a < b then ec + 2 else ec)), .int (iI (sc + 1))])) ∧ h2 e = some (aI cI 100 (if a < b then updI (updI fe ec.toNat a) (ec + 1).toNat b else fe)) ∧ h2 s = some (aI cI 50 (updI fs sc.toNat ec)) ∧ h2 m = some (aI cI 100 fm) ∧ ch_fr [F, e, s] h h2 ∧ hi = hi2) := by
  refine ch_C.of rfl (Nat.le_of_ble_eq_true rfl) ?_
  refine gx_aload_n 0 dX3_add_0 rfl rfl ?_
  refine gx_get (ci := 3) (f := 4) (C := RX3) (T := TX3) (N := 5) rfl inX3 (by decide) mw_1_42 dX3_add_1 hF rfl ?_
  refine gx_bipush (iI 50) dX3_add_4 (by decide) ?_
  refine gy_icmp_ge 20 dX3_add_6 (by decide) (by constructor <;> omega) (by decide) (fun c6 => absurd c6 (by omega)) (fun c6 => ?_)
  refine gx_aload_n 0 dX3_add_9 rfl rfl ?_
  refine gx_get (ci := 3) (f := 3) (C := RX3) (T := TX3) (N := 5) rfl inX3 (by decide) mw_1_41 dX3_add_10 hF rfl ?_
  refine gx_iconst (iI 2) dX3_add_13 rfl ?_
  refine gy_iadd dX3_add_14 ?_
  refine gx_bipush (iI 100) dX3_add_15 (by decide) ?_
  refine gy_icmp_le 21 dX3_add_17 (by decide) (by constructor <;> omega) (by decide) (fun c17 => ?_) (fun c17 => absurd c17 (by omega))
  refine gx_aload_n 0 dX3_add_21 rfl rfl ?_
  refine gx_get (ci := 3) (f := 1) (C := RX3) (T := TX3) (N := 5) rfl inX3 (by decide) mw_1_39 dX3_add_22 hF rfl ?_
  refine gx_aload_n 0 dX3_add_25 rfl rfl ?_
  refine gx_get (ci := 3) (f := 4) (C := RX3) (T := TX3) (N := 5) rfl inX3 (by decide) mw_1_42 dX3_add_26 hF rfl ?_
  refine gx_aload_n 0 dX3_add_29 rfl rfl ?_
  refine gx_get (ci := 3) (f := 3) (C := RX3) (T := TX3) (N := 5) rfl inX3 (by decide) mw_1_41 dX3_add_30 hF rfl ?_
  refine gy_iast dX3_add_33 hs (by omega) (by omega) (by decide) (fun h1 eh1 => ?_)
  have k2 : h1 F = some (.inr (3, [.ref e, .ref s, .ref m, .int (iI ec), .int (iI sc)])) := by rw [eh1, ch_set_ne (ch_ne hF hs (by intro q; cases q))]; exact hF
  have k3 : h1 e = some (aI cI 100 fe) := by rw [eh1, ch_set_ne (nes)]; exact he
  have k4 : h1 m = some (aI cI 100 fm) := by rw [eh1, ch_set_ne (Ne.symm nsm)]; exact hm
  have k5 : h1 s = some (aI cI 50 (updI fs sc.toNat ec)) := by rw [eh1]; exact ch_set_self
  refine gx_aload_n 0 dX3_add_34 rfl rfl ?_
  refine gx_dup dX3_add_35 rfl ?_
  refine gx_get (ci := 3) (f := 4) (C := RX3) (T := TX3) (N := 5) rfl inX3 (by decide) mw_1_42 dX3_add_36 k2 rfl ?_
  refine gx_iconst (iI 1) dX3_add_39 rfl ?_
  refine gy_iadd dX3_add_40 ?_
  refine gy_put (ci := 3) (f := 4) (C := RX3) (T := TX3) (N := 5) (ty := .int) (fs2 := [.ref e, .ref s, .ref m, .int (iI ec), .int (iI (sc + 1))]) tyX3 rfl inX3 tyX3_ok nmX3 (by decide) mw_1_42 (Or.inl rfl) (by decide +kernel) rfl rfl dX3_add_41 k2 (by simp) rfl (fun h6 eh6 => ?_)
  have k7 : h6 e = some (aI cI 100 fe) := by rw [eh6, ch_set_ne (ch_ne k3 k2 (by intro q; cases q))]; exact k3
  have k8 : h6 m = some (aI cI 100 fm) := by rw [eh6, ch_set_ne (ch_ne k4 k2 (by intro q; cases q))]; exact k4
  have k9 : h6 s = some (aI cI 50 (updI fs sc.toNat ec)) := by rw [eh6, ch_set_ne (ch_ne k5 k2 (by intro q; cases q))]; exact k5
  have k10 : h6 F = some (.inr (3, [.ref e, .ref s, .ref m, .int (iI ec), .int (iI (sc + 1))])) := by rw [eh6]; exact ch_set_self
  refine gx_iload_n 1 dX3_add_44 rfl rfl ?_
  refine gx_iload_n 2 dX3_add_45 rfl rfl ?_
  refine gy_icmp_ge 81 dX3_add_46 (by decide) (by constructor <;> omega) (by constructor <;> omega) (fun c46 => ?_) (fun c46 => ?_)
  · refine gx_vret rfl dX3_add_81 (by first | exact Nat.le_of_ble_eq_true rfl | (simp only [rM]; omega)) (by first | exact Nat.le_of_ble_eq_true rfl | (simp only [rM]; omega)) ?_
    exact ⟨rfl, by rw [if_neg (by omega)]; exact k10, by rw [if_neg (by omega)]; exact k7, k9, k8, (by rw [eh6]; exact ch_frS (by rw [eh1]; exact ch_frS ch_fr0 (by simp)) (by simp)), rfl⟩
  · refine gx_aload_n 0 dX3_add_49 rfl rfl ?_
    refine gx_get (ci := 3) (f := 0) (C := RX3) (T := TX3) (N := 5) rfl inX3 (by decide) mw_1_38 dX3_add_50 k10 rfl ?_
    refine gx_aload_n 0 dX3_add_53 rfl rfl ?_
    refine gx_get (ci := 3) (f := 3) (C := RX3) (T := TX3) (N := 5) rfl inX3 (by decide) mw_1_41 dX3_add_54 k10 rfl ?_
    refine gx_iload_n 1 dX3_add_57 rfl rfl ?_
    refine gy_iast dX3_add_58 k7 (by omega) (by omega) (by decide) (fun h11 eh11 => ?_)
    have k12 : h11 m = some (aI cI 100 fm) := by rw [eh11, ch_set_ne (Ne.symm nem)]; exact k8
    have k13 : h11 s = some (aI cI 50 (updI fs sc.toNat ec)) := by rw [eh11, ch_set_ne (Ne.symm nes)]; exact k9
    have k14 : h11 F = some (.inr (3, [.ref e, .ref s, .ref m, .int (iI ec), .int (iI (sc + 1))])) := by rw [eh11, ch_set_ne (ch_ne k10 k7 (by intro q; cases q))]; exact k10
    have k15 : h11 e = some (aI cI 100 (updI fe ec.toNat a)) := by rw [eh11]; exact ch_set_self
    refine gx_aload_n 0 dX3_add_59 rfl rfl ?_
    refine gx_get (ci := 3) (f := 0) (C := RX3) (T := TX3) (N := 5) rfl inX3 (by decide) mw_1_38 dX3_add_60 k14 rfl ?_
    refine gx_aload_n 0 dX3_add_63 rfl rfl ?_
    refine gx_get (ci := 3) (f := 3) (C := RX3) (T := TX3) (N := 5) rfl inX3 (by decide) mw_1_41 dX3_add_64 k14 rfl ?_
    refine gx_iconst (iI 1) dX3_add_67 rfl ?_
    refine gy_iadd dX3_add_68 ?_
    refine gx_iload_n 2 dX3_add_69 rfl rfl ?_
    refine gy_iast dX3_add_70 k15 (by omega) (by omega) (by decide) (fun h16 eh16 => ?_)
    have k17 : h16 m = some (aI cI 100 fm) := by rw [eh16, ch_set_ne (Ne.symm nem)]; exact k12
    have k18 : h16 s = some (aI cI 50 (updI fs sc.toNat ec)) := by rw [eh16, ch_set_ne (Ne.symm nes)]; exact k13
    have k19 : h16 F = some (.inr (3, [.ref e, .ref s, .ref m, .int (iI ec), .int (iI (sc + 1))])) := by rw [eh16, ch_set_ne (ch_ne k14 k15 (by intro q; cases q))]; exact k14
    have k20 : h16 e = some (aI cI 100 (updI (updI fe ec.toNat a) (ec + 1).toNat b)) := by rw [eh16]; exact ch_set_self
    refine gx_aload_n 0 dX3_add_71 rfl rfl ?_
    refine gx_dup dX3_add_72 rfl ?_
    refine gx_get (ci := 3) (f := 3) (C := RX3) (T := TX3) (N := 5) rfl inX3 (by decide) mw_1_41 dX3_add_73 k19 rfl ?_
    refine gx_iconst (iI 2) dX3_add_76 rfl ?_
    refine gy_iadd dX3_add_77 ?_
    refine gy_put (ci := 3) (f := 3) (C := RX3) (T := TX3) (N := 5) (ty := .int) (fs2 := [.ref e, .ref s, .ref m, .int (iI (ec + 2)), .int (iI (sc + 1))]) tyX3 rfl inX3 tyX3_ok nmX3 (by decide) mw_1_41 (Or.inl rfl) (by decide +kernel) rfl rfl dX3_add_78 k19 (by simp) rfl (fun h21 eh21 => ?_)
    have k22 : h21 m = some (aI cI 100 fm) := by rw [eh21, ch_set_ne (ch_ne k17 k19 (by intro q; cases q))]; exact k17
    have k23 : h21 s = some (aI cI 50 (updI fs sc.toNat ec)) := by rw [eh21, ch_set_ne (ch_ne k18 k19 (by intro q; cases q))]; exact k18
    have k24 : h21 e = some (aI cI 100 (updI (updI fe ec.toNat a) (ec + 1).toNat b)) := by rw [eh21, ch_set_ne (ch_ne k20 k19 (by intro q; cases q))]; exact k20
    have k25 : h21 F = some (.inr (3, [.ref e, .ref s, .ref m, .int (iI (ec + 2)), .int (iI (sc + 1))])) := by rw [eh21]; exact ch_set_self
    refine gx_vret rfl dX3_add_81 (by first | exact Nat.le_of_ble_eq_true rfl | (simp only [rM]; omega)) (by first | exact Nat.le_of_ble_eq_true rfl | (simp only [rM]; omega)) ?_
    exact ⟨rfl, by rw [if_pos c46]; exact k25, by rw [if_pos c46]; exact k24, k23, k22, (by rw [eh21]; exact ch_frS (by rw [eh16]; exact ch_frS (by rw [eh11]; exact ch_frS (by rw [eh6]; exact ch_frS (by rw [eh1]; exact ch_frS ch_fr0 (by simp)) (by simp)) (by simp)) (by simp)) (by simp)), rfl⟩
/-- the next edge of two rows -/
def nxE (fe : Nat → Int) (mid ec a b : Int) : Int := if mid ≤ a then (if b < ec then fe b.toNat else 0) else if b < ec ∧ fe b.toNat < fe a.toNat then fe b.toNat else fe a.toNat
def jnB (how : Int) (p q : Bool) : Bool := if how = 0 then p || q else if how = 1 then p && q else p && !q
/-- how mix goes on: the edges that it still notes -/
def mxS (fe : Nat → Int) (mid ec how : Int) : Nat → Int → Int → Bool → Bool → Bool → List Int
  | 0, _, _, _, _, _ => []
  | k + 1, a, b, p, q, j =>
    if a < mid ∨ b < ec then
      (if jnB how (if a < mid ∧ fe a.toNat = nxE fe mid ec a b then !p else p) (if b < ec ∧ fe b.toNat = nxE fe mid ec a b then !q else q) = j
        then mxS fe mid ec how k (if a < mid ∧ fe a.toNat = nxE fe mid ec a b then a + 1 else a) (if b < ec ∧ fe b.toNat = nxE fe mid ec a b then b + 1 else b) (if a < mid ∧ fe a.toNat = nxE fe mid ec a b then !p else p) (if b < ec ∧ fe b.toNat = nxE fe mid ec a b then !q else q) j
        else nxE fe mid ec a b :: mxS fe mid ec how k (if a < mid ∧ fe a.toNat = nxE fe mid ec a b then a + 1 else a) (if b < ec ∧ fe b.toNat = nxE fe mid ec a b then b + 1 else b) (if a < mid ∧ fe a.toNat = nxE fe mid ec a b then !p else p) (if b < ec ∧ fe b.toNat = nxE fe mid ec a b then !q else q) (!j))
    else []
theorem nxE_in {fe : Nat → Int} {mid ec a b : Int} (hfe : ∀ j, -1000000 ≤ fe j ∧ fe j ≤ 1000000) : -1000000 ≤ nxE fe mid ec a b ∧ nxE fe mid ec a b ≤ 1000000 := by
  unfold nxE
  have h1 := hfe a.toNat
  have h2 := hfe b.toNat
  split
  · split
    · exact h2
    · omega
  · split
    · exact h2
    · exact h1
theorem bI_1 {b : Bool} (h : bI b ≠ 0) : b = true := by cases b <;> simp_all [bI]
theorem bI_0 {b : Bool} (h : bI b = 0) : b = false := by cases b <;> simp_all [bI]
theorem bI_e {a b : Bool} (h : bI a = bI b) : a = b := by cases a <;> cases b <;> simp_all [bI]
theorem bI_n {a b : Bool} (h : bI a ≠ bI b) : a = !b := by cases a <;> cases b <;> simp_all [bI]
set_option maxHeartbeats 4000000 in
set_option maxRecDepth 100000 in
theorem c_X3_nextEdge (l : Launch) (D : va_G) (cI cL cR : ClassId) (lo : Nat) (h : ch_H) (hi : Nat) (F e s m : Nat) (ec sc : Int) (fe fs fm : Nat → Int) (hF : h F = some (.inr (3, [.ref e, .ref s, .ref m, .int (iI ec), .int (iI sc)]))) (he : h e = some (aI cI 100 fe)) (hs : h s = some (aI cI 50 fs)) (hm : h m = some (aI cI 100 fm)) (nes : e ≠ s) (nem : e ≠ m) (nsm : s ≠ m) (hfe : ∀ j, -1000000 ≤ fe j ∧ fe j ≤ 1000000) (a mid b : Int) (ha : 0 ≤ a ∧ a ≤ 100) (hmid : 0 ≤ mid ∧ mid ≤ 100) (hb : 0 ≤ b ∧ b ≤ 100) (hec : 0 ≤ ec ∧ ec ≤ 100) : ch_C l (eE D cI cL cR lo) M_X3_nextEdge (rM 0 0 0) [.ref F, .int (iI a), .int (iI mid), .int (iI b)] h hi (fun r0 h2 hi2 => r0 = some (.int (iI (nxE fe mid ec a b))) ∧ h = h2 ∧ hi = hi2) := by
  refine ch_C.of rfl (Nat.le_of_ble_eq_true rfl) ?_
  have ha2 := hfe a.toNat
  have hb2 := hfe b.toNat
  refine gx_iload_n 1 dX3_nextEdge_0 rfl rfl ?_
  refine gx_iload_n 2 dX3_nextEdge_1 rfl rfl ?_
  refine gy_icmp_lt 24 dX3_nextEdge_2 (by decide) (by constructor <;> omega) (by constructor <;> omega) (fun c2 => ?_) (fun c2 => ?_)
  · refine gx_iload_n 3 dX3_nextEdge_24 rfl rfl ?_
    refine gx_aload_n 0 dX3_nextEdge_25 rfl rfl ?_
    refine gx_get (ci := 3) (f := 3) (C := RX3) (T := TX3) (N := 5) rfl inX3 (by decide) mw_1_41 dX3_nextEdge_26 hF rfl ?_
    refine gy_icmp_ge 56 dX3_nextEdge_29 (by decide) (by constructor <;> omega) (by constructor <;> omega) (fun c29 => ?_) (fun c29 => ?_)
    · refine gx_aload_n 0 dX3_nextEdge_56 rfl rfl ?_
      refine gx_get (ci := 3) (f := 0) (C := RX3) (T := TX3) (N := 5) rfl inX3 (by decide) mw_1_38 dX3_nextEdge_57 hF rfl ?_
      refine gx_iload_n 1 dX3_nextEdge_60 rfl rfl ?_
      refine gy_iald dX3_nextEdge_61 he (by omega) (by omega) (by decide) ?_
      refine gx_iret rfl dX3_nextEdge_62 (by first | exact Nat.le_of_ble_eq_true rfl | (simp only [rM]; omega)) (by first | exact Nat.le_of_ble_eq_true rfl | (simp only [rM]; omega)) ?_
      exact ⟨by unfold nxE; rw [if_neg (by omega), if_neg (by omega)], rfl, rfl⟩
    · refine gx_aload_n 0 dX3_nextEdge_32 rfl rfl ?_
      refine gx_get (ci := 3) (f := 0) (C := RX3) (T := TX3) (N := 5) rfl inX3 (by decide) mw_1_38 dX3_nextEdge_33 hF rfl ?_
      refine gx_iload_n 3 dX3_nextEdge_36 rfl rfl ?_
      refine gy_iald dX3_nextEdge_37 he (by omega) (by omega) (by decide) ?_
      refine gx_aload_n 0 dX3_nextEdge_38 rfl rfl ?_
      refine gx_get (ci := 3) (f := 0) (C := RX3) (T := TX3) (N := 5) rfl inX3 (by decide) mw_1_38 dX3_nextEdge_39 hF rfl ?_
      refine gx_iload_n 1 dX3_nextEdge_42 rfl rfl ?_
      refine gy_iald dX3_nextEdge_43 he (by omega) (by omega) (by decide) ?_
      refine gy_icmp_ge 56 dX3_nextEdge_44 (by decide) (by constructor <;> omega) (by constructor <;> omega) (fun c44 => ?_) (fun c44 => ?_)
      · refine gx_aload_n 0 dX3_nextEdge_56 rfl rfl ?_
        refine gx_get (ci := 3) (f := 0) (C := RX3) (T := TX3) (N := 5) rfl inX3 (by decide) mw_1_38 dX3_nextEdge_57 hF rfl ?_
        refine gx_iload_n 1 dX3_nextEdge_60 rfl rfl ?_
        refine gy_iald dX3_nextEdge_61 he (by omega) (by omega) (by decide) ?_
        refine gx_iret rfl dX3_nextEdge_62 (by first | exact Nat.le_of_ble_eq_true rfl | (simp only [rM]; omega)) (by first | exact Nat.le_of_ble_eq_true rfl | (simp only [rM]; omega)) ?_
        exact ⟨by unfold nxE; rw [if_neg (by omega), if_neg (by omega)], rfl, rfl⟩
      · refine gx_aload_n 0 dX3_nextEdge_47 rfl rfl ?_
        refine gx_get (ci := 3) (f := 0) (C := RX3) (T := TX3) (N := 5) rfl inX3 (by decide) mw_1_38 dX3_nextEdge_48 hF rfl ?_
        refine gx_iload_n 3 dX3_nextEdge_51 rfl rfl ?_
        refine gy_iald dX3_nextEdge_52 he (by omega) (by omega) (by decide) ?_
        refine gx_goto 62 dX3_nextEdge_53 (by decide) ?_
        refine gx_iret rfl dX3_nextEdge_62 (by first | exact Nat.le_of_ble_eq_true rfl | (simp only [rM]; omega)) (by first | exact Nat.le_of_ble_eq_true rfl | (simp only [rM]; omega)) ?_
        exact ⟨by unfold nxE; rw [if_neg (by omega), if_pos ⟨by omega, by omega⟩], rfl, rfl⟩
  · refine gx_iload_n 3 dX3_nextEdge_5 rfl rfl ?_
    refine gx_aload_n 0 dX3_nextEdge_6 rfl rfl ?_
    refine gx_get (ci := 3) (f := 3) (C := RX3) (T := TX3) (N := 5) rfl inX3 (by decide) mw_1_41 dX3_nextEdge_7 hF rfl ?_
    refine gy_icmp_ge 22 dX3_nextEdge_10 (by decide) (by constructor <;> omega) (by constructor <;> omega) (fun c10 => ?_) (fun c10 => ?_)
    · refine gx_iconst (iI 0) dX3_nextEdge_22 rfl ?_
      refine gx_iret rfl dX3_nextEdge_23 (by first | exact Nat.le_of_ble_eq_true rfl | (simp only [rM]; omega)) (by first | exact Nat.le_of_ble_eq_true rfl | (simp only [rM]; omega)) ?_
      exact ⟨by unfold nxE; rw [if_pos (by omega), if_neg (by omega)], rfl, rfl⟩
    · refine gx_aload_n 0 dX3_nextEdge_13 rfl rfl ?_
      refine gx_get (ci := 3) (f := 0) (C := RX3) (T := TX3) (N := 5) rfl inX3 (by decide) mw_1_38 dX3_nextEdge_14 hF rfl ?_
      refine gx_iload_n 3 dX3_nextEdge_17 rfl rfl ?_
      refine gy_iald dX3_nextEdge_18 he (by omega) (by omega) (by decide) ?_
      refine gx_goto 23 dX3_nextEdge_19 (by decide) ?_
      refine gx_iret rfl dX3_nextEdge_23 (by first | exact Nat.le_of_ble_eq_true rfl | (simp only [rM]; omega)) (by first | exact Nat.le_of_ble_eq_true rfl | (simp only [rM]; omega)) ?_
      exact ⟨by unfold nxE; rw [if_pos (by omega), if_pos (by omega)], rfl, rfl⟩
set_option maxHeartbeats 4000000 in
set_option maxRecDepth 100000 in
theorem c_X3_isJoined (l : Launch) (D : va_G) (cI cL cR : ClassId) (lo : Nat) (h : ch_H) (hi : Nat) (p q : Bool) (how : Int) (hh : ir how) : ch_C l (eE D cI cL cR lo) M_X3_isJoined (rM 0 0 0) [.int (iI (bI p)), .int (iI (bI q)), .int (iI how)] h hi (fun r0 h2 hi2 => r0 = some (.int (iI (bI (jnB how p q)))) ∧ h = h2 ∧ hi = hi2) := by
  refine ch_C.of rfl (Nat.le_of_ble_eq_true rfl) ?_
  refine gx_iload_n 2 dX3_isJoined_0 rfl rfl ?_
  by_cases w1_0 : how = 0
  · refine gy_lsw (off := 27) 28 dX3_isJoined_1 (by constructor <;> omega) (by decide) (by rw [w1_0]; rfl) (by decide) ?_
    refine gx_iload_n 0 dX3_isJoined_28 rfl rfl ?_
    refine gy_if_ne 36 dX3_isJoined_29 (by decide) ir_bI (fun c29 => ?_) (fun c29 => ?_)
    · refine gx_iconst (iI 1) dX3_isJoined_36 rfl ?_
      refine gx_goto 41 dX3_isJoined_37 (by decide) ?_
      refine gx_zret rfl rfl dX3_isJoined_41 (by first | exact Nat.le_of_ble_eq_true rfl | (simp only [rM]; omega)) (by first | exact Nat.le_of_ble_eq_true rfl | (simp only [rM]; omega)) ?_
      refine ⟨?_, rfl, rfl⟩
      unfold jnB
      rw [if_pos w1_0]
      cases p <;> cases q <;> first | rfl | (exfalso; revert c29; decide)
    · refine gx_iload_n 1 dX3_isJoined_32 rfl rfl ?_
      refine gy_if_eq 40 dX3_isJoined_33 (by decide) ir_bI (fun c33 => ?_) (fun c33 => ?_)
      · refine gx_iconst (iI 0) dX3_isJoined_40 rfl ?_
        refine gx_zret rfl rfl dX3_isJoined_41 (by first | exact Nat.le_of_ble_eq_true rfl | (simp only [rM]; omega)) (by first | exact Nat.le_of_ble_eq_true rfl | (simp only [rM]; omega)) ?_
        refine ⟨?_, rfl, rfl⟩
        unfold jnB
        rw [if_pos w1_0]
        cases p <;> cases q <;> first | rfl | (exfalso; revert c29 c33; decide)
      · refine gx_iconst (iI 1) dX3_isJoined_36 rfl ?_
        refine gx_goto 41 dX3_isJoined_37 (by decide) ?_
        refine gx_zret rfl rfl dX3_isJoined_41 (by first | exact Nat.le_of_ble_eq_true rfl | (simp only [rM]; omega)) (by first | exact Nat.le_of_ble_eq_true rfl | (simp only [rM]; omega)) ?_
        refine ⟨?_, rfl, rfl⟩
        unfold jnB
        rw [if_pos w1_0]
        cases p <;> cases q <;> first | rfl | (exfalso; revert c29 c33; decide)
  · skip
    by_cases w1_1 : how = 1
    · refine gy_lsw (off := 41) 42 dX3_isJoined_1 (by constructor <;> omega) (by decide) (by rw [w1_1]; rfl) (by decide) ?_
      refine gx_iload_n 0 dX3_isJoined_42 rfl rfl ?_
      refine gy_if_eq 54 dX3_isJoined_43 (by decide) ir_bI (fun c43 => ?_) (fun c43 => ?_)
      · refine gx_iconst (iI 0) dX3_isJoined_54 rfl ?_
        refine gx_zret rfl rfl dX3_isJoined_55 (by first | exact Nat.le_of_ble_eq_true rfl | (simp only [rM]; omega)) (by first | exact Nat.le_of_ble_eq_true rfl | (simp only [rM]; omega)) ?_
        refine ⟨?_, rfl, rfl⟩
        unfold jnB
        rw [if_neg w1_0, if_pos w1_1]
        cases p <;> cases q <;> first | rfl | (exfalso; revert c43; decide)
      · refine gx_iload_n 1 dX3_isJoined_46 rfl rfl ?_
        refine gy_if_eq 54 dX3_isJoined_47 (by decide) ir_bI (fun c47 => ?_) (fun c47 => ?_)
        · refine gx_iconst (iI 0) dX3_isJoined_54 rfl ?_
          refine gx_zret rfl rfl dX3_isJoined_55 (by first | exact Nat.le_of_ble_eq_true rfl | (simp only [rM]; omega)) (by first | exact Nat.le_of_ble_eq_true rfl | (simp only [rM]; omega)) ?_
          refine ⟨?_, rfl, rfl⟩
          unfold jnB
          rw [if_neg w1_0, if_pos w1_1]
          cases p <;> cases q <;> first | rfl | (exfalso; revert c43 c47; decide)
        · refine gx_iconst (iI 1) dX3_isJoined_50 rfl ?_
          refine gx_goto 55 dX3_isJoined_51 (by decide) ?_
          refine gx_zret rfl rfl dX3_isJoined_55 (by first | exact Nat.le_of_ble_eq_true rfl | (simp only [rM]; omega)) (by first | exact Nat.le_of_ble_eq_true rfl | (simp only [rM]; omega)) ?_
          refine ⟨?_, rfl, rfl⟩
          unfold jnB
          rw [if_neg w1_0, if_pos w1_1]
          cases p <;> cases q <;> first | rfl | (exfalso; revert c43 c47; decide)
    · skip
      refine gy_lsw (off := 55) 56 dX3_isJoined_1 (by constructor <;> omega) (by decide) (by simp only [Op.lookupswitch.offset_cons]; rw [if_neg (by omega), if_neg (by omega)]; rfl) (by decide) ?_
      refine gx_iload_n 0 dX3_isJoined_56 rfl rfl ?_
      refine gy_if_eq 68 dX3_isJoined_57 (by decide) ir_bI (fun c57 => ?_) (fun c57 => ?_)
      · refine gx_iconst (iI 0) dX3_isJoined_68 rfl ?_
        refine gx_zret rfl rfl dX3_isJoined_69 (by first | exact Nat.le_of_ble_eq_true rfl | (simp only [rM]; omega)) (by first | exact Nat.le_of_ble_eq_true rfl | (simp only [rM]; omega)) ?_
        refine ⟨?_, rfl, rfl⟩
        unfold jnB
        rw [if_neg w1_0, if_neg w1_1]
        cases p <;> cases q <;> first | rfl | (exfalso; revert c57; decide)
      · refine gx_iload_n 1 dX3_isJoined_60 rfl rfl ?_
        refine gy_if_ne 68 dX3_isJoined_61 (by decide) ir_bI (fun c61 => ?_) (fun c61 => ?_)
        · refine gx_iconst (iI 0) dX3_isJoined_68 rfl ?_
          refine gx_zret rfl rfl dX3_isJoined_69 (by first | exact Nat.le_of_ble_eq_true rfl | (simp only [rM]; omega)) (by first | exact Nat.le_of_ble_eq_true rfl | (simp only [rM]; omega)) ?_
          refine ⟨?_, rfl, rfl⟩
          unfold jnB
          rw [if_neg w1_0, if_neg w1_1]
          cases p <;> cases q <;> first | rfl | (exfalso; revert c57 c61; decide)
        · refine gx_iconst (iI 1) dX3_isJoined_64 rfl ?_
          refine gx_goto 69 dX3_isJoined_65 (by decide) ?_
          refine gx_zret rfl rfl dX3_isJoined_69 (by first | exact Nat.le_of_ble_eq_true rfl | (simp only [rM]; omega)) (by first | exact Nat.le_of_ble_eq_true rfl | (simp only [rM]; omega)) ?_
          refine ⟨?_, rfl, rfl⟩
          unfold jnB
          rw [if_neg w1_0, if_neg w1_1]
          cases p <;> cases q <;> first | rfl | (exfalso; revert c57 c61; decide)
end
