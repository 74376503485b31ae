section
set_option maxHeartbeats 4000000 in
set_option maxRecDepth 100000 in
theorem c_X10_init (l : Launch) (D : va_G) (cI cL cR : ClassId) (lo : Nat) (h : ch_H) (hK : h (lo + 3) = some (.inr (9, [.null, .null, .null, .null, .null, .int (iI 0), .null]))) : ch_C l (eE D cI cL cR lo) M_X10_init (rM 2 9 755) [.ref (lo + 3)] h (lo + 4) (fun r0 h2 hi2 => r0 = none ∧ wwE cI cR lo h2 ∧ (∀ b, b < lo + 3 → h2 b = h b) ∧ hi2 = lo + 13) := by
  refine ch_C.of rfl (Nat.le_of_ble_eq_true rfl) ?_
  refine gx_aload_n 0 dX10_init_0 rfl rfl ?_
  refine gx_objInit mw_1_30 mw_1_21 mw_1_22 dX10_init_1 (by decide) (Nat.le_of_ble_eq_true rfl) ?_
  refine gx_aload_n 0 dX10_init_4 rfl rfl ?_
  refine gx_bipush (iI 100) dX10_init_5 (by decide) ?_
  refine gy_anew 100 mw_1_31 nw_0 dX10_init_7 rfl (by decide) (by first | exact Nat.le_of_ble_eq_true rfl | (simp only [rM]; omega)) (by first | exact Nat.le_of_ble_eq_true rfl | (simp only [rM]; omega)) (fun h1 eh1 => ?_)
  have k2 : h1 (lo + 3) = some (.inr (9, [.null, .null, .null, .null, .null, .int (iI 0), .null])) := by rw [eh1, ch_set_ne (by first | assumption | omega)]; exact hK
  have k3 : h1 (lo + 4) = some (aR cR 100 (fun _ => none)) := by rw [eh1]; exact ch_set_self
  refine gy_put (ci := 9) (f := 0) (C := RX10) (T := TX10) (N := 7) (ty := .array (.object "SpanSolids$Solid")) (fs2 := [.ref (lo + 4), .null, .null, .null, .null, .int (iI 0), .null]) tyX10 rfl inX10 tyX10_ok nmX10 (by decide) mw_1_55 (Or.inr ⟨rfl, rfl, rfl⟩) (by decide +kernel) rfl rfl dX10_init_10 k2 (by simp) rfl (fun h4 eh4 => ?_)
  have k5 : h4 (lo + 4) = some (aR cR 100 (fun _ => none)) := by rw [eh4, ch_set_ne (by first | assumption | exact Ne.symm (by assumption) | omega)]; exact k3
  have k6 : h4 (lo + 3) = some (.inr (9, [.ref (lo + 4), .null, .null, .null, .null, .int (iI 0), .null])) := by rw [eh4]; exact ch_set_self
  refine gx_aload_n 0 dX10_init_13 rfl rfl ?_
  refine gx_bipush (iI 100) dX10_init_14 (by decide) ?_
  refine gy_newi 100 mw_1_54 dX10_init_16 rfl (by decide) (by first | exact Nat.le_of_ble_eq_true rfl | (simp only [rM]; omega)) (by first | exact Nat.le_of_ble_eq_true rfl | (simp only [rM]; omega)) (fun h7 eh7 => ?_)
  have k8 : h7 (lo + 4) = some (aR cR 100 (fun _ => none)) := by rw [eh7, ch_set_ne (by first | assumption | omega)]; exact k5
  have k9 : h7 (lo + 3) = some (.inr (9, [.ref (lo + 4), .null, .null, .null, .null, .int (iI 0), .null])) := by rw [eh7, ch_set_ne (by first | assumption | omega)]; exact k6
  have k10 : h7 (lo + 5) = some (aI cI 100 (fun _ => 0)) := by rw [eh7]; exact ch_set_self
  refine gy_put (ci := 9) (f := 1) (C := RX10) (T := TX10) (N := 7) (ty := .array (.int)) (fs2 := [.ref (lo + 4), .ref (lo + 5), .null, .null, .null, .int (iI 0), .null]) tyX10 rfl inX10 tyX10_ok nmX10 (by decide) mw_1_56 (Or.inr ⟨rfl, rfl, rfl⟩) (by decide +kernel) rfl rfl dX10_init_18 k9 (by simp) rfl (fun h11 eh11 => ?_)
  have k12 : h11 (lo + 4) = some (aR cR 100 (fun _ => none)) := by rw [eh11, ch_set_ne (by first | assumption | exact Ne.symm (by assumption) | omega)]; exact k8
  have k13 : h11 (lo + 5) = some (aI cI 100 (fun _ => 0)) := by rw [eh11, ch_set_ne (by first | assumption | exact Ne.symm (by assumption) | omega)]; exact k10
  have k14 : h11 (lo + 3) = some (.inr (9, [.ref (lo + 4), .ref (lo + 5), .null, .null, .null, .int (iI 0), .null])) := by rw [eh11]; exact ch_set_self
  refine gx_aload_n 0 dX10_init_21 rfl rfl ?_
  refine gx_bipush (iI 100) dX10_init_22 (by decide) ?_
  refine gy_newi 100 mw_1_54 dX10_init_24 rfl (by decide) (by first | exact Nat.le_of_ble_eq_true rfl | (simp only [rM]; omega)) (by first | exact Nat.le_of_ble_eq_true rfl | (simp only [rM]; omega)) (fun h15 eh15 => ?_)
  have k16 : h15 (lo + 4) = some (aR cR 100 (fun _ => none)) := by rw [eh15, ch_set_ne (by first | assumption | omega)]; exact k12
  have k17 : h15 (lo + 5) = some (aI cI 100 (fun _ => 0)) := by rw [eh15, ch_set_ne (by first | assumption | omega)]; exact k13
  have k18 : h15 (lo + 3) = some (.inr (9, [.ref (lo + 4), .ref (lo + 5), .null, .null, .null, .int (iI 0), .null])) := by rw [eh15, ch_set_ne (by first | assumption | omega)]; exact k14
  have k19 : h15 (lo + 6) = some (aI cI 100 (fun _ => 0)) := by rw [eh15]; exact ch_set_self
  refine gy_put (ci := 9) (f := 2) (C := RX10) (T := TX10) (N := 7) (ty := .array (.int)) (fs2 := [.ref (lo + 4), .ref (lo + 5), .ref (lo + 6), .null, .null, .int (iI 0), .null]) tyX10 rfl inX10 tyX10_ok nmX10 (by decide) mw_1_57 (Or.inr ⟨rfl, rfl, rfl⟩) (by decide +kernel) rfl rfl dX10_init_26 k18 (by simp) rfl (fun h20 eh20 => ?_)
  have k21 : h20 (lo + 4) = some (aR cR 100 (fun _ => none)) := by rw [eh20, ch_set_ne (by first | assumption | exact Ne.symm (by assumption) | omega)]; exact k16
  have k22 : h20 (lo + 5) = some (aI cI 100 (fun _ => 0)) := by rw [eh20, ch_set_ne (by first | assumption | exact Ne.symm (by assumption) | omega)]; exact k17
  have k23 : h20 (lo + 6) = some (aI cI 100 (fun _ => 0)) := by rw [eh20, ch_set_ne (by first | assumption | exact Ne.symm (by assumption) | omega)]; exact k19
  have k24 : h20 (lo + 3) = some (.inr (9, [.ref (lo + 4), .ref (lo + 5), .ref (lo + 6), .null, .null, .int (iI 0), .null])) := by rw [eh20]; exact ch_set_self
  refine gx_aload_n 0 dX10_init_29 rfl rfl ?_
  refine gx_bipush (iI 100) dX10_init_30 (by decide) ?_
  refine gy_newi 100 mw_1_54 dX10_init_32 rfl (by decide) (by first | exact Nat.le_of_ble_eq_true rfl | (simp only [rM]; omega)) (by first | exact Nat.le_of_ble_eq_true rfl | (simp only [rM]; omega)) (fun h25 eh25 => ?_)
  have k26 : h25 (lo + 4) = some (aR cR 100 (fun _ => none)) := by rw [eh25, ch_set_ne (by first | assumption | omega)]; exact k21
  have k27 : h25 (lo + 5) = some (aI cI 100 (fun _ => 0)) := by rw [eh25, ch_set_ne (by first | assumption | omega)]; exact k22
  have k28 : h25 (lo + 6) = some (aI cI 100 (fun _ => 0)) := by rw [eh25, ch_set_ne (by first | assumption | omega)]; exact k23
  have k29 : h25 (lo + 3) = some (.inr (9, [.ref (lo + 4), .ref (lo + 5), .ref (lo + 6), .null, .null, .int (iI 0), .null])) := by rw [eh25, ch_set_ne (by first | assumption | omega)]; exact k24
  have k30 : h25 (lo + 7) = some (aI cI 100 (fun _ => 0)) := by rw [eh25]; exact ch_set_self
  refine gy_put (ci := 9) (f := 3) (C := RX10) (T := TX10) (N := 7) (ty := .array (.int)) (fs2 := [.ref (lo + 4), .ref (lo + 5), .ref (lo + 6), .ref (lo + 7), .null, .int (iI 0), .null]) tyX10 rfl inX10 tyX10_ok nmX10 (by decide) mw_1_58 (Or.inr ⟨rfl, rfl, rfl⟩) (by decide +kernel) rfl rfl dX10_init_34 k29 (by simp) rfl (fun h31 eh31 => ?_)
  have k32 : h31 (lo + 4) = some (aR cR 100 (fun _ => none)) := by rw [eh31, ch_set_ne (by first | assumption | exact Ne.symm (by assumption) | omega)]; exact k26
  have k33 : h31 (lo + 5) = some (aI cI 100 (fun _ => 0)) := by rw [eh31, ch_set_ne (by first | assumption | exact Ne.symm (by assumption) | omega)]; exact k27
  have k34 : h31 (lo + 6) = some (aI cI 100 (fun _ => 0)) := by rw [eh31, ch_set_ne (by first | assumption | exact Ne.symm (by assumption) | omega)]; exact k28
  have k35 : h31 (lo + 7) = some (aI cI 100 (fun _ => 0)) := by rw [eh31, ch_set_ne (by first | assumption | exact Ne.symm (by assumption) | omega)]; exact k30
  have k36 : h31 (lo + 3) = some (.inr (9, [.ref (lo + 4), .ref (lo + 5), .ref (lo + 6), .ref (lo + 7), .null, .int (iI 0), .null])) := by rw [eh31]; exact ch_set_self
  refine gx_aload_n 0 dX10_init_37 rfl rfl ?_
  refine gx_bipush (iI 100) dX10_init_38 (by decide) ?_
  refine gy_newi 100 mw_1_54 dX10_init_40 rfl (by decide) (by first | exact Nat.le_of_ble_eq_true rfl | (simp only [rM]; omega)) (by first | exact Nat.le_of_ble_eq_true rfl | (simp only [rM]; omega)) (fun h37 eh37 => ?_)
  have k38 : h37 (lo + 4) = some (aR cR 100 (fun _ => none)) := by rw [eh37, ch_set_ne (by first | assumption | omega)]; exact k32
  have k39 : h37 (lo + 5) = some (aI cI 100 (fun _ => 0)) := by rw [eh37, ch_set_ne (by first | assumption | omega)]; exact k33
  have k40 : h37 (lo + 6) = some (aI cI 100 (fun _ => 0)) := by rw [eh37, ch_set_ne (by first | assumption | omega)]; exact k34
  have k41 : h37 (lo + 7) = some (aI cI 100 (fun _ => 0)) := by rw [eh37, ch_set_ne (by first | assumption | omega)]; exact k35
  have k42 : h37 (lo + 3) = some (.inr (9, [.ref (lo + 4), .ref (lo + 5), .ref (lo + 6), .ref (lo + 7), .null, .int (iI 0), .null])) := by rw [eh37, ch_set_ne (by first | assumption | omega)]; exact k36
  have k43 : h37 (lo + 8) = some (aI cI 100 (fun _ => 0)) := by rw [eh37]; exact ch_set_self
  refine gy_put (ci := 9) (f := 4) (C := RX10) (T := TX10) (N := 7) (ty := .array (.int)) (fs2 := [.ref (lo + 4), .ref (lo + 5), .ref (lo + 6), .ref (lo + 7), .ref (lo + 8), .int (iI 0), .null]) tyX10 rfl inX10 tyX10_ok nmX10 (by decide) mw_1_59 (Or.inr ⟨rfl, rfl, rfl⟩) (by decide +kernel) rfl rfl dX10_init_42 k42 (by simp) rfl (fun h44 eh44 => ?_)
  have k45 : h44 (lo + 4) = some (aR cR 100 (fun _ => none)) := by rw [eh44, ch_set_ne (by first | assumption | exact Ne.symm (by assumption) | omega)]; exact k38
  have k46 : h44 (lo + 5) = some (aI cI 100 (fun _ => 0)) := by rw [eh44, ch_set_ne (by first | assumption | exact Ne.symm (by assumption) | omega)]; exact k39
  have k47 : h44 (lo + 6) = some (aI cI 100 (fun _ => 0)) := by rw [eh44, ch_set_ne (by first | assumption | exact Ne.symm (by assumption) | omega)]; exact k40
  have k48 : h44 (lo + 7) = some (aI cI 100 (fun _ => 0)) := by rw [eh44, ch_set_ne (by first | assumption | exact Ne.symm (by assumption) | omega)]; exact k41
  have k49 : h44 (lo + 8) = some (aI cI 100 (fun _ => 0)) := by rw [eh44, ch_set_ne (by first | assumption | exact Ne.symm (by assumption) | omega)]; exact k43
  have k50 : h44 (lo + 3) = some (.inr (9, [.ref (lo + 4), .ref (lo + 5), .ref (lo + 6), .ref (lo + 7), .ref (lo + 8), .int (iI 0), .null])) := by rw [eh44]; exact ch_set_self
  refine gx_aload_n 0 dX10_init_45 rfl rfl ?_
  refine gx_iconst (iI 0) dX10_init_46 rfl ?_
  refine gy_put (ci := 9) (f := 5) (C := RX10) (T := TX10) (N := 7) (ty := .int) (fs2 := [.ref (lo + 4), .ref (lo + 5), .ref (lo + 6), .ref (lo + 7), .ref (lo + 8), .int (iI 0), .null]) tyX10 rfl inX10 tyX10_ok nmX10 (by decide) mw_1_60 (Or.inl rfl) (by decide +kernel) rfl rfl dX10_init_47 k50 (by simp) rfl (fun h51 eh51 => ?_)
  have k52 : h51 (lo + 4) = some (aR cR 100 (fun _ => none)) := by rw [eh51, ch_set_ne (by first | assumption | exact Ne.symm (by assumption) | omega)]; exact k45
  have k53 : h51 (lo + 5) = some (aI cI 100 (fun _ => 0)) := by rw [eh51, ch_set_ne (by first | assumption | exact Ne.symm (by assumption) | omega)]; exact k46
  have k54 : h51 (lo + 6) = some (aI cI 100 (fun _ => 0)) := by rw [eh51, ch_set_ne (by first | assumption | exact Ne.symm (by assumption) | omega)]; exact k47
  have k55 : h51 (lo + 7) = some (aI cI 100 (fun _ => 0)) := by rw [eh51, ch_set_ne (by first | assumption | exact Ne.symm (by assumption) | omega)]; exact k48
  have k56 : h51 (lo + 8) = some (aI cI 100 (fun _ => 0)) := by rw [eh51, ch_set_ne (by first | assumption | exact Ne.symm (by assumption) | omega)]; exact k49
  have k57 : h51 (lo + 3) = some (.inr (9, [.ref (lo + 4), .ref (lo + 5), .ref (lo + 6), .ref (lo + 7), .ref (lo + 8), .int (iI 0), .null])) := by rw [eh51]; exact ch_set_self
  refine gx_aload_n 0 dX10_init_50 rfl rfl ?_
  refine gy_new (ci := 3) (C := RX3) (T := TX3) (N := 5) [.null, .null, .null, .int (iI 0), .int (iI 0)] tyX3 rfl inX3 tyX3_ok mw_1_32 mw_1_33 mw_1_3 (fun j hj => by rcases (show j = 0 ∨ j = 1 ∨ j = 2 ∨ j = 3 ∨ j = 4 by omega) with rfl | rfl | rfl | rfl | rfl <;> rfl) (by first | exact Nat.le_of_ble_eq_true rfl | (simp only [rM]; omega)) (by first | exact Nat.le_of_ble_eq_true rfl | (simp only [rM]; omega)) dX10_init_51 (fun h58 eh58 => ?_)
  have k59 : h58 (lo + 4) = some (aR cR 100 (fun _ => none)) := by rw [eh58, ch_set_ne (by first | assumption | omega)]; exact k52
  have k60 : h58 (lo + 5) = some (aI cI 100 (fun _ => 0)) := by rw [eh58, ch_set_ne (by first | assumption | omega)]; exact k53
  have k61 : h58 (lo + 6) = some (aI cI 100 (fun _ => 0)) := by rw [eh58, ch_set_ne (by first | assumption | omega)]; exact k54
  have k62 : h58 (lo + 7) = some (aI cI 100 (fun _ => 0)) := by rw [eh58, ch_set_ne (by first | assumption | omega)]; exact k55
  have k63 : h58 (lo + 8) = some (aI cI 100 (fun _ => 0)) := by rw [eh58, ch_set_ne (by first | assumption | omega)]; exact k56
  have k64 : h58 (lo + 3) = some (.inr (9, [.ref (lo + 4), .ref (lo + 5), .ref (lo + 6), .ref (lo + 7), .ref (lo + 8), .int (iI 0), .null])) := by rw [eh58, ch_set_ne (by first | assumption | omega)]; exact k57
  have k65 : h58 (lo + 9) = some (.inr (3, [.null, .null, .null, .int (iI 0), .int (iI 0)])) := by rw [eh58]; exact ch_set_self
  refine gx_dup dX10_init_54 rfl ?_
  refine gx_callI (c_X3_init l D cI cL cR lo h58 (lo + 10) (lo + 9) (by omega) k65) ok_X3_init mw_1_34 mw_1_35 rfl rfl dX10_init_55 rfl rfl (Nat.le_of_ble_eq_true rfl) (by first | exact Nat.le_of_ble_eq_true rfl | (simp only [rM]; omega)) (by first | exact Nat.le_of_ble_eq_true rfl | (simp only [rM]; omega)) (by first | exact Nat.le_of_ble_eq_true rfl | (simp only [rM]; omega)) (by first | exact Nat.le_of_ble_eq_true rfl | (simp only [rM]; omega)) (fun r66 h67 u68 q69 g70 => ?_)
  obtain ⟨rfl, f9, f10, f11, f12, ffr, rfl⟩ := q69
  have k71 : h67 (lo + 4) = some (aR cR 100 (fun _ => none)) := by rw [ffr _ (by simp only [List.mem_cons, List.not_mem_nil, or_false]; omega)]; exact k59
  have k72 : h67 (lo + 5) = some (aI cI 100 (fun _ => 0)) := by rw [ffr _ (by simp only [List.mem_cons, List.not_mem_nil, or_false]; omega)]; exact k60
  have k73 : h67 (lo + 6) = some (aI cI 100 (fun _ => 0)) := by rw [ffr _ (by simp only [List.mem_cons, List.not_mem_nil, or_false]; omega)]; exact k61
  have k74 : h67 (lo + 7) = some (aI cI 100 (fun _ => 0)) := by rw [ffr _ (by simp only [List.mem_cons, List.not_mem_nil, or_false]; omega)]; exact k62
  have k75 : h67 (lo + 8) = some (aI cI 100 (fun _ => 0)) := by rw [ffr _ (by simp only [List.mem_cons, List.not_mem_nil, or_false]; omega)]; exact k63
  have k76 : h67 (lo + 3) = some (.inr (9, [.ref (lo + 4), .ref (lo + 5), .ref (lo + 6), .ref (lo + 7), .ref (lo + 8), .int (iI 0), .null])) := by rw [ffr _ (by simp only [List.mem_cons, List.not_mem_nil, or_false]; omega)]; exact k64
  refine ch_Gst (st2 := [.ref (lo + 9), .ref (lo + 3)]) rfl ?_
  refine gy_put (ci := 9) (f := 6) (C := RX10) (T := TX10) (N := 7) (ty := .object "SpanSolids$FoundSets") (fs2 := [.ref (lo + 4), .ref (lo + 5), .ref (lo + 6), .ref (lo + 7), .ref (lo + 8), .int (iI 0), .ref (lo + 9)]) tyX10 rfl inX10 tyX10_ok nmX10 (by decide) mw_1_61 (Or.inr ⟨rfl, rfl, rfl⟩) (by decide +kernel) rfl rfl dX10_init_58 k76 (by simp) rfl (fun h77 eh77 => ?_)
  have k78 : h77 (lo + 4) = some (aR cR 100 (fun _ => none)) := by rw [eh77, ch_set_ne (by first | assumption | exact Ne.symm (by assumption) | omega)]; exact k71
  have k79 : h77 (lo + 5) = some (aI cI 100 (fun _ => 0)) := by rw [eh77, ch_set_ne (by first | assumption | exact Ne.symm (by assumption) | omega)]; exact k72
  have k80 : h77 (lo + 6) = some (aI cI 100 (fun _ => 0)) := by rw [eh77, ch_set_ne (by first | assumption | exact Ne.symm (by assumption) | omega)]; exact k73
  have k81 : h77 (lo + 7) = some (aI cI 100 (fun _ => 0)) := by rw [eh77, ch_set_ne (by first | assumption | exact Ne.symm (by assumption) | omega)]; exact k74
  have k82 : h77 (lo + 8) = some (aI cI 100 (fun _ => 0)) := by rw [eh77, ch_set_ne (by first | assumption | exact Ne.symm (by assumption) | omega)]; exact k75
  have k83 : h77 (lo + 9) = some (.inr (3, [.ref (lo + 10), .ref (lo + 11), .ref (lo + 12), .int (iI 0), .int (iI 0)])) := by rw [eh77, ch_set_ne (by first | assumption | exact Ne.symm (by assumption) | omega)]; exact f9
  have k84 : h77 (lo + 10) = some (aI cI 100 (fun _ => 0)) := by rw [eh77, ch_set_ne (by first | assumption | exact Ne.symm (by assumption) | omega)]; exact f10
  have k85 : h77 (lo + 11) = some (aI cI 50 (fun _ => 0)) := by rw [eh77, ch_set_ne (by first | assumption | exact Ne.symm (by assumption) | omega)]; exact f11
  have k86 : h77 (lo + 12) = some (aI cI 100 (fun _ => 0)) := by rw [eh77, ch_set_ne (by first | assumption | exact Ne.symm (by assumption) | omega)]; exact f12
  have k87 : h77 (lo + 3) = some (.inr (9, [.ref (lo + 4), .ref (lo + 5), .ref (lo + 6), .ref (lo + 7), .ref (lo + 8), .int (iI 0), .ref (lo + 9)])) := by rw [eh77]; exact ch_set_self
  refine gx_vret rfl dX10_init_61 (by first | exact Nat.le_of_ble_eq_true rfl | (simp only [rM]; omega)) (by first | exact Nat.le_of_ble_eq_true rfl | (simp only [rM]; omega)) ?_
  exact ⟨rfl, ⟨_, _, _, _, _, _, _, ⟨_, _, _, _, _, k87, k78, k79, k80, k81, k82, k83, k84, k85, k86, fsR_0 (fun _ => by omega)⟩⟩, fun b hb => by rw [eh77, ch_set_ne (by omega), ffr b (by simp only [List.mem_cons, List.not_mem_nil, or_false]; omega), eh58, ch_set_ne (by omega), eh51, ch_set_ne (by omega), eh44, ch_set_ne (by omega), eh37, ch_set_ne (by omega), eh31, ch_set_ne (by omega), eh25, ch_set_ne (by omega), eh20, ch_set_ne (by omega), eh15, ch_set_ne (by omega), eh11, ch_set_ne (by omega), eh7, ch_set_ne (by omega), eh4, ch_set_ne (by omega), eh1, ch_set_ne (by omega)], rfl⟩
set_option maxHeartbeats 4000000 in
set_option maxRecDepth 100000 in
theorem c_X11_init (l : Launch) (D : va_G) (cI cL cR : ClassId) (lo : Nat) (h : ch_H) (hX : h lo = some (.inr (10, [.null, .int (iI 0), .null, .int (iI 0), .null, .null, .null]))) : ch_C l (eE D cI cL cR lo) M_X11_init (rM 3 16 1032) [.ref lo] h (lo + 1) (fun r0 h2 hi2 => r0 = none ∧ hi2 = lo + 17 ∧ h2 lo = some (.inr (10, [.ref (lo + 1), .int (iI 0), .ref (lo + 2), .int (iI 0), .ref (lo + 3), .ref (lo + 13), .ref (lo + 15)])) ∧ h2 (lo + 1) = some (aI cI 6 (fun _ => 0)) ∧ h2 (lo + 2) = some (aR cR 60 (fun _ => none)) ∧ wwE cI cR lo h2 ∧ ruP cI h2 (lo + 13) (lo + 14) [] ∧ ruP cI h2 (lo + 15) (lo + 16) []) := by
  refine ch_C.of rfl (Nat.le_of_ble_eq_true rfl) ?_
  refine gx_aload_n 0 dX11_init_0 rfl rfl ?_
  refine gx_objInit mw_1_20 mw_1_21 mw_1_22 dX11_init_1 (by decide) (Nat.le_of_ble_eq_true rfl) ?_
  refine gx_aload_n 0 dX11_init_4 rfl rfl ?_
  refine gx_bipush (iI 6) dX11_init_5 (by decide) ?_
  refine gy_newi 6 mw_1_54 dX11_init_7 rfl (by decide) (by first | exact Nat.le_of_ble_eq_true rfl | (simp only [rM]; omega)) (by first | exact Nat.le_of_ble_eq_true rfl | (simp only [rM]; omega)) (fun h1 eh1 => ?_)
  have k2 : h1 lo = some (.inr (10, [.null, .int (iI 0), .null, .int (iI 0), .null, .null, .null])) := by rw [eh1, ch_set_ne (by first | assumption | omega)]; exact hX
  have k3 : h1 (lo + 1) = some (aI cI 6 (fun _ => 0)) := by rw [eh1]; exact ch_set_self
  refine gy_put (ci := 10) (f := 0) (C := RX11) (T := TX11) (N := 7) (ty := .array (.int)) (fs2 := [.ref (lo + 1), .int (iI 0), .null, .int (iI 0), .null, .null, .null]) tyX11 rfl inX11 tyX11_ok nmX11 (by decide) mw_1_90 (Or.inr ⟨rfl, rfl, rfl⟩) (by decide +kernel) rfl rfl dX11_init_9 k2 (by simp) rfl (fun h4 eh4 => ?_)
  have k5 : h4 (lo + 1) = some (aI cI 6 (fun _ => 0)) := by rw [eh4, ch_set_ne (by first | assumption | exact Ne.symm (by assumption) | omega)]; exact k3
  have k6 : h4 lo = some (.inr (10, [.ref (lo + 1), .int (iI 0), .null, .int (iI 0), .null, .null, .null])) := by rw [eh4]; exact ch_set_self
  refine gx_aload_n 0 dX11_init_12 rfl rfl ?_
  refine gx_iconst (iI 0) dX11_init_13 rfl ?_
  refine gy_put (ci := 10) (f := 1) (C := RX11) (T := TX11) (N := 7) (ty := .int) (fs2 := [.ref (lo + 1), .int (iI 0), .null, .int (iI 0), .null, .null, .null]) tyX11 rfl inX11 tyX11_ok nmX11 (by decide) mw_1_91 (Or.inl rfl) (by decide +kernel) rfl rfl dX11_init_14 k6 (by simp) rfl (fun h7 eh7 => ?_)
  have k8 : h7 (lo + 1) = some (aI cI 6 (fun _ => 0)) := by rw [eh7, ch_set_ne (by first | assumption | exact Ne.symm (by assumption) | omega)]; exact k5
  have k9 : h7 lo = some (.inr (10, [.ref (lo + 1), .int (iI 0), .null, .int (iI 0), .null, .null, .null])) := by rw [eh7]; exact ch_set_self
  refine gx_aload_n 0 dX11_init_17 rfl rfl ?_
  refine gx_bipush (iI 60) dX11_init_18 (by decide) ?_
  refine gy_anew 60 mw_1_23 nw_0 dX11_init_20 rfl (by decide) (by first | exact Nat.le_of_ble_eq_true rfl | (simp only [rM]; omega)) (by first | exact Nat.le_of_ble_eq_true rfl | (simp only [rM]; omega)) (fun h10 eh10 => ?_)
  have k11 : h10 (lo + 1) = some (aI cI 6 (fun _ => 0)) := by rw [eh10, ch_set_ne (by first | assumption | omega)]; exact k8
  have k12 : h10 lo = some (.inr (10, [.ref (lo + 1), .int (iI 0), .null, .int (iI 0), .null, .null, .null])) := by rw [eh10, ch_set_ne (by first | assumption | omega)]; exact k9
  have k13 : h10 (lo + 2) = some (aR cR 60 (fun _ => none)) := by rw [eh10]; exact ch_set_self
  refine gy_put (ci := 10) (f := 2) (C := RX11) (T := TX11) (N := 7) (ty := .array (.object "SpanSolids$Solid")) (fs2 := [.ref (lo + 1), .int (iI 0), .ref (lo + 2), .int (iI 0), .null, .null, .null]) tyX11 rfl inX11 tyX11_ok nmX11 (by decide) mw_1_92 (Or.inr ⟨rfl, rfl, rfl⟩) (by decide +kernel) rfl rfl dX11_init_23 k12 (by simp) rfl (fun h14 eh14 => ?_)
  have k15 : h14 (lo + 1) = some (aI cI 6 (fun _ => 0)) := by rw [eh14, ch_set_ne (by first | assumption | exact Ne.symm (by assumption) | omega)]; exact k11
  have k16 : h14 (lo + 2) = some (aR cR 60 (fun _ => none)) := by rw [eh14, ch_set_ne (by first | assumption | exact Ne.symm (by assumption) | omega)]; exact k13
  have k17 : h14 lo = some (.inr (10, [.ref (lo + 1), .int (iI 0), .ref (lo + 2), .int (iI 0), .null, .null, .null])) := by rw [eh14]; exact ch_set_self
  refine gx_aload_n 0 dX11_init_26 rfl rfl ?_
  refine gx_iconst (iI 0) dX11_init_27 rfl ?_
  refine gy_put (ci := 10) (f := 3) (C := RX11) (T := TX11) (N := 7) (ty := .int) (fs2 := [.ref (lo + 1), .int (iI 0), .ref (lo + 2), .int (iI 0), .null, .null, .null]) tyX11 rfl inX11 tyX11_ok nmX11 (by decide) mw_1_93 (Or.inl rfl) (by decide +kernel) rfl rfl dX11_init_28 k17 (by simp) rfl (fun h18 eh18 => ?_)
  have k19 : h18 (lo + 1) = some (aI cI 6 (fun _ => 0)) := by rw [eh18, ch_set_ne (by first | assumption | exact Ne.symm (by assumption) | omega)]; exact k15
  have k20 : h18 (lo + 2) = some (aR cR 60 (fun _ => none)) := by rw [eh18, ch_set_ne (by first | assumption | exact Ne.symm (by assumption) | omega)]; exact k16
  have k21 : h18 lo = some (.inr (10, [.ref (lo + 1), .int (iI 0), .ref (lo + 2), .int (iI 0), .null, .null, .null])) := by rw [eh18]; exact ch_set_self
  refine gx_aload_n 0 dX11_init_31 rfl rfl ?_
  refine gy_new (ci := 9) (C := RX10) (T := TX10) (N := 7) [.null, .null, .null, .null, .null, .int (iI 0), .null] tyX10 rfl inX10 tyX10_ok mw_1_25 mw_1_26 mw_1_2 (fun j hj => by rcases (show j = 0 ∨ j = 1 ∨ j = 2 ∨ j = 3 ∨ j = 4 ∨ j = 5 ∨ j = 6 by omega) with rfl | rfl | rfl | rfl | rfl | rfl | rfl <;> rfl) (by first | exact Nat.le_of_ble_eq_true rfl | (simp only [rM]; omega)) (by first | exact Nat.le_of_ble_eq_true rfl | (simp only [rM]; omega)) dX11_init_32 (fun h22 eh22 => ?_)
  have k23 : h22 (lo + 1) = some (aI cI 6 (fun _ => 0)) := by rw [eh22, ch_set_ne (by first | assumption | omega)]; exact k19
  have k24 : h22 (lo + 2) = some (aR cR 60 (fun _ => none)) := by rw [eh22, ch_set_ne (by first | assumption | omega)]; exact k20
  have k25 : h22 lo = some (.inr (10, [.ref (lo + 1), .int (iI 0), .ref (lo + 2), .int (iI 0), .null, .null, .null])) := by rw [eh22, ch_set_ne (by first | assumption | omega)]; exact k21
  have k26 : h22 (lo + 3) = some (.inr (9, [.null, .null, .null, .null, .null, .int (iI 0), .null])) := by rw [eh22]; exact ch_set_self
  refine gx_dup dX11_init_35 rfl ?_
  refine gx_callI (c_X10_init l D cI cL cR lo h22 k26) ok_X10_init mw_1_27 mw_1_28 rfl rfl dX11_init_36 rfl rfl (Nat.le_of_ble_eq_true rfl) (by first | exact Nat.le_of_ble_eq_true rfl | (simp only [rM]; omega)) (by first | exact Nat.le_of_ble_eq_true rfl | (simp only [rM]; omega)) (by first | exact Nat.le_of_ble_eq_true rfl | (simp only [rM]; omega)) (by first | exact Nat.le_of_ble_eq_true rfl | (simp only [rM]; omega)) (fun r27 h28 u29 q30 g31 => ?_)
  obtain ⟨rfl, WE, wfr, rfl⟩ := q30
  have k32 : h28 (lo + 1) = some (aI cI 6 (fun _ => 0)) := by rw [wfr _ (by omega)]; exact k23
  have k33 : h28 (lo + 2) = some (aR cR 60 (fun _ => none)) := by rw [wfr _ (by omega)]; exact k24
  have k34 : h28 (lo) = some (.inr (10, [.ref (lo + 1), .int (iI 0), .ref (lo + 2), .int (iI 0), .null, .null, .null])) := by rw [wfr _ (by omega)]; exact k25
  refine ch_Gst (st2 := [.ref (lo + 3), .ref lo]) rfl ?_
  refine gy_put (ci := 10) (f := 4) (C := RX11) (T := TX11) (N := 7) (ty := .object "SpanSolids$Walk") (fs2 := [.ref (lo + 1), .int (iI 0), .ref (lo + 2), .int (iI 0), .ref (lo + 3), .null, .null]) tyX11 rfl inX11 tyX11_ok nmX11 (by decide) mw_1_94 (Or.inr ⟨rfl, rfl, rfl⟩) (by decide +kernel) rfl rfl dX11_init_39 k34 (by simp) rfl (fun h35 eh35 => ?_)
  have k36 : h35 (lo + 1) = some (aI cI 6 (fun _ => 0)) := by rw [eh35, ch_set_ne (by first | assumption | exact Ne.symm (by assumption) | omega)]; exact k32
  have k37 : h35 (lo + 2) = some (aR cR 60 (fun _ => none)) := by rw [eh35, ch_set_ne (by first | assumption | exact Ne.symm (by assumption) | omega)]; exact k33
  have k38 : h35 lo = some (.inr (10, [.ref (lo + 1), .int (iI 0), .ref (lo + 2), .int (iI 0), .ref (lo + 3), .null, .null])) := by rw [eh35]; exact ch_set_self
  refine gx_aload_n 0 dX11_init_42 rfl rfl ?_
  refine gy_new (ci := 7) (C := RX7) (T := TX7) (N := 2) [.null, .int (iI 0)] tyX7 rfl inX7 tyX7_ok mw_1_77 mw_1_78 mw_1_4 (fun j hj => by rcases (show j = 0 ∨ j = 1 by omega) with rfl | rfl <;> rfl) (by first | exact Nat.le_of_ble_eq_true rfl | (simp only [rM]; omega)) (by first | exact Nat.le_of_ble_eq_true rfl | (simp only [rM]; omega)) dX11_init_43 (fun h39 eh39 => ?_)
  have k40 : h39 (lo + 1) = some (aI cI 6 (fun _ => 0)) := by rw [eh39, ch_set_ne (by first | assumption | omega)]; exact k36
  have k41 : h39 (lo + 2) = some (aR cR 60 (fun _ => none)) := by rw [eh39, ch_set_ne (by first | assumption | omega)]; exact k37
  have k42 : h39 lo = some (.inr (10, [.ref (lo + 1), .int (iI 0), .ref (lo + 2), .int (iI 0), .ref (lo + 3), .null, .null])) := by rw [eh39, ch_set_ne (by first | assumption | omega)]; exact k38
  have k43 : h39 (lo + 13) = some (.inr (7, [.null, .int (iI 0)])) := by rw [eh39]; exact ch_set_self
  refine gx_dup dX11_init_46 rfl ?_
  refine gx_callI (c_X7_init l D cI cL cR lo h39 (lo + 14) (lo + 13) (by omega) k43) ok_X7_init mw_1_79 mw_1_80 rfl rfl dX11_init_47 rfl rfl (Nat.le_of_ble_eq_true rfl) (by first | exact Nat.le_of_ble_eq_true rfl | (simp only [rM]; omega)) (by first | exact Nat.le_of_ble_eq_true rfl | (simp only [rM]; omega)) (by first | exact Nat.le_of_ble_eq_true rfl | (simp only [rM]; omega)) (by first | exact Nat.le_of_ble_eq_true rfl | (simp only [rM]; omega)) (fun r45 h46 u47 q48 g49 => ?_)
  obtain ⟨rfl, er44, rfl⟩ := q48
  have k50 : h46 (lo + 1) = some (aI cI 6 (fun _ => 0)) := by rw [er44, ch_set_ne (by omega), ch_set_ne (by omega)]; exact k40
  have k51 : h46 (lo + 2) = some (aR cR 60 (fun _ => none)) := by rw [er44, ch_set_ne (by omega), ch_set_ne (by omega)]; exact k41
  have k52 : h46 (lo) = some (.inr (10, [.ref (lo + 1), .int (iI 0), .ref (lo + 2), .int (iI 0), .ref (lo + 3), .null, .null])) := by rw [er44, ch_set_ne (by omega), ch_set_ne (by omega)]; exact k42
  have k53 : h46 (lo + 13) = some (.inr (7, [.ref (lo + 14), .int (iI 0)])) := by rw [er44]; exact ch_set_self
  have k54 : h46 (lo + 14) = some (aI cI 100 (fun _ => 0)) := by rw [er44, ch_set_ne (by omega)]; exact ch_set_self
  refine ch_Gst (st2 := [.ref (lo + 13), .ref lo]) rfl ?_
  refine gy_put (ci := 10) (f := 5) (C := RX11) (T := TX11) (N := 7) (ty := .object "SpanSolids$Runs") (fs2 := [.ref (lo + 1), .int (iI 0), .ref (lo + 2), .int (iI 0), .ref (lo + 3), .ref (lo + 13), .null]) tyX11 rfl inX11 tyX11_ok nmX11 (by decide) mw_1_95 (Or.inr ⟨rfl, rfl, rfl⟩) (by decide +kernel) rfl rfl dX11_init_50 k52 (by simp) rfl (fun h55 eh55 => ?_)
  have k56 : h55 (lo + 1) = some (aI cI 6 (fun _ => 0)) := by rw [eh55, ch_set_ne (by first | assumption | exact Ne.symm (by assumption) | omega)]; exact k50
  have k57 : h55 (lo + 2) = some (aR cR 60 (fun _ => none)) := by rw [eh55, ch_set_ne (by first | assumption | exact Ne.symm (by assumption) | omega)]; exact k51
  have k58 : h55 (lo + 13) = some (.inr (7, [.ref (lo + 14), .int (iI 0)])) := by rw [eh55, ch_set_ne (by first | assumption | exact Ne.symm (by assumption) | omega)]; exact k53
  have k59 : h55 (lo + 14) = some (aI cI 100 (fun _ => 0)) := by rw [eh55, ch_set_ne (by first | assumption | exact Ne.symm (by assumption) | omega)]; exact k54
  have k60 : h55 lo = some (.inr (10, [.ref (lo + 1), .int (iI 0), .ref (lo + 2), .int (iI 0), .ref (lo + 3), .ref (lo + 13), .null])) := by rw [eh55]; exact ch_set_self
  refine gx_aload_n 0 dX11_init_53 rfl rfl ?_
  refine gy_new (ci := 7) (C := RX7) (T := TX7) (N := 2) [.null, .int (iI 0)] tyX7 rfl inX7 tyX7_ok mw_1_77 mw_1_78 mw_1_4 (fun j hj => by rcases (show j = 0 ∨ j = 1 by omega) with rfl | rfl <;> rfl) (by first | exact Nat.le_of_ble_eq_true rfl | (simp only [rM]; omega)) (by first | exact Nat.le_of_ble_eq_true rfl | (simp only [rM]; omega)) dX11_init_54 (fun h61 eh61 => ?_)
  have k62 : h61 (lo + 1) = some (aI cI 6 (fun _ => 0)) := by rw [eh61, ch_set_ne (by first | assumption | omega)]; exact k56
  have k63 : h61 (lo + 2) = some (aR cR 60 (fun _ => none)) := by rw [eh61, ch_set_ne (by first | assumption | omega)]; exact k57
  have k64 : h61 (lo + 13) = some (.inr (7, [.ref (lo + 14), .int (iI 0)])) := by rw [eh61, ch_set_ne (by first | assumption | omega)]; exact k58
  have k65 : h61 (lo + 14) = some (aI cI 100 (fun _ => 0)) := by rw [eh61, ch_set_ne (by first | assumption | omega)]; exact k59
  have k66 : h61 lo = some (.inr (10, [.ref (lo + 1), .int (iI 0), .ref (lo + 2), .int (iI 0), .ref (lo + 3), .ref (lo + 13), .null])) := by rw [eh61, ch_set_ne (by first | assumption | omega)]; exact k60
  have k67 : h61 (lo + 15) = some (.inr (7, [.null, .int (iI 0)])) := by rw [eh61]; exact ch_set_self
  refine gx_dup dX11_init_57 rfl ?_
  refine gx_callI (c_X7_init l D cI cL cR lo h61 (lo + 16) (lo + 15) (by omega) k67) ok_X7_init mw_1_79 mw_1_80 rfl rfl dX11_init_58 rfl rfl (Nat.le_of_ble_eq_true rfl) (by first | exact Nat.le_of_ble_eq_true rfl | (simp only [rM]; omega)) (by first | exact Nat.le_of_ble_eq_true rfl | (simp only [rM]; omega)) (by first | exact Nat.le_of_ble_eq_true rfl | (simp only [rM]; omega)) (by first | exact Nat.le_of_ble_eq_true rfl | (simp only [rM]; omega)) (fun r69 h70 u71 q72 g73 => ?_)
  obtain ⟨rfl, er68, rfl⟩ := q72
  have k74 : h70 (lo + 1) = some (aI cI 6 (fun _ => 0)) := by rw [er68, ch_set_ne (by omega), ch_set_ne (by omega)]; exact k62
  have k75 : h70 (lo + 2) = some (aR cR 60 (fun _ => none)) := by rw [er68, ch_set_ne (by omega), ch_set_ne (by omega)]; exact k63
  have k76 : h70 (lo + 13) = some (.inr (7, [.ref (lo + 14), .int (iI 0)])) := by rw [er68, ch_set_ne (by omega), ch_set_ne (by omega)]; exact k64
  have k77 : h70 (lo + 14) = some (aI cI 100 (fun _ => 0)) := by rw [er68, ch_set_ne (by omega), ch_set_ne (by omega)]; exact k65
  have k78 : h70 (lo) = some (.inr (10, [.ref (lo + 1), .int (iI 0), .ref (lo + 2), .int (iI 0), .ref (lo + 3), .ref (lo + 13), .null])) := by rw [er68, ch_set_ne (by omega), ch_set_ne (by omega)]; exact k66
  have k79 : h70 (lo + 15) = some (.inr (7, [.ref (lo + 16), .int (iI 0)])) := by rw [er68]; exact ch_set_self
  have k80 : h70 (lo + 16) = some (aI cI 100 (fun _ => 0)) := by rw [er68, ch_set_ne (by omega)]; exact ch_set_self
  refine ch_Gst (st2 := [.ref (lo + 15), .ref lo]) rfl ?_
  refine gy_put (ci := 10) (f := 6) (C := RX11) (T := TX11) (N := 7) (ty := .object "SpanSolids$Runs") (fs2 := [.ref (lo + 1), .int (iI 0), .ref (lo + 2), .int (iI 0), .ref (lo + 3), .ref (lo + 13), .ref (lo + 15)]) tyX11 rfl inX11 tyX11_ok nmX11 (by decide) mw_1_96 (Or.inr ⟨rfl, rfl, rfl⟩) (by decide +kernel) rfl rfl dX11_init_61 k78 (by simp) rfl (fun h81 eh81 => ?_)
  have k82 : h81 (lo + 1) = some (aI cI 6 (fun _ => 0)) := by rw [eh81, ch_set_ne (by first | assumption | exact Ne.symm (by assumption) | omega)]; exact k74
  have k83 : h81 (lo + 2) = some (aR cR 60 (fun _ => none)) := by rw [eh81, ch_set_ne (by first | assumption | exact Ne.symm (by assumption) | omega)]; exact k75
  have k84 : h81 (lo + 13) = some (.inr (7, [.ref (lo + 14), .int (iI 0)])) := by rw [eh81, ch_set_ne (by first | assumption | exact Ne.symm (by assumption) | omega)]; exact k76
  have k85 : h81 (lo + 14) = some (aI cI 100 (fun _ => 0)) := by rw [eh81, ch_set_ne (by first | assumption | exact Ne.symm (by assumption) | omega)]; exact k77
  have k86 : h81 (lo + 15) = some (.inr (7, [.ref (lo + 16), .int (iI 0)])) := by rw [eh81, ch_set_ne (by first | assumption | exact Ne.symm (by assumption) | omega)]; exact k79
  have k87 : h81 (lo + 16) = some (aI cI 100 (fun _ => 0)) := by rw [eh81, ch_set_ne (by first | assumption | exact Ne.symm (by assumption) | omega)]; exact k80
  have k88 : h81 lo = some (.inr (10, [.ref (lo + 1), .int (iI 0), .ref (lo + 2), .int (iI 0), .ref (lo + 3), .ref (lo + 13), .ref (lo + 15)])) := by rw [eh81]; exact ch_set_self
  refine gx_vret rfl dX11_init_64 (by first | exact Nat.le_of_ble_eq_true rfl | (simp only [rM]; omega)) (by first | exact Nat.le_of_ble_eq_true rfl | (simp only [rM]; omega)) ?_
  exact ⟨rfl, rfl, k88, k82, k83, wwE_fr WE (fun b b1 b2 => by rw [eh81, ch_set_ne (by omega), er68, ch_set_ne (by omega), ch_set_ne (by omega), eh61, ch_set_ne (by omega), eh55, ch_set_ne (by omega), er44, ch_set_ne (by omega), ch_set_ne (by omega), eh39, ch_set_ne (by omega), eh35, ch_set_ne (by omega)]), ⟨_, k84, k85, by simp, fun j hj => absurd hj (by simp), fun j hj => absurd hj (by simp)⟩, ⟨_, k86, k87, by simp, fun j hj => absurd hj (by simp), fun j hj => absurd hj (by simp)⟩⟩
end
