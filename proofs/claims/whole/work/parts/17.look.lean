section
theorem seg_00 : seg 0 0 = [] := by simp [seg]
set_option maxHeartbeats 4000000 in
set_option maxRecDepth 100000 in
theorem c_X1_lookFrom (l : Launch) (D : va_G) (cI cL cR : ClassId) (lo : Nat) (h : ch_H) (hi : Nat) (gw : Nat → Option Nat) (fx fy fl fh : Nat → Int) (wc : Int) (Ls : List (List Int)) (W : wwP cI cR lo h gw fx fy fl fh wc Ls) (p  : Nat) (wt x y z eX eY eZ : Int) (hp : h p = some (.inr (1, [.int (iI wt), .int (iI x), .int (iI y), .int (iI z), .int (iI eX), .int (iI eY), .int (iI eZ)]))) (hpl : lo + 13 ≤ p) (h_x : -5000 ≤ x ∧ x ≤ 5000) (h_y : -5000 ≤ y ∧ y ≤ 5000) (h_z : -5000 ≤ z ∧ z ≤ 5000) (h_eX : -5000 ≤ eX ∧ eX ≤ 5000) (h_eY : -5000 ≤ eY ∧ eY ≤ 5000) (h_eZ : -5000 ≤ eZ ∧ eZ ≤ 5000) (px py t : Int) (hpx : -500000 ≤ px ∧ px ≤ 500000) (hpy : -500000 ≤ py ∧ py ≤ 500000) (ht : -500000 ≤ t ∧ t ≤ 500000) (hL1 : Ls.length < 50) (hL2 : Ls.flatten.length + 2 ≤ 100) : ch_C l (eE D cI cL cR lo) M_X1_lookFrom (rM 2 0 0) [.ref p, .int (iI px), .int (iI py), .int (iI t), .ref (lo + 3)] h hi (fun r0 h2 hi2 => r0 = none ∧ wwP cI cR lo h2 gw fx fy fl fh wc (Ls ++ [bxS x y z eX eY eZ px py t]) ∧ ch_fr (wwL lo) h h2 ∧ hi = hi2) := by
  refine ch_C.of rfl (Nat.le_of_ble_eq_true rfl) ?_
  obtain ⟨vK, hK⟩ := wwP_K W
  refine gx_aload_n 0 dX1_lookFrom_0 rfl rfl ?_
  refine gx_get (ci := 1) (f := 1) (C := RX1) (T := TX1) (N := 7) rfl inX1 (by decide) mw_1_148 dX1_lookFrom_1 hp rfl ?_
  refine gx_iload_n 1 dX1_lookFrom_4 rfl rfl ?_
  refine gy_icmp_gt 52 dX1_lookFrom_5 (by decide) (by constructor <;> omega) (by constructor <;> omega) (fun c5 => ?_) (fun c5 => ?_)
  · refine gx_aload 4 dX1_lookFrom_52 rfl ?_
    refine gx_callV (ci := 9) (c_X10_giveNone l D cI cL cR lo h hi gw fx fy fl fh wc Ls W hL1 hL2) ok_X10_giveNone mw_2_149 mw_2_130 mw_2_131 dX1_lookFrom_54 rfl hK rfl rfl (Nat.le_of_ble_eq_true rfl) (by first | exact Nat.le_of_ble_eq_true rfl | (simp only [rM]; omega)) (by first | exact Nat.le_of_ble_eq_true rfl | (simp only [rM]; omega)) (by first | exact Nat.le_of_ble_eq_true rfl | (simp only [rM]; omega)) (by first | exact Nat.le_of_ble_eq_true rfl | (simp only [rM]; omega)) (fun r1 h2 u3 q4 g5 => ?_)
    obtain ⟨rfl, W6, fr7, rfl⟩ := q4
    have k8 : h2 p = some (.inr (1, [.int (iI wt), .int (iI x), .int (iI y), .int (iI z), .int (iI eX), .int (iI eY), .int (iI eZ)])) := by rw [fr7 p (wwL_out (by omega))]; exact hp
    obtain ⟨vK9, hK10⟩ := wwP_K W6
    refine ch_Gst (st2 := []) rfl ?_
    refine gx_vret rfl dX1_lookFrom_57 (by first | exact Nat.le_of_ble_eq_true rfl | (simp only [rM]; omega)) (by first | exact Nat.le_of_ble_eq_true rfl | (simp only [rM]; omega)) ?_
    exact ⟨rfl, by unfold bxS; rw [if_neg (by omega)]; rw [← seg_00]; exact W6, fr7, rfl⟩
  · refine gx_iload_n 1 dX1_lookFrom_8 rfl rfl ?_
    refine gx_aload_n 0 dX1_lookFrom_9 rfl rfl ?_
    refine gx_get (ci := 1) (f := 4) (C := RX1) (T := TX1) (N := 7) rfl inX1 (by decide) mw_1_151 dX1_lookFrom_10 hp rfl ?_
    refine gy_icmp_ge 52 dX1_lookFrom_13 (by decide) (by constructor <;> omega) (by constructor <;> omega) (fun c13 => ?_) (fun c13 => ?_)
    · refine gx_aload 4 dX1_lookFrom_52 rfl ?_
      refine gx_callV (ci := 9) (c_X10_giveNone l D cI cL cR lo h hi gw fx fy fl fh wc Ls W hL1 hL2) ok_X10_giveNone mw_2_149 mw_2_130 mw_2_131 dX1_lookFrom_54 rfl hK rfl rfl (Nat.le_of_ble_eq_true rfl) (by first | exact Nat.le_of_ble_eq_true rfl | (simp only [rM]; omega)) (by first | exact Nat.le_of_ble_eq_true rfl | (simp only [rM]; omega)) (by first | exact Nat.le_of_ble_eq_true rfl | (simp only [rM]; omega)) (by first | exact Nat.le_of_ble_eq_true rfl | (simp only [rM]; omega)) (fun r11 h12 u13 q14 g15 => ?_)
      obtain ⟨rfl, W16, fr17, rfl⟩ := q14
      have k18 : h12 p = some (.inr (1, [.int (iI wt), .int (iI x), .int (iI y), .int (iI z), .int (iI eX), .int (iI eY), .int (iI eZ)])) := by rw [fr17 p (wwL_out (by omega))]; exact hp
      obtain ⟨vK19, hK20⟩ := wwP_K W16
      refine ch_Gst (st2 := []) rfl ?_
      refine gx_vret rfl dX1_lookFrom_57 (by first | exact Nat.le_of_ble_eq_true rfl | (simp only [rM]; omega)) (by first | exact Nat.le_of_ble_eq_true rfl | (simp only [rM]; omega)) ?_
      exact ⟨rfl, by unfold bxS; rw [if_neg (by omega)]; rw [← seg_00]; exact W16, fr17, rfl⟩
    · refine gx_aload_n 0 dX1_lookFrom_16 rfl rfl ?_
      refine gx_get (ci := 1) (f := 2) (C := RX1) (T := TX1) (N := 7) rfl inX1 (by decide) mw_1_149 dX1_lookFrom_17 hp rfl ?_
      refine gx_iload_n 2 dX1_lookFrom_20 rfl rfl ?_
      refine gy_icmp_gt 52 dX1_lookFrom_21 (by decide) (by constructor <;> omega) (by constructor <;> omega) (fun c21 => ?_) (fun c21 => ?_)
      · refine gx_aload 4 dX1_lookFrom_52 rfl ?_
        refine gx_callV (ci := 9) (c_X10_giveNone l D cI cL cR lo h hi gw fx fy fl fh wc Ls W hL1 hL2) ok_X10_giveNone mw_2_149 mw_2_130 mw_2_131 dX1_lookFrom_54 rfl hK rfl rfl (Nat.le_of_ble_eq_true rfl) (by first | exact Nat.le_of_ble_eq_true rfl | (simp only [rM]; omega)) (by first | exact Nat.le_of_ble_eq_true rfl | (simp only [rM]; omega)) (by first | exact Nat.le_of_ble_eq_true rfl | (simp only [rM]; omega)) (by first | exact Nat.le_of_ble_eq_true rfl | (simp only [rM]; omega)) (fun r21 h22 u23 q24 g25 => ?_)
        obtain ⟨rfl, W26, fr27, rfl⟩ := q24
        have k28 : h22 p = some (.inr (1, [.int (iI wt), .int (iI x), .int (iI y), .int (iI z), .int (iI eX), .int (iI eY), .int (iI eZ)])) := by rw [fr27 p (wwL_out (by omega))]; exact hp
        obtain ⟨vK29, hK30⟩ := wwP_K W26
        refine ch_Gst (st2 := []) rfl ?_
        refine gx_vret rfl dX1_lookFrom_57 (by first | exact Nat.le_of_ble_eq_true rfl | (simp only [rM]; omega)) (by first | exact Nat.le_of_ble_eq_true rfl | (simp only [rM]; omega)) ?_
        exact ⟨rfl, by unfold bxS; rw [if_neg (by omega)]; rw [← seg_00]; exact W26, fr27, rfl⟩
      · refine gx_iload_n 2 dX1_lookFrom_24 rfl rfl ?_
        refine gx_aload_n 0 dX1_lookFrom_25 rfl rfl ?_
        refine gx_get (ci := 1) (f := 5) (C := RX1) (T := TX1) (N := 7) rfl inX1 (by decide) mw_1_152 dX1_lookFrom_26 hp rfl ?_
        refine gy_icmp_ge 52 dX1_lookFrom_29 (by decide) (by constructor <;> omega) (by constructor <;> omega) (fun c29 => ?_) (fun c29 => ?_)
        · refine gx_aload 4 dX1_lookFrom_52 rfl ?_
          refine gx_callV (ci := 9) (c_X10_giveNone l D cI cL cR lo h hi gw fx fy fl fh wc Ls W hL1 hL2) ok_X10_giveNone mw_2_149 mw_2_130 mw_2_131 dX1_lookFrom_54 rfl hK rfl rfl (Nat.le_of_ble_eq_true rfl) (by first | exact Nat.le_of_ble_eq_true rfl | (simp only [rM]; omega)) (by first | exact Nat.le_of_ble_eq_true rfl | (simp only [rM]; omega)) (by first | exact Nat.le_of_ble_eq_true rfl | (simp only [rM]; omega)) (by first | exact Nat.le_of_ble_eq_true rfl | (simp only [rM]; omega)) (fun r31 h32 u33 q34 g35 => ?_)
          obtain ⟨rfl, W36, fr37, rfl⟩ := q34
          have k38 : h32 p = some (.inr (1, [.int (iI wt), .int (iI x), .int (iI y), .int (iI z), .int (iI eX), .int (iI eY), .int (iI eZ)])) := by rw [fr37 p (wwL_out (by omega))]; exact hp
          obtain ⟨vK39, hK40⟩ := wwP_K W36
          refine ch_Gst (st2 := []) rfl ?_
          refine gx_vret rfl dX1_lookFrom_57 (by first | exact Nat.le_of_ble_eq_true rfl | (simp only [rM]; omega)) (by first | exact Nat.le_of_ble_eq_true rfl | (simp only [rM]; omega)) ?_
          exact ⟨rfl, by unfold bxS; rw [if_neg (by omega)]; rw [← seg_00]; exact W36, fr37, rfl⟩
        · refine gx_aload 4 dX1_lookFrom_32 rfl ?_
          refine gx_aload_n 0 dX1_lookFrom_34 rfl rfl ?_
          refine gx_get (ci := 1) (f := 3) (C := RX1) (T := TX1) (N := 7) rfl inX1 (by decide) mw_1_150 dX1_lookFrom_35 hp rfl ?_
          refine gx_iload_n 3 dX1_lookFrom_38 rfl rfl ?_
          refine gy_iadd dX1_lookFrom_39 ?_
          refine gx_aload_n 0 dX1_lookFrom_40 rfl rfl ?_
          refine gx_get (ci := 1) (f := 6) (C := RX1) (T := TX1) (N := 7) rfl inX1 (by decide) mw_1_153 dX1_lookFrom_41 hp rfl ?_
          refine gx_iload_n 3 dX1_lookFrom_44 rfl rfl ?_
          refine gy_iadd dX1_lookFrom_45 ?_
          refine gx_callV (ci := 9) (c_X10_give l D cI cL cR lo h hi gw fx fy fl fh wc Ls W hL1 hL2 (z + t) (eZ + t) (by omega) (by omega)) ok_X10_give mw_2_148 mw_2_142 mw_2_143 dX1_lookFrom_46 rfl hK rfl rfl (Nat.le_of_ble_eq_true rfl) (by first | exact Nat.le_of_ble_eq_true rfl | (simp only [rM]; omega)) (by first | exact Nat.le_of_ble_eq_true rfl | (simp only [rM]; omega)) (by first | exact Nat.le_of_ble_eq_true rfl | (simp only [rM]; omega)) (by first | exact Nat.le_of_ble_eq_true rfl | (simp only [rM]; omega)) (fun r41 h42 u43 q44 g45 => ?_)
          obtain ⟨rfl, W46, fr47, rfl⟩ := q44
          have k48 : h42 p = some (.inr (1, [.int (iI wt), .int (iI x), .int (iI y), .int (iI z), .int (iI eX), .int (iI eY), .int (iI eZ)])) := by rw [fr47 p (wwL_out (by omega))]; exact hp
          obtain ⟨vK49, hK50⟩ := wwP_K W46
          refine ch_Gst (st2 := []) rfl ?_
          refine gx_goto 57 dX1_lookFrom_49 (by decide) ?_
          refine gx_vret rfl dX1_lookFrom_57 (by first | exact Nat.le_of_ble_eq_true rfl | (simp only [rM]; omega)) (by first | exact Nat.le_of_ble_eq_true rfl | (simp only [rM]; omega)) ?_
          exact ⟨rfl, by unfold bxS; rw [if_pos ⟨by omega, by omega, by omega, by omega⟩]; exact W46, fr47, rfl⟩
set_option maxHeartbeats 4000000 in
set_option maxRecDepth 100000 in
theorem c_X6_lookFrom (l : Launch) (D : va_G) (cI cL cR : ClassId) (lo : Nat) (h : ch_H) (hi : Nat) (gw : Nat → Option Nat) (fx fy fl fh : Nat → Int) (wc : Int) (Ls : List (List Int)) (W : wwP cI cR lo h gw fx fy fl fh wc Ls) (p  : Nat) (wt x y r z eZ : Int) (hp : h p = some (.inr (6, [.int (iI wt), .int (iI x), .int (iI y), .int (iI r), .int (iI z), .int (iI eZ)]))) (hpl : lo + 13 ≤ p) (h_x : -5000 ≤ x ∧ x ≤ 5000) (h_y : -5000 ≤ y ∧ y ≤ 5000) (h_r : -5000 ≤ r ∧ r ≤ 5000) (h_z : -5000 ≤ z ∧ z ≤ 5000) (h_eZ : -5000 ≤ eZ ∧ eZ ≤ 5000) (px py t : Int) (hpx : -500000 ≤ px ∧ px ≤ 500000) (hpy : -500000 ≤ py ∧ py ≤ 500000) (ht : -500000 ≤ t ∧ t ≤ 500000) (hL1 : Ls.length < 50) (hL2 : Ls.flatten.length + 2 ≤ 100) : ch_C l (eE D cI cL cR lo) M_X6_lookFrom (rM 2 0 0) [.ref p, .int (iI px), .int (iI py), .int (iI t), .ref (lo + 3)] h hi (fun r0 h2 hi2 => r0 = none ∧ wwP cI cR lo h2 gw fx fy fl fh wc (Ls ++ [poS x y r z eZ px py t]) ∧ ch_fr (wwL lo) h h2 ∧ hi = hi2) := by
  refine ch_C.of rfl (Nat.le_of_ble_eq_true rfl) ?_
  obtain ⟨vK, hK⟩ := wwP_K W
  have q1 := sqI_b (v := px - x) (by omega)
  have q2 := sqI_b (v := py - y) (by omega)
  have q3 := sqI_b (v := r) (by omega)
  refine gx_iload_n 1 dX6_lookFrom_0 rfl rfl ?_
  refine gx_aload_n 0 dX6_lookFrom_1 rfl rfl ?_
  refine gx_get (ci := 6) (f := 1) (C := RX6) (T := TX6) (N := 6) rfl inX6 (by decide) mw_1_180 dX6_lookFrom_2 hp rfl ?_
  refine gy_isub dX6_lookFrom_5 ?_
  refine gy_i2l dX6_lookFrom_6 (by constructor <;> omega) ?_
  refine gx_callSN (c_X11_square l D cI cL cR lo h hi (px - x)) ok_X11_square nw_5 mw_2_127 dX6_lookFrom_7 rfl rfl (Nat.le_of_ble_eq_true rfl) (by first | exact Nat.le_of_ble_eq_true rfl | (simp only [rM]; omega)) (by first | exact Nat.le_of_ble_eq_true rfl | (simp only [rM]; omega)) (by first | exact Nat.le_of_ble_eq_true rfl | (simp only [rM]; omega)) (by first | exact Nat.le_of_ble_eq_true rfl | (simp only [rM]; omega)) (fun r1 h2 u3 q4 g5 => ?_)
  obtain ⟨rfl, rfl, rfl⟩ := q4
  refine ch_Gst (st2 := [.long (lI (sqI (px - x)))]) rfl ?_
  refine gx_iload_n 2 dX6_lookFrom_10 rfl rfl ?_
  refine gx_aload_n 0 dX6_lookFrom_11 rfl rfl ?_
  refine gx_get (ci := 6) (f := 2) (C := RX6) (T := TX6) (N := 6) rfl inX6 (by decide) mw_1_181 dX6_lookFrom_12 hp rfl ?_
  refine gy_isub dX6_lookFrom_15 ?_
  refine gy_i2l dX6_lookFrom_16 (by constructor <;> omega) ?_
  refine gx_callSN (c_X11_square l D cI cL cR lo h hi (py - y)) ok_X11_square nw_5 mw_2_127 dX6_lookFrom_17 rfl rfl (Nat.le_of_ble_eq_true rfl) (by first | exact Nat.le_of_ble_eq_true rfl | (simp only [rM]; omega)) (by first | exact Nat.le_of_ble_eq_true rfl | (simp only [rM]; omega)) (by first | exact Nat.le_of_ble_eq_true rfl | (simp only [rM]; omega)) (by first | exact Nat.le_of_ble_eq_true rfl | (simp only [rM]; omega)) (fun r6 h7 u8 q9 g10 => ?_)
  obtain ⟨rfl, rfl, rfl⟩ := q9
  refine ch_Gst (st2 := [.long (lI (sqI (py - y))), .long (lI (sqI (px - x)))]) rfl ?_
  refine gy_ladd dX6_lookFrom_20 ?_
  refine gx_aload_n 0 dX6_lookFrom_21 rfl rfl ?_
  refine gx_get (ci := 6) (f := 3) (C := RX6) (T := TX6) (N := 6) rfl inX6 (by decide) mw_1_182 dX6_lookFrom_22 hp rfl ?_
  refine gy_i2l dX6_lookFrom_25 (by constructor <;> omega) ?_
  refine gx_callSN (c_X11_square l D cI cL cR lo h hi r) ok_X11_square nw_5 mw_2_127 dX6_lookFrom_26 rfl rfl (Nat.le_of_ble_eq_true rfl) (by first | exact Nat.le_of_ble_eq_true rfl | (simp only [rM]; omega)) (by first | exact Nat.le_of_ble_eq_true rfl | (simp only [rM]; omega)) (by first | exact Nat.le_of_ble_eq_true rfl | (simp only [rM]; omega)) (by first | exact Nat.le_of_ble_eq_true rfl | (simp only [rM]; omega)) (fun r11 h12 u13 q14 g15 => ?_)
  obtain ⟨rfl, rfl, rfl⟩ := q14
  refine ch_Gst (st2 := [.long (lI (sqI r)), .long (lI ((sqI (px - x)) + (sqI (py - y))))]) rfl ?_
  refine gy_lcmp_gt 53 dX6_lookFrom_29 dX6_lookFrom_30 (by decide) (by constructor <;> omega) (by constructor <;> omega) (fun c29 => ?_) (fun c29 => ?_)
  · refine gx_aload 4 dX6_lookFrom_53 rfl ?_
    refine gx_callV (ci := 9) (c_X10_giveNone l D cI cL cR lo h hi gw fx fy fl fh wc Ls W hL1 hL2) ok_X10_giveNone mw_2_177 mw_2_130 mw_2_131 dX6_lookFrom_55 rfl hK rfl rfl (Nat.le_of_ble_eq_true rfl) (by first | exact Nat.le_of_ble_eq_true rfl | (simp only [rM]; omega)) (by first | exact Nat.le_of_ble_eq_true rfl | (simp only [rM]; omega)) (by first | exact Nat.le_of_ble_eq_true rfl | (simp only [rM]; omega)) (by first | exact Nat.le_of_ble_eq_true rfl | (simp only [rM]; omega)) (fun r16 h17 u18 q19 g20 => ?_)
    obtain ⟨rfl, W21, fr22, rfl⟩ := q19
    have k23 : h17 p = some (.inr (6, [.int (iI wt), .int (iI x), .int (iI y), .int (iI r), .int (iI z), .int (iI eZ)])) := by rw [fr22 p (wwL_out (by omega))]; exact hp
    obtain ⟨vK24, hK25⟩ := wwP_K W21
    refine ch_Gst (st2 := []) rfl ?_
    refine gx_vret rfl dX6_lookFrom_58 (by first | exact Nat.le_of_ble_eq_true rfl | (simp only [rM]; omega)) (by first | exact Nat.le_of_ble_eq_true rfl | (simp only [rM]; omega)) ?_
    exact ⟨rfl, by unfold poS; rw [if_neg (by omega)]; rw [← seg_00]; exact W21, fr22, rfl⟩
  · refine gx_aload 4 dX6_lookFrom_33 rfl ?_
    refine gx_aload_n 0 dX6_lookFrom_35 rfl rfl ?_
    refine gx_get (ci := 6) (f := 4) (C := RX6) (T := TX6) (N := 6) rfl inX6 (by decide) mw_1_183 dX6_lookFrom_36 hp rfl ?_
    refine gx_iload_n 3 dX6_lookFrom_39 rfl rfl ?_
    refine gy_iadd dX6_lookFrom_40 ?_
    refine gx_aload_n 0 dX6_lookFrom_41 rfl rfl ?_
    refine gx_get (ci := 6) (f := 5) (C := RX6) (T := TX6) (N := 6) rfl inX6 (by decide) mw_1_184 dX6_lookFrom_42 hp rfl ?_
    refine gx_iload_n 3 dX6_lookFrom_45 rfl rfl ?_
    refine gy_iadd dX6_lookFrom_46 ?_
    refine gx_callV (ci := 9) (c_X10_give l D cI cL cR lo h hi gw fx fy fl fh wc Ls W hL1 hL2 (z + t) (eZ + t) (by omega) (by omega)) ok_X10_give mw_2_176 mw_2_142 mw_2_143 dX6_lookFrom_47 rfl hK rfl rfl (Nat.le_of_ble_eq_true rfl) (by first | exact Nat.le_of_ble_eq_true rfl | (simp only [rM]; omega)) (by first | exact Nat.le_of_ble_eq_true rfl | (simp only [rM]; omega)) (by first | exact Nat.le_of_ble_eq_true rfl | (simp only [rM]; omega)) (by first | exact Nat.le_of_ble_eq_true rfl | (simp only [rM]; omega)) (fun r26 h27 u28 q29 g30 => ?_)
    obtain ⟨rfl, W31, fr32, rfl⟩ := q29
    have k33 : h27 p = some (.inr (6, [.int (iI wt), .int (iI x), .int (iI y), .int (iI r), .int (iI z), .int (iI eZ)])) := by rw [fr32 p (wwL_out (by omega))]; exact hp
    obtain ⟨vK34, hK35⟩ := wwP_K W31
    refine ch_Gst (st2 := []) rfl ?_
    refine gx_goto 58 dX6_lookFrom_50 (by decide) ?_
    refine gx_vret rfl dX6_lookFrom_58 (by first | exact Nat.le_of_ble_eq_true rfl | (simp only [rM]; omega)) (by first | exact Nat.le_of_ble_eq_true rfl | (simp only [rM]; omega)) ?_
    exact ⟨rfl, by unfold poS; rw [if_pos (by omega)]; exact W31, fr32, rfl⟩
set_option maxHeartbeats 4000000 in
set_option maxRecDepth 100000 in
theorem c_X0_lookFrom (l : Launch) (D : va_G) (cI cL cR : ClassId) (lo : Nat) (h : ch_H) (hi : Nat) (gw : Nat → Option Nat) (fx fy fl fh : Nat → Int) (wc : Int) (Ls : List (List Int)) (W : wwP cI cR lo h gw fx fy fl fh wc Ls) (p  : Nat) (wt x y z r : Int) (hp : h p = some (.inr (0, [.int (iI wt), .int (iI x), .int (iI y), .int (iI z), .int (iI r)]))) (hpl : lo + 13 ≤ p) (h_x : -5000 ≤ x ∧ x ≤ 5000) (h_y : -5000 ≤ y ∧ y ≤ 5000) (h_z : -5000 ≤ z ∧ z ≤ 5000) (h_r : -5000 ≤ r ∧ r ≤ 5000) (hr0 : 0 ≤ r) (px py t : Int) (hpx : -500000 ≤ px ∧ px ≤ 500000) (hpy : -500000 ≤ py ∧ py ≤ 500000) (ht : -500000 ≤ t ∧ t ≤ 500000) (hL1 : Ls.length < 50) (hL2 : Ls.flatten.length + 2 ≤ 100) : ch_C l (eE D cI cL cR lo) M_X0_lookFrom (rM 2 0 0) [.ref p, .int (iI px), .int (iI py), .int (iI t), .ref (lo + 3)] h hi (fun r0 h2 hi2 => r0 = none ∧ wwP cI cR lo h2 gw fx fy fl fh wc (Ls ++ [baS x y z r px py t]) ∧ ch_fr (wwL lo) h h2 ∧ hi = hi2) := by
  refine ch_C.of rfl (Nat.le_of_ble_eq_true rfl) ?_
  obtain ⟨vK, hK⟩ := wwP_K W
  have q1 := sqI_b (v := px - x) (by omega)
  have q2 := sqI_b (v := py - y) (by omega)
  have q3 := sqI_b (v := r) (by omega)
  refine gx_aload_n 0 dX0_lookFrom_0 rfl rfl ?_
  refine gx_get (ci := 0) (f := 4) (C := RX0) (T := TX0) (N := 5) rfl inX0 (by decide) mw_1_206 dX0_lookFrom_1 hp rfl ?_
  refine gy_i2l dX0_lookFrom_4 (by constructor <;> omega) ?_
  refine gx_callSN (c_X11_square l D cI cL cR lo h hi r) ok_X11_square nw_2 mw_2_127 dX0_lookFrom_5 rfl rfl (Nat.le_of_ble_eq_true rfl) (by first | exact Nat.le_of_ble_eq_true rfl | (simp only [rM]; omega)) (by first | exact Nat.le_of_ble_eq_true rfl | (simp only [rM]; omega)) (by first | exact Nat.le_of_ble_eq_true rfl | (simp only [rM]; omega)) (by first | exact Nat.le_of_ble_eq_true rfl | (simp only [rM]; omega)) (fun r1 h2 u3 q4 g5 => ?_)
  obtain ⟨rfl, rfl, rfl⟩ := q4
  refine ch_Gst (st2 := [.long (lI (sqI r))]) rfl ?_
  refine gx_iload_n 1 dX0_lookFrom_8 rfl rfl ?_
  refine gx_aload_n 0 dX0_lookFrom_9 rfl rfl ?_
  refine gx_get (ci := 0) (f := 1) (C := RX0) (T := TX0) (N := 5) rfl inX0 (by decide) mw_1_203 dX0_lookFrom_10 hp rfl ?_
  refine gy_isub dX0_lookFrom_13 ?_
  refine gy_i2l dX0_lookFrom_14 (by constructor <;> omega) ?_
  refine gx_callSN (c_X11_square l D cI cL cR lo h hi (px - x)) ok_X11_square nw_2 mw_2_127 dX0_lookFrom_15 rfl rfl (Nat.le_of_ble_eq_true rfl) (by first | exact Nat.le_of_ble_eq_true rfl | (simp only [rM]; omega)) (by first | exact Nat.le_of_ble_eq_true rfl | (simp only [rM]; omega)) (by first | exact Nat.le_of_ble_eq_true rfl | (simp only [rM]; omega)) (by first | exact Nat.le_of_ble_eq_true rfl | (simp only [rM]; omega)) (fun r6 h7 u8 q9 g10 => ?_)
  obtain ⟨rfl, rfl, rfl⟩ := q9
  refine ch_Gst (st2 := [.long (lI (sqI (px - x))), .long (lI (sqI r))]) rfl ?_
  refine gy_lsub dX0_lookFrom_18 ?_
  refine gx_iload_n 2 dX0_lookFrom_19 rfl rfl ?_
  refine gx_aload_n 0 dX0_lookFrom_20 rfl rfl ?_
  refine gx_get (ci := 0) (f := 2) (C := RX0) (T := TX0) (N := 5) rfl inX0 (by decide) mw_1_204 dX0_lookFrom_21 hp rfl ?_
  refine gy_isub dX0_lookFrom_24 ?_
  refine gy_i2l dX0_lookFrom_25 (by constructor <;> omega) ?_
  refine gx_callSN (c_X11_square l D cI cL cR lo h hi (py - y)) ok_X11_square nw_2 mw_2_127 dX0_lookFrom_26 rfl rfl (Nat.le_of_ble_eq_true rfl) (by first | exact Nat.le_of_ble_eq_true rfl | (simp only [rM]; omega)) (by first | exact Nat.le_of_ble_eq_true rfl | (simp only [rM]; omega)) (by first | exact Nat.le_of_ble_eq_true rfl | (simp only [rM]; omega)) (by first | exact Nat.le_of_ble_eq_true rfl | (simp only [rM]; omega)) (fun r11 h12 u13 q14 g15 => ?_)
  obtain ⟨rfl, rfl, rfl⟩ := q14
  refine ch_Gst (st2 := [.long (lI (sqI (py - y))), .long (lI ((sqI r) - (sqI (px - x))))]) rfl ?_
  refine gy_lsub dX0_lookFrom_29 ?_
  refine gx_lstore [(5, .long (lI (((sqI r) - (sqI (px - x))) - (sqI (py - y))))), (0, .ref p), (1, .int (iI px)), (2, .int (iI py)), (3, .int (iI t)), (4, .ref (lo + 3))] dX0_lookFrom_30 (by decide) rfl ?_
  refine gx_lload 0 dX0_lookFrom_32 rfl ?_
  refine gx_lconst (lI 0) dX0_lookFrom_34 rfl ?_
  refine gy_lcmp_ge 47 dX0_lookFrom_35 dX0_lookFrom_36 (by decide) (by constructor <;> omega) (by decide) (fun c35 => ?_) (fun c35 => ?_)
  · refine gx_lload 0 dX0_lookFrom_47 rfl ?_
    refine gx_aload_n 1 dX0_lookFrom_49 rfl rfl ?_
    refine gx_get (ci := 0) (f := 4) (C := RX0) (T := TX0) (N := 5) rfl inX0 (by decide) mw_1_206 dX0_lookFrom_50 hp rfl ?_
    refine gx_callSN (c_X11_rootBelow l D cI cL cR lo h hi (((sqI r) - (sqI (px - x))) - (sqI (py - y))) r (by constructor <;> omega) (by omega)) ok_X11_rootBelow nw_3 mw_2_138 dX0_lookFrom_53 rfl rfl (Nat.le_of_ble_eq_true rfl) (by first | exact Nat.le_of_ble_eq_true rfl | (simp only [rM]; omega)) (by first | exact Nat.le_of_ble_eq_true rfl | (simp only [rM]; omega)) (by first | exact Nat.le_of_ble_eq_true rfl | (simp only [rM]; omega)) (by first | exact Nat.le_of_ble_eq_true rfl | (simp only [rM]; omega)) (fun r16 h17 u18 q19 g20 => ?_)
    obtain ⟨rfl, rfl, rfl⟩ := q19
    have hrt := rtB_in (v := ((sqI r) - (sqI (px - x))) - (sqI (py - y))) 32 0 r (by omega)
    refine ch_Gst (st2 := [.int (iI (rtB (((sqI r) - (sqI (px - x))) - (sqI (py - y))) 32 0 r))]) rfl ?_
    refine gx_istore [(7, .int (iI (rtB (((sqI r) - (sqI (px - x))) - (sqI (py - y))) 32 0 r))), (5, .long (lI (((sqI r) - (sqI (px - x))) - (sqI (py - y))))), (0, .ref p), (1, .int (iI px)), (2, .int (iI py)), (3, .int (iI t)), (4, .ref (lo + 3))] dX0_lookFrom_56 (by decide) rfl ?_
    refine gx_aload 6 dX0_lookFrom_58 rfl ?_
    refine gx_aload_n 2 dX0_lookFrom_60 rfl rfl ?_
    refine gx_get (ci := 0) (f := 3) (C := RX0) (T := TX0) (N := 5) rfl inX0 (by decide) mw_1_205 dX0_lookFrom_61 hp rfl ?_
    refine gx_iload 0 dX0_lookFrom_64 rfl ?_
    refine gy_isub dX0_lookFrom_66 ?_
    refine gx_iload_n 5 dX0_lookFrom_67 rfl rfl ?_
    refine gy_iadd dX0_lookFrom_68 ?_
    refine gx_aload_n 2 dX0_lookFrom_69 rfl rfl ?_
    refine gx_get (ci := 0) (f := 3) (C := RX0) (T := TX0) (N := 5) rfl inX0 (by decide) mw_1_205 dX0_lookFrom_70 hp rfl ?_
    refine gx_iload 0 dX0_lookFrom_73 rfl ?_
    refine gy_iadd dX0_lookFrom_75 ?_
    refine gx_iconst (iI 1) dX0_lookFrom_76 rfl ?_
    refine gy_iadd dX0_lookFrom_77 ?_
    refine gx_iload_n 5 dX0_lookFrom_78 rfl rfl ?_
    refine gy_iadd dX0_lookFrom_79 ?_
    refine gx_callV (ci := 9) (c_X10_give l D cI cL cR lo h hi gw fx fy fl fh wc Ls W hL1 hL2 ((z - (rtB (((sqI r) - (sqI (px - x))) - (sqI (py - y))) 32 0 r)) + t) (((z + (rtB (((sqI r) - (sqI (px - x))) - (sqI (py - y))) 32 0 r)) + 1) + t) (by omega) (by omega)) ok_X10_give mw_2_141 mw_2_142 mw_2_143 dX0_lookFrom_80 rfl hK rfl rfl (Nat.le_of_ble_eq_true rfl) (by first | exact Nat.le_of_ble_eq_true rfl | (simp only [rM]; omega)) (by first | exact Nat.le_of_ble_eq_true rfl | (simp only [rM]; omega)) (by first | exact Nat.le_of_ble_eq_true rfl | (simp only [rM]; omega)) (by first | exact Nat.le_of_ble_eq_true rfl | (simp only [rM]; omega)) (fun r21 h22 u23 q24 g25 => ?_)
    obtain ⟨rfl, W26, fr27, rfl⟩ := q24
    have k28 : h22 p = some (.inr (0, [.int (iI wt), .int (iI x), .int (iI y), .int (iI z), .int (iI r)])) := by rw [fr27 p (wwL_out (by omega))]; exact hp
    obtain ⟨vK29, hK30⟩ := wwP_K W26
    refine ch_Gst (st2 := []) rfl ?_
    refine gx_vret rfl dX0_lookFrom_83 (by first | exact Nat.le_of_ble_eq_true rfl | (simp only [rM]; omega)) (by first | exact Nat.le_of_ble_eq_true rfl | (simp only [rM]; omega)) ?_
    exact ⟨rfl, by unfold baS; rw [if_neg (by omega)]; exact W26, fr27, rfl⟩
  · refine gx_aload 5 dX0_lookFrom_39 rfl ?_
    refine gx_callV (ci := 9) (c_X10_giveNone l D cI cL cR lo h hi gw fx fy fl fh wc Ls W hL1 hL2) ok_X10_giveNone mw_2_129 mw_2_130 mw_2_131 dX0_lookFrom_41 rfl hK rfl rfl (Nat.le_of_ble_eq_true rfl) (by first | exact Nat.le_of_ble_eq_true rfl | (simp only [rM]; omega)) (by first | exact Nat.le_of_ble_eq_true rfl | (simp only [rM]; omega)) (by first | exact Nat.le_of_ble_eq_true rfl | (simp only [rM]; omega)) (by first | exact Nat.le_of_ble_eq_true rfl | (simp only [rM]; omega)) (fun r31 h32 u33 q34 g35 => ?_)
    obtain ⟨rfl, W36, fr37, rfl⟩ := q34
    have k38 : h32 p = some (.inr (0, [.int (iI wt), .int (iI x), .int (iI y), .int (iI z), .int (iI r)])) := by rw [fr37 p (wwL_out (by omega))]; exact hp
    obtain ⟨vK39, hK40⟩ := wwP_K W36
    refine ch_Gst (st2 := []) rfl ?_
    refine gx_goto 83 dX0_lookFrom_44 (by decide) ?_
    refine gx_vret rfl dX0_lookFrom_83 (by first | exact Nat.le_of_ble_eq_true rfl | (simp only [rM]; omega)) (by first | exact Nat.le_of_ble_eq_true rfl | (simp only [rM]; omega)) ?_
    exact ⟨rfl, by unfold baS; rw [if_pos (by omega)]; rw [← seg_00]; exact W36, fr37, rfl⟩
set_option maxHeartbeats 4000000 in
set_option maxRecDepth 100000 in
theorem c_X2_lookFrom (l : Launch) (D : va_G) (cI cL cR : ClassId) (lo : Nat) (h : ch_H) (hi : Nat) (gw : Nat → Option Nat) (fx fy fl fh : Nat → Int) (wc : Int) (Ls : List (List Int)) (W : wwP cI cR lo h gw fx fy fl fh wc Ls) (p  : Nat) (wt x y r z eZ : Int) (hp : h p = some (.inr (2, [.int (iI wt), .int (iI x), .int (iI y), .int (iI r), .int (iI z), .int (iI eZ)]))) (hpl : lo + 13 ≤ p) (h_x : -5000 ≤ x ∧ x ≤ 5000) (h_y : -5000 ≤ y ∧ y ≤ 5000) (h_r : -5000 ≤ r ∧ r ≤ 5000) (h_z : -5000 ≤ z ∧ z ≤ 5000) (h_eZ : -5000 ≤ eZ ∧ eZ ≤ 5000) (hr0 : 0 ≤ r) (px py t : Int) (hpx : -500000 ≤ px ∧ px ≤ 500000) (hpy : -500000 ≤ py ∧ py ≤ 500000) (ht : -500000 ≤ t ∧ t ≤ 500000) (hL1 : Ls.length < 50) (hL2 : Ls.flatten.length + 2 ≤ 100) : ch_C l (eE D cI cL cR lo) M_X2_lookFrom (rM 2 0 0) [.ref p, .int (iI px), .int (iI py), .int (iI t), .ref (lo + 3)] h hi (fun r0 h2 hi2 => r0 = none ∧ wwP cI cR lo h2 gw fx fy fl fh wc (Ls ++ [coS x y r z eZ px py t]) ∧ ch_fr (wwL lo) h h2 ∧ hi = hi2) := by
  refine ch_C.of rfl (Nat.le_of_ble_eq_true rfl) ?_
  obtain ⟨vK, hK⟩ := wwP_K W
  have q1 := sqI_b (v := px - x) (by omega)
  have q2 := sqI_b (v := py - y) (by omega)
  have q3 := sqI_b (v := r) (by omega)
  have q4 : sqI r ≤ 25000000 := sqI_le (B := 5000) (by omega) (by omega)
  refine gx_iload_n 1 dX2_lookFrom_0 rfl rfl ?_
  refine gx_aload_n 0 dX2_lookFrom_1 rfl rfl ?_
  refine gx_get (ci := 2) (f := 1) (C := RX2) (T := TX2) (N := 6) rfl inX2 (by decide) mw_1_223 dX2_lookFrom_2 hp rfl ?_
  refine gy_isub dX2_lookFrom_5 ?_
  refine gy_i2l dX2_lookFrom_6 (by constructor <;> omega) ?_
  refine gx_callSN (c_X11_square l D cI cL cR lo h hi (px - x)) ok_X11_square nw_4 mw_2_127 dX2_lookFrom_7 rfl rfl (Nat.le_of_ble_eq_true rfl) (by first | exact Nat.le_of_ble_eq_true rfl | (simp only [rM]; omega)) (by first | exact Nat.le_of_ble_eq_true rfl | (simp only [rM]; omega)) (by first | exact Nat.le_of_ble_eq_true rfl | (simp only [rM]; omega)) (by first | exact Nat.le_of_ble_eq_true rfl | (simp only [rM]; omega)) (fun r1 h2 u3 q4 g5 => ?_)
  obtain ⟨rfl, rfl, rfl⟩ := q4
  refine ch_Gst (st2 := [.long (lI (sqI (px - x)))]) rfl ?_
  refine gx_iload_n 2 dX2_lookFrom_10 rfl rfl ?_
  refine gx_aload_n 0 dX2_lookFrom_11 rfl rfl ?_
  refine gx_get (ci := 2) (f := 2) (C := RX2) (T := TX2) (N := 6) rfl inX2 (by decide) mw_1_224 dX2_lookFrom_12 hp rfl ?_
  refine gy_isub dX2_lookFrom_15 ?_
  refine gy_i2l dX2_lookFrom_16 (by constructor <;> omega) ?_
  refine gx_callSN (c_X11_square l D cI cL cR lo h hi (py - y)) ok_X11_square nw_4 mw_2_127 dX2_lookFrom_17 rfl rfl (Nat.le_of_ble_eq_true rfl) (by first | exact Nat.le_of_ble_eq_true rfl | (simp only [rM]; omega)) (by first | exact Nat.le_of_ble_eq_true rfl | (simp only [rM]; omega)) (by first | exact Nat.le_of_ble_eq_true rfl | (simp only [rM]; omega)) (by first | exact Nat.le_of_ble_eq_true rfl | (simp only [rM]; omega)) (fun r6 h7 u8 q9 g10 => ?_)
  obtain ⟨rfl, rfl, rfl⟩ := q9
  refine ch_Gst (st2 := [.long (lI (sqI (py - y))), .long (lI (sqI (px - x)))]) rfl ?_
  refine gy_ladd dX2_lookFrom_20 ?_
  refine gx_lstore [(5, .long (lI ((sqI (px - x)) + (sqI (py - y))))), (0, .ref p), (1, .int (iI px)), (2, .int (iI py)), (3, .int (iI t)), (4, .ref (lo + 3))] dX2_lookFrom_21 (by decide) rfl ?_
  refine gx_aload_n 1 dX2_lookFrom_23 rfl rfl ?_
  refine gx_get (ci := 2) (f := 5) (C := RX2) (T := TX2) (N := 6) rfl inX2 (by decide) mw_1_227 dX2_lookFrom_24 hp rfl ?_
  refine gx_aload_n 1 dX2_lookFrom_27 rfl rfl ?_
  refine gx_get (ci := 2) (f := 4) (C := RX2) (T := TX2) (N := 6) rfl inX2 (by decide) mw_1_226 dX2_lookFrom_28 hp rfl ?_
  refine gy_icmp_le 48 dX2_lookFrom_31 (by decide) (by constructor <;> omega) (by constructor <;> omega) (fun c31 => ?_) (fun c31 => ?_)
  · refine gx_aload 5 dX2_lookFrom_48 rfl ?_
    refine gx_callV (ci := 9) (c_X10_giveNone l D cI cL cR lo h hi gw fx fy fl fh wc Ls W hL1 hL2) ok_X10_giveNone mw_2_154 mw_2_130 mw_2_131 dX2_lookFrom_50 rfl hK rfl rfl (Nat.le_of_ble_eq_true rfl) (by first | exact Nat.le_of_ble_eq_true rfl | (simp only [rM]; omega)) (by first | exact Nat.le_of_ble_eq_true rfl | (simp only [rM]; omega)) (by first | exact Nat.le_of_ble_eq_true rfl | (simp only [rM]; omega)) (by first | exact Nat.le_of_ble_eq_true rfl | (simp only [rM]; omega)) (fun r11 h12 u13 q14 g15 => ?_)
    obtain ⟨rfl, W16, fr17, rfl⟩ := q14
    have k18 : h12 p = some (.inr (2, [.int (iI wt), .int (iI x), .int (iI y), .int (iI r), .int (iI z), .int (iI eZ)])) := by rw [fr17 p (wwL_out (by omega))]; exact hp
    obtain ⟨vK19, hK20⟩ := wwP_K W16
    refine ch_Gst (st2 := []) rfl ?_
    refine gx_goto 82 dX2_lookFrom_53 (by decide) ?_
    refine gx_vret rfl dX2_lookFrom_82 (by first | exact Nat.le_of_ble_eq_true rfl | (simp only [rM]; omega)) (by first | exact Nat.le_of_ble_eq_true rfl | (simp only [rM]; omega)) ?_
    exact ⟨rfl, by unfold coS; rw [if_pos (by omega)]; rw [← seg_00]; exact W16, fr17, rfl⟩
  · refine gx_lload 0 dX2_lookFrom_34 rfl ?_
    refine gx_aload_n 1 dX2_lookFrom_36 rfl rfl ?_
    refine gx_get (ci := 2) (f := 3) (C := RX2) (T := TX2) (N := 6) rfl inX2 (by decide) mw_1_225 dX2_lookFrom_37 hp rfl ?_
    refine gy_i2l dX2_lookFrom_40 (by constructor <;> omega) ?_
    refine gx_callSN (c_X11_square l D cI cL cR lo h hi r) ok_X11_square nw_4 mw_2_127 dX2_lookFrom_41 rfl rfl (Nat.le_of_ble_eq_true rfl) (by first | exact Nat.le_of_ble_eq_true rfl | (simp only [rM]; omega)) (by first | exact Nat.le_of_ble_eq_true rfl | (simp only [rM]; omega)) (by first | exact Nat.le_of_ble_eq_true rfl | (simp only [rM]; omega)) (by first | exact Nat.le_of_ble_eq_true rfl | (simp only [rM]; omega)) (fun r21 h22 u23 q24 g25 => ?_)
    obtain ⟨rfl, rfl, rfl⟩ := q24
    refine ch_Gst (st2 := [.long (lI (sqI r)), .long (lI ((sqI (px - x)) + (sqI (py - y))))]) rfl ?_
    refine gy_lcmp_le 56 dX2_lookFrom_44 dX2_lookFrom_45 (by decide) (by constructor <;> omega) (by constructor <;> omega) (fun c44 => ?_) (fun c44 => ?_)
    · refine gx_aload 5 dX2_lookFrom_56 rfl ?_
      refine gx_aload_n 1 dX2_lookFrom_58 rfl rfl ?_
      refine gx_get (ci := 2) (f := 4) (C := RX2) (T := TX2) (N := 6) rfl inX2 (by decide) mw_1_226 dX2_lookFrom_59 hp rfl ?_
      refine gx_iload_n 4 dX2_lookFrom_62 rfl rfl ?_
      refine gy_iadd dX2_lookFrom_63 ?_
      refine gx_aload_n 1 dX2_lookFrom_64 rfl rfl ?_
      refine gx_get (ci := 2) (f := 5) (C := RX2) (T := TX2) (N := 6) rfl inX2 (by decide) mw_1_227 dX2_lookFrom_65 hp rfl ?_
      refine gx_aload_n 1 dX2_lookFrom_68 rfl rfl ?_
      refine gx_lload 0 dX2_lookFrom_69 rfl ?_
      refine gx_callV (ci := 2) (c_X2_leastDepth l D cI cL cR lo h hi p wt x y r z eZ hp (by omega) (by omega) (by omega) (by omega) ((sqI (px - x)) + (sqI (py - y))) (by omega)) ok_X2_leastDepth mw_2_155 mw_2_157 mw_p_10 dX2_lookFrom_71 rfl hp rfl rfl (Nat.le_of_ble_eq_true rfl) (by first | exact Nat.le_of_ble_eq_true rfl | (simp only [rM]; omega)) (by first | exact Nat.le_of_ble_eq_true rfl | (simp only [rM]; omega)) (by first | exact Nat.le_of_ble_eq_true rfl | (simp only [rM]; omega)) (by first | exact Nat.le_of_ble_eq_true rfl | (simp only [rM]; omega)) (fun r26 h27 u28 q29 g30 => ?_)
      obtain ⟨rfl, rfl, rfl⟩ := q29
      have hrt := ldB_in (nd := ((sqI (px - x)) + (sqI (py - y))) * sqI (eZ - z)) (rr := sqI r) 32 1 (eZ - z) (by omega)
      refine ch_Gst (st2 := [.int (iI (ldB (((sqI (px - x)) + (sqI (py - y))) * sqI (eZ - z)) (sqI r) 32 1 (eZ - z))), .int (iI eZ), .int (iI (z + t)), .ref (lo + 3)]) rfl ?_
      refine gy_isub dX2_lookFrom_74 ?_
      refine gx_iconst (iI 1) dX2_lookFrom_75 rfl ?_
      refine gy_iadd dX2_lookFrom_76 ?_
      refine gx_iload_n 4 dX2_lookFrom_77 rfl rfl ?_
      refine gy_iadd dX2_lookFrom_78 ?_
      refine gx_callV (ci := 9) (c_X10_give l D cI cL cR lo h hi gw fx fy fl fh wc Ls W hL1 hL2 (z + t) (((eZ - (ldB (((sqI (px - x)) + (sqI (py - y))) * sqI (eZ - z)) (sqI r) 32 1 (eZ - z))) + 1) + t) (by omega) (by omega)) ok_X10_give mw_2_159 mw_2_142 mw_2_143 dX2_lookFrom_79 rfl hK rfl rfl (Nat.le_of_ble_eq_true rfl) (by first | exact Nat.le_of_ble_eq_true rfl | (simp only [rM]; omega)) (by first | exact Nat.le_of_ble_eq_true rfl | (simp only [rM]; omega)) (by first | exact Nat.le_of_ble_eq_true rfl | (simp only [rM]; omega)) (by first | exact Nat.le_of_ble_eq_true rfl | (simp only [rM]; omega)) (fun r31 h32 u33 q34 g35 => ?_)
      obtain ⟨rfl, W36, fr37, rfl⟩ := q34
      have k38 : h32 p = some (.inr (2, [.int (iI wt), .int (iI x), .int (iI y), .int (iI r), .int (iI z), .int (iI eZ)])) := by rw [fr37 p (wwL_out (by omega))]; exact hp
      obtain ⟨vK39, hK40⟩ := wwP_K W36
      refine ch_Gst (st2 := []) rfl ?_
      refine gx_vret rfl dX2_lookFrom_82 (by first | exact Nat.le_of_ble_eq_true rfl | (simp only [rM]; omega)) (by first | exact Nat.le_of_ble_eq_true rfl | (simp only [rM]; omega)) ?_
      exact ⟨rfl, by unfold coS; rw [if_neg (by omega)]; exact W36, fr37, rfl⟩
    · refine gx_aload 5 dX2_lookFrom_48 rfl ?_
      refine gx_callV (ci := 9) (c_X10_giveNone l D cI cL cR lo h hi gw fx fy fl fh wc Ls W hL1 hL2) ok_X10_giveNone mw_2_154 mw_2_130 mw_2_131 dX2_lookFrom_50 rfl hK rfl rfl (Nat.le_of_ble_eq_true rfl) (by first | exact Nat.le_of_ble_eq_true rfl | (simp only [rM]; omega)) (by first | exact Nat.le_of_ble_eq_true rfl | (simp only [rM]; omega)) (by first | exact Nat.le_of_ble_eq_true rfl | (simp only [rM]; omega)) (by first | exact Nat.le_of_ble_eq_true rfl | (simp only [rM]; omega)) (fun r41 h42 u43 q44 g45 => ?_)
      obtain ⟨rfl, W46, fr47, rfl⟩ := q44
      have k48 : h42 p = some (.inr (2, [.int (iI wt), .int (iI x), .int (iI y), .int (iI r), .int (iI z), .int (iI eZ)])) := by rw [fr47 p (wwL_out (by omega))]; exact hp
      obtain ⟨vK49, hK50⟩ := wwP_K W46
      refine ch_Gst (st2 := []) rfl ?_
      refine gx_goto 82 dX2_lookFrom_53 (by decide) ?_
      refine gx_vret rfl dX2_lookFrom_82 (by first | exact Nat.le_of_ble_eq_true rfl | (simp only [rM]; omega)) (by first | exact Nat.le_of_ble_eq_true rfl | (simp only [rM]; omega)) ?_
      exact ⟨rfl, by unfold coS; rw [if_pos (by omega)]; rw [← seg_00]; exact W46, fr47, rfl⟩
set_option maxHeartbeats 4000000 in
set_option maxRecDepth 100000 in
theorem c_X4_lookFrom (l : Launch) (D : va_G) (cI cL cR : ClassId) (lo : Nat) (h : ch_H) (hi : Nat) (gw : Nat → Option Nat) (fx fy fl fh : Nat → Int) (wc : Int) (Ls : List (List Int)) (W : wwP cI cR lo h gw fx fy fl fh wc Ls) (p a b : Nat) (wt how : Int) (hp : h p = some (.inr (4, [.int (iI wt), .ref a, .ref b, .int (iI how)]))) (hpl : lo + 13 ≤ p) (px py t : Int) (hpx : -500000 ≤ px ∧ px ≤ 500000) (hpy : -500000 ≤ py ∧ py ≤ 500000) (ht : -500000 ≤ t ∧ t ≤ 500000) (ca : Nat) (va : List Value) (ha : h a = some (.inr (ca, va))) (hSa : isS ca) (la : lo + 13 ≤ a) (cb : Nat) (vb : List Value) (hb : h b = some (.inr (cb, vb))) (hSb : isS cb) (lb : lo + 13 ≤ b) (hwc : 0 ≤ wc ∧ wc + 3 ≤ 100) : ch_C l (eE D cI cL cR lo) M_X4_lookFrom (rM 2 0 0) [.ref p, .int (iI px), .int (iI py), .int (iI t), .ref (lo + 3)] h hi (fun r0 h2 hi2 => r0 = none ∧ wwP cI cR lo h2 (va_up (va_up (va_up gw wc.toNat none) (wc + 1).toNat (some b)) (wc + 1 + 1).toNat (some a)) (updI (updI fx (wc + 1).toNat px) (wc + 1 + 1).toNat px) (updI (updI fy (wc + 1).toNat py) (wc + 1 + 1).toNat py) (updI (updI fl (wc + 1).toNat t) (wc + 1 + 1).toNat t) (updI fh wc.toNat how) (wc + 1 + 1 + 1) Ls ∧ ch_fr (wwL lo) h h2 ∧ hi = hi2) := by
  refine ch_C.of rfl (Nat.le_of_ble_eq_true rfl) ?_
  obtain ⟨vK, hK⟩ := wwP_K W
  refine gx_aload 4 dX4_lookFrom_0 rfl ?_
  refine gx_aload_n 0 dX4_lookFrom_2 rfl rfl ?_
  refine gx_get (ci := 4) (f := 3) (C := RX4) (T := TX4) (N := 4) rfl inX4 (by decide) mw_2_20 dX4_lookFrom_3 hp rfl ?_
  refine gx_callV (ci := 9) (c_X10_awaitJoin l D cI cL cR lo h hi gw fx fy fl fh wc Ls W (by omega) how) ok_X10_awaitJoin mw_2_163 mw_2_164 mw_2_165 dX4_lookFrom_6 rfl hK rfl rfl (Nat.le_of_ble_eq_true rfl) (by first | exact Nat.le_of_ble_eq_true rfl | (simp only [rM]; omega)) (by first | exact Nat.le_of_ble_eq_true rfl | (simp only [rM]; omega)) (by first | exact Nat.le_of_ble_eq_true rfl | (simp only [rM]; omega)) (by first | exact Nat.le_of_ble_eq_true rfl | (simp only [rM]; omega)) (fun r1 h2 u3 q4 g5 => ?_)
  obtain ⟨rfl, W6, fr7, rfl⟩ := q4
  have k8 : h2 p = some (.inr (4, [.int (iI wt), .ref a, .ref b, .int (iI how)])) := by rw [fr7 p (wwL_out (by omega))]; exact hp
  have k9 : h2 a = some (.inr (ca, va)) := by rw [fr7 a (wwL_out (by omega))]; exact ha
  have k10 : h2 b = some (.inr (cb, vb)) := by rw [fr7 b (wwL_out (by omega))]; exact hb
  obtain ⟨vK11, hK12⟩ := wwP_K W6
  refine ch_Gst (st2 := []) rfl ?_
  refine gx_aload 4 dX4_lookFrom_9 rfl ?_
  refine gx_aload_n 0 dX4_lookFrom_11 rfl rfl ?_
  refine gx_get (ci := 4) (f := 2) (C := RX4) (T := TX4) (N := 4) rfl inX4 (by decide) mw_2_19 dX4_lookFrom_12 k8 rfl ?_
  refine gx_iload_n 1 dX4_lookFrom_15 rfl rfl ?_
  refine gx_iload_n 2 dX4_lookFrom_16 rfl rfl ?_
  refine gx_iload_n 3 dX4_lookFrom_17 rfl rfl ?_
  refine gx_callV (ci := 9) (c_X10_await l D cI cL cR lo h2 hi (va_up gw wc.toNat none) fx fy fl (updI fh wc.toNat how) (wc + 1) Ls W6 b cb vb k10 hSb (by omega) (by omega) px py t) ok_X10_await mw_2_167 mw_2_98 mw_2_99 dX4_lookFrom_18 rfl hK12 rfl rfl (Nat.le_of_ble_eq_true rfl) (by first | exact Nat.le_of_ble_eq_true rfl | (simp only [rM]; omega)) (by first | exact Nat.le_of_ble_eq_true rfl | (simp only [rM]; omega)) (by first | exact Nat.le_of_ble_eq_true rfl | (simp only [rM]; omega)) (by first | exact Nat.le_of_ble_eq_true rfl | (simp only [rM]; omega)) (fun r13 h14 u15 q16 g17 => ?_)
  obtain ⟨rfl, W18, fr19, rfl⟩ := q16
  have k20 : h14 p = some (.inr (4, [.int (iI wt), .ref a, .ref b, .int (iI how)])) := by rw [fr19 p (wwL_out (by omega))]; exact k8
  have k21 : h14 a = some (.inr (ca, va)) := by rw [fr19 a (wwL_out (by omega))]; exact k9
  have k22 : h14 b = some (.inr (cb, vb)) := by rw [fr19 b (wwL_out (by omega))]; exact k10
  obtain ⟨vK23, hK24⟩ := wwP_K W18
  refine ch_Gst (st2 := []) rfl ?_
  refine gx_aload 4 dX4_lookFrom_21 rfl ?_
  refine gx_aload_n 0 dX4_lookFrom_23 rfl rfl ?_
  refine gx_get (ci := 4) (f := 1) (C := RX4) (T := TX4) (N := 4) rfl inX4 (by decide) mw_2_18 dX4_lookFrom_24 k20 rfl ?_
  refine gx_iload_n 1 dX4_lookFrom_27 rfl rfl ?_
  refine gx_iload_n 2 dX4_lookFrom_28 rfl rfl ?_
  refine gx_iload_n 3 dX4_lookFrom_29 rfl rfl ?_
  refine gx_callV (ci := 9) (c_X10_await l D cI cL cR lo h14 hi (va_up (va_up gw wc.toNat none) (wc + 1).toNat (some b)) (updI fx (wc + 1).toNat px) (updI fy (wc + 1).toNat py) (updI fl (wc + 1).toNat t) (updI fh wc.toNat how) (wc + 1 + 1) Ls W18 a ca va k21 hSa (by omega) (by omega) px py t) ok_X10_await mw_2_167 mw_2_98 mw_2_99 dX4_lookFrom_30 rfl hK24 rfl rfl (Nat.le_of_ble_eq_true rfl) (by first | exact Nat.le_of_ble_eq_true rfl | (simp only [rM]; omega)) (by first | exact Nat.le_of_ble_eq_true rfl | (simp only [rM]; omega)) (by first | exact Nat.le_of_ble_eq_true rfl | (simp only [rM]; omega)) (by first | exact Nat.le_of_ble_eq_true rfl | (simp only [rM]; omega)) (fun r25 h26 u27 q28 g29 => ?_)
  obtain ⟨rfl, W30, fr31, rfl⟩ := q28
  have k32 : h26 p = some (.inr (4, [.int (iI wt), .ref a, .ref b, .int (iI how)])) := by rw [fr31 p (wwL_out (by omega))]; exact k20
  have k33 : h26 a = some (.inr (ca, va)) := by rw [fr31 a (wwL_out (by omega))]; exact k21
  have k34 : h26 b = some (.inr (cb, vb)) := by rw [fr31 b (wwL_out (by omega))]; exact k22
  obtain ⟨vK35, hK36⟩ := wwP_K W30
  refine ch_Gst (st2 := []) rfl ?_
  refine gx_vret rfl dX4_lookFrom_33 (by first | exact Nat.le_of_ble_eq_true rfl | (simp only [rM]; omega)) (by first | exact Nat.le_of_ble_eq_true rfl | (simp only [rM]; omega)) ?_
  exact ⟨rfl, W30, ch_frT (ch_frT fr7 fr19 (fun _ q => q)) fr31 (fun _ q => q), rfl⟩
set_option maxHeartbeats 4000000 in
set_option maxRecDepth 100000 in
theorem c_X5_lookFrom (l : Launch) (D : va_G) (cI cL cR : ClassId) (lo : Nat) (h : ch_H) (hi : Nat) (gw : Nat → Option Nat) (fx fy fl fh : Nat → Int) (wc : Int) (Ls : List (List Int)) (W : wwP cI cR lo h gw fx fy fl fh wc Ls) (p a : Nat) (wt bx bY bz : Int) (hp : h p = some (.inr (5, [.int (iI wt), .ref a, .int (iI bx), .int (iI bY), .int (iI bz)]))) (hpl : lo + 13 ≤ p) (px py t : Int) (hpx : -500000 ≤ px ∧ px ≤ 500000) (hpy : -500000 ≤ py ∧ py ≤ 500000) (ht : -500000 ≤ t ∧ t ≤ 500000) (ca : Nat) (va : List Value) (ha : h a = some (.inr (ca, va))) (hSa : isS ca) (la : lo + 13 ≤ a) (hwc : 0 ≤ wc ∧ wc + 1 ≤ 100) : ch_C l (eE D cI cL cR lo) M_X5_lookFrom (rM 2 0 0) [.ref p, .int (iI px), .int (iI py), .int (iI t), .ref (lo + 3)] h hi (fun r0 h2 hi2 => r0 = none ∧ wwP cI cR lo h2 (va_up gw wc.toNat (some a)) (updI fx wc.toNat (px - bx)) (updI fy wc.toNat (py - bY)) (updI fl wc.toNat (t + bz)) fh (wc + 1) Ls ∧ ch_fr (wwL lo) h h2 ∧ hi = hi2) := by
  refine ch_C.of rfl (Nat.le_of_ble_eq_true rfl) ?_
  obtain ⟨vK, hK⟩ := wwP_K W
  refine gx_aload 4 dX5_lookFrom_0 rfl ?_
  refine gx_aload_n 0 dX5_lookFrom_2 rfl rfl ?_
  refine gx_get (ci := 5) (f := 1) (C := RX5) (T := TX5) (N := 5) rfl inX5 (by decide) mw_2_39 dX5_lookFrom_3 hp rfl ?_
  refine gx_iload_n 1 dX5_lookFrom_6 rfl rfl ?_
  refine gx_aload_n 0 dX5_lookFrom_7 rfl rfl ?_
  refine gx_get (ci := 5) (f := 2) (C := RX5) (T := TX5) (N := 5) rfl inX5 (by decide) mw_2_40 dX5_lookFrom_8 hp rfl ?_
  refine gy_isub dX5_lookFrom_11 ?_
  refine gx_iload_n 2 dX5_lookFrom_12 rfl rfl ?_
  refine gx_aload_n 0 dX5_lookFrom_13 rfl rfl ?_
  refine gx_get (ci := 5) (f := 3) (C := RX5) (T := TX5) (N := 5) rfl inX5 (by decide) mw_2_41 dX5_lookFrom_14 hp rfl ?_
  refine gy_isub dX5_lookFrom_17 ?_
  refine gx_iload_n 3 dX5_lookFrom_18 rfl rfl ?_
  refine gx_aload_n 0 dX5_lookFrom_19 rfl rfl ?_
  refine gx_get (ci := 5) (f := 4) (C := RX5) (T := TX5) (N := 5) rfl inX5 (by decide) mw_2_42 dX5_lookFrom_20 hp rfl ?_
  refine gy_iadd dX5_lookFrom_23 ?_
  refine gx_callV (ci := 9) (c_X10_await l D cI cL cR lo h hi gw fx fy fl fh wc Ls W a ca va ha hSa (by omega) (by omega) (px - bx) (py - bY) (t + bz)) ok_X10_await mw_2_171 mw_2_98 mw_2_99 dX5_lookFrom_24 rfl hK rfl rfl (Nat.le_of_ble_eq_true rfl) (by first | exact Nat.le_of_ble_eq_true rfl | (simp only [rM]; omega)) (by first | exact Nat.le_of_ble_eq_true rfl | (simp only [rM]; omega)) (by first | exact Nat.le_of_ble_eq_true rfl | (simp only [rM]; omega)) (by first | exact Nat.le_of_ble_eq_true rfl | (simp only [rM]; omega)) (fun r1 h2 u3 q4 g5 => ?_)
  obtain ⟨rfl, W6, fr7, rfl⟩ := q4
  have k8 : h2 p = some (.inr (5, [.int (iI wt), .ref a, .int (iI bx), .int (iI bY), .int (iI bz)])) := by rw [fr7 p (wwL_out (by omega))]; exact hp
  have k9 : h2 a = some (.inr (ca, va)) := by rw [fr7 a (wwL_out (by omega))]; exact ha
  obtain ⟨vK10, hK11⟩ := wwP_K W6
  refine ch_Gst (st2 := []) rfl ?_
  refine gx_vret rfl dX5_lookFrom_27 (by first | exact Nat.le_of_ble_eq_true rfl | (simp only [rM]; omega)) (by first | exact Nat.le_of_ble_eq_true rfl | (simp only [rM]; omega)) ?_
  exact ⟨rfl, W6, fr7, rfl⟩
set_option maxHeartbeats 4000000 in
set_option maxRecDepth 100000 in
theorem c_X9_lookFrom (l : Launch) (D : va_G) (cI cL cR : ClassId) (lo : Nat) (h : ch_H) (hi : Nat) (gw : Nat → Option Nat) (fx fy fl fh : Nat → Int) (wc : Int) (Ls : List (List Int)) (W : wwP cI cR lo h gw fx fy fl fh wc Ls) (p a : Nat) (wt : Int) (hp : h p = some (.inr (8, [.int (iI wt), .ref a]))) (hpl : lo + 13 ≤ p) (px py t : Int) (hpx : -500000 ≤ px ∧ px ≤ 500000) (hpy : -500000 ≤ py ∧ py ≤ 500000) (ht : -500000 ≤ t ∧ t ≤ 500000) (ca : Nat) (va : List Value) (ha : h a = some (.inr (ca, va))) (hSa : isS ca) (la : lo + 13 ≤ a) (hwc : 0 ≤ wc ∧ wc + 1 ≤ 100) : ch_C l (eE D cI cL cR lo) M_X9_lookFrom (rM 2 0 0) [.ref p, .int (iI px), .int (iI py), .int (iI t), .ref (lo + 3)] h hi (fun r0 h2 hi2 => r0 = none ∧ wwP cI cR lo h2 (va_up gw wc.toNat (some a)) (updI fx wc.toNat py) (updI fy wc.toNat (-px)) (updI fl wc.toNat t) fh (wc + 1) Ls ∧ ch_fr (wwL lo) h h2 ∧ hi = hi2) := by
  refine ch_C.of rfl (Nat.le_of_ble_eq_true rfl) ?_
  obtain ⟨vK, hK⟩ := wwP_K W
  refine gx_aload 4 dX9_lookFrom_0 rfl ?_
  refine gx_aload_n 0 dX9_lookFrom_2 rfl rfl ?_
  refine gx_get (ci := 8) (f := 1) (C := RX9) (T := TX9) (N := 2) rfl inX9 (by decide) mw_2_63 dX9_lookFrom_3 hp rfl ?_
  refine gx_iload_n 2 dX9_lookFrom_6 rfl rfl ?_
  refine gx_iload_n 1 dX9_lookFrom_7 rfl rfl ?_
  refine gy_ineg dX9_lookFrom_8 ?_
  refine gx_iload_n 3 dX9_lookFrom_9 rfl rfl ?_
  refine gx_callV (ci := 9) (c_X10_await l D cI cL cR lo h hi gw fx fy fl fh wc Ls W a ca va ha hSa (by omega) (by omega) py (-px) t) ok_X10_await mw_2_181 mw_2_98 mw_2_99 dX9_lookFrom_10 rfl hK rfl rfl (Nat.le_of_ble_eq_true rfl) (by first | exact Nat.le_of_ble_eq_true rfl | (simp only [rM]; omega)) (by first | exact Nat.le_of_ble_eq_true rfl | (simp only [rM]; omega)) (by first | exact Nat.le_of_ble_eq_true rfl | (simp only [rM]; omega)) (by first | exact Nat.le_of_ble_eq_true rfl | (simp only [rM]; omega)) (fun r1 h2 u3 q4 g5 => ?_)
  obtain ⟨rfl, W6, fr7, rfl⟩ := q4
  have k8 : h2 p = some (.inr (8, [.int (iI wt), .ref a])) := by rw [fr7 p (wwL_out (by omega))]; exact hp
  have k9 : h2 a = some (.inr (ca, va)) := by rw [fr7 a (wwL_out (by omega))]; exact ha
  obtain ⟨vK10, hK11⟩ := wwP_K W6
  refine ch_Gst (st2 := []) rfl ?_
  refine gx_vret rfl dX9_lookFrom_13 (by first | exact Nat.le_of_ble_eq_true rfl | (simp only [rM]; omega)) (by first | exact Nat.le_of_ble_eq_true rfl | (simp only [rM]; omega)) ?_
  exact ⟨rfl, W6, fr7, rfl⟩
end
