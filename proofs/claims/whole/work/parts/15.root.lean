section
def sqI (v : Int) : Int := v * v
theorem sqI_nn (v : Int) : 0 ≤ sqI v := by
  unfold sqI
  rcases Int.le_total 0 v with h | h
  · exact Int.mul_nonneg h h
  · exact Int.mul_nonneg_of_nonpos_of_nonpos h h
theorem sqI_le {v B : Int} (h1 : -B ≤ v) (h2 : v ≤ B) : sqI v ≤ B * B := by
  unfold sqI
  rcases Int.le_total 0 v with h | h
  · exact Int.mul_le_mul h2 h2 h (by omega)
  · have h3 : (-v) * (-v) ≤ B * B := Int.mul_le_mul (by omega) (by omega) (by omega) (by omega)
    rw [Int.neg_mul_neg] at h3
    exact h3
theorem sqI_b {v : Int} (h : -1000000 ≤ v ∧ v ≤ 1000000) : 0 ≤ sqI v ∧ sqI v ≤ 1000000000000 := ⟨sqI_nn v, sqI_le (B := 1000000) h.1 h.2⟩
theorem sqI_s {v : Int} (h : -10000 ≤ v ∧ v ≤ 10000) : 0 ≤ sqI v ∧ sqI v ≤ 100000000 := ⟨sqI_nn v, sqI_le (B := 10000) h.1 h.2⟩
theorem mul_b {a b A B : Int} (ha : 0 ≤ a ∧ a ≤ A) (hb : 0 ≤ b ∧ b ≤ B) : 0 ≤ a * b ∧ a * b ≤ A * B := ⟨Int.mul_nonneg ha.1 hb.1, Int.mul_le_mul ha.2 hb.2 hb.1 (Int.le_trans ha.1 ha.2)⟩
/-- rootBelow's halving -/
def rtB (v : Int) : Nat → Int → Int → Int
  | 0, low, _ => low
  | k + 1, low, high => if low < high then (if sqI (low + (high - low + 1) / 2) ≤ v then rtB v k (low + (high - low + 1) / 2) high else rtB v k low (low + (high - low + 1) / 2 - 1)) else low
/-- leastDepth's halving -/
def ldB (nd rr : Int) : Nat → Int → Int → Int
  | 0, low, _ => low
  | k + 1, low, high => if low < high then (if nd ≤ rr * sqI (low + (high - low) / 2) then ldB nd rr k low (low + (high - low) / 2) else ldB nd rr k (low + (high - low) / 2 + 1) high) else low
set_option maxHeartbeats 4000000 in
set_option maxRecDepth 100000 in
theorem c_X11_square (l : Launch) (D : va_G) (cI cL cR : ClassId) (lo : Nat) (h : ch_H) (hi : Nat) (v : Int) : ch_C l (eE D cI cL cR lo) M_X11_square (rM 0 0 0) [.long (lI v)] h hi (fun r0 h2 hi2 => r0 = some (.long (lI (sqI v))) ∧ h = h2 ∧ hi = hi2) := by
  refine ch_C.of rfl (Nat.le_of_ble_eq_true rfl) ?_
  refine gx_lload_n 0 dX11_square_0 rfl rfl ?_
  refine gx_lload_n 0 dX11_square_1 rfl rfl ?_
  refine gy_lmul dX11_square_2 ?_
  refine gx_lret rfl dX11_square_3 (by first | exact Nat.le_of_ble_eq_true rfl | (simp only [rM]; omega)) (by first | exact Nat.le_of_ble_eq_true rfl | (simp only [rM]; omega)) ?_
  exact ⟨rfl, rfl, rfl⟩
set_option maxHeartbeats 4000000 in
set_option maxRecDepth 100000 in
theorem c_X12_square (l : Launch) (D : va_G) (cI cL cR : ClassId) (lo : Nat) (h : ch_H) (hi : Nat) (v : Int) : ch_C l (eE D cI cL cR lo) M_X12_square (rM 0 0 0) [.long (lI v)] h hi (fun r0 h2 hi2 => r0 = some (.long (lI (sqI v))) ∧ h = h2 ∧ hi = hi2) := by
  refine ch_C.of rfl (Nat.le_of_ble_eq_true rfl) ?_
  refine gx_lload_n 0 dX12_square_0 rfl rfl ?_
  refine gx_lload_n 0 dX12_square_1 rfl rfl ?_
  refine gy_lmul dX12_square_2 ?_
  refine gx_lret rfl dX12_square_3 (by first | exact Nat.le_of_ble_eq_true rfl | (simp only [rM]; omega)) (by first | exact Nat.le_of_ble_eq_true rfl | (simp only [rM]; omega)) ?_
  exact ⟨rfl, rfl, rfl⟩
set_option maxHeartbeats 4000000 in
set_option maxRecDepth 100000 in
theorem c_X11_rootBelow (l : Launch) (D : va_G) (cI cL cR : ClassId) (lo : Nat) (h : ch_H) (hi : Nat) (v most : Int) (hv : lr v) (hm : 0 ≤ most ∧ most ≤ 5000) : ch_C l (eE D cI cL cR lo) M_X11_rootBelow (rM 1 0 0) [.long (lI v), .int (iI most)] h hi (fun r0 h2 hi2 => r0 = some (.int (iI (rtB v 32 0 most))) ∧ h = h2 ∧ hi = hi2) := by
  refine ch_C.of rfl (Nat.le_of_ble_eq_true rfl) ?_
  have loop : ∀ (m : Nat) (low high z : Int), (0 ≤ low) → (low ≤ 5000) → (high ≤ 5000) → (-1 ≤ high) → (0 ≤ z) → (z ≤ 32) → (33 ≤ z + m) → (rtB v (32 - z).toNat low high = rtB v 32 0 most) → ch_G l (eE D cI cL cR lo) M_X11_rootBelow ch_T (rM 1 0 0) (ch_Z (eE D cI cL cR lo) 0 0 (fun r0 h2 hi2 => r0 = some (.int (iI (rtB v 32 0 most))) ∧ h = h2 ∧ hi = hi2)) 0 0 h hi 8 [(0, .long (lI v)), (3, .int (iI low)), (4, .int (iI high)), (5, .int (iI z))] [] := by
    intro m
    induction m with
    | zero => intro low high z h0 h1 h2 h3 hz hz1 hzm heq; exfalso; omega
    | succ m ih =>
      intro low high z h0 h1 h2 h3 hz hz1 hzm heq
      have hf0 : z < 32 → (32 - z).toNat = (32 - (z + 1)).toNat + 1 := by omega
      refine gx_iload 3 dX11_rootBelow_8 rfl ?_
      refine gx_bipush (iI 32) dX11_rootBelow_10 (by decide) ?_
      refine gy_icmp_ge 62 dX11_rootBelow_12 (by decide) (by constructor <;> omega) (by decide) (fun c12 => ?_) (fun c12 => ?_)
      · refine gx_iload_n 1 dX11_rootBelow_62 rfl rfl ?_
        refine gx_iret rfl dX11_rootBelow_63 (by first | exact Nat.le_of_ble_eq_true rfl | (simp only [rM]; omega)) (by first | exact Nat.le_of_ble_eq_true rfl | (simp only [rM]; omega)) ?_
        exact ⟨by rw [← heq, show (32 - z).toNat = 0 by omega, rtB], rfl, rfl⟩
      · refine gx_iload_n 1 dX11_rootBelow_15 rfl rfl ?_
        refine gx_iload 2 dX11_rootBelow_16 rfl ?_
        refine gy_icmp_ge 62 dX11_rootBelow_18 (by decide) (by constructor <;> omega) (by constructor <;> omega) (fun c18 => ?_) (fun c18 => ?_)
        · refine gx_iload_n 1 dX11_rootBelow_62 rfl rfl ?_
          refine gx_iret rfl dX11_rootBelow_63 (by first | exact Nat.le_of_ble_eq_true rfl | (simp only [rM]; omega)) (by first | exact Nat.le_of_ble_eq_true rfl | (simp only [rM]; omega)) ?_
          exact ⟨by rw [← heq, hf0 (by omega), rtB, if_neg (by omega)], rfl, rfl⟩
        · refine gx_iload_n 1 dX11_rootBelow_21 rfl rfl ?_
          refine gx_iload 2 dX11_rootBelow_22 rfl ?_
          refine gx_iload_n 1 dX11_rootBelow_24 rfl rfl ?_
          refine gy_isub dX11_rootBelow_25 ?_
          refine gx_iconst (iI 1) dX11_rootBelow_26 rfl ?_
          refine gy_iadd dX11_rootBelow_27 ?_
          refine gx_iconst (iI 2) dX11_rootBelow_28 rfl ?_
          refine gy_idiv dX11_rootBelow_29 (by constructor <;> omega) (by decide) (by omega) (by decide) ?_
          refine gy_iadd dX11_rootBelow_30 ?_
          refine gx_istore [(6, .int (iI (low + (((high - low) + 1) / 2)))), (0, .long (lI v)), (3, .int (iI low)), (4, .int (iI high)), (5, .int (iI z))] dX11_rootBelow_31 (by decide) rfl ?_
          refine gx_iload 0 dX11_rootBelow_33 rfl ?_
          refine gy_i2l dX11_rootBelow_35 (by constructor <;> omega) ?_
          refine gx_callS (c_X11_square l D cI cL cR lo h hi (low + (((high - low) + 1) / 2))) ok_X11_square mw_2_140 mw_2_127 dX11_rootBelow_36 rfl rfl (Nat.le_of_ble_eq_true rfl) (by first | exact Nat.le_of_ble_eq_true rfl | (simp only [rM]; omega)) (by first | exact Nat.le_of_ble_eq_true rfl | (simp only [rM]; omega)) (by first | exact Nat.le_of_ble_eq_true rfl | (simp only [rM]; omega)) (by first | exact Nat.le_of_ble_eq_true rfl | (simp only [rM]; omega)) (fun r1 h2 u3 q4 g5 => ?_)
          obtain ⟨rfl, rfl, rfl⟩ := q4
          refine ch_Gst (st2 := [.long (lI (sqI (low + (((high - low) + 1) / 2))))]) rfl ?_
          have hsq := sqI_b (v := low + (high - low + 1) / 2) (by omega)
          refine gx_lload_n 1 dX11_rootBelow_39 rfl rfl ?_
          refine gy_lcmp_gt 50 dX11_rootBelow_40 dX11_rootBelow_41 (by decide) (by constructor <;> omega) (by constructor <;> omega) (fun c40 => ?_) (fun c40 => ?_)
          · refine gx_iload 0 dX11_rootBelow_50 rfl ?_
            refine gx_iconst (iI 1) dX11_rootBelow_52 rfl ?_
            refine gy_isub dX11_rootBelow_53 ?_
            refine gx_istore [(4, .int (iI ((low + (((high - low) + 1) / 2)) - 1))), (6, .int (iI (low + (((high - low) + 1) / 2)))), (0, .long (lI v)), (3, .int (iI low)), (5, .int (iI z))] dX11_rootBelow_54 (by decide) rfl ?_
            refine gy_iinc 4 [(5, .int (iI (z + 1))), (4, .int (iI ((low + (((high - low) + 1) / 2)) - 1))), (6, .int (iI (low + (((high - low) + 1) / 2)))), (0, .long (lI v)), (3, .int (iI low))] dX11_rootBelow_56 rfl (by decide) rfl ?_
            refine gx_goto 8 dX11_rootBelow_59 (by decide) ?_
            refine ch_Glv (lv' := [(0, .long (lI v)), (3, .int (iI low)), (4, .int (iI ((low + (((high - low) + 1) / 2)) - 1))), (5, .int (iI (z + 1)))]) [3, 4, 1, 0] rfl ?_
            exact ih _ _ _ (by omega) (by omega) (by omega) (by omega) (by omega) (by omega) (by omega) (by rw [← heq, hf0 (by omega), rtB, if_pos (by omega), if_neg (by omega)])
          · refine gx_iload 0 dX11_rootBelow_44 rfl ?_
            refine gx_istore_n [(3, .int (iI (low + (((high - low) + 1) / 2)))), (6, .int (iI (low + (((high - low) + 1) / 2)))), (0, .long (lI v)), (4, .int (iI high)), (5, .int (iI z))] dX11_rootBelow_46 rfl (by decide) rfl ?_
            refine gx_goto 56 dX11_rootBelow_47 (by decide) ?_
            refine gy_iinc 4 [(5, .int (iI (z + 1))), (3, .int (iI (low + (((high - low) + 1) / 2)))), (6, .int (iI (low + (((high - low) + 1) / 2)))), (0, .long (lI v)), (4, .int (iI high))] dX11_rootBelow_56 rfl (by decide) rfl ?_
            refine gx_goto 8 dX11_rootBelow_59 (by decide) ?_
            refine ch_Glv (lv' := [(0, .long (lI v)), (3, .int (iI (low + (((high - low) + 1) / 2)))), (4, .int (iI high)), (5, .int (iI (z + 1)))]) [3, 1, 4, 0] rfl ?_
            exact ih _ _ _ (by omega) (by omega) (by omega) (by omega) (by omega) (by omega) (by omega) (by rw [← heq, hf0 (by omega), rtB, if_pos (by omega), if_pos (by omega)])
  refine gx_iconst (iI 0) dX11_rootBelow_0 rfl ?_
  refine gx_istore_n [(3, .int (iI 0)), (0, .long (lI v)), (2, .int (iI most))] dX11_rootBelow_1 rfl (by decide) rfl ?_
  refine gx_iload_n 2 dX11_rootBelow_2 rfl rfl ?_
  refine gx_istore [(4, .int (iI most)), (3, .int (iI 0)), (0, .long (lI v)), (2, .int (iI most))] dX11_rootBelow_3 (by decide) rfl ?_
  refine gx_iconst (iI 0) dX11_rootBelow_5 rfl ?_
  refine gx_istore [(5, .int (iI 0)), (4, .int (iI most)), (3, .int (iI 0)), (0, .long (lI v)), (2, .int (iI most))] dX11_rootBelow_6 (by decide) rfl ?_
  refine ch_Glv (lv' := [(0, .long (lI v)), (3, .int (iI 0)), (4, .int (iI most)), (5, .int (iI 0))]) [3, 2, 1, 0] rfl ?_
  exact loop 33 0 most 0 (by omega) (by omega) (by omega) (by omega) (by omega) (by omega) (by omega) rfl
set_option maxHeartbeats 4000000 in
set_option maxRecDepth 100000 in
theorem c_X2_leastDepth (l : Launch) (D : va_G) (cI cL cR : ClassId) (lo : Nat) (h : ch_H) (hi : Nat) (p : Nat) (wt cx cy rr cz eZ : Int) (hp : h p = some (.inr (2, [.int (iI wt), .int (iI cx), .int (iI cy), .int (iI rr), .int (iI cz), .int (iI eZ)]))) (hcz : -5000 ≤ cz ∧ cz ≤ 5000) (heZ : -5000 ≤ eZ ∧ eZ ≤ 5000) (hrr : 0 ≤ rr ∧ rr ≤ 5000) (hlt : cz < eZ) (ap : Int) (hap : 0 ≤ ap ∧ ap ≤ 25000000) : ch_C l (eE D cI cL cR lo) M_X2_leastDepth (rM 1 0 0) [.ref p, .long (lI ap)] h hi (fun r0 h2 hi2 => r0 = some (.int (iI (ldB (ap * sqI (eZ - cz)) (sqI rr) 32 1 (eZ - cz)))) ∧ h = h2 ∧ hi = hi2) := by
  refine ch_C.of rfl (Nat.le_of_ble_eq_true rfl) ?_
  have hz0 := sqI_s (v := eZ - cz) (by omega)
  have hz9 := mul_b hap hz0
  have hr0 : 0 ≤ sqI rr ∧ sqI rr ≤ 25000000 := ⟨sqI_nn rr, sqI_le (B := 5000) (by omega) (by omega)⟩
  have loop : ∀ (m : Nat) (low high z : Int), (0 ≤ low) → (low ≤ 10001) → (high ≤ 10000) → (0 ≤ high) → (0 ≤ z) → (z ≤ 32) → (33 ≤ z + m) → (ldB (ap * sqI (eZ - cz)) (sqI rr) (32 - z).toNat low high = ldB (ap * sqI (eZ - cz)) (sqI rr) 32 1 (eZ - cz)) → ch_G l (eE D cI cL cR lo) M_X2_leastDepth ch_T (rM 1 0 0) (ch_Z (eE D cI cL cR lo) 0 0 (fun r0 h2 hi2 => r0 = some (.int (iI (ldB (ap * sqI (eZ - cz)) (sqI rr) 32 1 (eZ - cz)))) ∧ h = h2 ∧ hi = hi2)) 0 0 h hi 33 [(0, .ref p), (3, .int (iI low)), (4, .int (iI high)), (5, .long (lI (ap * sqI (eZ - cz)))), (7, .int (iI z))] [] := by
    intro m
    induction m with
    | zero => intro low high z h0 h1 h2 h3 hz hz1 hzm heq; exfalso; omega
    | succ m ih =>
      intro low high z h0 h1 h2 h3 hz hz1 hzm heq
      have hf0 : z < 32 → (32 - z).toNat = (32 - (z + 1)).toNat + 1 := by omega
      refine gx_iload 4 dX2_leastDepth_33 rfl ?_
      refine gx_bipush (iI 32) dX2_leastDepth_35 (by decide) ?_
      refine gy_icmp_ge 95 dX2_leastDepth_37 (by decide) (by constructor <;> omega) (by decide) (fun c37 => ?_) (fun c37 => ?_)
      · refine gx_iload_n 1 dX2_leastDepth_95 rfl rfl ?_
        refine gx_iret rfl dX2_leastDepth_96 (by first | exact Nat.le_of_ble_eq_true rfl | (simp only [rM]; omega)) (by first | exact Nat.le_of_ble_eq_true rfl | (simp only [rM]; omega)) ?_
        exact ⟨by rw [← heq, show (32 - z).toNat = 0 by omega, ldB], rfl, rfl⟩
      · refine gx_iload_n 1 dX2_leastDepth_40 rfl rfl ?_
        refine gx_iload 2 dX2_leastDepth_41 rfl ?_
        refine gy_icmp_ge 95 dX2_leastDepth_43 (by decide) (by constructor <;> omega) (by constructor <;> omega) (fun c43 => ?_) (fun c43 => ?_)
        · refine gx_iload_n 1 dX2_leastDepth_95 rfl rfl ?_
          refine gx_iret rfl dX2_leastDepth_96 (by first | exact Nat.le_of_ble_eq_true rfl | (simp only [rM]; omega)) (by first | exact Nat.le_of_ble_eq_true rfl | (simp only [rM]; omega)) ?_
          exact ⟨by rw [← heq, hf0 (by omega), ldB, if_neg (by omega)], rfl, rfl⟩
        · refine gx_iload_n 1 dX2_leastDepth_46 rfl rfl ?_
          refine gx_iload 2 dX2_leastDepth_47 rfl ?_
          refine gx_iload_n 1 dX2_leastDepth_49 rfl rfl ?_
          refine gy_isub dX2_leastDepth_50 ?_
          refine gx_iconst (iI 2) dX2_leastDepth_51 rfl ?_
          refine gy_idiv dX2_leastDepth_52 (by constructor <;> omega) (by decide) (by omega) (by decide) ?_
          refine gy_iadd dX2_leastDepth_53 ?_
          refine gx_istore [(8, .int (iI (low + ((high - low) / 2)))), (0, .ref p), (3, .int (iI low)), (4, .int (iI high)), (5, .long (lI (ap * sqI (eZ - cz)))), (7, .int (iI z))] dX2_leastDepth_54 (by decide) rfl ?_
          refine gx_lload 4 dX2_leastDepth_56 rfl ?_
          refine gx_aload_n 1 dX2_leastDepth_58 rfl rfl ?_
          refine gx_get (ci := 2) (f := 3) (C := RX2) (T := TX2) (N := 6) rfl inX2 (by decide) mw_1_225 dX2_leastDepth_59 hp rfl ?_
          refine gy_i2l dX2_leastDepth_62 (by constructor <;> omega) ?_
          refine gx_callSN (c_X11_square l D cI cL cR lo h hi rr) ok_X11_square nw_4 mw_2_127 dX2_leastDepth_63 rfl rfl (Nat.le_of_ble_eq_true rfl) (by first | exact Nat.le_of_ble_eq_true rfl | (simp only [rM]; omega)) (by first | exact Nat.le_of_ble_eq_true rfl | (simp only [rM]; omega)) (by first | exact Nat.le_of_ble_eq_true rfl | (simp only [rM]; omega)) (by first | exact Nat.le_of_ble_eq_true rfl | (simp only [rM]; omega)) (fun r1 h2 u3 q4 g5 => ?_)
          obtain ⟨rfl, rfl, rfl⟩ := q4
          refine ch_Gst (st2 := [.long (lI (sqI rr)), .long (lI (ap * sqI (eZ - cz)))]) rfl ?_
          refine gx_iload 0 dX2_leastDepth_66 rfl ?_
          refine gy_i2l dX2_leastDepth_68 (by constructor <;> omega) ?_
          refine gx_callSN (c_X11_square l D cI cL cR lo h hi (low + ((high - low) / 2))) ok_X11_square nw_4 mw_2_127 dX2_leastDepth_69 rfl rfl (Nat.le_of_ble_eq_true rfl) (by first | exact Nat.le_of_ble_eq_true rfl | (simp only [rM]; omega)) (by first | exact Nat.le_of_ble_eq_true rfl | (simp only [rM]; omega)) (by first | exact Nat.le_of_ble_eq_true rfl | (simp only [rM]; omega)) (by first | exact Nat.le_of_ble_eq_true rfl | (simp only [rM]; omega)) (fun r6 h7 u8 q9 g10 => ?_)
          obtain ⟨rfl, rfl, rfl⟩ := q9
          refine ch_Gst (st2 := [.long (lI (sqI (low + ((high - low) / 2)))), .long (lI (sqI rr)), .long (lI (ap * sqI (eZ - cz)))]) rfl ?_
          have hsq := sqI_s (v := low + (high - low) / 2) (by omega)
          have hsm := mul_b hr0 hsq
          refine gy_lmul dX2_leastDepth_72 ?_
          refine gy_lcmp_gt 84 dX2_leastDepth_73 dX2_leastDepth_74 (by decide) (by constructor <;> omega) (by constructor <;> omega) (fun c73 => ?_) (fun c73 => ?_)
          · refine gx_iload 0 dX2_leastDepth_84 rfl ?_
            refine gx_iconst (iI 1) dX2_leastDepth_86 rfl ?_
            refine gy_iadd dX2_leastDepth_87 ?_
            refine gx_istore_n [(3, .int (iI ((low + ((high - low) / 2)) + 1))), (8, .int (iI (low + ((high - low) / 2)))), (0, .ref p), (4, .int (iI high)), (5, .long (lI (ap * sqI (eZ - cz)))), (7, .int (iI z))] dX2_leastDepth_88 rfl (by decide) rfl ?_
            refine gy_iinc 5 [(7, .int (iI (z + 1))), (3, .int (iI ((low + ((high - low) / 2)) + 1))), (8, .int (iI (low + ((high - low) / 2)))), (0, .ref p), (4, .int (iI high)), (5, .long (lI (ap * sqI (eZ - cz))))] dX2_leastDepth_89 rfl (by decide) rfl ?_
            refine gx_goto 33 dX2_leastDepth_92 (by decide) ?_
            refine ch_Glv (lv' := [(0, .ref p), (3, .int (iI ((low + ((high - low) / 2)) + 1))), (4, .int (iI high)), (5, .long (lI (ap * sqI (eZ - cz)))), (7, .int (iI (z + 1)))]) [3, 1, 4, 5, 0] rfl ?_
            exact ih _ _ _ (by omega) (by omega) (by omega) (by omega) (by omega) (by omega) (by omega) (by rw [← heq, hf0 (by omega), ldB, if_pos (by omega), if_neg (by omega)])
          · refine gx_iload 0 dX2_leastDepth_77 rfl ?_
            refine gx_istore [(4, .int (iI (low + ((high - low) / 2)))), (8, .int (iI (low + ((high - low) / 2)))), (0, .ref p), (3, .int (iI low)), (5, .long (lI (ap * sqI (eZ - cz)))), (7, .int (iI z))] dX2_leastDepth_79 (by decide) rfl ?_
            refine gx_goto 89 dX2_leastDepth_81 (by decide) ?_
            refine gy_iinc 5 [(7, .int (iI (z + 1))), (4, .int (iI (low + ((high - low) / 2)))), (8, .int (iI (low + ((high - low) / 2)))), (0, .ref p), (3, .int (iI low)), (5, .long (lI (ap * sqI (eZ - cz))))] dX2_leastDepth_89 rfl (by decide) rfl ?_
            refine gx_goto 33 dX2_leastDepth_92 (by decide) ?_
            refine ch_Glv (lv' := [(0, .ref p), (3, .int (iI low)), (4, .int (iI (low + ((high - low) / 2)))), (5, .long (lI (ap * sqI (eZ - cz)))), (7, .int (iI (z + 1)))]) [3, 4, 1, 5, 0] rfl ?_
            exact ih _ _ _ (by omega) (by omega) (by omega) (by omega) (by omega) (by omega) (by omega) (by rw [← heq, hf0 (by omega), ldB, if_pos (by omega), if_pos (by omega)])
  refine gx_iconst (iI 1) dX2_leastDepth_0 rfl ?_
  refine gx_istore_n [(3, .int (iI 1)), (0, .ref p), (1, .long (lI ap))] dX2_leastDepth_1 rfl (by decide) rfl ?_
  refine gx_aload_n 1 dX2_leastDepth_2 rfl rfl ?_
  refine gx_get (ci := 2) (f := 5) (C := RX2) (T := TX2) (N := 6) rfl inX2 (by decide) mw_1_227 dX2_leastDepth_3 hp rfl ?_
  refine gx_aload_n 1 dX2_leastDepth_6 rfl rfl ?_
  refine gx_get (ci := 2) (f := 4) (C := RX2) (T := TX2) (N := 6) rfl inX2 (by decide) mw_1_226 dX2_leastDepth_7 hp rfl ?_
  refine gy_isub dX2_leastDepth_10 ?_
  refine gx_istore [(4, .int (iI (eZ - cz))), (3, .int (iI 1)), (0, .ref p), (1, .long (lI ap))] dX2_leastDepth_11 (by decide) rfl ?_
  refine gx_lload_n 3 dX2_leastDepth_13 rfl rfl ?_
  refine gx_aload_n 2 dX2_leastDepth_14 rfl rfl ?_
  refine gx_get (ci := 2) (f := 5) (C := RX2) (T := TX2) (N := 6) rfl inX2 (by decide) mw_1_227 dX2_leastDepth_15 hp rfl ?_
  refine gx_aload_n 2 dX2_leastDepth_18 rfl rfl ?_
  refine gx_get (ci := 2) (f := 4) (C := RX2) (T := TX2) (N := 6) rfl inX2 (by decide) mw_1_226 dX2_leastDepth_19 hp rfl ?_
  refine gy_isub dX2_leastDepth_22 ?_
  refine gy_i2l dX2_leastDepth_23 (by constructor <;> omega) ?_
  refine gx_callSN (c_X11_square l D cI cL cR lo h hi (eZ - cz)) ok_X11_square nw_4 mw_2_127 dX2_leastDepth_24 rfl rfl (Nat.le_of_ble_eq_true rfl) (by first | exact Nat.le_of_ble_eq_true rfl | (simp only [rM]; omega)) (by first | exact Nat.le_of_ble_eq_true rfl | (simp only [rM]; omega)) (by first | exact Nat.le_of_ble_eq_true rfl | (simp only [rM]; omega)) (by first | exact Nat.le_of_ble_eq_true rfl | (simp only [rM]; omega)) (fun r1 h2 u3 q4 g5 => ?_)
  obtain ⟨rfl, rfl, rfl⟩ := q4
  refine ch_Gst (st2 := [.long (lI (sqI (eZ - cz))), .long (lI ap)]) rfl ?_
  refine gy_lmul dX2_leastDepth_27 ?_
  refine gx_lstore [(5, .long (lI (ap * (sqI (eZ - cz))))), (4, .int (iI (eZ - cz))), (3, .int (iI 1)), (0, .ref p), (1, .long (lI ap))] dX2_leastDepth_28 (by decide) rfl ?_
  refine gx_iconst (iI 0) dX2_leastDepth_30 rfl ?_
  refine gx_istore [(7, .int (iI 0)), (5, .long (lI (ap * (sqI (eZ - cz))))), (4, .int (iI (eZ - cz))), (3, .int (iI 1)), (0, .ref p), (1, .long (lI ap))] dX2_leastDepth_31 (by decide) rfl ?_
  refine ch_Glv (lv' := [(0, .ref p), (3, .int (iI 1)), (4, .int (iI (eZ - cz))), (5, .long (lI (ap * (sqI (eZ - cz))))), (7, .int (iI 0))]) [4, 3, 2, 1, 0] rfl ?_
  exact loop 33 1 (eZ - cz) 0 (by omega) (by omega) (by omega) (by omega) (by omega) (by omega) (by omega) rfl
end
