section
set_option maxHeartbeats 4000000 in
set_option maxRecDepth 100000 in
theorem c_X7_clear (l : Launch) (D : va_G) (cI cL cR : ClassId) (lo : Nat) (h : ch_H) (hi : Nat) (r e : Nat) (n : Int) (hr : h r = some (.inr (7, [.ref e, .int (iI n)]))) : ch_C l (eE D cI cL cR lo) M_X7_clear (rM 0 0 0) [.ref r] h hi (fun r0 h2 hi2 => r0 = none ∧ h2 = ch_set h r (.inr (7, [.ref e, .int (iI 0)])) ∧ hi = hi2) := by
  refine ch_C.of rfl (Nat.le_of_ble_eq_true rfl) ?_
  refine gx_aload_n 0 dX7_clear_0 rfl rfl ?_
  refine gx_iconst (iI 0) dX7_clear_1 rfl ?_
  refine gy_put (ci := 7) (f := 1) (C := RX7) (T := TX7) (N := 2) (ty := .int) (fs2 := [.ref e, .int (iI 0)]) tyX7 rfl inX7 tyX7_ok nmX7 (by decide) mw_1_84 (Or.inl rfl) (by decide +kernel) rfl rfl dX7_clear_2 hr (by simp) rfl (fun h1 eh1 => ?_)
  have k2 : h1 r = some (.inr (7, [.ref e, .int (iI 0)])) := by rw [eh1]; exact ch_set_self
  refine gx_vret rfl dX7_clear_5 (by first | exact Nat.le_of_ble_eq_true rfl | (simp only [rM]; omega)) (by first | exact Nat.le_of_ble_eq_true rfl | (simp only [rM]; omega)) ?_
  exact ⟨rfl, eh1, rfl⟩
set_option maxHeartbeats 4000000 in
set_option maxRecDepth 100000 in
theorem c_X7_runCount (l : Launch) (D : va_G) (cI cL cR : ClassId) (lo : Nat) (h : ch_H) (hi : Nat) (r e : Nat) (n : Int) (hr : h r = some (.inr (7, [.ref e, .int (iI n)]))) (hn : 0 ≤ n ∧ n ≤ 100) : ch_C l (eE D cI cL cR lo) M_X7_runCount (rM 0 0 0) [.ref r] h hi (fun r0 h2 hi2 => r0 = some (.int (iI (n / 2))) ∧ h = h2 ∧ hi = hi2) := by
  refine ch_C.of rfl (Nat.le_of_ble_eq_true rfl) ?_
  refine gx_aload_n 0 dX7_runCount_0 rfl rfl ?_
  refine gx_get (ci := 7) (f := 1) (C := RX7) (T := TX7) (N := 2) rfl inX7 (by decide) mw_1_84 dX7_runCount_1 hr rfl ?_
  refine gx_iconst (iI 2) dX7_runCount_4 rfl ?_
  refine gy_idiv dX7_runCount_5 (by constructor <;> omega) (by decide) (by omega) (by decide) ?_
  refine gx_iret rfl dX7_runCount_6 (by first | exact Nat.le_of_ble_eq_true rfl | (simp only [rM]; omega)) (by first | exact Nat.le_of_ble_eq_true rfl | (simp only [rM]; omega)) ?_
  exact ⟨rfl, rfl, rfl⟩
/-- what firstOf and lastOf answer -/
def ruF (f : Nat → Int) (n k : Int) : Int := if 0 ≤ k ∧ k < n / 2 then f (2 * k).toNat else 0
def ruL (f : Nat → Int) (n k : Int) : Int := if 0 ≤ k ∧ k < n / 2 then f (2 * k + 1).toNat - 1 else 0
theorem ruF_in {f : Nat → Int} {n k : Int} (h0 : 0 ≤ k) (h1 : k < n / 2) : ruF f n k = f (2 * k.toNat) := by
  unfold ruF
  rw [if_pos ⟨h0, h1⟩]
  congr 1
  omega
theorem ruL_in {f : Nat → Int} {n k : Int} (h0 : 0 ≤ k) (h1 : k < n / 2) : ruL f n k = f (2 * k.toNat + 1) - 1 := by
  unfold ruL
  rw [if_pos ⟨h0, h1⟩]
  congr 2
  omega
/-- how many of a .. b the first k runs hold -/
def cntR (f : Nat → Int) (a b : Int) : Nat → Int
  | 0 => 0
  | k + 1 => cntR f a b k + (if max a (f (2 * k)) ≤ min b (f (2 * k + 1) - 1) then min b (f (2 * k + 1) - 1) - max a (f (2 * k)) + 1 else 0)
/-- the top of the first k runs -/
def agR (f : Nat → Int) : Nat → Int
  | 0 => 0
  | k + 1 => if 0 ≤ min 999 (f (2 * k + 1) - 1) ∧ f (2 * k) ≤ min 999 (f (2 * k + 1) - 1) then min 999 (f (2 * k + 1) - 1) + 1 else agR f k
set_option maxHeartbeats 4000000 in
set_option maxRecDepth 100000 in
theorem c_X7_firstOf (l : Launch) (D : va_G) (cI cL cR : ClassId) (lo : Nat) (h : ch_H) (hi : Nat) (r e : Nat) (n : Int) (f : Nat → Int) (hr : h r = some (.inr (7, [.ref e, .int (iI n)]))) (he : h e = some (aI cI 100 f)) (hn : 0 ≤ n ∧ n ≤ 100) (z : Int) (hz : ir z) : ch_C l (eE D cI cL cR lo) M_X7_firstOf (rM 1 0 0) [.ref r, .int (iI z)] h hi (fun r0 h2 hi2 => r0 = some (.int (iI (ruF f n z))) ∧ h = h2 ∧ hi = hi2) := by
  refine ch_C.of rfl (Nat.le_of_ble_eq_true rfl) ?_
  refine gx_iload_n 1 dX7_firstOf_0 rfl rfl ?_
  refine gy_if_lt 12 dX7_firstOf_1 (by decide) (by constructor <;> omega) (fun c1 => ?_) (fun c1 => ?_)
  · refine gx_iconst (iI 0) dX7_firstOf_12 rfl ?_
    refine gx_goto 24 dX7_firstOf_13 (by decide) ?_
    refine gx_iret rfl dX7_firstOf_24 (by first | exact Nat.le_of_ble_eq_true rfl | (simp only [rM]; omega)) (by first | exact Nat.le_of_ble_eq_true rfl | (simp only [rM]; omega)) ?_
    exact ⟨by unfold ruF; rw [if_neg (by omega)], rfl, rfl⟩
  · refine gx_iload_n 1 dX7_firstOf_4 rfl rfl ?_
    refine gx_aload_n 0 dX7_firstOf_5 rfl rfl ?_
    refine gx_callV (ci := 7) (c_X7_runCount l D cI cL cR lo h hi r e n hr hn) ok_X7_runCount mw_2_197 mw_2_198 mw_2_199 dX7_firstOf_6 rfl hr rfl rfl (Nat.le_of_ble_eq_true rfl) (by first | exact Nat.le_of_ble_eq_true rfl | (simp only [rM]; omega)) (by first | exact Nat.le_of_ble_eq_true rfl | (simp only [rM]; omega)) (by first | exact Nat.le_of_ble_eq_true rfl | (simp only [rM]; omega)) (by first | exact Nat.le_of_ble_eq_true rfl | (simp only [rM]; omega)) (fun r1 h2 u3 q4 g5 => ?_)
    obtain ⟨rfl, rfl, rfl⟩ := q4
    refine ch_Gst (st2 := [.int (iI (n / 2)), .int (iI z)]) rfl ?_
    refine gy_icmp_lt 16 dX7_firstOf_9 (by decide) (by constructor <;> omega) (by constructor <;> omega) (fun c9 => ?_) (fun c9 => ?_)
    · refine gx_aload_n 0 dX7_firstOf_16 rfl rfl ?_
      refine gx_get (ci := 7) (f := 0) (C := RX7) (T := TX7) (N := 2) rfl inX7 (by decide) mw_1_83 dX7_firstOf_17 hr rfl ?_
      refine gx_iconst (iI 2) dX7_firstOf_20 rfl ?_
      refine gx_iload_n 1 dX7_firstOf_21 rfl rfl ?_
      refine gy_imul dX7_firstOf_22 ?_
      refine gy_iald dX7_firstOf_23 he (by omega) (by omega) (by decide) ?_
      refine gx_iret rfl dX7_firstOf_24 (by first | exact Nat.le_of_ble_eq_true rfl | (simp only [rM]; omega)) (by first | exact Nat.le_of_ble_eq_true rfl | (simp only [rM]; omega)) ?_
      exact ⟨by unfold ruF; rw [if_pos ⟨by omega, by omega⟩], rfl, rfl⟩
    · refine gx_iconst (iI 0) dX7_firstOf_12 rfl ?_
      refine gx_goto 24 dX7_firstOf_13 (by decide) ?_
      refine gx_iret rfl dX7_firstOf_24 (by first | exact Nat.le_of_ble_eq_true rfl | (simp only [rM]; omega)) (by first | exact Nat.le_of_ble_eq_true rfl | (simp only [rM]; omega)) ?_
      exact ⟨by unfold ruF; rw [if_neg (by omega)], rfl, rfl⟩
set_option maxHeartbeats 4000000 in
set_option maxRecDepth 100000 in
theorem c_X7_lastOf (l : Launch) (D : va_G) (cI cL cR : ClassId) (lo : Nat) (h : ch_H) (hi : Nat) (r e : Nat) (n : Int) (f : Nat → Int) (hr : h r = some (.inr (7, [.ref e, .int (iI n)]))) (he : h e = some (aI cI 100 f)) (hn : 0 ≤ n ∧ n ≤ 100) (z : Int) (hz : ir z) : ch_C l (eE D cI cL cR lo) M_X7_lastOf (rM 1 0 0) [.ref r, .int (iI z)] h hi (fun r0 h2 hi2 => r0 = some (.int (iI (ruL f n z))) ∧ h = h2 ∧ hi = hi2) := by
  refine ch_C.of rfl (Nat.le_of_ble_eq_true rfl) ?_
  refine gx_iload_n 1 dX7_lastOf_0 rfl rfl ?_
  refine gy_if_lt 12 dX7_lastOf_1 (by decide) (by constructor <;> omega) (fun c1 => ?_) (fun c1 => ?_)
  · refine gx_iconst (iI 0) dX7_lastOf_12 rfl ?_
    refine gx_goto 28 dX7_lastOf_13 (by decide) ?_
    refine gx_iret rfl dX7_lastOf_28 (by first | exact Nat.le_of_ble_eq_true rfl | (simp only [rM]; omega)) (by first | exact Nat.le_of_ble_eq_true rfl | (simp only [rM]; omega)) ?_
    exact ⟨by unfold ruL; rw [if_neg (by omega)], rfl, rfl⟩
  · refine gx_iload_n 1 dX7_lastOf_4 rfl rfl ?_
    refine gx_aload_n 0 dX7_lastOf_5 rfl rfl ?_
    refine gx_callV (ci := 7) (c_X7_runCount l D cI cL cR lo h hi r e n hr hn) ok_X7_runCount mw_2_197 mw_2_198 mw_2_199 dX7_lastOf_6 rfl hr rfl rfl (Nat.le_of_ble_eq_true rfl) (by first | exact Nat.le_of_ble_eq_true rfl | (simp only [rM]; omega)) (by first | exact Nat.le_of_ble_eq_true rfl | (simp only [rM]; omega)) (by first | exact Nat.le_of_ble_eq_true rfl | (simp only [rM]; omega)) (by first | exact Nat.le_of_ble_eq_true rfl | (simp only [rM]; omega)) (fun r1 h2 u3 q4 g5 => ?_)
    obtain ⟨rfl, rfl, rfl⟩ := q4
    refine ch_Gst (st2 := [.int (iI (n / 2)), .int (iI z)]) rfl ?_
    refine gy_icmp_lt 16 dX7_lastOf_9 (by decide) (by constructor <;> omega) (by constructor <;> omega) (fun c9 => ?_) (fun c9 => ?_)
    · refine gx_aload_n 0 dX7_lastOf_16 rfl rfl ?_
      refine gx_get (ci := 7) (f := 0) (C := RX7) (T := TX7) (N := 2) rfl inX7 (by decide) mw_1_83 dX7_lastOf_17 hr rfl ?_
      refine gx_iconst (iI 2) dX7_lastOf_20 rfl ?_
      refine gx_iload_n 1 dX7_lastOf_21 rfl rfl ?_
      refine gy_imul dX7_lastOf_22 ?_
      refine gx_iconst (iI 1) dX7_lastOf_23 rfl ?_
      refine gy_iadd dX7_lastOf_24 ?_
      refine gy_iald dX7_lastOf_25 he (by omega) (by omega) (by decide) ?_
      refine gx_iconst (iI 1) dX7_lastOf_26 rfl ?_
      refine gy_isub dX7_lastOf_27 ?_
      refine gx_iret rfl dX7_lastOf_28 (by first | exact Nat.le_of_ble_eq_true rfl | (simp only [rM]; omega)) (by first | exact Nat.le_of_ble_eq_true rfl | (simp only [rM]; omega)) ?_
      exact ⟨by unfold ruL; rw [if_pos ⟨by omega, by omega⟩], rfl, rfl⟩
    · refine gx_iconst (iI 0) dX7_lastOf_12 rfl ?_
      refine gx_goto 28 dX7_lastOf_13 (by decide) ?_
      refine gx_iret rfl dX7_lastOf_28 (by first | exact Nat.le_of_ble_eq_true rfl | (simp only [rM]; omega)) (by first | exact Nat.le_of_ble_eq_true rfl | (simp only [rM]; omega)) ?_
      exact ⟨by unfold ruL; rw [if_neg (by omega)], rfl, rfl⟩
set_option maxHeartbeats 4000000 in
set_option maxRecDepth 100000 in
theorem c_X7_countFrom (l : Launch) (D : va_G) (cI cL cR : ClassId) (lo : Nat) (h : ch_H) (hi : Nat) (r e : Nat) (n : Int) (f : Nat → Int) (hr : h r = some (.inr (7, [.ref e, .int (iI n)]))) (he : h e = some (aI cI 100 f)) (hn : 0 ≤ n ∧ n ≤ 100) (hf : ∀ j : Nat, (j : Int) < n → -1000000 ≤ f j ∧ f j ≤ 1000000) (a b : Int) (ha : ir a) (hb : ir b) : ch_C l (eE D cI cL cR lo) M_X7_countFrom (rM 2 0 0) [.ref r, .int (iI a), .int (iI b)] h hi (fun r0 h2 hi2 => r0 = some (.long (lI (cntR f a b (n / 2).toNat))) ∧ h = h2 ∧ hi = hi2) := by
  refine ch_C.of rfl (Nat.le_of_ble_eq_true rfl) ?_
  have loop : ∀ (m : Nat) (z acc : Int), (0 ≤ z) → (z ≤ n / 2) → (n / 2 + 1 ≤ z + m) → (acc = cntR f a b z.toNat) → ch_G l (eE D cI cL cR lo) M_X7_countFrom ch_T (rM 2 0 0) (ch_Z (eE D cI cL cR lo) 0 0 (fun r0 h2 hi2 => r0 = some (.long (lI (cntR f a b (n / 2).toNat))) ∧ h = h2 ∧ hi = hi2)) 0 0 h hi 5 [(0, .ref r), (1, .int (iI a)), (2, .int (iI b)), (3, .long (lI acc)), (5, .int (iI z))] [] := by
    intro m
    induction m with
    | zero => intro z acc hz0 hz1 hm hacc; exfalso; omega
    | succ m ih =>
      intro z acc hz0 hz1 hm hacc
      refine gx_iload 4 dX7_countFrom_5 rfl ?_
      refine gx_aload_n 0 dX7_countFrom_7 rfl rfl ?_
      refine gx_callV (ci := 7) (c_X7_runCount l D cI cL cR lo h hi r e n hr hn) ok_X7_runCount mw_2_197 mw_2_198 mw_2_199 dX7_countFrom_8 rfl hr rfl rfl (Nat.le_of_ble_eq_true rfl) (by first | exact Nat.le_of_ble_eq_true rfl | (simp only [rM]; omega)) (by first | exact Nat.le_of_ble_eq_true rfl | (simp only [rM]; omega)) (by first | exact Nat.le_of_ble_eq_true rfl | (simp only [rM]; omega)) (by first | exact Nat.le_of_ble_eq_true rfl | (simp only [rM]; omega)) (fun r1 h2 u3 q4 g5 => ?_)
      obtain ⟨rfl, rfl, rfl⟩ := q4
      refine ch_Gst (st2 := [.int (iI (n / 2)), .int (iI z)]) rfl ?_
      refine gy_icmp_ge 64 dX7_countFrom_11 (by decide) (by constructor <;> omega) (by constructor <;> omega) (fun c11 => ?_) (fun c11 => ?_)
      · refine gx_lload_n 3 dX7_countFrom_64 rfl rfl ?_
        refine gx_lret rfl dX7_countFrom_65 (by first | exact Nat.le_of_ble_eq_true rfl | (simp only [rM]; omega)) (by first | exact Nat.le_of_ble_eq_true rfl | (simp only [rM]; omega)) ?_
        exact ⟨by rw [hacc, show z.toNat = (n / 2).toNat by omega], rfl, rfl⟩
      · have hfa := hf (2 * z.toNat) (by omega)
        have hfb := hf (2 * z.toNat + 1) (by omega)
        refine gx_iload_n 1 dX7_countFrom_14 rfl rfl ?_
        refine gx_aload_n 0 dX7_countFrom_15 rfl rfl ?_
        refine gx_iload 4 dX7_countFrom_16 rfl ?_
        refine gx_callV (ci := 7) (c_X7_firstOf l D cI cL cR lo h hi r e n f hr he hn z (by constructor <;> omega)) ok_X7_firstOf mw_2_201 mw_2_202 mw_2_203 dX7_countFrom_18 rfl hr rfl rfl (Nat.le_of_ble_eq_true rfl) (by first | exact Nat.le_of_ble_eq_true rfl | (simp only [rM]; omega)) (by first | exact Nat.le_of_ble_eq_true rfl | (simp only [rM]; omega)) (by first | exact Nat.le_of_ble_eq_true rfl | (simp only [rM]; omega)) (by first | exact Nat.le_of_ble_eq_true rfl | (simp only [rM]; omega)) (fun r6 h7 u8 q9 g10 => ?_)
        obtain ⟨rfl, rfl, rfl⟩ := q9
        refine ch_Gst (st2 := [.int (iI (ruF f n z)), .int (iI a)]) rfl ?_
        refine ch_Gst (st2 := [.int (iI (f (2 * z.toNat))), .int (iI a)]) (by rw [ruF_in (by omega) (by omega)]) ?_
        refine gy_mmax mw_2_205 mw_2_206 mw_1_14 mw_2_207 dX7_countFrom_21 (by decide) (Nat.le_of_ble_eq_true rfl) (by first | exact Nat.le_of_ble_eq_true rfl | (simp only [rM]; omega)) (by first | exact Nat.le_of_ble_eq_true rfl | (simp only [rM]; omega)) (by constructor <;> omega) (by constructor <;> omega) ?_
        refine gy_i2l dX7_countFrom_24 (by constructor <;> omega) ?_
        refine gx_lstore [(6, .long (lI (max a (f (2 * z.toNat))))), (0, .ref r), (1, .int (iI a)), (2, .int (iI b)), (3, .long (lI acc)), (5, .int (iI z))] dX7_countFrom_25 (by decide) rfl ?_
        refine gx_iload_n 3 dX7_countFrom_27 rfl rfl ?_
        refine gx_aload_n 1 dX7_countFrom_28 rfl rfl ?_
        refine gx_iload 5 dX7_countFrom_29 rfl ?_
        refine gx_callV (ci := 7) (c_X7_lastOf l D cI cL cR lo h hi r e n f hr he hn z (by constructor <;> omega)) ok_X7_lastOf mw_2_208 mw_2_209 mw_2_210 dX7_countFrom_31 rfl hr rfl rfl (Nat.le_of_ble_eq_true rfl) (by first | exact Nat.le_of_ble_eq_true rfl | (simp only [rM]; omega)) (by first | exact Nat.le_of_ble_eq_true rfl | (simp only [rM]; omega)) (by first | exact Nat.le_of_ble_eq_true rfl | (simp only [rM]; omega)) (by first | exact Nat.le_of_ble_eq_true rfl | (simp only [rM]; omega)) (fun r11 h12 u13 q14 g15 => ?_)
        obtain ⟨rfl, rfl, rfl⟩ := q14
        refine ch_Gst (st2 := [.int (iI (ruL f n z)), .int (iI b)]) rfl ?_
        refine ch_Gst (st2 := [.int (iI (f (2 * z.toNat + 1) - 1)), .int (iI b)]) (by rw [ruL_in (by omega) (by omega)]) ?_
        refine gy_mmin mw_2_190 mw_2_191 mw_1_14 mw_2_192 dX7_countFrom_34 (by decide) (Nat.le_of_ble_eq_true rfl) (by first | exact Nat.le_of_ble_eq_true rfl | (simp only [rM]; omega)) (by first | exact Nat.le_of_ble_eq_true rfl | (simp only [rM]; omega)) (by constructor <;> omega) (by constructor <;> omega) ?_
        refine gy_i2l dX7_countFrom_37 (by constructor <;> omega) ?_
        refine gx_lstore [(8, .long (lI (min b (f (2 * z.toNat + 1) - 1)))), (6, .long (lI (max a (f (2 * z.toNat))))), (0, .ref r), (1, .int (iI a)), (2, .int (iI b)), (3, .long (lI acc)), (5, .int (iI z))] dX7_countFrom_38 (by decide) rfl ?_
        refine gx_lload 1 dX7_countFrom_40 rfl ?_
        refine gx_lload 0 dX7_countFrom_42 rfl ?_
        refine gy_lcmp_gt 58 dX7_countFrom_44 dX7_countFrom_45 (by decide) (by constructor <;> omega) (by constructor <;> omega) (fun c44 => ?_) (fun c44 => ?_)
        · refine gy_iinc 6 [(5, .int (iI (z + 1))), (8, .long (lI (min b (f (2 * z.toNat + 1) - 1)))), (6, .long (lI (max a (f (2 * z.toNat))))), (0, .ref r), (1, .int (iI a)), (2, .int (iI b)), (3, .long (lI acc))] dX7_countFrom_58 rfl (by decide) rfl ?_
          refine gx_goto 5 dX7_countFrom_61 (by decide) ?_
          refine ch_Glv (lv' := [(0, .ref r), (1, .int (iI a)), (2, .int (iI b)), (3, .long (lI acc)), (5, .int (iI (z + 1)))]) [3, 4, 5, 6, 0] rfl ?_
          exact ih _ _ (by omega) (by omega) (by omega) (by rw [show (z + 1).toNat = z.toNat + 1 by omega, cntR, ← hacc]; rw [if_neg (by omega)]; omega)
        · refine gx_lload_n 5 dX7_countFrom_48 rfl rfl ?_
          refine gx_lload 0 dX7_countFrom_49 rfl ?_
          refine gx_lload 1 dX7_countFrom_51 rfl ?_
          refine gy_lsub dX7_countFrom_53 ?_
          refine gx_lconst (lI 1) dX7_countFrom_54 rfl ?_
          refine gy_ladd dX7_countFrom_55 ?_
          refine gy_ladd dX7_countFrom_56 ?_
          refine gx_lstore_n [(3, .long (lI (acc + (((min b (f (2 * z.toNat + 1) - 1)) - (max a (f (2 * z.toNat)))) + 1)))), (8, .long (lI (min b (f (2 * z.toNat + 1) - 1)))), (6, .long (lI (max a (f (2 * z.toNat))))), (0, .ref r), (1, .int (iI a)), (2, .int (iI b)), (5, .int (iI z))] dX7_countFrom_57 rfl (by decide) rfl ?_
          refine gy_iinc 6 [(5, .int (iI (z + 1))), (3, .long (lI (acc + (((min b (f (2 * z.toNat + 1) - 1)) - (max a (f (2 * z.toNat)))) + 1)))), (8, .long (lI (min b (f (2 * z.toNat + 1) - 1)))), (6, .long (lI (max a (f (2 * z.toNat))))), (0, .ref r), (1, .int (iI a)), (2, .int (iI b))] dX7_countFrom_58 rfl (by decide) rfl ?_
          refine gx_goto 5 dX7_countFrom_61 (by decide) ?_
          refine ch_Glv (lv' := [(0, .ref r), (1, .int (iI a)), (2, .int (iI b)), (3, .long (lI (acc + (((min b (f (2 * z.toNat + 1) - 1)) - (max a (f (2 * z.toNat)))) + 1)))), (5, .int (iI (z + 1)))]) [4, 5, 6, 1, 0] rfl ?_
          exact ih _ _ (by omega) (by omega) (by omega) (by rw [show (z + 1).toNat = z.toNat + 1 by omega, cntR, ← hacc]; rw [if_pos (by omega)])
  refine gx_lconst (lI 0) dX7_countFrom_0 rfl ?_
  refine gx_lstore_n [(3, .long (lI 0)), (0, .ref r), (1, .int (iI a)), (2, .int (iI b))] dX7_countFrom_1 rfl (by decide) rfl ?_
  refine gx_iconst (iI 0) dX7_countFrom_2 rfl ?_
  refine gx_istore [(5, .int (iI 0)), (3, .long (lI 0)), (0, .ref r), (1, .int (iI a)), (2, .int (iI b))] dX7_countFrom_3 (by decide) rfl ?_
  refine ch_Glv (lv' := [(0, .ref r), (1, .int (iI a)), (2, .int (iI b)), (3, .long (lI 0)), (5, .int (iI 0))]) [2, 3, 4, 1, 0] rfl ?_
  exact loop 60 0 0 (by omega) (by omega) (by omega) rfl
set_option maxHeartbeats 4000000 in
set_option maxRecDepth 100000 in
theorem c_X7_afterGreatest (l : Launch) (D : va_G) (cI cL cR : ClassId) (lo : Nat) (h : ch_H) (hi : Nat) (r e : Nat) (n : Int) (f : Nat → Int) (hr : h r = some (.inr (7, [.ref e, .int (iI n)]))) (he : h e = some (aI cI 100 f)) (hn : 0 ≤ n ∧ n ≤ 100) (hf : ∀ j : Nat, (j : Int) < n → -1000000 ≤ f j ∧ f j ≤ 1000000) : ch_C l (eE D cI cL cR lo) M_X7_afterGreatest (rM 2 0 0) [.ref r] h hi (fun r0 h2 hi2 => r0 = some (.int (iI (agR f (n / 2).toNat))) ∧ h = h2 ∧ hi = hi2) := by
  refine ch_C.of rfl (Nat.le_of_ble_eq_true rfl) ?_
  have loop : ∀ (m : Nat) (z acc : Int), (0 ≤ z) → (z ≤ n / 2) → (n / 2 + 1 ≤ z + m) → (acc = agR f z.toNat) → ch_G l (eE D cI cL cR lo) M_X7_afterGreatest ch_T (rM 2 0 0) (ch_Z (eE D cI cL cR lo) 0 0 (fun r0 h2 hi2 => r0 = some (.int (iI (agR f (n / 2).toNat))) ∧ h = h2 ∧ hi = hi2)) 0 0 h hi 4 [(0, .ref r), (1, .int (iI acc)), (2, .int (iI z))] [] := by
    intro m
    induction m with
    | zero => intro z acc hz0 hz1 hm hacc; exfalso; omega
    | succ m ih =>
      intro z acc hz0 hz1 hm hacc
      refine gx_iload_n 2 dX7_afterGreatest_4 rfl rfl ?_
      refine gx_aload_n 0 dX7_afterGreatest_5 rfl rfl ?_
      refine gx_callV (ci := 7) (c_X7_runCount l D cI cL cR lo h hi r e n hr hn) ok_X7_runCount mw_2_197 mw_2_198 mw_2_199 dX7_afterGreatest_6 rfl hr rfl rfl (Nat.le_of_ble_eq_true rfl) (by first | exact Nat.le_of_ble_eq_true rfl | (simp only [rM]; omega)) (by first | exact Nat.le_of_ble_eq_true rfl | (simp only [rM]; omega)) (by first | exact Nat.le_of_ble_eq_true rfl | (simp only [rM]; omega)) (by first | exact Nat.le_of_ble_eq_true rfl | (simp only [rM]; omega)) (fun r1 h2 u3 q4 g5 => ?_)
      obtain ⟨rfl, rfl, rfl⟩ := q4
      refine ch_Gst (st2 := [.int (iI (n / 2)), .int (iI z)]) rfl ?_
      refine gy_icmp_ge 47 dX7_afterGreatest_9 (by decide) (by constructor <;> omega) (by constructor <;> omega) (fun c9 => ?_) (fun c9 => ?_)
      · refine gx_iload_n 1 dX7_afterGreatest_47 rfl rfl ?_
        refine gx_iret rfl dX7_afterGreatest_48 (by first | exact Nat.le_of_ble_eq_true rfl | (simp only [rM]; omega)) (by first | exact Nat.le_of_ble_eq_true rfl | (simp only [rM]; omega)) ?_
        exact ⟨by rw [hacc, show z.toNat = (n / 2).toNat by omega], rfl, rfl⟩
      · have hfa := hf (2 * z.toNat) (by omega)
        have hfb := hf (2 * z.toNat + 1) (by omega)
        refine gx_sipush (iI 999) dX7_afterGreatest_12 (by decide) ?_
        refine gx_aload_n 0 dX7_afterGreatest_15 rfl rfl ?_
        refine gx_iload_n 2 dX7_afterGreatest_16 rfl rfl ?_
        refine gx_callV (ci := 7) (c_X7_lastOf l D cI cL cR lo h hi r e n f hr he hn z (by constructor <;> omega)) ok_X7_lastOf mw_2_208 mw_2_209 mw_2_210 dX7_afterGreatest_17 rfl hr rfl rfl (Nat.le_of_ble_eq_true rfl) (by first | exact Nat.le_of_ble_eq_true rfl | (simp only [rM]; omega)) (by first | exact Nat.le_of_ble_eq_true rfl | (simp only [rM]; omega)) (by first | exact Nat.le_of_ble_eq_true rfl | (simp only [rM]; omega)) (by first | exact Nat.le_of_ble_eq_true rfl | (simp only [rM]; omega)) (fun r6 h7 u8 q9 g10 => ?_)
        obtain ⟨rfl, rfl, rfl⟩ := q9
        refine ch_Gst (st2 := [.int (iI (ruL f n z)), .int (iI 999)]) rfl ?_
        refine ch_Gst (st2 := [.int (iI (f (2 * z.toNat + 1) - 1)), .int (iI 999)]) (by rw [ruL_in (by omega) (by omega)]) ?_
        refine gy_mmin mw_2_190 mw_2_191 mw_1_14 mw_2_192 dX7_afterGreatest_20 (by decide) (Nat.le_of_ble_eq_true rfl) (by first | exact Nat.le_of_ble_eq_true rfl | (simp only [rM]; omega)) (by first | exact Nat.le_of_ble_eq_true rfl | (simp only [rM]; omega)) (by decide) (by constructor <;> omega) ?_
        refine gx_istore_n [(3, .int (iI (min 999 (f (2 * z.toNat + 1) - 1)))), (0, .ref r), (1, .int (iI acc)), (2, .int (iI z))] dX7_afterGreatest_23 rfl (by decide) rfl ?_
        refine gx_iload_n 0 dX7_afterGreatest_24 rfl rfl ?_
        refine gy_if_lt 41 dX7_afterGreatest_25 (by decide) (by constructor <;> omega) (fun c25 => ?_) (fun c25 => ?_)
        · refine gy_iinc 3 [(2, .int (iI (z + 1))), (3, .int (iI (min 999 (f (2 * z.toNat + 1) - 1)))), (0, .ref r), (1, .int (iI acc))] dX7_afterGreatest_41 rfl (by decide) rfl ?_
          refine gx_goto 4 dX7_afterGreatest_44 (by decide) ?_
          refine ch_Glv (lv' := [(0, .ref r), (1, .int (iI acc)), (2, .int (iI (z + 1)))]) [2, 3, 0] rfl ?_
          exact ih _ _ (by omega) (by omega) (by omega) (by rw [show (z + 1).toNat = z.toNat + 1 by omega, agR, if_neg (by omega), ← hacc])
        · refine gx_iload_n 0 dX7_afterGreatest_28 rfl rfl ?_
          refine gx_aload_n 1 dX7_afterGreatest_29 rfl rfl ?_
          refine gx_iload_n 3 dX7_afterGreatest_30 rfl rfl ?_
          refine gx_callV (ci := 7) (c_X7_firstOf l D cI cL cR lo h hi r e n f hr he hn z (by constructor <;> omega)) ok_X7_firstOf mw_2_201 mw_2_202 mw_2_203 dX7_afterGreatest_31 rfl hr rfl rfl (Nat.le_of_ble_eq_true rfl) (by first | exact Nat.le_of_ble_eq_true rfl | (simp only [rM]; omega)) (by first | exact Nat.le_of_ble_eq_true rfl | (simp only [rM]; omega)) (by first | exact Nat.le_of_ble_eq_true rfl | (simp only [rM]; omega)) (by first | exact Nat.le_of_ble_eq_true rfl | (simp only [rM]; omega)) (fun r11 h12 u13 q14 g15 => ?_)
          obtain ⟨rfl, rfl, rfl⟩ := q14
          refine ch_Gst (st2 := [.int (iI (ruF f n z)), .int (iI (min 999 (f (2 * z.toNat + 1) - 1)))]) rfl ?_
          refine ch_Gst (st2 := [.int (iI (f (2 * z.toNat))), .int (iI (min 999 (f (2 * z.toNat + 1) - 1)))]) (by rw [ruF_in (by omega) (by omega)]) ?_
          refine gy_icmp_lt 41 dX7_afterGreatest_34 (by decide) (by constructor <;> omega) (by constructor <;> omega) (fun c34 => ?_) (fun c34 => ?_)
          · refine gy_iinc 3 [(2, .int (iI (z + 1))), (3, .int (iI (min 999 (f (2 * z.toNat + 1) - 1)))), (0, .ref r), (1, .int (iI acc))] dX7_afterGreatest_41 rfl (by decide) rfl ?_
            refine gx_goto 4 dX7_afterGreatest_44 (by decide) ?_
            refine ch_Glv (lv' := [(0, .ref r), (1, .int (iI acc)), (2, .int (iI (z + 1)))]) [2, 3, 0] rfl ?_
            exact ih _ _ (by omega) (by omega) (by omega) (by rw [show (z + 1).toNat = z.toNat + 1 by omega, agR, if_neg (by omega), ← hacc])
          · refine gx_iload_n 0 dX7_afterGreatest_37 rfl rfl ?_
            refine gx_iconst (iI 1) dX7_afterGreatest_38 rfl ?_
            refine gy_iadd dX7_afterGreatest_39 ?_
            refine gx_istore_n [(1, .int (iI ((min 999 (f (2 * z.toNat + 1) - 1)) + 1))), (3, .int (iI (min 999 (f (2 * z.toNat + 1) - 1)))), (0, .ref r), (2, .int (iI z))] dX7_afterGreatest_40 rfl (by decide) rfl ?_
            refine gy_iinc 3 [(2, .int (iI (z + 1))), (1, .int (iI ((min 999 (f (2 * z.toNat + 1) - 1)) + 1))), (3, .int (iI (min 999 (f (2 * z.toNat + 1) - 1)))), (0, .ref r)] dX7_afterGreatest_41 rfl (by decide) rfl ?_
            refine gx_goto 4 dX7_afterGreatest_44 (by decide) ?_
            refine ch_Glv (lv' := [(0, .ref r), (1, .int (iI ((min 999 (f (2 * z.toNat + 1) - 1)) + 1))), (2, .int (iI (z + 1)))]) [3, 1, 0] rfl ?_
            exact ih _ _ (by omega) (by omega) (by omega) (by rw [show (z + 1).toNat = z.toNat + 1 by omega, agR, if_pos (by omega)])
  refine gx_iconst (iI 0) dX7_afterGreatest_0 rfl ?_
  refine gx_istore_n [(1, .int (iI 0)), (0, .ref r)] dX7_afterGreatest_1 rfl (by decide) rfl ?_
  refine gx_iconst (iI 0) dX7_afterGreatest_2 rfl ?_
  refine gx_istore_n [(2, .int (iI 0)), (1, .int (iI 0)), (0, .ref r)] dX7_afterGreatest_3 rfl (by decide) rfl ?_
  refine ch_Glv (lv' := [(0, .ref r), (1, .int (iI 0)), (2, .int (iI 0))]) [2, 1, 0] rfl ?_
  exact loop 60 0 0 (by omega) (by omega) (by omega) rfl
set_option maxHeartbeats 4000000 in
set_option maxRecDepth 100000 in
theorem c_X7_copyFrom (l : Launch) (D : va_G) (cI cL cR : ClassId) (lo : Nat) (h : ch_H) (hi : Nat) (r e : Nat) (n : Int) (f : Nat → Int) (hr : h r = some (.inr (7, [.ref e, .int (iI n)]))) (he : h e = some (aI cI 100 f)) (g : Nat) (fg : Nat → Int) (hg : h g = some (aI cI 100 fg)) (cn : Int) (hcn : 0 ≤ cn ∧ cn ≤ 100) (heg : e ≠ g) : ch_C l (eE D cI cL cR lo) M_X7_copyFrom (rM 1 0 0) [.ref r, .ref g, .int (iI cn)] h hi (fun r0 h2 hi2 => r0 = none ∧ (∃ f2, h2 = ch_set (ch_set h r (.inr (7, [.ref e, .int (iI cn)]))) e (aI cI 100 f2) ∧ ∀ j : Nat, (j : Int) < cn → f2 j = fg j) ∧ hi = hi2) := by
  refine ch_C.of rfl (Nat.le_of_ble_eq_true rfl) ?_
  have loop : ∀ (m : Nat) (z : Int) (hh : ch_H) (ff : Nat → Int), (0 ≤ z) → (z ≤ cn) → (cn + 1 ≤ z + m) → (hh r = some (.inr (7, [.ref e, .int (iI cn)]))) → (hh e = some (aI cI 100 ff)) → (hh g = some (aI cI 100 fg)) → (hh = ch_set (ch_set h r (.inr (7, [.ref e, .int (iI cn)]))) e (aI cI 100 ff)) → (∀ j : Nat, (j : Int) < z → ff j = fg j) → ch_G l (eE D cI cL cR lo) M_X7_copyFrom ch_T (rM 1 0 0) (ch_Z (eE D cI cL cR lo) 0 0 (fun r0 h2 hi2 => r0 = none ∧ (∃ f2, h2 = ch_set (ch_set h r (.inr (7, [.ref e, .int (iI cn)]))) e (aI cI 100 f2) ∧ ∀ j : Nat, (j : Int) < cn → f2 j = fg j) ∧ hi = hi2)) 0 0 hh hi 17 [(0, .ref r), (1, .ref g), (3, .int (iI z))] [] := by
    intro m
    induction m with
    | zero => intro z hh ff hz0 hz1 hm kr ke kg hh2 hff; exfalso; omega
    | succ m ih =>
      intro z hh ff hz0 hz1 hm kr ke kg hh2 hff
      refine gx_iload_n 2 dX7_copyFrom_17 rfl rfl ?_
      refine gx_aload_n 0 dX7_copyFrom_18 rfl rfl ?_
      refine gx_get (ci := 7) (f := 1) (C := RX7) (T := TX7) (N := 2) rfl inX7 (by decide) mw_1_84 dX7_copyFrom_19 kr rfl ?_
      refine gy_icmp_ge 40 dX7_copyFrom_22 (by decide) (by constructor <;> omega) (by constructor <;> omega) (fun c22 => ?_) (fun c22 => ?_)
      · refine gx_vret rfl dX7_copyFrom_40 (by first | exact Nat.le_of_ble_eq_true rfl | (simp only [rM]; omega)) (by first | exact Nat.le_of_ble_eq_true rfl | (simp only [rM]; omega)) ?_
        exact ⟨rfl, ⟨ff, hh2, fun j hj => hff j (by omega)⟩, rfl⟩
      · refine gx_aload_n 0 dX7_copyFrom_25 rfl rfl ?_
        refine gx_get (ci := 7) (f := 0) (C := RX7) (T := TX7) (N := 2) rfl inX7 (by decide) mw_1_83 dX7_copyFrom_26 kr rfl ?_
        refine gx_iload_n 2 dX7_copyFrom_29 rfl rfl ?_
        refine gx_aload_n 1 dX7_copyFrom_30 rfl rfl ?_
        refine gx_iload_n 2 dX7_copyFrom_31 rfl rfl ?_
        refine gy_iald dX7_copyFrom_32 kg (by omega) (by omega) (by decide) ?_
        refine gy_iast dX7_copyFrom_33 ke (by omega) (by omega) (by decide) (fun h1 eh1 => ?_)
        have k2 : h1 r = some (.inr (7, [.ref e, .int (iI cn)])) := by rw [eh1, ch_set_ne (ch_ne kr ke (by intro q; cases q))]; exact kr
        have k3 : h1 g = some (aI cI 100 fg) := by rw [eh1, ch_set_ne (Ne.symm heg)]; exact kg
        have k4 : h1 e = some (aI cI 100 (updI ff z.toNat (fg z.toNat))) := by rw [eh1]; exact ch_set_self
        refine gy_iinc 2 [(3, .int (iI (z + 1))), (0, .ref r), (1, .ref g)] dX7_copyFrom_34 rfl (by decide) rfl ?_
        refine gx_goto 17 dX7_copyFrom_37 (by decide) ?_
        refine ch_Glv (lv' := [(0, .ref r), (1, .ref g), (3, .int (iI (z + 1)))]) [1, 2, 0] rfl ?_
        exact ih _ _ _ (by omega) (by omega) (by omega) k2 k4 k3 (by rw [eh1, hh2, ch_set_set]) (updI_pre hff hz0)
  refine gx_aload_n 0 dX7_copyFrom_0 rfl rfl ?_
  refine gx_iload_n 2 dX7_copyFrom_1 rfl rfl ?_
  refine gx_aload_n 1 dX7_copyFrom_2 rfl rfl ?_
  refine gx_alen 0 (iI 100) rfl dX7_copyFrom_3 hg rfl ?_
  refine gx_bipush (iI 100) dX7_copyFrom_4 (by decide) ?_
  refine gy_mmin mw_2_190 mw_2_191 mw_1_14 mw_2_192 dX7_copyFrom_6 (by decide) (Nat.le_of_ble_eq_true rfl) (by first | exact Nat.le_of_ble_eq_true rfl | (simp only [rM]; omega)) (by first | exact Nat.le_of_ble_eq_true rfl | (simp only [rM]; omega)) (by decide) (by decide) ?_
  refine gy_mmin mw_2_190 mw_2_191 mw_1_14 mw_2_192 dX7_copyFrom_9 (by decide) (Nat.le_of_ble_eq_true rfl) (by first | exact Nat.le_of_ble_eq_true rfl | (simp only [rM]; omega)) (by first | exact Nat.le_of_ble_eq_true rfl | (simp only [rM]; omega)) (by constructor <;> omega) (by constructor <;> omega) ?_
  refine ch_Gst (st2 := [.int (iI cn), .ref r]) (by rw [show min cn (min 100 100) = cn by omega]) ?_
  refine gy_put (ci := 7) (f := 1) (C := RX7) (T := TX7) (N := 2) (ty := .int) (fs2 := [.ref e, .int (iI cn)]) tyX7 rfl inX7 tyX7_ok nmX7 (by decide) mw_1_84 (Or.inl rfl) (by decide +kernel) rfl rfl dX7_copyFrom_12 hr (by simp) rfl (fun h1 eh1 => ?_)
  have k2 : h1 e = some (aI cI 100 f) := by rw [eh1, ch_set_ne (ch_ne he hr (by intro q; cases q))]; exact he
  have k3 : h1 g = some (aI cI 100 fg) := by rw [eh1, ch_set_ne (ch_ne hg hr (by intro q; cases q))]; exact hg
  have k4 : h1 r = some (.inr (7, [.ref e, .int (iI cn)])) := by rw [eh1]; exact ch_set_self
  refine gx_iconst (iI 0) dX7_copyFrom_15 rfl ?_
  refine gx_istore_n [(3, .int (iI 0)), (0, .ref r), (1, .ref g), (2, .int (iI cn))] dX7_copyFrom_16 rfl (by decide) rfl ?_
  refine ch_Glv (lv' := [(0, .ref r), (1, .ref g), (3, .int (iI 0))]) [1, 2, 0] rfl ?_
  exact loop 120 0 _ f (by omega) (by omega) (by omega) k4 k2 k3 (by rw [eh1]; exact (ch_set_same (by rw [← eh1]; exact k2)).symm) (fun j hj => by omega)
end
