section
/-- the words of a level joined with those of the next, the first z of them -/
def opW (how : Int) (a b : Int64) : Int64 := if how = 0 then a ||| b else if how = 1 then a &&& b else a &&& (b ^^^ lI (-1))
def opF (g : Nat → Int64) (how : Int) (L z : Nat) : Nat → Int64 := fun j => if 16 * L ≤ j ∧ j < 16 * L + z then opW how (g j) (g (j + 16)) else g j
theorem opF_s (g : Nat → Int64) (how : Int) (L : Nat) {z : Nat} (hz : z < 16) : vp_updL (opF g how L z) (16 * L + z) (opW how (g (16 * L + z)) (g (16 * L + 16 + z))) = opF g how L (z + 1) := by
  funext j
  unfold vp_updL opF
  by_cases q : j = 16 * L + z
  · rw [if_pos q, if_pos (by omega), q, show 16 * L + z + 16 = 16 * L + 16 + z by omega]
  · rw [if_neg q]
    by_cases q2 : 16 * L ≤ j ∧ j < 16 * L + z
    · rw [if_pos q2, if_pos (by omega)]
    · rw [if_neg q2, if_neg (by omega)]
theorem opF_0 (g : Nat → Int64) (how : Int) (L : Nat) : opF g how L 0 = g := by
  funext j
  unfold opF
  rw [if_neg (by omega)]
theorem opW_b (how : Int) (a b : Int64) {i : Nat} (hi : i < 64) : b64 (opW how a b) i = jnB how (b64 a i) (b64 b i) := by
  unfold opW jnB
  by_cases h0 : how = 0
  · rw [if_pos h0, if_pos h0, b64_or]
  · rw [if_neg h0, if_neg h0]
    by_cases h1 : how = 1
    · rw [if_pos h1, if_pos h1, b64_and]
    · rw [if_neg h1, if_neg h1, b64_andn _ _ hi]
/-- the bits of a level up to z -/
def biP (g g0 : Nat → Int64) (L : Nat) (z : Int) (f : Int → Bool) : Prop := (∀ j, j < 16 * L → g j = g0 j) ∧ ∀ w : Nat, w < 1000 → b64 (g (16 * L + w / 64)) (w % 64) = (decide ((w : Int) < z) && f w)
theorem biP_y {g g0 : Nat → Int64} {L : Nat} {z : Int} {f : Int → Bool} (H : biP g g0 L z f) (h0 : 0 ≤ z) (h1 : z < 1000) (hf : f z = true) : biP (vp_updL g (16 * L + z.toNat / 64) (g (16 * L + z.toNat / 64) ||| (lI 1 <<< ((iI ((z.toNat % 64 : Nat) : Int)).toInt64 &&& 63)))) g0 L (z + 1) f := by
  constructor
  · intro j hj
    rw [pk_uLn (by omega)]
    exact H.1 j hj
  · intro w hw
    by_cases q : w / 64 = z.toNat / 64
    · rw [q, pk_uLs, b64_or, b64_bit (Nat.mod_lt _ (by omega)) (Nat.mod_lt _ (by omega)), ← q, H.2 w hw]
      by_cases q2 : w = z.toNat
      · rw [q2, show ((z.toNat : Nat) : Int) = z by omega, hf]
        simp
        omega
      · rw [show decide (w % 64 = z.toNat % 64) = false from decide_eq_false (by omega), Bool.or_false]
        congr 1
        apply decide_eq_decide.mpr
        omega
    · rw [pk_uLn (by omega), H.2 w hw]
      congr 1
      apply decide_eq_decide.mpr
      have : w ≠ z.toNat := fun e => q (by rw [e])
      omega
theorem biP_n {g g0 : Nat → Int64} {L : Nat} {z : Int} {f : Int → Bool} (H : biP g g0 L z f) (h0 : 0 ≤ z) (hf : f z = false) : biP g g0 L (z + 1) f := by
  refine ⟨H.1, fun w hw => ?_⟩
  rw [H.2 w hw]
  by_cases q : w = z.toNat
  · rw [q, show ((z.toNat : Nat) : Int) = z by omega, hf, Bool.and_false, Bool.and_false]
  · congr 1
    apply decide_eq_decide.mpr
    omega
theorem hg_s {g : Nat → Int64} {L : Nat} {z : Int} (h : ∀ k : Nat, (k : Int) < z → g (16 * L + k) = lI 0) (h0 : 0 ≤ z) : ∀ k : Nat, (k : Int) < z + 1 → vp_updL g (16 * L + z.toNat) (lI 0) (16 * L + k) = lI 0 := by
  intro k hk
  by_cases q : k = z.toNat
  · rw [q, pk_uLs]
  · rw [pk_uLn (by omega)]; exact h k (by omega)
set_option maxHeartbeats 4000000 in
set_option maxRecDepth 100000 in
theorem c_X12_rise (l : Launch) (D : va_G) (cI cL cR : ClassId) (lo : Nat) (hi : Nat) (Kf Nf Wf fz : Nat → Int) (n : Nat) (c : Int) (fh ff fl : Nat → Int) (hc sc : Int) (hn : n ≤ 60) (HW : ∀ s, 1 ≤ s → s ≤ n → wfS Kf Nf Wf s) : ∀ (s : Nat), 1 ≤ s → s ≤ n → ∀ (x y t : Int), (-400000 + 5000 * (s : Int) ≤ x ∧ x ≤ 400000 - 5000 * (s : Int)) → (-400000 + 5000 * (s : Int) ≤ y ∧ y ≤ 400000 - 5000 * (s : Int)) → (-400000 + 5000 * (s : Int) ≤ t ∧ t ≤ 400000 - 5000 * (s : Int)) → ∀ (L : Nat) (h : ch_H) (FB : Nat → Int64), mmP cI cL lo h Kf Nf Wf fz n c FB fh ff fl hc sc → (L : Int) + Wf s ≤ 101 → ch_C l (eE D cI cL cR lo) M_X12_rise (rM (s + 3) 0 0) [.ref (lo + 17), .int (iI (s : Int)), .long (lI x), .long (lI y), .int (iI t), .int (iI (L : Int))] h hi (fun r0 h2 hi2 => r0 = none ∧ (∃ FB2, mmP cI cL lo h2 Kf Nf Wf fz n c FB2 fh ff fl hc sc ∧ biP FB2 FB L 1000 (fun z => inB Kf Nf s x y (z - t))) ∧ mfr lo h h2 ∧ hi = hi2) := by
  intro s
  induction s using Nat.strongRecOn with
  | ind s ih =>
    intro h1s h2s x y t hx hy ht L h FB MM hL
    refine ch_C.of rfl (Nat.le_of_ble_eq_true rfl) ?_
    have MM0 := MM
    obtain ⟨M0, M1, M2, M3, M4, M5, M6, M7, M8⟩ := MM
    have hwf := HW s h1s h2s
    have hWs := hwf.1
    have hkf := kf_in hwf
    refine gx_iload 5 dX12_rise_0 rfl ?_
    refine gx_bipush (iI 16) dX12_rise_2 (by decide) ?_
    refine gy_imul dX12_rise_4 ?_
    refine gx_istore [(8, .int (iI ((L : Int) * 16))), (0, .ref (lo + 17)), (1, .int (iI (s : Int))), (2, .long (lI x)), (4, .long (lI y)), (6, .int (iI t)), (7, .int (iI (L : Int)))] dX12_rise_5 (by decide) rfl ?_
    refine gx_aload_n 1 dX12_rise_7 rfl rfl ?_
    refine gx_get (ci := 11) (f := 0) (C := RX12) (T := TX12) (N := 12) rfl inX12 (by decide) mw_3_1 dX12_rise_8 M0 rfl ?_
    refine gx_iload_n 2 dX12_rise_11 rfl rfl ?_
    refine gy_iald dX12_rise_12 M1 (by omega) (by omega) (by decide) ?_
    refine ch_Gst (st2 := [.int (iI (Kf s))]) (by rw [Int.toNat_natCast]; try rfl) ?_
    by_cases w13_4 : Kf s = 4
    · refine gy_tin 4 w13_4 40 dX12_rise_13 (by decide) (by decide) (by decide) rfl (by decide) ?_
      obtain ⟨k4, a1, a2, b1, b2, c1, c2, hw4⟩ := wfS_4 hwf w13_4
      have wA := (HW (Nf (6 * s)).toNat (by omega) (by omega)).1
      have wB := (HW (Nf (6 * s + 1)).toNat (by omega) (by omega)).1
      refine gx_aload_n 1 dX12_rise_40 rfl rfl ?_
      refine gx_aload_n 1 dX12_rise_41 rfl rfl ?_
      refine gx_iload_n 2 dX12_rise_42 rfl rfl ?_
      refine gx_iconst (iI 0) dX12_rise_43 rfl ?_
      refine gx_callV (ci := 11) (c_X12_number l D cI cL cR lo h hi Kf Nf Wf fz n c FB fh ff fl hc sc MM0 s 0 (by omega) (by omega)) ok_X12_number mw_3_80 mw_3_82 mw_p_14 dX12_rise_44 rfl M0 rfl rfl (Nat.le_of_ble_eq_true rfl) (by first | exact Nat.le_of_ble_eq_true rfl | (simp only [rM]; omega)) (by first | exact Nat.le_of_ble_eq_true rfl | (simp only [rM]; omega)) (by first | exact Nat.le_of_ble_eq_true rfl | (simp only [rM]; omega)) (by first | exact Nat.le_of_ble_eq_true rfl | (simp only [rM]; omega)) (fun r1 h2 u3 q4 g5 => ?_)
      obtain ⟨rfl, rfl, rfl⟩ := q4
      refine ch_Gst (st2 := [.int (iI (Nf (6 * s))), .ref (lo + 17)]) rfl ?_
      refine gx_lload_n 3 dX12_rise_47 rfl rfl ?_
      refine gx_lload 4 dX12_rise_48 rfl ?_
      refine gx_iload 5 dX12_rise_50 rfl ?_
      refine gx_iload 6 dX12_rise_52 rfl ?_
      refine ch_Gst (st2 := [.int (iI (L : Int)), .int (iI t), .long (lI y), .long (lI x), .int (iI ((Nf (6 * s)).toNat : Int)), .ref (lo + 17)]) (by rw [Int.toNat_of_nonneg (show 0 ≤ Nf (6 * s) by omega)]; try rfl) ?_
      refine gx_callV (ci := 11) (ih (Nf (6 * s)).toNat (by omega) (by omega) (by omega) x y t (by omega) (by omega) (by omega) L h FB MM0 (by omega)) ok_X12_rise mw_3_99 mw_3_101 mw_p_17 dX12_rise_54 rfl M0 rfl rfl (Nat.le_of_ble_eq_true rfl) (by first | exact Nat.le_of_ble_eq_true rfl | (simp only [rM]; omega)) (by first | exact Nat.le_of_ble_eq_true rfl | (simp only [rM]; omega)) (by first | exact Nat.le_of_ble_eq_true rfl | (simp only [rM]; omega)) (by first | exact Nat.le_of_ble_eq_true rfl | (simp only [rM]; omega)) (fun r6 h7 u8 q9 g10 => ?_)
      obtain ⟨rfl, ⟨FE11, WE11, BE11⟩, mE11, rfl⟩ := q9
      have WE11b := WE11
      obtain ⟨E11c0, E11c1, E11c2, E11c3, E11c4, E11c5, E11c6, E11c7, E11c8⟩ := WE11b
      refine ch_Gst (st2 := []) rfl ?_
      refine gx_aload_n 1 dX12_rise_57 rfl rfl ?_
      refine gx_aload_n 1 dX12_rise_58 rfl rfl ?_
      refine gx_iload_n 2 dX12_rise_59 rfl rfl ?_
      refine gx_iconst (iI 1) dX12_rise_60 rfl ?_
      refine gx_callV (ci := 11) (c_X12_number l D cI cL cR lo h7 hi Kf Nf Wf fz n c FE11 fh ff fl hc sc WE11 s 1 (by omega) (by omega)) ok_X12_number mw_3_80 mw_3_82 mw_p_14 dX12_rise_61 rfl E11c0 rfl rfl (Nat.le_of_ble_eq_true rfl) (by first | exact Nat.le_of_ble_eq_true rfl | (simp only [rM]; omega)) (by first | exact Nat.le_of_ble_eq_true rfl | (simp only [rM]; omega)) (by first | exact Nat.le_of_ble_eq_true rfl | (simp only [rM]; omega)) (by first | exact Nat.le_of_ble_eq_true rfl | (simp only [rM]; omega)) (fun r12 h13 u14 q15 g16 => ?_)
      obtain ⟨rfl, rfl, rfl⟩ := q15
      refine ch_Gst (st2 := [.int (iI (Nf (6 * s + 1))), .ref (lo + 17)]) rfl ?_
      refine gx_lload_n 3 dX12_rise_64 rfl rfl ?_
      refine gx_lload 4 dX12_rise_65 rfl ?_
      refine gx_iload 5 dX12_rise_67 rfl ?_
      refine gx_iload 6 dX12_rise_69 rfl ?_
      refine gx_iconst (iI 1) dX12_rise_71 rfl ?_
      refine gy_iadd dX12_rise_72 ?_
      refine ch_Gst (st2 := [.int (iI ((L + 1 : Nat) : Int)), .int (iI t), .long (lI y), .long (lI x), .int (iI ((Nf (6 * s + 1)).toNat : Int)), .ref (lo + 17)]) (by rw [Int.toNat_of_nonneg (show 0 ≤ Nf (6 * s + 1) by omega)]; try rfl) ?_
      refine gx_callV (ci := 11) (ih (Nf (6 * s + 1)).toNat (by omega) (by omega) (by omega) x y t (by omega) (by omega) (by omega) (L + 1) h7 FE11 WE11 (by omega)) ok_X12_rise mw_3_99 mw_3_101 mw_p_17 dX12_rise_73 rfl E11c0 rfl rfl (Nat.le_of_ble_eq_true rfl) (by first | exact Nat.le_of_ble_eq_true rfl | (simp only [rM]; omega)) (by first | exact Nat.le_of_ble_eq_true rfl | (simp only [rM]; omega)) (by first | exact Nat.le_of_ble_eq_true rfl | (simp only [rM]; omega)) (by first | exact Nat.le_of_ble_eq_true rfl | (simp only [rM]; omega)) (fun r17 h18 u19 q20 g21 => ?_)
      obtain ⟨rfl, ⟨FE22, WE22, BE22⟩, mE22, rfl⟩ := q20
      have WE22b := WE22
      obtain ⟨E22c0, E22c1, E22c2, E22c3, E22c4, E22c5, E22c6, E22c7, E22c8⟩ := WE22b
      refine ch_Gst (st2 := []) rfl ?_
      refine gx_iconst (iI 0) dX12_rise_76 rfl ?_
      refine gx_istore [(9, .int (iI 0)), (8, .int (iI ((L : Int) * 16))), (0, .ref (lo + 17)), (1, .int (iI (s : Int))), (2, .long (lI x)), (4, .long (lI y)), (6, .int (iI t)), (7, .int (iI (L : Int)))] dX12_rise_77 (by decide) rfl ?_
      refine ch_Glv (lv' := [(0, .ref (lo + 17)), (1, .int (iI (s : Int))), (8, .int (iI ((L : Int) * 16))), (9, .int (iI 0))]) [2, 3, 1, 0] rfl ?_
      have loop : ∀ (m : Nat) (z : Int) (hh : ch_H), (0 ≤ z) → (z ≤ 16) → (17 ≤ z + m) → (hh (lo + 17) = some (.inr (11, [.ref (lo + 18), .ref (lo + 19), .ref (lo + 20), .int (iI (n : Int)), .ref (lo + 21), .int (iI c), .ref (lo + 22), .ref (lo + 23), .int (iI hc), .ref (lo + 24), .ref (lo + 25), .int (iI sc)]))) → (hh (lo + 18) = some (aI cI 61 Kf)) → (hh (lo + 19) = some (aI cI 366 Nf)) → (hh (lo + 20) = some (aI cI 61 Wf)) → (hh (lo + 21) = some (aI cI 6 fz)) → (hh (lo + 22) = some (.inl (cL, 1632, .inr (.inl (opF FE22 (Nf (6 * s + 2)) L z.toNat))))) → (hh (lo + 23) = some (aL cL 200 fh)) → (hh (lo + 24) = some (aL cL 101 ff)) → (hh (lo + 25) = some (aL cL 101 fl)) → (mfr lo h hh) → ch_G l (eE D cI cL cR lo) M_X12_rise ch_T (rM (s + 3) 0 0) (ch_Z (eE D cI cL cR lo) 0 0 (fun r0 h2 hi2 => r0 = none ∧ (∃ FB2, mmP cI cL lo h2 Kf Nf Wf fz n c FB2 fh ff fl hc sc ∧ biP FB2 FB L 1000 (fun z => inB Kf Nf s x y (z - t))) ∧ mfr lo h h2 ∧ hi = hi2)) 0 0 hh hi 79 [(0, .ref (lo + 17)), (1, .int (iI (s : Int))), (8, .int (iI ((L : Int) * 16))), (9, .int (iI z))] [] := by
        intro m
        induction m with
        | zero => intro z hh z0 z1 zm V0 V1 V2 V3 V4 V5 V6 V7 V8 mf; exfalso; omega
        | succ m ih2 =>
          intro z hh z0 z1 zm V0 V1 V2 V3 V4 V5 V6 V7 V8 mf
          refine gx_iload 3 dX12_rise_79 rfl ?_
          refine gx_bipush (iI 16) dX12_rise_81 (by decide) ?_
          refine gy_icmp_ge 173 dX12_rise_83 (by decide) (by constructor <;> omega) (by decide) (fun c83 => ?_) (fun c83 => ?_)
          · refine gx_goto 324 dX12_rise_173 (by decide) ?_
            refine gx_vret rfl dX12_rise_324 (by first | exact Nat.le_of_ble_eq_true rfl | (simp only [rM]; omega)) (by first | exact Nat.le_of_ble_eq_true rfl | (simp only [rM]; omega)) ?_
            rw [show z.toNat = 16 by omega] at V5
            refine ⟨rfl, ⟨_, ⟨V0, V1, V2, V3, V4, V5, V6, V7, V8⟩, ?_, ?_⟩, mf, rfl⟩
            · intro j hj; unfold opF; rw [if_neg (by omega), BE22.1 j (by omega)]; exact BE11.1 j hj
            · intro w hw
              have g1 : opF FE22 (Nf (6 * s + 2)) L 16 (16 * L + w / 64) = opW (Nf (6 * s + 2)) (FE22 (16 * L + w / 64)) (FE22 (16 * (L + 1) + w / 64)) := by unfold opF; rw [if_pos (by omega), show 16 * L + w / 64 + 16 = 16 * (L + 1) + w / 64 by omega]
              rw [g1, opW_b _ _ _ (Nat.mod_lt _ (by omega)), BE22.1 _ (by omega), BE11.2 w hw, BE22.2 w hw]
              dsimp only
              rw [inB_4 (Kf := Kf) (Nf := Nf) (s := s) w13_4 (by omega) (by omega), show decide ((w : Int) < 1000) = true from decide_eq_true (by omega)]
              simp only [Bool.true_and]
          · refine gx_aload_n 0 dX12_rise_86 rfl rfl ?_
            refine gx_get (ci := 11) (f := 6) (C := RX12) (T := TX12) (N := 12) rfl inX12 (by decide) mw_3_7 dX12_rise_87 V0 rfl ?_
            refine gx_iload 2 dX12_rise_90 rfl ?_
            refine gx_iload 3 dX12_rise_92 rfl ?_
            refine gy_iadd dX12_rise_94 ?_
            refine gz_lald dX12_rise_95 V5 (by omega) (by omega) (by decide) ?_
            refine ch_Gst (st2 := [.long (FE22 (16 * L + z.toNat))]) (by rw [show ((L : Int) * 16 + z).toNat = 16 * L + z.toNat by omega, show opF FE22 (Nf (6 * s + 2)) L z.toNat (16 * L + z.toNat) = FE22 (16 * L + z.toNat) by unfold opF; rw [if_neg (by omega)]]) ?_
            refine gx_lstore [(10, .long (FE22 (16 * L + z.toNat))), (0, .ref (lo + 17)), (1, .int (iI (s : Int))), (8, .int (iI ((L : Int) * 16))), (9, .int (iI z))] dX12_rise_96 (by decide) rfl ?_
            refine gx_aload_n 1 dX12_rise_98 rfl rfl ?_
            refine gx_get (ci := 11) (f := 6) (C := RX12) (T := TX12) (N := 12) rfl inX12 (by decide) mw_3_7 dX12_rise_99 V0 rfl ?_
            refine gx_iload 3 dX12_rise_102 rfl ?_
            refine gx_bipush (iI 16) dX12_rise_104 (by decide) ?_
            refine gy_iadd dX12_rise_106 ?_
            refine gx_iload 4 dX12_rise_107 rfl ?_
            refine gy_iadd dX12_rise_109 ?_
            refine gz_lald dX12_rise_110 V5 (by omega) (by omega) (by decide) ?_
            refine ch_Gst (st2 := [.long (FE22 (16 * L + 16 + z.toNat))]) (by rw [show ((L : Int) * 16 + 16 + z).toNat = 16 * L + 16 + z.toNat by omega, show opF FE22 (Nf (6 * s + 2)) L z.toNat (16 * L + 16 + z.toNat) = FE22 (16 * L + 16 + z.toNat) by unfold opF; rw [if_neg (by omega)]]) ?_
            refine gx_lstore [(12, .long (FE22 (16 * L + 16 + z.toNat))), (10, .long (FE22 (16 * L + z.toNat))), (0, .ref (lo + 17)), (1, .int (iI (s : Int))), (8, .int (iI ((L : Int) * 16))), (9, .int (iI z))] dX12_rise_111 (by decide) rfl ?_
            refine gx_aload_n 2 dX12_rise_113 rfl rfl ?_
            refine gx_get (ci := 11) (f := 6) (C := RX12) (T := TX12) (N := 12) rfl inX12 (by decide) mw_3_7 dX12_rise_114 V0 rfl ?_
            refine gx_iload 4 dX12_rise_117 rfl ?_
            refine gx_iload 5 dX12_rise_119 rfl ?_
            refine gy_iadd dX12_rise_121 ?_
            refine gx_aload_n 2 dX12_rise_122 rfl rfl ?_
            refine gx_iload_n 3 dX12_rise_123 rfl rfl ?_
            refine gx_iconst (iI 2) dX12_rise_124 rfl ?_
            refine gx_callV (ci := 11) (c_X12_number l D cI cL cR lo hh hi Kf Nf Wf fz n c (opF FE22 (Nf (6 * s + 2)) L z.toNat) fh ff fl hc sc ⟨V0, V1, V2, V3, V4, V5, V6, V7, V8⟩ s 2 (by omega) (by omega)) ok_X12_number mw_3_80 mw_3_82 mw_p_14 dX12_rise_125 rfl V0 rfl rfl (Nat.le_of_ble_eq_true rfl) (by first | exact Nat.le_of_ble_eq_true rfl | (simp only [rM]; omega)) (by first | exact Nat.le_of_ble_eq_true rfl | (simp only [rM]; omega)) (by first | exact Nat.le_of_ble_eq_true rfl | (simp only [rM]; omega)) (by first | exact Nat.le_of_ble_eq_true rfl | (simp only [rM]; omega)) (fun r1 h2 u3 q4 g5 => ?_)
            obtain ⟨rfl, rfl, rfl⟩ := q4
            refine ch_Gst (st2 := [.int (iI (Nf (6 * s + 2))), .int (iI (((L : Int) * 16) + z)), .ref (lo + 22)]) rfl ?_
            refine gy_if_ne 139 dX12_rise_128 (by decide) (by constructor <;> omega) (fun c128 => ?_) (fun c128 => ?_)
            · refine gx_aload_n 2 dX12_rise_139 rfl rfl ?_
              refine gx_iload_n 3 dX12_rise_140 rfl rfl ?_
              refine gx_iconst (iI 2) dX12_rise_141 rfl ?_
              refine gx_callV (ci := 11) (c_X12_number l D cI cL cR lo hh hi Kf Nf Wf fz n c (opF FE22 (Nf (6 * s + 2)) L z.toNat) fh ff fl hc sc ⟨V0, V1, V2, V3, V4, V5, V6, V7, V8⟩ s 2 (by omega) (by omega)) ok_X12_number mw_3_80 mw_3_82 mw_p_14 dX12_rise_142 rfl V0 rfl rfl (Nat.le_of_ble_eq_true rfl) (by first | exact Nat.le_of_ble_eq_true rfl | (simp only [rM]; omega)) (by first | exact Nat.le_of_ble_eq_true rfl | (simp only [rM]; omega)) (by first | exact Nat.le_of_ble_eq_true rfl | (simp only [rM]; omega)) (by first | exact Nat.le_of_ble_eq_true rfl | (simp only [rM]; omega)) (fun r6 h7 u8 q9 g10 => ?_)
              obtain ⟨rfl, rfl, rfl⟩ := q9
              refine ch_Gst (st2 := [.int (iI (Nf (6 * s + 2))), .int (iI (((L : Int) * 16) + z)), .ref (lo + 22)]) rfl ?_
              refine gx_iconst (iI 1) dX12_rise_145 rfl ?_
              refine gy_icmp_ne 157 dX12_rise_146 (by decide) (by constructor <;> omega) (by decide) (fun c146 => ?_) (fun c146 => ?_)
              · refine gx_lload 1 dX12_rise_157 rfl ?_
                refine gx_lload 0 dX12_rise_159 rfl ?_
                refine gx_ldc2 (lI (-1)) (by rw [show lI (-1) = ((-1) : Int64) by decide]; exact mw_3_103) dX12_rise_161 ?_
                refine gz_lxor dX12_rise_164 ?_
                refine gz_land dX12_rise_165 ?_
                refine gz_last dX12_rise_166 V5 (by omega) (by omega) (by decide) (fun h11 eh11 => ?_)
                have k12 : h11 (lo + 17) = some (.inr (11, [.ref (lo + 18), .ref (lo + 19), .ref (lo + 20), .int (iI (n : Int)), .ref (lo + 21), .int (iI c), .ref (lo + 22), .ref (lo + 23), .int (iI hc), .ref (lo + 24), .ref (lo + 25), .int (iI sc)])) := by rw [eh11, ch_set_ne (by first | assumption | exact Ne.symm (by assumption) | omega)]; exact V0
                have k13 : h11 (lo + 18) = some (aI cI 61 Kf) := by rw [eh11, ch_set_ne (by first | assumption | exact Ne.symm (by assumption) | omega)]; exact V1
                have k14 : h11 (lo + 19) = some (aI cI 366 Nf) := by rw [eh11, ch_set_ne (by first | assumption | exact Ne.symm (by assumption) | omega)]; exact V2
                have k15 : h11 (lo + 20) = some (aI cI 61 Wf) := by rw [eh11, ch_set_ne (by first | assumption | exact Ne.symm (by assumption) | omega)]; exact V3
                have k16 : h11 (lo + 21) = some (aI cI 6 fz) := by rw [eh11, ch_set_ne (by first | assumption | exact Ne.symm (by assumption) | omega)]; exact V4
                have k17 : h11 (lo + 23) = some (aL cL 200 fh) := by rw [eh11, ch_set_ne (by first | assumption | exact Ne.symm (by assumption) | omega)]; exact V6
                have k18 : h11 (lo + 24) = some (aL cL 101 ff) := by rw [eh11, ch_set_ne (by first | assumption | exact Ne.symm (by assumption) | omega)]; exact V7
                have k19 : h11 (lo + 25) = some (aL cL 101 fl) := by rw [eh11, ch_set_ne (by first | assumption | exact Ne.symm (by assumption) | omega)]; exact V8
                have k20 : h11 (lo + 22) = some (.inl (cL, 1632, .inr (.inl (vp_updL (opF FE22 (Nf (6 * s + 2)) L z.toNat) (((L : Int) * 16) + z).toNat ((FE22 (16 * L + z.toNat)) &&& ((FE22 (16 * L + 16 + z.toNat)) ^^^ (lI (-1)))))))) := by rw [eh11]; exact ch_set_self
                refine gy_iinc 5 [(9, .int (iI (z + 1))), (12, .long (FE22 (16 * L + 16 + z.toNat))), (10, .long (FE22 (16 * L + z.toNat))), (0, .ref (lo + 17)), (1, .int (iI (s : Int))), (8, .int (iI ((L : Int) * 16)))] dX12_rise_167 rfl (by decide) rfl ?_
                refine gx_goto 79 dX12_rise_170 (by decide) ?_
                refine ch_Glv (lv' := [(0, .ref (lo + 17)), (1, .int (iI (s : Int))), (8, .int (iI ((L : Int) * 16))), (9, .int (iI (z + 1)))]) [3, 4, 5, 0] rfl ?_
                have t5 := k20
                rw [show ((L : Int) * 16 + z).toNat = 16 * L + z.toNat by omega] at t5
                have eop : opW (Nf (6 * s + 2)) (FE22 (16 * L + z.toNat)) (FE22 (16 * L + 16 + z.toNat)) = FE22 (16 * L + z.toNat) &&& (FE22 (16 * L + 16 + z.toNat) ^^^ lI (-1)) := by unfold opW; rw [if_neg (by omega), if_neg (by omega)]
                rw [← eop, opF_s _ _ _ (by omega), show z.toNat + 1 = (z + 1).toNat by omega] at t5
                exact ih2 _ _ (by omega) (by omega) (by omega) k12 k13 k14 k15 k16 t5 k17 k18 k19 (fun b hb => by rw [eh11, ch_set_ne (by omega)]; exact mf b hb)
              · refine gx_lload 1 dX12_rise_149 rfl ?_
                refine gx_lload 0 dX12_rise_151 rfl ?_
                refine gz_land dX12_rise_153 ?_
                refine gx_goto 166 dX12_rise_154 (by decide) ?_
                refine gz_last dX12_rise_166 V5 (by omega) (by omega) (by decide) (fun h21 eh21 => ?_)
                have k22 : h21 (lo + 17) = some (.inr (11, [.ref (lo + 18), .ref (lo + 19), .ref (lo + 20), .int (iI (n : Int)), .ref (lo + 21), .int (iI c), .ref (lo + 22), .ref (lo + 23), .int (iI hc), .ref (lo + 24), .ref (lo + 25), .int (iI sc)])) := by rw [eh21, ch_set_ne (by first | assumption | exact Ne.symm (by assumption) | omega)]; exact V0
                have k23 : h21 (lo + 18) = some (aI cI 61 Kf) := by rw [eh21, ch_set_ne (by first | assumption | exact Ne.symm (by assumption) | omega)]; exact V1
                have k24 : h21 (lo + 19) = some (aI cI 366 Nf) := by rw [eh21, ch_set_ne (by first | assumption | exact Ne.symm (by assumption) | omega)]; exact V2
                have k25 : h21 (lo + 20) = some (aI cI 61 Wf) := by rw [eh21, ch_set_ne (by first | assumption | exact Ne.symm (by assumption) | omega)]; exact V3
                have k26 : h21 (lo + 21) = some (aI cI 6 fz) := by rw [eh21, ch_set_ne (by first | assumption | exact Ne.symm (by assumption) | omega)]; exact V4
                have k27 : h21 (lo + 23) = some (aL cL 200 fh) := by rw [eh21, ch_set_ne (by first | assumption | exact Ne.symm (by assumption) | omega)]; exact V6
                have k28 : h21 (lo + 24) = some (aL cL 101 ff) := by rw [eh21, ch_set_ne (by first | assumption | exact Ne.symm (by assumption) | omega)]; exact V7
                have k29 : h21 (lo + 25) = some (aL cL 101 fl) := by rw [eh21, ch_set_ne (by first | assumption | exact Ne.symm (by assumption) | omega)]; exact V8
                have k30 : h21 (lo + 22) = some (.inl (cL, 1632, .inr (.inl (vp_updL (opF FE22 (Nf (6 * s + 2)) L z.toNat) (((L : Int) * 16) + z).toNat ((FE22 (16 * L + z.toNat)) &&& (FE22 (16 * L + 16 + z.toNat))))))) := by rw [eh21]; exact ch_set_self
                refine gy_iinc 5 [(9, .int (iI (z + 1))), (12, .long (FE22 (16 * L + 16 + z.toNat))), (10, .long (FE22 (16 * L + z.toNat))), (0, .ref (lo + 17)), (1, .int (iI (s : Int))), (8, .int (iI ((L : Int) * 16)))] dX12_rise_167 rfl (by decide) rfl ?_
                refine gx_goto 79 dX12_rise_170 (by decide) ?_
                refine ch_Glv (lv' := [(0, .ref (lo + 17)), (1, .int (iI (s : Int))), (8, .int (iI ((L : Int) * 16))), (9, .int (iI (z + 1)))]) [3, 4, 5, 0] rfl ?_
                have t5 := k30
                rw [show ((L : Int) * 16 + z).toNat = 16 * L + z.toNat by omega] at t5
                have eop : opW (Nf (6 * s + 2)) (FE22 (16 * L + z.toNat)) (FE22 (16 * L + 16 + z.toNat)) = FE22 (16 * L + z.toNat) &&& FE22 (16 * L + 16 + z.toNat) := by unfold opW; rw [if_neg (by omega), if_pos (by omega)]
                rw [← eop, opF_s _ _ _ (by omega), show z.toNat + 1 = (z + 1).toNat by omega] at t5
                exact ih2 _ _ (by omega) (by omega) (by omega) k22 k23 k24 k25 k26 t5 k27 k28 k29 (fun b hb => by rw [eh21, ch_set_ne (by omega)]; exact mf b hb)
            · refine gx_lload 1 dX12_rise_131 rfl ?_
              refine gx_lload 0 dX12_rise_133 rfl ?_
              refine gz_lor dX12_rise_135 ?_
              refine gx_goto 166 dX12_rise_136 (by decide) ?_
              refine gz_last dX12_rise_166 V5 (by omega) (by omega) (by decide) (fun h31 eh31 => ?_)
              have k32 : h31 (lo + 17) = some (.inr (11, [.ref (lo + 18), .ref (lo + 19), .ref (lo + 20), .int (iI (n : Int)), .ref (lo + 21), .int (iI c), .ref (lo + 22), .ref (lo + 23), .int (iI hc), .ref (lo + 24), .ref (lo + 25), .int (iI sc)])) := by rw [eh31, ch_set_ne (by first | assumption | exact Ne.symm (by assumption) | omega)]; exact V0
              have k33 : h31 (lo + 18) = some (aI cI 61 Kf) := by rw [eh31, ch_set_ne (by first | assumption | exact Ne.symm (by assumption) | omega)]; exact V1
              have k34 : h31 (lo + 19) = some (aI cI 366 Nf) := by rw [eh31, ch_set_ne (by first | assumption | exact Ne.symm (by assumption) | omega)]; exact V2
              have k35 : h31 (lo + 20) = some (aI cI 61 Wf) := by rw [eh31, ch_set_ne (by first | assumption | exact Ne.symm (by assumption) | omega)]; exact V3
              have k36 : h31 (lo + 21) = some (aI cI 6 fz) := by rw [eh31, ch_set_ne (by first | assumption | exact Ne.symm (by assumption) | omega)]; exact V4
              have k37 : h31 (lo + 23) = some (aL cL 200 fh) := by rw [eh31, ch_set_ne (by first | assumption | exact Ne.symm (by assumption) | omega)]; exact V6
              have k38 : h31 (lo + 24) = some (aL cL 101 ff) := by rw [eh31, ch_set_ne (by first | assumption | exact Ne.symm (by assumption) | omega)]; exact V7
              have k39 : h31 (lo + 25) = some (aL cL 101 fl) := by rw [eh31, ch_set_ne (by first | assumption | exact Ne.symm (by assumption) | omega)]; exact V8
              have k40 : h31 (lo + 22) = some (.inl (cL, 1632, .inr (.inl (vp_updL (opF FE22 (Nf (6 * s + 2)) L z.toNat) (((L : Int) * 16) + z).toNat ((FE22 (16 * L + z.toNat)) ||| (FE22 (16 * L + 16 + z.toNat))))))) := by rw [eh31]; exact ch_set_self
              refine gy_iinc 5 [(9, .int (iI (z + 1))), (12, .long (FE22 (16 * L + 16 + z.toNat))), (10, .long (FE22 (16 * L + z.toNat))), (0, .ref (lo + 17)), (1, .int (iI (s : Int))), (8, .int (iI ((L : Int) * 16)))] dX12_rise_167 rfl (by decide) rfl ?_
              refine gx_goto 79 dX12_rise_170 (by decide) ?_
              refine ch_Glv (lv' := [(0, .ref (lo + 17)), (1, .int (iI (s : Int))), (8, .int (iI ((L : Int) * 16))), (9, .int (iI (z + 1)))]) [3, 4, 5, 0] rfl ?_
              have t5 := k40
              rw [show ((L : Int) * 16 + z).toNat = 16 * L + z.toNat by omega] at t5
              have eop : opW (Nf (6 * s + 2)) (FE22 (16 * L + z.toNat)) (FE22 (16 * L + 16 + z.toNat)) = FE22 (16 * L + z.toNat) ||| FE22 (16 * L + 16 + z.toNat) := by unfold opW; rw [if_pos (by omega)]
              rw [← eop, opF_s _ _ _ (by omega), show z.toNat + 1 = (z + 1).toNat by omega] at t5
              exact ih2 _ _ (by omega) (by omega) (by omega) k32 k33 k34 k35 k36 t5 k37 k38 k39 (fun b hb => by rw [eh31, ch_set_ne (by omega)]; exact mf b hb)
      exact loop 17 0 _ (by omega) (by omega) (by omega) E22c0 E22c1 E22c2 E22c3 E22c4 (by rw [show (0 : Int).toNat = 0 from rfl, opF_0]; exact E22c5) E22c6 E22c7 E22c8 (fun b hb => by rw [mE22 b hb, mE11 b hb])
    · skip
      by_cases w13_5 : Kf s = 5
      · refine gy_tin 5 w13_5 176 dX12_rise_13 (by decide) (by decide) (by decide) rfl (by decide) ?_
        obtain ⟨a1, a2, m0, m1, m2, hw4⟩ := wfS_5 hwf w13_5
        refine gx_aload_n 1 dX12_rise_176 rfl rfl ?_
        refine gx_aload_n 1 dX12_rise_177 rfl rfl ?_
        refine gx_iload_n 2 dX12_rise_178 rfl rfl ?_
        refine gx_iconst (iI 3) dX12_rise_179 rfl ?_
        refine gx_callV (ci := 11) (c_X12_number l D cI cL cR lo h hi Kf Nf Wf fz n c FB fh ff fl hc sc MM0 s 3 (by omega) (by omega)) ok_X12_number mw_3_80 mw_3_82 mw_p_14 dX12_rise_180 rfl M0 rfl rfl (Nat.le_of_ble_eq_true rfl) (by first | exact Nat.le_of_ble_eq_true rfl | (simp only [rM]; omega)) (by first | exact Nat.le_of_ble_eq_true rfl | (simp only [rM]; omega)) (by first | exact Nat.le_of_ble_eq_true rfl | (simp only [rM]; omega)) (by first | exact Nat.le_of_ble_eq_true rfl | (simp only [rM]; omega)) (fun r23 h24 u25 q26 g27 => ?_)
        obtain ⟨rfl, rfl, rfl⟩ := q26
        refine ch_Gst (st2 := [.int (iI (Nf (6 * s + 3))), .ref (lo + 17)]) rfl ?_
        refine gx_lload_n 3 dX12_rise_183 rfl rfl ?_
        refine gx_aload_n 1 dX12_rise_184 rfl rfl ?_
        refine gx_iload_n 2 dX12_rise_185 rfl rfl ?_
        refine gx_iconst (iI 0) dX12_rise_186 rfl ?_
        refine gx_callV (ci := 11) (c_X12_number l D cI cL cR lo h hi Kf Nf Wf fz n c FB fh ff fl hc sc MM0 s 0 (by omega) (by omega)) ok_X12_number mw_3_80 mw_3_82 mw_p_14 dX12_rise_187 rfl M0 rfl rfl (Nat.le_of_ble_eq_true rfl) (by first | exact Nat.le_of_ble_eq_true rfl | (simp only [rM]; omega)) (by first | exact Nat.le_of_ble_eq_true rfl | (simp only [rM]; omega)) (by first | exact Nat.le_of_ble_eq_true rfl | (simp only [rM]; omega)) (by first | exact Nat.le_of_ble_eq_true rfl | (simp only [rM]; omega)) (fun r28 h29 u30 q31 g32 => ?_)
        obtain ⟨rfl, rfl, rfl⟩ := q31
        refine ch_Gst (st2 := [.int (iI (Nf (6 * s))), .long (lI x), .int (iI (Nf (6 * s + 3))), .ref (lo + 17)]) rfl ?_
        refine gy_i2l dX12_rise_190 (by constructor <;> omega) ?_
        refine gy_lsub dX12_rise_191 ?_
        refine gx_lload 4 dX12_rise_192 rfl ?_
        refine gx_aload_n 1 dX12_rise_194 rfl rfl ?_
        refine gx_iload_n 2 dX12_rise_195 rfl rfl ?_
        refine gx_iconst (iI 1) dX12_rise_196 rfl ?_
        refine gx_callV (ci := 11) (c_X12_number l D cI cL cR lo h hi Kf Nf Wf fz n c FB fh ff fl hc sc MM0 s 1 (by omega) (by omega)) ok_X12_number mw_3_80 mw_3_82 mw_p_14 dX12_rise_197 rfl M0 rfl rfl (Nat.le_of_ble_eq_true rfl) (by first | exact Nat.le_of_ble_eq_true rfl | (simp only [rM]; omega)) (by first | exact Nat.le_of_ble_eq_true rfl | (simp only [rM]; omega)) (by first | exact Nat.le_of_ble_eq_true rfl | (simp only [rM]; omega)) (by first | exact Nat.le_of_ble_eq_true rfl | (simp only [rM]; omega)) (fun r33 h34 u35 q36 g37 => ?_)
        obtain ⟨rfl, rfl, rfl⟩ := q36
        refine ch_Gst (st2 := [.int (iI (Nf (6 * s + 1))), .long (lI y), .long (lI (x - (Nf (6 * s)))), .int (iI (Nf (6 * s + 3))), .ref (lo + 17)]) rfl ?_
        refine gy_i2l dX12_rise_200 (by constructor <;> omega) ?_
        refine gy_lsub dX12_rise_201 ?_
        refine gx_iload 5 dX12_rise_202 rfl ?_
        refine gx_aload_n 1 dX12_rise_204 rfl rfl ?_
        refine gx_iload_n 2 dX12_rise_205 rfl rfl ?_
        refine gx_iconst (iI 2) dX12_rise_206 rfl ?_
        refine gx_callV (ci := 11) (c_X12_number l D cI cL cR lo h hi Kf Nf Wf fz n c FB fh ff fl hc sc MM0 s 2 (by omega) (by omega)) ok_X12_number mw_3_80 mw_3_82 mw_p_14 dX12_rise_207 rfl M0 rfl rfl (Nat.le_of_ble_eq_true rfl) (by first | exact Nat.le_of_ble_eq_true rfl | (simp only [rM]; omega)) (by first | exact Nat.le_of_ble_eq_true rfl | (simp only [rM]; omega)) (by first | exact Nat.le_of_ble_eq_true rfl | (simp only [rM]; omega)) (by first | exact Nat.le_of_ble_eq_true rfl | (simp only [rM]; omega)) (fun r38 h39 u40 q41 g42 => ?_)
        obtain ⟨rfl, rfl, rfl⟩ := q41
        refine ch_Gst (st2 := [.int (iI (Nf (6 * s + 2))), .int (iI t), .long (lI (y - (Nf (6 * s + 1)))), .long (lI (x - (Nf (6 * s)))), .int (iI (Nf (6 * s + 3))), .ref (lo + 17)]) rfl ?_
        refine gy_iadd dX12_rise_210 ?_
        refine gx_iload 6 dX12_rise_211 rfl ?_
        refine ch_Gst (st2 := [.int (iI (L : Int)), .int (iI (t + (Nf (6 * s + 2)))), .long (lI (y - (Nf (6 * s + 1)))), .long (lI (x - (Nf (6 * s)))), .int (iI ((Nf (6 * s + 3)).toNat : Int)), .ref (lo + 17)]) (by rw [Int.toNat_of_nonneg (show 0 ≤ Nf (6 * s + 3) by omega)]; try rfl) ?_
        refine gx_callV (ci := 11) (ih (Nf (6 * s + 3)).toNat (by omega) (by omega) (by omega) (x - (Nf (6 * s))) (y - (Nf (6 * s + 1))) (t + (Nf (6 * s + 2))) (by omega) (by omega) (by omega) L h FB MM0 (by omega)) ok_X12_rise mw_3_99 mw_3_101 mw_p_17 dX12_rise_213 rfl M0 rfl rfl (Nat.le_of_ble_eq_true rfl) (by first | exact Nat.le_of_ble_eq_true rfl | (simp only [rM]; omega)) (by first | exact Nat.le_of_ble_eq_true rfl | (simp only [rM]; omega)) (by first | exact Nat.le_of_ble_eq_true rfl | (simp only [rM]; omega)) (by first | exact Nat.le_of_ble_eq_true rfl | (simp only [rM]; omega)) (fun r43 h44 u45 q46 g47 => ?_)
        obtain ⟨rfl, ⟨FE48, WE48, BE48⟩, mE48, rfl⟩ := q46
        have WE48b := WE48
        obtain ⟨E48c0, E48c1, E48c2, E48c3, E48c4, E48c5, E48c6, E48c7, E48c8⟩ := WE48b
        refine ch_Gst (st2 := []) rfl ?_
        refine gx_goto 324 dX12_rise_216 (by decide) ?_
        refine gx_vret rfl dX12_rise_324 (by first | exact Nat.le_of_ble_eq_true rfl | (simp only [rM]; omega)) (by first | exact Nat.le_of_ble_eq_true rfl | (simp only [rM]; omega)) ?_
        refine ⟨rfl, ⟨FE48, WE48, BE48.1, ?_⟩, mE48, rfl⟩
        intro w hw
        rw [BE48.2 w hw]
        dsimp only
        rw [inB_5 (Kf := Kf) (Nf := Nf) (s := s) w13_5 (by omega), show (w : Int) - t - Nf (6 * s + 2) = (w : Int) - (t + Nf (6 * s + 2)) by omega]
      · skip
        by_cases w13_6 : Kf s = 6
        · refine gy_tin 6 w13_6 219 dX12_rise_13 (by decide) (by decide) (by decide) rfl (by decide) ?_
          obtain ⟨a1, a2, hw4⟩ := wfS_6 hwf w13_6
          refine gx_aload_n 1 dX12_rise_219 rfl rfl ?_
          refine gx_aload_n 1 dX12_rise_220 rfl rfl ?_
          refine gx_iload_n 2 dX12_rise_221 rfl rfl ?_
          refine gx_iconst (iI 0) dX12_rise_222 rfl ?_
          refine gx_callV (ci := 11) (c_X12_number l D cI cL cR lo h hi Kf Nf Wf fz n c FB fh ff fl hc sc MM0 s 0 (by omega) (by omega)) ok_X12_number mw_3_80 mw_3_82 mw_p_14 dX12_rise_223 rfl M0 rfl rfl (Nat.le_of_ble_eq_true rfl) (by first | exact Nat.le_of_ble_eq_true rfl | (simp only [rM]; omega)) (by first | exact Nat.le_of_ble_eq_true rfl | (simp only [rM]; omega)) (by first | exact Nat.le_of_ble_eq_true rfl | (simp only [rM]; omega)) (by first | exact Nat.le_of_ble_eq_true rfl | (simp only [rM]; omega)) (fun r49 h50 u51 q52 g53 => ?_)
          obtain ⟨rfl, rfl, rfl⟩ := q52
          refine ch_Gst (st2 := [.int (iI (Nf (6 * s))), .ref (lo + 17)]) rfl ?_
          refine gx_lload 4 dX12_rise_226 rfl ?_
          refine gx_lload_n 3 dX12_rise_228 rfl rfl ?_
          refine gy_lneg dX12_rise_229 ?_
          refine gx_iload 5 dX12_rise_230 rfl ?_
          refine gx_iload 6 dX12_rise_232 rfl ?_
          refine ch_Gst (st2 := [.int (iI (L : Int)), .int (iI t), .long (lI (-x)), .long (lI y), .int (iI ((Nf (6 * s)).toNat : Int)), .ref (lo + 17)]) (by rw [Int.toNat_of_nonneg (show 0 ≤ Nf (6 * s) by omega)]; try rfl) ?_
          refine gx_callV (ci := 11) (ih (Nf (6 * s)).toNat (by omega) (by omega) (by omega) y (-x) t (by omega) (by omega) (by omega) L h FB MM0 (by omega)) ok_X12_rise mw_3_99 mw_3_101 mw_p_17 dX12_rise_234 rfl M0 rfl rfl (Nat.le_of_ble_eq_true rfl) (by first | exact Nat.le_of_ble_eq_true rfl | (simp only [rM]; omega)) (by first | exact Nat.le_of_ble_eq_true rfl | (simp only [rM]; omega)) (by first | exact Nat.le_of_ble_eq_true rfl | (simp only [rM]; omega)) (by first | exact Nat.le_of_ble_eq_true rfl | (simp only [rM]; omega)) (fun r54 h55 u56 q57 g58 => ?_)
          obtain ⟨rfl, ⟨FE59, WE59, BE59⟩, mE59, rfl⟩ := q57
          have WE59b := WE59
          obtain ⟨E59c0, E59c1, E59c2, E59c3, E59c4, E59c5, E59c6, E59c7, E59c8⟩ := WE59b
          refine ch_Gst (st2 := []) rfl ?_
          refine gx_goto 324 dX12_rise_237 (by decide) ?_
          refine gx_vret rfl dX12_rise_324 (by first | exact Nat.le_of_ble_eq_true rfl | (simp only [rM]; omega)) (by first | exact Nat.le_of_ble_eq_true rfl | (simp only [rM]; omega)) ?_
          refine ⟨rfl, ⟨FE59, WE59, BE59.1, ?_⟩, mE59, rfl⟩
          intro w hw
          rw [BE59.2 w hw]
          dsimp only
          rw [inB_6 (Kf := Kf) (Nf := Nf) (s := s) w13_6 (by omega)]
        · skip
          refine gy_tout 240 dX12_rise_13 (by constructor <;> omega) (by omega) (by decide) ?_
          obtain ⟨hk3, hw3, hN, hr1, hr2⟩ := wfS_k hwf (by omega) (by omega) (by omega)
          refine gx_iconst (iI 0) dX12_rise_240 rfl ?_
          refine gx_istore [(9, .int (iI 0)), (8, .int (iI ((L : Int) * 16))), (0, .ref (lo + 17)), (1, .int (iI (s : Int))), (2, .long (lI x)), (4, .long (lI y)), (6, .int (iI t)), (7, .int (iI (L : Int)))] dX12_rise_241 (by decide) rfl ?_
          refine ch_Glv (lv' := [(0, .ref (lo + 17)), (1, .int (iI (s : Int))), (2, .long (lI x)), (4, .long (lI y)), (6, .int (iI t)), (8, .int (iI ((L : Int) * 16))), (9, .int (iI 0))]) [2, 3, 4, 5, 6, 1, 0] rfl ?_
          have loop2 : ∀ (m : Nat) (z : Int) (g : Nat → Int64) (hh : ch_H), (0 ≤ z) → (z ≤ 1000) → (1001 ≤ z + m) → (hh (lo + 17) = some (.inr (11, [.ref (lo + 18), .ref (lo + 19), .ref (lo + 20), .int (iI (n : Int)), .ref (lo + 21), .int (iI c), .ref (lo + 22), .ref (lo + 23), .int (iI hc), .ref (lo + 24), .ref (lo + 25), .int (iI sc)]))) → (hh (lo + 18) = some (aI cI 61 Kf)) → (hh (lo + 19) = some (aI cI 366 Nf)) → (hh (lo + 20) = some (aI cI 61 Wf)) → (hh (lo + 21) = some (aI cI 6 fz)) → (hh (lo + 22) = some (.inl (cL, 1632, .inr (.inl g)))) → (hh (lo + 23) = some (aL cL 200 fh)) → (hh (lo + 24) = some (aL cL 101 ff)) → (hh (lo + 25) = some (aL cL 101 fl)) → (mfr lo h hh) → (biP g FB L z (fun z => inB Kf Nf s x y (z - t))) → ch_G l (eE D cI cL cR lo) M_X12_rise ch_T (rM (s + 3) 0 0) (ch_Z (eE D cI cL cR lo) 0 0 (fun r0 h2 hi2 => r0 = none ∧ (∃ FB2, mmP cI cL lo h2 Kf Nf Wf fz n c FB2 fh ff fl hc sc ∧ biP FB2 FB L 1000 (fun z => inB Kf Nf s x y (z - t))) ∧ mfr lo h h2 ∧ hi = hi2)) 0 0 hh hi 270 [(0, .ref (lo + 17)), (1, .int (iI (s : Int))), (2, .long (lI x)), (4, .long (lI y)), (6, .int (iI t)), (8, .int (iI ((L : Int) * 16))), (9, .int (iI z))] [] := by
            intro m
            induction m with
            | zero => intro z g hh z0 z1 zm V0 V1 V2 V3 V4 V5 V6 V7 V8 mf hbi; exfalso; omega
            | succ m ih2 =>
              intro z g hh z0 z1 zm V0 V1 V2 V3 V4 V5 V6 V7 V8 mf hbi
              refine gx_iload 6 dX12_rise_270 rfl ?_
              refine gx_sipush (iI 1000) dX12_rise_272 (by decide) ?_
              refine gy_icmp_ge 324 dX12_rise_275 (by decide) (by constructor <;> omega) (by decide) (fun c275 => ?_) (fun c275 => ?_)
              · refine gx_vret rfl dX12_rise_324 (by first | exact Nat.le_of_ble_eq_true rfl | (simp only [rM]; omega)) (by first | exact Nat.le_of_ble_eq_true rfl | (simp only [rM]; omega)) ?_
                rw [show z = 1000 by omega] at hbi
                exact ⟨rfl, ⟨g, ⟨V0, V1, V2, V3, V4, V5, V6, V7, V8⟩, hbi⟩, mf, rfl⟩
              · refine gx_aload_n 0 dX12_rise_278 rfl rfl ?_
                refine gx_iload_n 1 dX12_rise_279 rfl rfl ?_
                refine gx_lload_n 2 dX12_rise_280 rfl rfl ?_
                refine gx_lload 3 dX12_rise_281 rfl ?_
                refine gx_iload 6 dX12_rise_283 rfl ?_
                refine gx_iload 4 dX12_rise_285 rfl ?_
                refine gy_isub dX12_rise_287 ?_
                refine gy_i2l dX12_rise_288 (by constructor <;> omega) ?_
                refine gx_callV (ci := 11) (c_X12_isInKind l D cI cL cR lo hh hi Kf Nf Wf fz n c g fh ff fl hc sc ⟨V0, V1, V2, V3, V4, V5, V6, V7, V8⟩ s (by omega) hk3 hN x y (z - t) (by omega) (by omega) (by omega)) ok_X12_isInKind mw_3_84 mw_3_86 mw_p_15 dX12_rise_289 rfl V0 rfl rfl (Nat.le_of_ble_eq_true rfl) (by first | exact Nat.le_of_ble_eq_true rfl | (simp only [rM]; omega)) (by first | exact Nat.le_of_ble_eq_true rfl | (simp only [rM]; omega)) (by first | exact Nat.le_of_ble_eq_true rfl | (simp only [rM]; omega)) (by first | exact Nat.le_of_ble_eq_true rfl | (simp only [rM]; omega)) (fun r1 h2 u3 q4 g5 => ?_)
                obtain ⟨rfl, rfl, rfl⟩ := q4
                refine ch_Gst (st2 := [.int (iI (bI (ikB Kf Nf s x y (z - t))))]) rfl ?_
                refine gy_if_eq 318 dX12_rise_292 (by decide) ir_bI (fun c292 => ?_) (fun c292 => ?_)
                · refine gy_iinc 6 [(9, .int (iI (z + 1))), (0, .ref (lo + 17)), (1, .int (iI (s : Int))), (2, .long (lI x)), (4, .long (lI y)), (6, .int (iI t)), (8, .int (iI ((L : Int) * 16)))] dX12_rise_318 rfl (by decide) rfl ?_
                  refine gx_goto 270 dX12_rise_321 (by decide) ?_
                  refine ch_Glv (lv' := [(0, .ref (lo + 17)), (1, .int (iI (s : Int))), (2, .long (lI x)), (4, .long (lI y)), (6, .int (iI t)), (8, .int (iI ((L : Int) * 16))), (9, .int (iI (z + 1)))]) [1, 2, 3, 4, 5, 6, 0] rfl ?_
                  exact ih2 _ _ _ (by omega) (by omega) (by omega) V0 V1 V2 V3 V4 V5 V6 V7 V8 mf (biP_n hbi (by omega) (by show inB Kf Nf s x y (z - t) = false; rw [inB_k hk3.2]; exact bI_0 c292))
                · refine gx_aload_n 0 dX12_rise_295 rfl rfl ?_
                  refine gx_get (ci := 11) (f := 6) (C := RX12) (T := TX12) (N := 12) rfl inX12 (by decide) mw_3_7 dX12_rise_296 V0 rfl ?_
                  refine gx_iload 5 dX12_rise_299 rfl ?_
                  refine gx_iload 6 dX12_rise_301 rfl ?_
                  refine gx_bipush (iI 64) dX12_rise_303 (by decide) ?_
                  refine gy_idiv dX12_rise_305 (by constructor <;> omega) (by decide) (by omega) (by decide) ?_
                  refine gy_iadd dX12_rise_306 ?_
                  refine gx_dup2_11 dX12_rise_307 rfl rfl ?_
                  refine gz_lald dX12_rise_308 V5 (by omega) (by omega) (by decide) ?_
                  refine gx_lconst (lI 1) dX12_rise_309 rfl ?_
                  refine gx_iload 6 dX12_rise_310 rfl ?_
                  refine gx_bipush (iI 64) dX12_rise_312 (by decide) ?_
                  refine gy_irem dX12_rise_314 (by constructor <;> omega) (by decide) (by omega) (by decide) ?_
                  refine gz_lshl dX12_rise_315 ?_
                  refine gz_lor dX12_rise_316 ?_
                  refine gz_last dX12_rise_317 V5 (by omega) (by omega) (by decide) (fun h6 eh6 => ?_)
                  have k7 : h6 (lo + 17) = some (.inr (11, [.ref (lo + 18), .ref (lo + 19), .ref (lo + 20), .int (iI (n : Int)), .ref (lo + 21), .int (iI c), .ref (lo + 22), .ref (lo + 23), .int (iI hc), .ref (lo + 24), .ref (lo + 25), .int (iI sc)])) := by rw [eh6, ch_set_ne (by first | assumption | exact Ne.symm (by assumption) | omega)]; exact V0
                  have k8 : h6 (lo + 18) = some (aI cI 61 Kf) := by rw [eh6, ch_set_ne (by first | assumption | exact Ne.symm (by assumption) | omega)]; exact V1
                  have k9 : h6 (lo + 19) = some (aI cI 366 Nf) := by rw [eh6, ch_set_ne (by first | assumption | exact Ne.symm (by assumption) | omega)]; exact V2
                  have k10 : h6 (lo + 20) = some (aI cI 61 Wf) := by rw [eh6, ch_set_ne (by first | assumption | exact Ne.symm (by assumption) | omega)]; exact V3
                  have k11 : h6 (lo + 21) = some (aI cI 6 fz) := by rw [eh6, ch_set_ne (by first | assumption | exact Ne.symm (by assumption) | omega)]; exact V4
                  have k12 : h6 (lo + 23) = some (aL cL 200 fh) := by rw [eh6, ch_set_ne (by first | assumption | exact Ne.symm (by assumption) | omega)]; exact V6
                  have k13 : h6 (lo + 24) = some (aL cL 101 ff) := by rw [eh6, ch_set_ne (by first | assumption | exact Ne.symm (by assumption) | omega)]; exact V7
                  have k14 : h6 (lo + 25) = some (aL cL 101 fl) := by rw [eh6, ch_set_ne (by first | assumption | exact Ne.symm (by assumption) | omega)]; exact V8
                  have k15 : h6 (lo + 22) = some (.inl (cL, 1632, .inr (.inl (vp_updL g (((L : Int) * 16) + (z / 64)).toNat ((g (((L : Int) * 16) + (z / 64)).toNat) ||| ((lI 1) <<< ((iI (z % 64)).toInt64 &&& 63))))))) := by rw [eh6]; exact ch_set_self
                  refine gy_iinc 6 [(9, .int (iI (z + 1))), (0, .ref (lo + 17)), (1, .int (iI (s : Int))), (2, .long (lI x)), (4, .long (lI y)), (6, .int (iI t)), (8, .int (iI ((L : Int) * 16)))] dX12_rise_318 rfl (by decide) rfl ?_
                  refine gx_goto 270 dX12_rise_321 (by decide) ?_
                  refine ch_Glv (lv' := [(0, .ref (lo + 17)), (1, .int (iI (s : Int))), (2, .long (lI x)), (4, .long (lI y)), (6, .int (iI t)), (8, .int (iI ((L : Int) * 16))), (9, .int (iI (z + 1)))]) [1, 2, 3, 4, 5, 6, 0] rfl ?_
                  have t5 := k15
                  rw [show ((L : Int) * 16 + z / 64).toNat = 16 * L + z.toNat / 64 by omega, show z % 64 = ((z.toNat % 64 : Nat) : Int) by omega] at t5
                  exact ih2 _ _ _ (by omega) (by omega) (by omega) k7 k8 k9 k10 k11 t5 k12 k13 k14 (fun b hb => by rw [eh6, ch_set_ne (by omega)]; exact mf b hb) (biP_y hbi (by omega) (by omega) (by show inB Kf Nf s x y (z - t) = true; rw [inB_k hk3.2]; exact bI_1 c292))
          have loop1 : ∀ (m : Nat) (z : Int) (g : Nat → Int64) (hh : ch_H), (0 ≤ z) → (z ≤ 16) → (17 ≤ z + m) → (hh (lo + 17) = some (.inr (11, [.ref (lo + 18), .ref (lo + 19), .ref (lo + 20), .int (iI (n : Int)), .ref (lo + 21), .int (iI c), .ref (lo + 22), .ref (lo + 23), .int (iI hc), .ref (lo + 24), .ref (lo + 25), .int (iI sc)]))) → (hh (lo + 18) = some (aI cI 61 Kf)) → (hh (lo + 19) = some (aI cI 366 Nf)) → (hh (lo + 20) = some (aI cI 61 Wf)) → (hh (lo + 21) = some (aI cI 6 fz)) → (hh (lo + 22) = some (.inl (cL, 1632, .inr (.inl g)))) → (hh (lo + 23) = some (aL cL 200 fh)) → (hh (lo + 24) = some (aL cL 101 ff)) → (hh (lo + 25) = some (aL cL 101 fl)) → (mfr lo h hh) → (∀ j, j < 16 * L → g j = FB j) → (∀ k : Nat, (k : Int) < z → g (16 * L + k) = lI 0) → ch_G l (eE D cI cL cR lo) M_X12_rise ch_T (rM (s + 3) 0 0) (ch_Z (eE D cI cL cR lo) 0 0 (fun r0 h2 hi2 => r0 = none ∧ (∃ FB2, mmP cI cL lo h2 Kf Nf Wf fz n c FB2 fh ff fl hc sc ∧ biP FB2 FB L 1000 (fun z => inB Kf Nf s x y (z - t))) ∧ mfr lo h h2 ∧ hi = hi2)) 0 0 hh hi 243 [(0, .ref (lo + 17)), (1, .int (iI (s : Int))), (2, .long (lI x)), (4, .long (lI y)), (6, .int (iI t)), (8, .int (iI ((L : Int) * 16))), (9, .int (iI z))] [] := by
            intro m
            induction m with
            | zero => intro z g hh z0 z1 zm V0 V1 V2 V3 V4 V5 V6 V7 V8 mf hg1 hg2; exfalso; omega
            | succ m ih2 =>
              intro z g hh z0 z1 zm V0 V1 V2 V3 V4 V5 V6 V7 V8 mf hg1 hg2
              refine gx_iload 6 dX12_rise_243 rfl ?_
              refine gx_bipush (iI 16) dX12_rise_245 (by decide) ?_
              refine gy_icmp_ge 267 dX12_rise_247 (by decide) (by constructor <;> omega) (by decide) (fun c247 => ?_) (fun c247 => ?_)
              · refine gx_iconst (iI 0) dX12_rise_267 rfl ?_
                refine gx_istore [(9, .int (iI 0)), (0, .ref (lo + 17)), (1, .int (iI (s : Int))), (2, .long (lI x)), (4, .long (lI y)), (6, .int (iI t)), (8, .int (iI ((L : Int) * 16)))] dX12_rise_268 (by decide) rfl ?_
                refine ch_Glv (lv' := [(0, .ref (lo + 17)), (1, .int (iI (s : Int))), (2, .long (lI x)), (4, .long (lI y)), (6, .int (iI t)), (8, .int (iI ((L : Int) * 16))), (9, .int (iI 0))]) [1, 2, 3, 4, 5, 6, 0] rfl ?_
                exact loop2 1001 0 g hh (by omega) (by omega) (by omega) V0 V1 V2 V3 V4 V5 V6 V7 V8 mf ⟨hg1, fun w hw => by rw [hg2 (w / 64) (by omega), b64_0, show decide ((w : Int) < 0) = false from decide_eq_false (by omega), Bool.false_and]⟩
              · refine gx_aload_n 0 dX12_rise_250 rfl rfl ?_
                refine gx_get (ci := 11) (f := 6) (C := RX12) (T := TX12) (N := 12) rfl inX12 (by decide) mw_3_7 dX12_rise_251 V0 rfl ?_
                refine gx_iload 5 dX12_rise_254 rfl ?_
                refine gx_iload 6 dX12_rise_256 rfl ?_
                refine gy_iadd dX12_rise_258 ?_
                refine gx_lconst (lI 0) dX12_rise_259 rfl ?_
                refine gz_last dX12_rise_260 V5 (by omega) (by omega) (by decide) (fun h1 eh1 => ?_)
                have k2 : h1 (lo + 17) = some (.inr (11, [.ref (lo + 18), .ref (lo + 19), .ref (lo + 20), .int (iI (n : Int)), .ref (lo + 21), .int (iI c), .ref (lo + 22), .ref (lo + 23), .int (iI hc), .ref (lo + 24), .ref (lo + 25), .int (iI sc)])) := by rw [eh1, ch_set_ne (by first | assumption | exact Ne.symm (by assumption) | omega)]; exact V0
                have k3 : h1 (lo + 18) = some (aI cI 61 Kf) := by rw [eh1, ch_set_ne (by first | assumption | exact Ne.symm (by assumption) | omega)]; exact V1
                have k4 : h1 (lo + 19) = some (aI cI 366 Nf) := by rw [eh1, ch_set_ne (by first | assumption | exact Ne.symm (by assumption) | omega)]; exact V2
                have k5 : h1 (lo + 20) = some (aI cI 61 Wf) := by rw [eh1, ch_set_ne (by first | assumption | exact Ne.symm (by assumption) | omega)]; exact V3
                have k6 : h1 (lo + 21) = some (aI cI 6 fz) := by rw [eh1, ch_set_ne (by first | assumption | exact Ne.symm (by assumption) | omega)]; exact V4
                have k7 : h1 (lo + 23) = some (aL cL 200 fh) := by rw [eh1, ch_set_ne (by first | assumption | exact Ne.symm (by assumption) | omega)]; exact V6
                have k8 : h1 (lo + 24) = some (aL cL 101 ff) := by rw [eh1, ch_set_ne (by first | assumption | exact Ne.symm (by assumption) | omega)]; exact V7
                have k9 : h1 (lo + 25) = some (aL cL 101 fl) := by rw [eh1, ch_set_ne (by first | assumption | exact Ne.symm (by assumption) | omega)]; exact V8
                have k10 : h1 (lo + 22) = some (.inl (cL, 1632, .inr (.inl (vp_updL g (((L : Int) * 16) + z).toNat (lI 0))))) := by rw [eh1]; exact ch_set_self
                refine gy_iinc 6 [(9, .int (iI (z + 1))), (0, .ref (lo + 17)), (1, .int (iI (s : Int))), (2, .long (lI x)), (4, .long (lI y)), (6, .int (iI t)), (8, .int (iI ((L : Int) * 16)))] dX12_rise_261 rfl (by decide) rfl ?_
                refine gx_goto 243 dX12_rise_264 (by decide) ?_
                refine ch_Glv (lv' := [(0, .ref (lo + 17)), (1, .int (iI (s : Int))), (2, .long (lI x)), (4, .long (lI y)), (6, .int (iI t)), (8, .int (iI ((L : Int) * 16))), (9, .int (iI (z + 1)))]) [1, 2, 3, 4, 5, 6, 0] rfl ?_
                have t5 := k10
                rw [show ((L : Int) * 16 + z).toNat = 16 * L + z.toNat by omega] at t5
                exact ih2 _ _ _ (by omega) (by omega) (by omega) k2 k3 k4 k5 k6 t5 k7 k8 k9 (fun b hb => by rw [eh1, ch_set_ne (by omega)]; exact mf b hb) (fun j hj => by rw [pk_uLn (by omega)]; exact hg1 j hj) (hg_s hg2 z0)
          exact loop1 17 0 FB h (by omega) (by omega) (by omega) M0 M1 M2 M3 M4 M5 M6 M7 M8 (fun b _ => rfl) (fun j _ => rfl) (fun k hk => by omega)
set_option maxHeartbeats 4000000 in
set_option maxRecDepth 100000 in
theorem c_X12_topOf (l : Launch) (D : va_G) (cI cL cR : ClassId) (lo : Nat) (h : ch_H) (hi : Nat) (Kf Nf Wf fz : Nat → Int) (n : Nat) (c : Int) (FB : Nat → Int64) (fh ff fl : Nat → Int) (hc sc : Int) (MM : mmP cI cL lo h Kf Nf Wf fz n c FB fh ff fl hc sc) (hn : n ≤ 60) (HW : ∀ s, 1 ≤ s → s ≤ n → wfS Kf Nf Wf s) (s x y : Int) (hs : 1 ≤ s ∧ s ≤ (n : Int)) (hx : -100000 ≤ x ∧ x ≤ 100000) (hy : -100000 ≤ y ∧ y ≤ 100000) : ch_C l (eE D cI cL cR lo) M_X12_topOf (rM 64 0 0) [.ref (lo + 17), .int (iI s), .int (iI x), .int (iI y)] h hi (fun r0 h2 hi2 => (∃ t : Int, r0 = some (.int (iI t)) ∧ (0 ≤ t ∧ t ≤ 1000) ∧ (t = 0 ∨ inB Kf Nf s.toNat x y (t - 1) = true) ∧ ∀ z, t ≤ z → z < 1000 → inB Kf Nf s.toNat x y z = false) ∧ (∃ FB2, mmP cI cL lo h2 Kf Nf Wf fz n c FB2 fh ff fl hc sc) ∧ mfr lo h h2 ∧ hi = hi2) := by
  refine ch_C.of rfl (Nat.le_of_ble_eq_true rfl) ?_
  have MM0 := MM
  obtain ⟨M0, M1, M2, M3, M4, M5, M6, M7, M8⟩ := MM
  refine gx_aload_n 0 dX12_topOf_0 rfl rfl ?_
  refine gx_iload_n 1 dX12_topOf_1 rfl rfl ?_
  refine gx_iload_n 2 dX12_topOf_2 rfl rfl ?_
  refine gy_i2l dX12_topOf_3 (by constructor <;> omega) ?_
  refine gx_iload_n 3 dX12_topOf_4 rfl rfl ?_
  refine gy_i2l dX12_topOf_5 (by constructor <;> omega) ?_
  refine gx_iconst (iI 0) dX12_topOf_6 rfl ?_
  refine gx_iconst (iI 0) dX12_topOf_7 rfl ?_
  refine ch_Gst (st2 := [.int (iI 0), .int (iI 0), .long (lI y), .long (lI x), .int (iI (s.toNat : Int)), .ref (lo + 17)]) (by rw [Int.toNat_of_nonneg (show 0 ≤ s by omega)]) ?_
  have hW := (HW s.toNat (by omega) (by omega)).1
  refine gx_callV (ci := 11) (c_X12_rise l D cI cL cR lo hi Kf Nf Wf fz n c fh ff fl hc sc hn HW s.toNat (by omega) (by omega) x y 0 (by omega) (by omega) (by omega) 0 h FB MM0 (by omega)) ok_X12_rise mw_3_99 mw_3_101 mw_p_17 dX12_topOf_8 rfl M0 rfl rfl (Nat.le_of_ble_eq_true rfl) (by first | exact Nat.le_of_ble_eq_true rfl | (simp only [rM]; omega)) (by first | exact Nat.le_of_ble_eq_true rfl | (simp only [rM]; omega)) (by first | exact Nat.le_of_ble_eq_true rfl | (simp only [rM]; omega)) (by first | exact Nat.le_of_ble_eq_true rfl | (simp only [rM]; omega)) (fun r1 h2 u3 q4 g5 => ?_)
  obtain ⟨rfl, ⟨FE, WE, BE⟩, mE, rfl⟩ := q4
  have WEb := WE
  obtain ⟨Ec0, Ec1, Ec2, Ec3, Ec4, Ec5, Ec6, Ec7, Ec8⟩ := WEb
  refine ch_Gst (st2 := []) rfl ?_
  refine gx_sipush (iI 999) dX12_topOf_11 (by decide) ?_
  refine gx_istore [(4, .int (iI 999)), (0, .ref (lo + 17)), (1, .int (iI s)), (2, .int (iI x)), (3, .int (iI y))] dX12_topOf_14 (by decide) rfl ?_
  refine ch_Glv (lv' := [(0, .ref (lo + 17)), (4, .int (iI 999))]) [1, 0] rfl ?_
  have loop : ∀ (m : Nat) (z : Int), (-1 ≤ z) → (z ≤ 999) → (z + 1 < m) → (∀ w, z < w → w < 1000 → inB Kf Nf s.toNat x y w = false) → ch_G l (eE D cI cL cR lo) M_X12_topOf ch_T (rM 64 0 0) (ch_Z (eE D cI cL cR lo) 0 0 (fun r0 h2 hi2 => (∃ t : Int, r0 = some (.int (iI t)) ∧ (0 ≤ t ∧ t ≤ 1000) ∧ (t = 0 ∨ inB Kf Nf s.toNat x y (t - 1) = true) ∧ ∀ z, t ≤ z → z < 1000 → inB Kf Nf s.toNat x y z = false) ∧ (∃ FB2, mmP cI cL lo h2 Kf Nf Wf fz n c FB2 fh ff fl hc sc) ∧ mfr lo h h2 ∧ hi = hi2)) 0 0 h2 hi 16 [(0, .ref (lo + 17)), (4, .int (iI z))] [] := by
    intro m
    induction m with
    | zero => intro z z0 z1 zm hno; exfalso; omega
    | succ m ih2 =>
      intro z z0 z1 zm hno
      refine gx_iload 1 dX12_topOf_16 rfl ?_
      refine gy_if_lt 50 dX12_topOf_18 (by decide) (by constructor <;> omega) (fun c18 => ?_) (fun c18 => ?_)
      · refine gx_iload 1 dX12_topOf_50 rfl ?_
        refine gx_iconst (iI 1) dX12_topOf_52 rfl ?_
        refine gy_iadd dX12_topOf_53 ?_
        refine gx_iret rfl dX12_topOf_54 (by first | exact Nat.le_of_ble_eq_true rfl | (simp only [rM]; omega)) (by first | exact Nat.le_of_ble_eq_true rfl | (simp only [rM]; omega)) ?_
        exact ⟨⟨z + 1, rfl, by omega, Or.inl (by omega), fun w h1 h2 => hno w (by omega) h2⟩, ⟨FE, WE⟩, mE, rfl⟩
      · have hbz := BE.2 z.toNat (by omega)
        dsimp only at hbz
        rw [show decide (((z.toNat : Nat) : Int) < 1000) = true from decide_eq_true (by omega), Bool.true_and, show ((z.toNat : Nat) : Int) - 0 = z by omega, show 16 * 0 + z.toNat / 64 = (z / 64).toNat by omega] at hbz
        refine gx_aload_n 0 dX12_topOf_21 rfl rfl ?_
        refine gx_get (ci := 11) (f := 6) (C := RX12) (T := TX12) (N := 12) rfl inX12 (by decide) mw_3_7 dX12_topOf_22 Ec0 rfl ?_
        refine gx_iload 1 dX12_topOf_25 rfl ?_
        refine gx_bipush (iI 64) dX12_topOf_27 (by decide) ?_
        refine gy_idiv dX12_topOf_29 (by constructor <;> omega) (by decide) (by omega) (by decide) ?_
        refine gz_lald dX12_topOf_30 Ec5 (by omega) (by omega) (by decide) ?_
        refine gx_iload 1 dX12_topOf_31 rfl ?_
        refine gx_bipush (iI 64) dX12_topOf_33 (by decide) ?_
        refine gy_irem dX12_topOf_35 (by constructor <;> omega) (by decide) (by omega) (by decide) ?_
        refine gz_lshr dX12_topOf_36 ?_
        refine gx_lconst (lI 1) dX12_topOf_37 rfl ?_
        refine gz_land dX12_topOf_38 ?_
        refine gx_lconst (lI 0) dX12_topOf_39 rfl ?_
        refine gz_cmp0 50 dX12_topOf_40 dX12_topOf_41 (by decide) (fun c40 => ?_) (fun c40 => ?_)
        · refine gx_iload 1 dX12_topOf_50 rfl ?_
          refine gx_iconst (iI 1) dX12_topOf_52 rfl ?_
          refine gy_iadd dX12_topOf_53 ?_
          refine gx_iret rfl dX12_topOf_54 (by first | exact Nat.le_of_ble_eq_true rfl | (simp only [rM]; omega)) (by first | exact Nat.le_of_ble_eq_true rfl | (simp only [rM]; omega)) ?_
          have ez : inB Kf Nf s.toNat x y z = true := by
            cases e : inB Kf Nf s.toNat x y z with
            | true => rfl
            | false =>
              rw [← hbz] at e
              rw [show z % 64 = ((z.toNat % 64 : Nat) : Int) by omega] at c40
              exact absurd ((b64_shr _ (Nat.mod_lt _ (by omega))).mpr e) c40
          exact ⟨⟨z + 1, rfl, by omega, Or.inr (by rw [show z + 1 - 1 = z by omega]; exact ez), fun w h1 h2 => hno w (by omega) h2⟩, ⟨FE, WE⟩, mE, rfl⟩
        · refine gy_iinc 1 [(4, .int (iI (z + (-1)))), (0, .ref (lo + 17))] dX12_topOf_44 rfl (by decide) rfl ?_
          refine gx_goto 16 dX12_topOf_47 (by decide) ?_
          refine ch_Glv (lv' := [(0, .ref (lo + 17)), (4, .int (iI (z + (-1))))]) [1, 0] rfl ?_
          have ez : inB Kf Nf s.toNat x y z = false := by rw [← hbz]; rw [show z % 64 = ((z.toNat % 64 : Nat) : Int) by omega] at c40; exact (b64_shr _ (Nat.mod_lt _ (by omega))).mp c40
          exact ih2 _ (by omega) (by omega) (by omega) (fun w h1 h2 => if q : w = z then by rw [q]; exact ez else hno w (by omega) h2)
  exact loop 1001 999 (by omega) (by omega) (by omega) (fun w h1 h2 => by omega)
set_option maxHeartbeats 4000000 in
set_option maxRecDepth 100000 in
theorem c_X12_top (l : Launch) (D : va_G) (cI cL cR : ClassId) (lo : Nat) (h : ch_H) (hi : Nat) (Kf Nf Wf fz : Nat → Int) (n : Nat) (c : Int) (FB : Nat → Int64) (fh ff fl : Nat → Int) (hc sc : Int) (MM : mmP cI cL lo h Kf Nf Wf fz n c FB fh ff fl hc sc) (hn : n ≤ 60) (HW : ∀ s, 1 ≤ s → s ≤ n → wfS Kf Nf Wf s) (s x y : Int) (hs : ir s) (hx : ir x) (hy : ir y) : ch_C l (eE D cI cL cR lo) M_X12_top (rM 66 0 0) [.ref (lo + 17), .int (iI s), .int (iI x), .int (iI y)] h hi (fun r0 h2 hi2 => (¬ (1 ≤ s ∧ s ≤ (n : Int)) → r0 = some (.int (iI (-1)))) ∧ ((1 ≤ s ∧ s ≤ (n : Int)) → ¬ (nearB x = true ∧ nearB y = true) → r0 = some (.int (iI 0))) ∧ ((1 ≤ s ∧ s ≤ (n : Int)) → (nearB x = true ∧ nearB y = true) → (∃ t : Int, r0 = some (.int (iI t)) ∧ (0 ≤ t ∧ t ≤ 1000) ∧ (t = 0 ∨ inB Kf Nf s.toNat x y (t - 1) = true) ∧ ∀ z, t ≤ z → z < 1000 → inB Kf Nf s.toNat x y z = false)) ∧ (∃ FB2, mmP cI cL lo h2 Kf Nf Wf fz n c FB2 fh ff fl hc sc) ∧ mfr lo h h2 ∧ hi = hi2) := by
  refine ch_C.of rfl (Nat.le_of_ble_eq_true rfl) ?_
  have MM0 := MM
  obtain ⟨M0, M1, M2, M3, M4, M5, M6, M7, M8⟩ := MM
  refine gx_aload_n 0 dX12_top_0 rfl rfl ?_
  refine gx_iload_n 1 dX12_top_1 rfl rfl ?_
  refine gx_callV (ci := 11) (c_X12_isSolid l D cI cL cR lo h hi Kf Nf Wf fz n c FB fh ff fl hc sc MM0 hn s (by constructor <;> omega)) ok_X12_isSolid mw_3_55 mw_3_57 mw_p_12 dX12_top_2 rfl M0 rfl rfl (Nat.le_of_ble_eq_true rfl) (by first | exact Nat.le_of_ble_eq_true rfl | (simp only [rM]; omega)) (by first | exact Nat.le_of_ble_eq_true rfl | (simp only [rM]; omega)) (by first | exact Nat.le_of_ble_eq_true rfl | (simp only [rM]; omega)) (by first | exact Nat.le_of_ble_eq_true rfl | (simp only [rM]; omega)) (fun r1 h2 u3 q4 g5 => ?_)
  obtain ⟨rfl, rfl, rfl⟩ := q4
  refine ch_Gst (st2 := [.int (iI (bI (decide (1 ≤ s ∧ s ≤ (n : Int)))))]) rfl ?_
  refine gy_if_ne 12 dX12_top_5 (by decide) ir_bI (fun c5 => ?_) (fun c5 => ?_)
  · have hq5 := of_decide_eq_true (bI_1 c5)
    refine gx_iload_n 2 dX12_top_12 rfl rfl ?_
    refine gx_callS (c_X12_isNear l D cI cL cR lo h hi x (by constructor <;> omega)) ok_X12_isNear mw_3_71 mw_3_72 dX12_top_13 rfl rfl (Nat.le_of_ble_eq_true rfl) (by first | exact Nat.le_of_ble_eq_true rfl | (simp only [rM]; omega)) (by first | exact Nat.le_of_ble_eq_true rfl | (simp only [rM]; omega)) (by first | exact Nat.le_of_ble_eq_true rfl | (simp only [rM]; omega)) (by first | exact Nat.le_of_ble_eq_true rfl | (simp only [rM]; omega)) (fun r6 h7 u8 q9 g10 => ?_)
    obtain ⟨rfl, rfl, rfl⟩ := q9
    refine ch_Gst (st2 := [.int (iI (bI (nearB x)))]) rfl ?_
    refine gy_if_eq 36 dX12_top_16 (by decide) ir_bI (fun c16 => ?_) (fun c16 => ?_)
    · refine gx_iconst (iI 0) dX12_top_36 rfl ?_
      refine gx_iret rfl dX12_top_37 (by first | exact Nat.le_of_ble_eq_true rfl | (simp only [rM]; omega)) (by first | exact Nat.le_of_ble_eq_true rfl | (simp only [rM]; omega)) ?_
      have hno : ¬ (nearB x = true ∧ nearB y = true) := fun q => absurd (bI_0 c16) (by rw [q.1]; decide)
      exact ⟨fun q => absurd hq5 q, fun _ _ => rfl, fun _ q => absurd q hno, ⟨FB, MM0⟩, fun b _ => rfl, rfl⟩
    · have nx := bI_1 c16
      have nx2 := of_decide_eq_true nx
      refine gx_iload_n 3 dX12_top_19 rfl rfl ?_
      refine gx_callS (c_X12_isNear l D cI cL cR lo h hi y (by constructor <;> omega)) ok_X12_isNear mw_3_71 mw_3_72 dX12_top_20 rfl rfl (Nat.le_of_ble_eq_true rfl) (by first | exact Nat.le_of_ble_eq_true rfl | (simp only [rM]; omega)) (by first | exact Nat.le_of_ble_eq_true rfl | (simp only [rM]; omega)) (by first | exact Nat.le_of_ble_eq_true rfl | (simp only [rM]; omega)) (by first | exact Nat.le_of_ble_eq_true rfl | (simp only [rM]; omega)) (fun r11 h12 u13 q14 g15 => ?_)
      obtain ⟨rfl, rfl, rfl⟩ := q14
      refine ch_Gst (st2 := [.int (iI (bI (nearB y)))]) rfl ?_
      refine gy_if_eq 36 dX12_top_23 (by decide) ir_bI (fun c23 => ?_) (fun c23 => ?_)
      · refine gx_iconst (iI 0) dX12_top_36 rfl ?_
        refine gx_iret rfl dX12_top_37 (by first | exact Nat.le_of_ble_eq_true rfl | (simp only [rM]; omega)) (by first | exact Nat.le_of_ble_eq_true rfl | (simp only [rM]; omega)) ?_
        have hno : ¬ (nearB x = true ∧ nearB y = true) := fun q => absurd (bI_0 c23) (by rw [q.2]; decide)
        exact ⟨fun q => absurd hq5 q, fun _ _ => rfl, fun _ q => absurd q hno, ⟨FB, MM0⟩, fun b _ => rfl, rfl⟩
      · have ny := bI_1 c23
        have ny2 := of_decide_eq_true ny
        refine gx_aload_n 0 dX12_top_26 rfl rfl ?_
        refine gx_iload_n 1 dX12_top_27 rfl rfl ?_
        refine gx_iload_n 2 dX12_top_28 rfl rfl ?_
        refine gx_iload_n 3 dX12_top_29 rfl rfl ?_
        refine gx_callV (ci := 11) (c_X12_topOf l D cI cL cR lo h hi Kf Nf Wf fz n c FB fh ff fl hc sc MM0 hn HW s x y hq5 nx2 ny2) ok_X12_topOf mw_3_95 mw_3_97 mw_p_16 dX12_top_30 rfl M0 rfl rfl (Nat.le_of_ble_eq_true rfl) (by first | exact Nat.le_of_ble_eq_true rfl | (simp only [rM]; omega)) (by first | exact Nat.le_of_ble_eq_true rfl | (simp only [rM]; omega)) (by first | exact Nat.le_of_ble_eq_true rfl | (simp only [rM]; omega)) (by first | exact Nat.le_of_ble_eq_true rfl | (simp only [rM]; omega)) (fun r16 h17 u18 q19 g20 => ?_)
        obtain ⟨⟨t, rfl, T1, T2, T3⟩, WE, mE, rfl⟩ := q19
        refine ch_Gst (st2 := [.int (iI t)]) rfl ?_
        refine gx_goto 37 dX12_top_33 (by decide) ?_
        refine gx_iret rfl dX12_top_37 (by first | exact Nat.le_of_ble_eq_true rfl | (simp only [rM]; omega)) (by first | exact Nat.le_of_ble_eq_true rfl | (simp only [rM]; omega)) ?_
        exact ⟨fun q => absurd hq5 q, fun _ q => absurd ⟨nx, ny⟩ q, fun _ _ => ⟨t, rfl, T1, T2, T3⟩, WE, mE, rfl⟩
  · have hq5 := of_decide_eq_false (bI_0 c5)
    refine gx_iconst (iI (-1)) dX12_top_8 rfl ?_
    refine gx_goto 37 dX12_top_9 (by decide) ?_
    refine gx_iret rfl dX12_top_37 (by first | exact Nat.le_of_ble_eq_true rfl | (simp only [rM]; omega)) (by first | exact Nat.le_of_ble_eq_true rfl | (simp only [rM]; omega)) ?_
    exact ⟨fun _ => rfl, fun q => absurd q hq5, fun q => absurd q hq5, ⟨FB, MM0⟩, fun b _ => rfl, rfl⟩
end
