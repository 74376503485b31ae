section
/-- the heights that ends collects -/
def htL (Kf Nf : Nat → Int) (s : Nat) (x y t : Int) : List Int :=
  if Kf s = 4 then (if h : (Nf (6 * s)).toNat < s ∧ (Nf (6 * s + 1)).toNat < s then htL Kf Nf (Nf (6 * s)).toNat x y t ++ htL Kf Nf (Nf (6 * s + 1)).toNat x y t else [])
  else if Kf s = 5 then (if h : (Nf (6 * s + 3)).toNat < s then htL Kf Nf (Nf (6 * s + 3)).toNat (x - Nf (6 * s)) (y - Nf (6 * s + 1)) (t + Nf (6 * s + 2)) else [])
  else if Kf s = 6 then (if h : (Nf (6 * s)).toNat < s then htL Kf Nf (Nf (6 * s)).toNat y (-x) t else [])
  else ed Kf Nf s x y t
termination_by s
decreasing_by
  · exact h.1
  · exact h.2
  · exact h
  · exact h
theorem htL_4 {Kf Nf : Nat → Int} {s : Nat} {x y t : Int} (k : Kf s = 4) (h1 : (Nf (6 * s)).toNat < s) (h2 : (Nf (6 * s + 1)).toNat < s) : htL Kf Nf s x y t = htL Kf Nf (Nf (6 * s)).toNat x y t ++ htL Kf Nf (Nf (6 * s + 1)).toNat x y t := by
  conv => lhs; rw [htL]
  rw [if_pos k, dif_pos ⟨h1, h2⟩]
theorem htL_5 {Kf Nf : Nat → Int} {s : Nat} {x y t : Int} (k : Kf s = 5) (h1 : (Nf (6 * s + 3)).toNat < s) : htL Kf Nf s x y t = htL Kf Nf (Nf (6 * s + 3)).toNat (x - Nf (6 * s)) (y - Nf (6 * s + 1)) (t + Nf (6 * s + 2)) := by
  conv => lhs; rw [htL]
  rw [if_neg (by omega), if_pos k, dif_pos h1]
theorem htL_6 {Kf Nf : Nat → Int} {s : Nat} {x y t : Int} (k : Kf s = 6) (h1 : (Nf (6 * s)).toNat < s) : htL Kf Nf s x y t = htL Kf Nf (Nf (6 * s)).toNat y (-x) t := by
  conv => lhs; rw [htL]
  rw [if_neg (by omega), if_neg (by omega), if_pos k, dif_pos h1]
theorem htL_k {Kf Nf : Nat → Int} {s : Nat} {x y t : Int} (k : Kf s ≤ 3) : htL Kf Nf s x y t = ed Kf Nf s x y t := by
  conv => lhs; rw [htL]
  rw [if_neg (by omega), if_neg (by omega), if_neg (by omega)]
theorem htL_len {Kf Nf Wf : Nat → Int} {n : Nat} (H : ∀ s, 1 ≤ s → s ≤ n → wfS Kf Nf Wf s) : ∀ (s : Nat), 1 ≤ s → s ≤ n → ∀ (x y t : Int), ((htL Kf Nf s x y t).length : Int) ≤ 2 * ((Wf s + 1) / 2) := by
  intro s
  induction s using Nat.strongRecOn with
  | ind s ih =>
    intro h1 h2 x y t
    have hw := H s h1 h2
    have hkf := kf_in hw
    by_cases k4 : Kf s = 4
    · obtain ⟨-, a1, a2, b1, b2, -, -, w4⟩ := wfS_4 hw k4
      rw [htL_4 k4 (by omega) (by omega), List.length_append]
      have ha := ih (Nf (6 * s)).toNat (by omega) (by omega) (by omega) x y t
      have hb := ih (Nf (6 * s + 1)).toNat (by omega) (by omega) (by omega) x y t
      omega
    by_cases k5 : Kf s = 5
    · obtain ⟨a1, a2, -, -, -, w4⟩ := wfS_5 hw k5
      rw [htL_5 k5 (by omega)]
      have ha := ih (Nf (6 * s + 3)).toNat (by omega) (by omega) (by omega) (x - Nf (6 * s)) (y - Nf (6 * s + 1)) (t + Nf (6 * s + 2))
      omega
    by_cases k6 : Kf s = 6
    · obtain ⟨a1, a2, w4⟩ := wfS_6 hw k6
      rw [htL_6 k6 (by omega)]
      have ha := ih (Nf (6 * s)).toNat (by omega) (by omega) (by omega) y (-x) t
      omega
    rw [htL_k (by omega)]
    exact ed_len H s h1 h2 x y t
set_option maxHeartbeats 4000000 in
set_option maxRecDepth 100000 in
theorem c_X12_ends (l : Launch) (D : va_G) (cI cL cR : ClassId) (lo : Nat) (hi : Nat) (Kf Nf Wf fz : Nat → Int) (n : Nat) (c : Int) (FB : Nat → Int64) (ff fl : Nat → Int) (sc : Int) (hn : n ≤ 60) (HW : ∀ s, 1 ≤ s → s ≤ n → wfS Kf Nf Wf s) : ∀ (s : Nat), 1 ≤ s → s ≤ n → ∀ (x y t : Int), (-400000 + 5000 * (s : Int) ≤ x ∧ x ≤ 400000 - 5000 * (s : Int)) → (-400000 + 5000 * (s : Int) ≤ y ∧ y ≤ 400000 - 5000 * (s : Int)) → (-400000 + 5000 * (s : Int) ≤ t ∧ t ≤ 400000 - 5000 * (s : Int)) → ∀ (h : ch_H) (fh : Nat → Int) (hc : Int), mmP cI cL lo h Kf Nf Wf fz n c FB fh ff fl hc sc → 0 ≤ hc → hc + 2 * ((Wf s + 1) / 2) ≤ 200 → ch_C l (eE D cI cL cR lo) M_X12_ends (rM (s + 3) 0 0) [.ref (lo + 17), .int (iI (s : Int)), .long (lI x), .long (lI y), .long (lI t)] h hi (fun r0 h2 hi2 => r0 = none ∧ (∃ fh2, mmP cI cL lo h2 Kf Nf Wf fz n c FB fh2 ff fl (hc + ((htL Kf Nf s x y t).length : Int)) sc ∧ (∀ j : Nat, (j : Int) < hc → fh2 j = fh j) ∧ ∀ i, i < (htL Kf Nf s x y t).length → (htL Kf Nf s x y t)[i]? = some (fh2 (hc.toNat + i))) ∧ mfr lo h h2 ∧ hi = hi2) := by
  intro s
  induction s using Nat.strongRecOn with
  | ind s ih =>
    intro h1s h2s x y t hx hy ht h fh hc MM hc0 hc1
    refine ch_C.of rfl (Nat.le_of_ble_eq_true rfl) ?_
    have MM0 := MM
    obtain ⟨M0, M1, M2, M3, M4, M5, M6, M7, M8⟩ := MM
    have hwf := HW s h1s h2s
    have hWs := hwf.1
    have hkf := kf_in hwf
    refine gx_aload_n 0 dX12_ends_0 rfl rfl ?_
    refine gx_get (ci := 11) (f := 0) (C := RX12) (T := TX12) (N := 12) rfl inX12 (by decide) mw_3_1 dX12_ends_1 M0 rfl ?_
    refine gx_iload_n 1 dX12_ends_4 rfl rfl ?_
    refine gy_iald dX12_ends_5 M1 (by omega) (by omega) (by decide) ?_
    refine ch_Gst (st2 := [.int (iI (Kf s))]) (by rw [Int.toNat_natCast]; try rfl) ?_
    by_cases w6_4 : Kf s = 4
    · refine gy_tin 4 w6_4 32 dX12_ends_6 (by decide) (by decide) (by decide) rfl (by decide) ?_
      obtain ⟨k4, a1, a2, b1, b2, c1, c2, hw4⟩ := wfS_4 hwf w6_4
      have wA := (HW (Nf (6 * s)).toNat (by omega) (by omega)).1
      have wB := (HW (Nf (6 * s + 1)).toNat (by omega) (by omega)).1
      refine gx_aload_n 0 dX12_ends_32 rfl rfl ?_
      refine gx_aload_n 0 dX12_ends_33 rfl rfl ?_
      refine gx_iload_n 1 dX12_ends_34 rfl rfl ?_
      refine gx_iconst (iI 0) dX12_ends_35 rfl ?_
      refine gx_callV (ci := 11) (c_X12_number l D cI cL cR lo h hi Kf Nf Wf fz n c FB fh ff fl hc sc MM0 s 0 (by omega) (by omega)) ok_X12_number mw_3_80 mw_3_82 mw_p_14 dX12_ends_36 rfl M0 rfl rfl (Nat.le_of_ble_eq_true rfl) (by first | exact Nat.le_of_ble_eq_true rfl | (simp only [rM]; omega)) (by first | exact Nat.le_of_ble_eq_true rfl | (simp only [rM]; omega)) (by first | exact Nat.le_of_ble_eq_true rfl | (simp only [rM]; omega)) (by first | exact Nat.le_of_ble_eq_true rfl | (simp only [rM]; omega)) (fun r1 h2 u3 q4 g5 => ?_)
      obtain ⟨rfl, rfl, rfl⟩ := q4
      refine ch_Gst (st2 := [.int (iI (Nf (6 * s))), .ref (lo + 17)]) rfl ?_
      refine gx_lload_n 2 dX12_ends_39 rfl rfl ?_
      refine gx_lload 3 dX12_ends_40 rfl ?_
      refine gx_lload 4 dX12_ends_42 rfl ?_
      refine ch_Gst (st2 := [.long (lI t), .long (lI y), .long (lI x), .int (iI ((Nf (6 * s)).toNat : Int)), .ref (lo + 17)]) (by rw [Int.toNat_of_nonneg (show 0 ≤ Nf (6 * s) by omega)]) ?_
      refine gx_callV (ci := 11) (ih (Nf (6 * s)).toNat (by omega) (by omega) (by omega) x y t (by omega) (by omega) (by omega) h fh hc MM0 (by omega) (by omega)) ok_X12_ends mw_3_112 mw_3_114 mw_p_18 dX12_ends_44 rfl M0 rfl rfl (Nat.le_of_ble_eq_true rfl) (by first | exact Nat.le_of_ble_eq_true rfl | (simp only [rM]; omega)) (by first | exact Nat.le_of_ble_eq_true rfl | (simp only [rM]; omega)) (by first | exact Nat.le_of_ble_eq_true rfl | (simp only [rM]; omega)) (by first | exact Nat.le_of_ble_eq_true rfl | (simp only [rM]; omega)) (fun r6 h7 u8 q9 g10 => ?_)
      obtain ⟨rfl, ⟨fE11, WE11, pE11, gE11⟩, mE11, rfl⟩ := q9
      have WE11b := WE11
      obtain ⟨E11c0, E11c1, E11c2, E11c3, E11c4, E11c5, E11c6, E11c7, E11c8⟩ := WE11b
      have lE11 := htL_len HW (Nf (6 * s)).toNat (by omega) (by omega) x y t
      refine ch_Gst (st2 := []) rfl ?_
      refine gx_aload_n 0 dX12_ends_47 rfl rfl ?_
      refine gx_aload_n 0 dX12_ends_48 rfl rfl ?_
      refine gx_iload_n 1 dX12_ends_49 rfl rfl ?_
      refine gx_iconst (iI 1) dX12_ends_50 rfl ?_
      refine gx_callV (ci := 11) (c_X12_number l D cI cL cR lo h7 hi Kf Nf Wf fz n c FB fE11 ff fl (hc + ((htL Kf Nf (Nf (6 * s)).toNat x y t).length : Int)) sc WE11 s 1 (by omega) (by omega)) ok_X12_number mw_3_80 mw_3_82 mw_p_14 dX12_ends_51 rfl E11c0 rfl rfl (Nat.le_of_ble_eq_true rfl) (by first | exact Nat.le_of_ble_eq_true rfl | (simp only [rM]; omega)) (by first | exact Nat.le_of_ble_eq_true rfl | (simp only [rM]; omega)) (by first | exact Nat.le_of_ble_eq_true rfl | (simp only [rM]; omega)) (by first | exact Nat.le_of_ble_eq_true rfl | (simp only [rM]; omega)) (fun r12 h13 u14 q15 g16 => ?_)
      obtain ⟨rfl, rfl, rfl⟩ := q15
      refine ch_Gst (st2 := [.int (iI (Nf (6 * s + 1))), .ref (lo + 17)]) rfl ?_
      refine gx_lload_n 2 dX12_ends_54 rfl rfl ?_
      refine gx_lload 3 dX12_ends_55 rfl ?_
      refine gx_lload 4 dX12_ends_57 rfl ?_
      refine ch_Gst (st2 := [.long (lI t), .long (lI y), .long (lI x), .int (iI ((Nf (6 * s + 1)).toNat : Int)), .ref (lo + 17)]) (by rw [Int.toNat_of_nonneg (show 0 ≤ Nf (6 * s + 1) by omega)]) ?_
      refine gx_callV (ci := 11) (ih (Nf (6 * s + 1)).toNat (by omega) (by omega) (by omega) x y t (by omega) (by omega) (by omega) h7 fE11 (hc + ((htL Kf Nf (Nf (6 * s)).toNat x y t).length : Int)) WE11 (by omega) (by omega)) ok_X12_ends mw_3_112 mw_3_114 mw_p_18 dX12_ends_59 rfl E11c0 rfl rfl (Nat.le_of_ble_eq_true rfl) (by first | exact Nat.le_of_ble_eq_true rfl | (simp only [rM]; omega)) (by first | exact Nat.le_of_ble_eq_true rfl | (simp only [rM]; omega)) (by first | exact Nat.le_of_ble_eq_true rfl | (simp only [rM]; omega)) (by first | exact Nat.le_of_ble_eq_true rfl | (simp only [rM]; omega)) (fun r17 h18 u19 q20 g21 => ?_)
      obtain ⟨rfl, ⟨fE22, WE22, pE22, gE22⟩, mE22, rfl⟩ := q20
      have WE22b := WE22
      obtain ⟨E22c0, E22c1, E22c2, E22c3, E22c4, E22c5, E22c6, E22c7, E22c8⟩ := WE22b
      have lE22 := htL_len HW (Nf (6 * s + 1)).toNat (by omega) (by omega) x y t
      refine ch_Gst (st2 := []) rfl ?_
      refine gx_goto 238 dX12_ends_62 (by decide) ?_
      refine gx_vret rfl dX12_ends_238 (by first | exact Nat.le_of_ble_eq_true rfl | (simp only [rM]; omega)) (by first | exact Nat.le_of_ble_eq_true rfl | (simp only [rM]; omega)) ?_
      refine ⟨rfl, ⟨fE22, ?_, ?_, ?_⟩, fun b hb => by rw [mE22 b hb, mE11 b hb], rfl⟩
      · rw [htL_4 w6_4 (by omega) (by omega), List.length_append, show hc + (((htL Kf Nf (Nf (6 * s)).toNat x y t).length + (htL Kf Nf (Nf (6 * s + 1)).toNat x y t).length : Nat) : Int) = hc + ((htL Kf Nf (Nf (6 * s)).toNat x y t).length : Int) + ((htL Kf Nf (Nf (6 * s + 1)).toNat x y t).length : Int) by omega]; exact WE22
      · intro j hj; rw [pE22 j (by omega)]; exact pE11 j hj
      · rw [htL_4 w6_4 (by omega) (by omega)]
        intro i hi'
        rw [List.length_append] at hi'
        by_cases q : i < (htL Kf Nf (Nf (6 * s)).toNat x y t).length
        · rw [List.getElem?_append_left q, pE22 (hc.toNat + i) (by omega)]; exact gE11 i q
        · rw [List.getElem?_append_right (by omega), gE22 _ (by omega)]; congr 2; omega
    · skip
      by_cases w6_5 : Kf s = 5
      · refine gy_tin 5 w6_5 65 dX12_ends_6 (by decide) (by decide) (by decide) rfl (by decide) ?_
        obtain ⟨a1, a2, m0, m1, m2, hw4⟩ := wfS_5 hwf w6_5
        refine gx_aload_n 0 dX12_ends_65 rfl rfl ?_
        refine gx_aload_n 0 dX12_ends_66 rfl rfl ?_
        refine gx_iload_n 1 dX12_ends_67 rfl rfl ?_
        refine gx_iconst (iI 3) dX12_ends_68 rfl ?_
        refine gx_callV (ci := 11) (c_X12_number l D cI cL cR lo h hi Kf Nf Wf fz n c FB fh ff fl hc sc MM0 s 3 (by omega) (by omega)) ok_X12_number mw_3_80 mw_3_82 mw_p_14 dX12_ends_69 rfl M0 rfl rfl (Nat.le_of_ble_eq_true rfl) (by first | exact Nat.le_of_ble_eq_true rfl | (simp only [rM]; omega)) (by first | exact Nat.le_of_ble_eq_true rfl | (simp only [rM]; omega)) (by first | exact Nat.le_of_ble_eq_true rfl | (simp only [rM]; omega)) (by first | exact Nat.le_of_ble_eq_true rfl | (simp only [rM]; omega)) (fun r23 h24 u25 q26 g27 => ?_)
        obtain ⟨rfl, rfl, rfl⟩ := q26
        refine ch_Gst (st2 := [.int (iI (Nf (6 * s + 3))), .ref (lo + 17)]) rfl ?_
        refine gx_lload_n 2 dX12_ends_72 rfl rfl ?_
        refine gx_aload_n 0 dX12_ends_73 rfl rfl ?_
        refine gx_iload_n 1 dX12_ends_74 rfl rfl ?_
        refine gx_iconst (iI 0) dX12_ends_75 rfl ?_
        refine gx_callV (ci := 11) (c_X12_number l D cI cL cR lo h hi Kf Nf Wf fz n c FB fh ff fl hc sc MM0 s 0 (by omega) (by omega)) ok_X12_number mw_3_80 mw_3_82 mw_p_14 dX12_ends_76 rfl M0 rfl rfl (Nat.le_of_ble_eq_true rfl) (by first | exact Nat.le_of_ble_eq_true rfl | (simp only [rM]; omega)) (by first | exact Nat.le_of_ble_eq_true rfl | (simp only [rM]; omega)) (by first | exact Nat.le_of_ble_eq_true rfl | (simp only [rM]; omega)) (by first | exact Nat.le_of_ble_eq_true rfl | (simp only [rM]; omega)) (fun r28 h29 u30 q31 g32 => ?_)
        obtain ⟨rfl, rfl, rfl⟩ := q31
        refine ch_Gst (st2 := [.int (iI (Nf (6 * s))), .long (lI x), .int (iI (Nf (6 * s + 3))), .ref (lo + 17)]) rfl ?_
        refine gy_i2l dX12_ends_79 (by constructor <;> omega) ?_
        refine gy_lsub dX12_ends_80 ?_
        refine gx_lload 3 dX12_ends_81 rfl ?_
        refine gx_aload_n 0 dX12_ends_83 rfl rfl ?_
        refine gx_iload_n 1 dX12_ends_84 rfl rfl ?_
        refine gx_iconst (iI 1) dX12_ends_85 rfl ?_
        refine gx_callV (ci := 11) (c_X12_number l D cI cL cR lo h hi Kf Nf Wf fz n c FB fh ff fl hc sc MM0 s 1 (by omega) (by omega)) ok_X12_number mw_3_80 mw_3_82 mw_p_14 dX12_ends_86 rfl M0 rfl rfl (Nat.le_of_ble_eq_true rfl) (by first | exact Nat.le_of_ble_eq_true rfl | (simp only [rM]; omega)) (by first | exact Nat.le_of_ble_eq_true rfl | (simp only [rM]; omega)) (by first | exact Nat.le_of_ble_eq_true rfl | (simp only [rM]; omega)) (by first | exact Nat.le_of_ble_eq_true rfl | (simp only [rM]; omega)) (fun r33 h34 u35 q36 g37 => ?_)
        obtain ⟨rfl, rfl, rfl⟩ := q36
        refine ch_Gst (st2 := [.int (iI (Nf (6 * s + 1))), .long (lI y), .long (lI (x - (Nf (6 * s)))), .int (iI (Nf (6 * s + 3))), .ref (lo + 17)]) rfl ?_
        refine gy_i2l dX12_ends_89 (by constructor <;> omega) ?_
        refine gy_lsub dX12_ends_90 ?_
        refine gx_lload 4 dX12_ends_91 rfl ?_
        refine gx_aload_n 0 dX12_ends_93 rfl rfl ?_
        refine gx_iload_n 1 dX12_ends_94 rfl rfl ?_
        refine gx_iconst (iI 2) dX12_ends_95 rfl ?_
        refine gx_callV (ci := 11) (c_X12_number l D cI cL cR lo h hi Kf Nf Wf fz n c FB fh ff fl hc sc MM0 s 2 (by omega) (by omega)) ok_X12_number mw_3_80 mw_3_82 mw_p_14 dX12_ends_96 rfl M0 rfl rfl (Nat.le_of_ble_eq_true rfl) (by first | exact Nat.le_of_ble_eq_true rfl | (simp only [rM]; omega)) (by first | exact Nat.le_of_ble_eq_true rfl | (simp only [rM]; omega)) (by first | exact Nat.le_of_ble_eq_true rfl | (simp only [rM]; omega)) (by first | exact Nat.le_of_ble_eq_true rfl | (simp only [rM]; omega)) (fun r38 h39 u40 q41 g42 => ?_)
        obtain ⟨rfl, rfl, rfl⟩ := q41
        refine ch_Gst (st2 := [.int (iI (Nf (6 * s + 2))), .long (lI t), .long (lI (y - (Nf (6 * s + 1)))), .long (lI (x - (Nf (6 * s)))), .int (iI (Nf (6 * s + 3))), .ref (lo + 17)]) rfl ?_
        refine gy_i2l dX12_ends_99 (by constructor <;> omega) ?_
        refine gy_ladd dX12_ends_100 ?_
        refine ch_Gst (st2 := [.long (lI (t + (Nf (6 * s + 2)))), .long (lI (y - (Nf (6 * s + 1)))), .long (lI (x - (Nf (6 * s)))), .int (iI ((Nf (6 * s + 3)).toNat : Int)), .ref (lo + 17)]) (by rw [Int.toNat_of_nonneg (show 0 ≤ Nf (6 * s + 3) by omega)]) ?_
        refine gx_callV (ci := 11) (ih (Nf (6 * s + 3)).toNat (by omega) (by omega) (by omega) (x - (Nf (6 * s))) (y - (Nf (6 * s + 1))) (t + (Nf (6 * s + 2))) (by omega) (by omega) (by omega) h fh hc MM0 (by omega) (by omega)) ok_X12_ends mw_3_112 mw_3_114 mw_p_18 dX12_ends_101 rfl M0 rfl rfl (Nat.le_of_ble_eq_true rfl) (by first | exact Nat.le_of_ble_eq_true rfl | (simp only [rM]; omega)) (by first | exact Nat.le_of_ble_eq_true rfl | (simp only [rM]; omega)) (by first | exact Nat.le_of_ble_eq_true rfl | (simp only [rM]; omega)) (by first | exact Nat.le_of_ble_eq_true rfl | (simp only [rM]; omega)) (fun r43 h44 u45 q46 g47 => ?_)
        obtain ⟨rfl, ⟨fE48, WE48, pE48, gE48⟩, mE48, rfl⟩ := q46
        have WE48b := WE48
        obtain ⟨E48c0, E48c1, E48c2, E48c3, E48c4, E48c5, E48c6, E48c7, E48c8⟩ := WE48b
        have lE48 := htL_len HW (Nf (6 * s + 3)).toNat (by omega) (by omega) (x - (Nf (6 * s))) (y - (Nf (6 * s + 1))) (t + (Nf (6 * s + 2)))
        refine ch_Gst (st2 := []) rfl ?_
        refine gx_goto 238 dX12_ends_104 (by decide) ?_
        refine gx_vret rfl dX12_ends_238 (by first | exact Nat.le_of_ble_eq_true rfl | (simp only [rM]; omega)) (by first | exact Nat.le_of_ble_eq_true rfl | (simp only [rM]; omega)) ?_
        refine ⟨rfl, ⟨fE48, ?_, pE48, ?_⟩, fun b hb => by rw [mE48 b hb], rfl⟩
        · rw [htL_5 w6_5 (by omega)]; exact WE48
        · rw [htL_5 w6_5 (by omega)]; exact gE48
      · skip
        by_cases w6_6 : Kf s = 6
        · refine gy_tin 6 w6_6 107 dX12_ends_6 (by decide) (by decide) (by decide) rfl (by decide) ?_
          obtain ⟨a1, a2, hw4⟩ := wfS_6 hwf w6_6
          refine gx_aload_n 0 dX12_ends_107 rfl rfl ?_
          refine gx_aload_n 0 dX12_ends_108 rfl rfl ?_
          refine gx_iload_n 1 dX12_ends_109 rfl rfl ?_
          refine gx_iconst (iI 0) dX12_ends_110 rfl ?_
          refine gx_callV (ci := 11) (c_X12_number l D cI cL cR lo h hi Kf Nf Wf fz n c FB fh ff fl hc sc MM0 s 0 (by omega) (by omega)) ok_X12_number mw_3_80 mw_3_82 mw_p_14 dX12_ends_111 rfl M0 rfl rfl (Nat.le_of_ble_eq_true rfl) (by first | exact Nat.le_of_ble_eq_true rfl | (simp only [rM]; omega)) (by first | exact Nat.le_of_ble_eq_true rfl | (simp only [rM]; omega)) (by first | exact Nat.le_of_ble_eq_true rfl | (simp only [rM]; omega)) (by first | exact Nat.le_of_ble_eq_true rfl | (simp only [rM]; omega)) (fun r49 h50 u51 q52 g53 => ?_)
          obtain ⟨rfl, rfl, rfl⟩ := q52
          refine ch_Gst (st2 := [.int (iI (Nf (6 * s))), .ref (lo + 17)]) rfl ?_
          refine gx_lload 3 dX12_ends_114 rfl ?_
          refine gx_lload_n 2 dX12_ends_116 rfl rfl ?_
          refine gy_lneg dX12_ends_117 ?_
          refine gx_lload 4 dX12_ends_118 rfl ?_
          refine ch_Gst (st2 := [.long (lI t), .long (lI (-x)), .long (lI y), .int (iI ((Nf (6 * s)).toNat : Int)), .ref (lo + 17)]) (by rw [Int.toNat_of_nonneg (show 0 ≤ Nf (6 * s) by omega)]) ?_
          refine gx_callV (ci := 11) (ih (Nf (6 * s)).toNat (by omega) (by omega) (by omega) y (-x) t (by omega) (by omega) (by omega) h fh hc MM0 (by omega) (by omega)) ok_X12_ends mw_3_112 mw_3_114 mw_p_18 dX12_ends_120 rfl M0 rfl rfl (Nat.le_of_ble_eq_true rfl) (by first | exact Nat.le_of_ble_eq_true rfl | (simp only [rM]; omega)) (by first | exact Nat.le_of_ble_eq_true rfl | (simp only [rM]; omega)) (by first | exact Nat.le_of_ble_eq_true rfl | (simp only [rM]; omega)) (by first | exact Nat.le_of_ble_eq_true rfl | (simp only [rM]; omega)) (fun r54 h55 u56 q57 g58 => ?_)
          obtain ⟨rfl, ⟨fE59, WE59, pE59, gE59⟩, mE59, rfl⟩ := q57
          have WE59b := WE59
          obtain ⟨E59c0, E59c1, E59c2, E59c3, E59c4, E59c5, E59c6, E59c7, E59c8⟩ := WE59b
          have lE59 := htL_len HW (Nf (6 * s)).toNat (by omega) (by omega) y (-x) t
          refine ch_Gst (st2 := []) rfl ?_
          refine gx_goto 238 dX12_ends_123 (by decide) ?_
          refine gx_vret rfl dX12_ends_238 (by first | exact Nat.le_of_ble_eq_true rfl | (simp only [rM]; omega)) (by first | exact Nat.le_of_ble_eq_true rfl | (simp only [rM]; omega)) ?_
          refine ⟨rfl, ⟨fE59, ?_, pE59, ?_⟩, fun b hb => by rw [mE59 b hb], rfl⟩
          · rw [htL_6 w6_6 (by omega)]; exact WE59
          · rw [htL_6 w6_6 (by omega)]; exact gE59
        · skip
          refine gy_tout 126 dX12_ends_6 (by constructor <;> omega) (by omega) (by decide) ?_
          obtain ⟨hk3, hw3, hN, hr1, hr2⟩ := wfS_k hwf (by omega) (by omega) (by omega)
          have n2 := hN 2 (by omega)
          have n3 := hN 3 (by omega)
          obtain ⟨a, b, ke, ki, kc⟩ := kd hk3 hN hr1 hr2 x y
          refine gx_aload_n 0 dX12_ends_126 rfl rfl ?_
          refine gx_get (ci := 11) (f := 0) (C := RX12) (T := TX12) (N := 12) rfl inX12 (by decide) mw_3_1 dX12_ends_127 M0 rfl ?_
          refine gx_iload_n 1 dX12_ends_130 rfl rfl ?_
          refine gy_iald dX12_ends_131 M1 (by omega) (by omega) (by decide) ?_
          refine ch_Gst (st2 := [.int (iI (Kf s))]) (by rw [Int.toNat_natCast]; try rfl) ?_
          refine gx_iconst (iI 1) dX12_ends_132 rfl ?_
          refine gy_icmp_eq 146 dX12_ends_133 (by decide) (by constructor <;> omega) (by decide) (fun c133 => ?_) (fun c133 => ?_)
          · refine gx_aload_n 0 dX12_ends_146 rfl rfl ?_
            refine gx_iload_n 1 dX12_ends_147 rfl rfl ?_
            refine gx_iconst (iI 3) dX12_ends_148 rfl ?_
            refine gx_callV (ci := 11) (c_X12_number l D cI cL cR lo h hi Kf Nf Wf fz n c FB fh ff fl hc sc MM0 s 3 (by omega) (by omega)) ok_X12_number mw_3_80 mw_3_82 mw_p_14 dX12_ends_149 rfl M0 rfl rfl (Nat.le_of_ble_eq_true rfl) (by first | exact Nat.le_of_ble_eq_true rfl | (simp only [rM]; omega)) (by first | exact Nat.le_of_ble_eq_true rfl | (simp only [rM]; omega)) (by first | exact Nat.le_of_ble_eq_true rfl | (simp only [rM]; omega)) (by first | exact Nat.le_of_ble_eq_true rfl | (simp only [rM]; omega)) (fun r60 h61 u62 q63 g64 => ?_)
            obtain ⟨rfl, rfl, rfl⟩ := q63
            refine ch_Gst (st2 := [.int (iI (Nf (6 * s + 3)))]) rfl ?_
            refine gy_i2l dX12_ends_152 (by constructor <;> omega) ?_
            refine gx_goto 163 dX12_ends_153 (by decide) ?_
            refine gx_lstore [(8, .long (lI (Nf (6 * s + 3)))), (0, .ref (lo + 17)), (1, .int (iI (s : Int))), (2, .long (lI x)), (4, .long (lI y)), (6, .long (lI t))] dX12_ends_163 (by decide) rfl ?_
            have efr : frK Kf Nf s = Nf (6 * s + 3) := by unfold frK; rw [if_pos (by omega)]
            refine gx_aload_n 1 dX12_ends_165 rfl rfl ?_
            refine gx_iload_n 2 dX12_ends_166 rfl rfl ?_
            refine gx_lload_n 3 dX12_ends_167 rfl rfl ?_
            refine gx_lload 4 dX12_ends_168 rfl ?_
            refine gx_lload 0 dX12_ends_170 rfl ?_
            refine gx_callV (ci := 11) (c_X12_isInKind l D cI cL cR lo h hi Kf Nf Wf fz n c FB fh ff fl hc sc MM0 s (by omega) hk3 hN x y (Nf (6 * s + 3)) (by omega) (by omega) (by omega)) ok_X12_isInKind mw_3_84 mw_3_86 mw_p_15 dX12_ends_172 rfl M0 rfl rfl (Nat.le_of_ble_eq_true rfl) (by first | exact Nat.le_of_ble_eq_true rfl | (simp only [rM]; omega)) (by first | exact Nat.le_of_ble_eq_true rfl | (simp only [rM]; omega)) (by first | exact Nat.le_of_ble_eq_true rfl | (simp only [rM]; omega)) (by first | exact Nat.le_of_ble_eq_true rfl | (simp only [rM]; omega)) (fun r65 h66 u67 q68 g69 => ?_)
            obtain ⟨rfl, rfl, rfl⟩ := q68
            refine ch_Gst (st2 := [.int (iI (bI (ikB Kf Nf s x y (Nf (6 * s + 3)))))]) rfl ?_
            refine gy_if_ne 181 dX12_ends_175 (by decide) ir_bI (fun c175 => ?_) (fun c175 => ?_)
            · refine gx_aload_n 1 dX12_ends_181 rfl rfl ?_
              refine gx_iload_n 2 dX12_ends_182 rfl rfl ?_
              refine gx_lload_n 3 dX12_ends_183 rfl rfl ?_
              refine gx_lload 4 dX12_ends_184 rfl ?_
              refine gx_lload 0 dX12_ends_186 rfl ?_
              have hin := (ki (Nf (6 * s + 3))).mp (bI_1 c175)
              have kc2 := kc (by omega)
              rw [efr] at kc2
              refine gx_callV (ci := 11) (c_X12_last l D cI cL cR lo h hi Kf Nf Wf fz n c FB fh ff fl hc sc MM0 s (by omega) hk3 hN x y (by omega) (by omega) (Nf (6 * s + 3)) (by omega) (bI_1 c175) (fun m m2 q1 q2 q3 => (ki m).mpr ⟨by omega, by have := (ki m2).mp q3; omega⟩)) ok_X12_last mw_3_116 mw_3_118 mw_p_19 dX12_ends_188 rfl M0 rfl rfl (Nat.le_of_ble_eq_true rfl) (by first | exact Nat.le_of_ble_eq_true rfl | (simp only [rM]; omega)) (by first | exact Nat.le_of_ble_eq_true rfl | (simp only [rM]; omega)) (by first | exact Nat.le_of_ble_eq_true rfl | (simp only [rM]; omega)) (by first | exact Nat.le_of_ble_eq_true rfl | (simp only [rM]; omega)) (fun r70 h71 u72 q73 g74 => ?_)
              obtain ⟨⟨r, rfl, r1, r2, r3, r4⟩, rfl, rfl⟩ := q73
              have eb : b = r + 1 := by
                have q1 := (ki r).mp r3
                by_cases q2 : r + 1 < b
                · exact absurd ((ki (r + 1)).mpr ⟨by omega, q2⟩) (by rw [r4 (r + 1) (by omega) (by omega)]; decide)
                · omega
              refine ch_Gst (st2 := [.long (lI r)]) rfl ?_
              refine gx_lstore [(10, .long (lI r)), (8, .long (lI (Nf (6 * s + 3)))), (0, .ref (lo + 17)), (1, .int (iI (s : Int))), (2, .long (lI x)), (4, .long (lI y)), (6, .long (lI t))] dX12_ends_191 (by decide) rfl ?_
              refine gx_aload_n 2 dX12_ends_193 rfl rfl ?_
              refine gx_aload_n 2 dX12_ends_194 rfl rfl ?_
              refine gx_get (ci := 11) (f := 0) (C := RX12) (T := TX12) (N := 12) rfl inX12 (by decide) mw_3_1 dX12_ends_195 M0 rfl ?_
              refine gx_iload_n 3 dX12_ends_198 rfl rfl ?_
              refine gy_iald dX12_ends_199 M1 (by omega) (by omega) (by decide) ?_
              refine ch_Gst (st2 := [.int (iI (Kf s)), .ref (lo + 17)]) (by rw [Int.toNat_natCast]; try rfl) ?_
              refine gx_iconst (iI 2) dX12_ends_200 rfl ?_
              refine gy_icmp_ne 216 dX12_ends_201 (by decide) (by constructor <;> omega) (by decide) (fun c201 => ?_) (fun c201 => ?_)
              · refine gx_lload 1 dX12_ends_216 rfl ?_
                refine gx_lload 6 dX12_ends_218 rfl ?_
                refine gy_ladd dX12_ends_220 ?_
                refine gx_callV (ci := 11) (c_X12_height l D cI cL cR lo h hi Kf Nf Wf fz n c FB fh ff fl hc sc MM0 (by omega) ((Nf (6 * s + 3)) + t)) ok_X12_height mw_3_122 mw_3_124 mw_p_20 dX12_ends_221 rfl M0 rfl rfl (Nat.le_of_ble_eq_true rfl) (by first | exact Nat.le_of_ble_eq_true rfl | (simp only [rM]; omega)) (by first | exact Nat.le_of_ble_eq_true rfl | (simp only [rM]; omega)) (by first | exact Nat.le_of_ble_eq_true rfl | (simp only [rM]; omega)) (by first | exact Nat.le_of_ble_eq_true rfl | (simp only [rM]; omega)) (fun r75 h76 u77 q78 g79 => ?_)
                obtain ⟨rfl, WE80, mE80, rfl⟩ := q78
                have WE80b := WE80
                obtain ⟨E80c0, E80c1, E80c2, E80c3, E80c4, E80c5, E80c6, E80c7, E80c8⟩ := WE80b
                refine ch_Gst (st2 := []) rfl ?_
                refine gx_aload_n 2 dX12_ends_224 rfl rfl ?_
                refine gx_lload 0 dX12_ends_225 rfl ?_
                refine gx_lconst (lI 1) dX12_ends_227 rfl ?_
                refine gy_ladd dX12_ends_228 ?_
                refine gx_lload 6 dX12_ends_229 rfl ?_
                refine gy_ladd dX12_ends_231 ?_
                refine gx_callV (ci := 11) (c_X12_height l D cI cL cR lo h76 hi Kf Nf Wf fz n c FB (updI fh hc.toNat ((Nf (6 * s + 3)) + t)) ff fl (hc + 1) sc WE80 (by omega) ((r + 1) + t)) ok_X12_height mw_3_122 mw_3_124 mw_p_20 dX12_ends_232 rfl E80c0 rfl rfl (Nat.le_of_ble_eq_true rfl) (by first | exact Nat.le_of_ble_eq_true rfl | (simp only [rM]; omega)) (by first | exact Nat.le_of_ble_eq_true rfl | (simp only [rM]; omega)) (by first | exact Nat.le_of_ble_eq_true rfl | (simp only [rM]; omega)) (by first | exact Nat.le_of_ble_eq_true rfl | (simp only [rM]; omega)) (fun r81 h82 u83 q84 g85 => ?_)
                obtain ⟨rfl, WE86, mE86, rfl⟩ := q84
                have WE86b := WE86
                obtain ⟨E86c0, E86c1, E86c2, E86c3, E86c4, E86c5, E86c6, E86c7, E86c8⟩ := WE86b
                refine ch_Gst (st2 := []) rfl ?_
                refine gx_goto 238 dX12_ends_235 (by decide) ?_
                refine gx_vret rfl dX12_ends_238 (by first | exact Nat.le_of_ble_eq_true rfl | (simp only [rM]; omega)) (by first | exact Nat.le_of_ble_eq_true rfl | (simp only [rM]; omega)) ?_
                have el : htL Kf Nf s x y t = [(Nf (6 * s + 3)) + t, (r + 1) + t] := by rw [htL_k hk3.2, ke, seg, if_pos (by omega), show a + t = (Nf (6 * s + 3)) + t by omega, show b + t = (r + 1) + t by omega]
                rw [el, show hc + (([(Nf (6 * s + 3)) + t, (r + 1) + t] : List Int).length : Int) = hc + 1 + 1 by simp only [List.length_cons, List.length_nil]; omega]
                refine ⟨rfl, ⟨_, WE86, ?_, ?_⟩, fun b hb => by rw [mE86 b hb, mE80 b hb], rfl⟩
                · intro j hj; rw [updI_n (by omega), updI_n (by omega)]
                · intro i hi'
                  simp only [List.length_cons, List.length_nil] at hi'
                  by_cases q : i = 0
                  · rw [q, updI_n (by omega), show hc.toNat + 0 = hc.toNat by omega, updI_s]; rfl
                  · rw [show i = 1 by omega, show hc.toNat + 1 = (hc + 1).toNat by omega, updI_s]; rfl
              · refine gx_ldc2 (lI 2) (by rw [show lI 2 = (2 : Int64) by decide]; exact mw_3_121) dX12_ends_204 ?_
                refine gx_lload 1 dX12_ends_207 rfl ?_
                refine gy_lmul dX12_ends_209 ?_
                refine gx_lload 0 dX12_ends_210 rfl ?_
                refine gy_lsub dX12_ends_212 ?_
                refine gx_goto 218 dX12_ends_213 (by decide) ?_
                refine gx_lload 6 dX12_ends_218 rfl ?_
                refine gy_ladd dX12_ends_220 ?_
                refine gx_callV (ci := 11) (c_X12_height l D cI cL cR lo h hi Kf Nf Wf fz n c FB fh ff fl hc sc MM0 (by omega) (((2 * (Nf (6 * s + 3))) - r) + t)) ok_X12_height mw_3_122 mw_3_124 mw_p_20 dX12_ends_221 rfl M0 rfl rfl (Nat.le_of_ble_eq_true rfl) (by first | exact Nat.le_of_ble_eq_true rfl | (simp only [rM]; omega)) (by first | exact Nat.le_of_ble_eq_true rfl | (simp only [rM]; omega)) (by first | exact Nat.le_of_ble_eq_true rfl | (simp only [rM]; omega)) (by first | exact Nat.le_of_ble_eq_true rfl | (simp only [rM]; omega)) (fun r87 h88 u89 q90 g91 => ?_)
                obtain ⟨rfl, WE92, mE92, rfl⟩ := q90
                have WE92b := WE92
                obtain ⟨E92c0, E92c1, E92c2, E92c3, E92c4, E92c5, E92c6, E92c7, E92c8⟩ := WE92b
                refine ch_Gst (st2 := []) rfl ?_
                refine gx_aload_n 2 dX12_ends_224 rfl rfl ?_
                refine gx_lload 0 dX12_ends_225 rfl ?_
                refine gx_lconst (lI 1) dX12_ends_227 rfl ?_
                refine gy_ladd dX12_ends_228 ?_
                refine gx_lload 6 dX12_ends_229 rfl ?_
                refine gy_ladd dX12_ends_231 ?_
                refine gx_callV (ci := 11) (c_X12_height l D cI cL cR lo h88 hi Kf Nf Wf fz n c FB (updI fh hc.toNat (((2 * (Nf (6 * s + 3))) - r) + t)) ff fl (hc + 1) sc WE92 (by omega) ((r + 1) + t)) ok_X12_height mw_3_122 mw_3_124 mw_p_20 dX12_ends_232 rfl E92c0 rfl rfl (Nat.le_of_ble_eq_true rfl) (by first | exact Nat.le_of_ble_eq_true rfl | (simp only [rM]; omega)) (by first | exact Nat.le_of_ble_eq_true rfl | (simp only [rM]; omega)) (by first | exact Nat.le_of_ble_eq_true rfl | (simp only [rM]; omega)) (by first | exact Nat.le_of_ble_eq_true rfl | (simp only [rM]; omega)) (fun r93 h94 u95 q96 g97 => ?_)
                obtain ⟨rfl, WE98, mE98, rfl⟩ := q96
                have WE98b := WE98
                obtain ⟨E98c0, E98c1, E98c2, E98c3, E98c4, E98c5, E98c6, E98c7, E98c8⟩ := WE98b
                refine ch_Gst (st2 := []) rfl ?_
                refine gx_goto 238 dX12_ends_235 (by decide) ?_
                refine gx_vret rfl dX12_ends_238 (by first | exact Nat.le_of_ble_eq_true rfl | (simp only [rM]; omega)) (by first | exact Nat.le_of_ble_eq_true rfl | (simp only [rM]; omega)) ?_
                have el : htL Kf Nf s x y t = [((2 * (Nf (6 * s + 3))) - r) + t, (r + 1) + t] := by rw [htL_k hk3.2, ke, seg, if_pos (by omega), show a + t = ((2 * (Nf (6 * s + 3))) - r) + t by omega, show b + t = (r + 1) + t by omega]
                rw [el, show hc + (([((2 * (Nf (6 * s + 3))) - r) + t, (r + 1) + t] : List Int).length : Int) = hc + 1 + 1 by simp only [List.length_cons, List.length_nil]; omega]
                refine ⟨rfl, ⟨_, WE98, ?_, ?_⟩, fun b hb => by rw [mE98 b hb, mE92 b hb], rfl⟩
                · intro j hj; rw [updI_n (by omega), updI_n (by omega)]
                · intro i hi'
                  simp only [List.length_cons, List.length_nil] at hi'
                  by_cases q : i = 0
                  · rw [q, updI_n (by omega), show hc.toNat + 0 = hc.toNat by omega, updI_s]; rfl
                  · rw [show i = 1 by omega, show hc.toNat + 1 = (hc + 1).toNat by omega, updI_s]; rfl
            · refine gx_goto 238 dX12_ends_178 (by decide) ?_
              refine gx_vret rfl dX12_ends_238 (by first | exact Nat.le_of_ble_eq_true rfl | (simp only [rM]; omega)) (by first | exact Nat.le_of_ble_eq_true rfl | (simp only [rM]; omega)) ?_
              have hno : ¬ a < b := fun q => by
                have kc2 := kc q
                rw [efr] at kc2
                exact absurd ((ki _).mpr ⟨kc2.1, kc2.2.1⟩) (by rw [bI_0 c175]; decide)
              have el : htL Kf Nf s x y t = [] := by rw [htL_k hk3.2, ke, seg_e hno]
              rw [el]
              exact ⟨rfl, ⟨fh, by rw [show hc + (([] : List Int).length : Int) = hc by simp]; exact MM0, fun _ _ => rfl, fun i hi' => absurd hi' (by simp)⟩, fun b _ => rfl, rfl⟩
          · refine gx_aload_n 0 dX12_ends_136 rfl rfl ?_
            refine gx_get (ci := 11) (f := 0) (C := RX12) (T := TX12) (N := 12) rfl inX12 (by decide) mw_3_1 dX12_ends_137 M0 rfl ?_
            refine gx_iload_n 1 dX12_ends_140 rfl rfl ?_
            refine gy_iald dX12_ends_141 M1 (by omega) (by omega) (by decide) ?_
            refine ch_Gst (st2 := [.int (iI (Kf s))]) (by rw [Int.toNat_natCast]; try rfl) ?_
            refine gx_iconst (iI 3) dX12_ends_142 rfl ?_
            refine gy_icmp_ne 156 dX12_ends_143 (by decide) (by constructor <;> omega) (by decide) (fun c143 => ?_) (fun c143 => ?_)
            · refine gx_aload_n 0 dX12_ends_156 rfl rfl ?_
              refine gx_iload_n 1 dX12_ends_157 rfl rfl ?_
              refine gx_iconst (iI 2) dX12_ends_158 rfl ?_
              refine gx_callV (ci := 11) (c_X12_number l D cI cL cR lo h hi Kf Nf Wf fz n c FB fh ff fl hc sc MM0 s 2 (by omega) (by omega)) ok_X12_number mw_3_80 mw_3_82 mw_p_14 dX12_ends_159 rfl M0 rfl rfl (Nat.le_of_ble_eq_true rfl) (by first | exact Nat.le_of_ble_eq_true rfl | (simp only [rM]; omega)) (by first | exact Nat.le_of_ble_eq_true rfl | (simp only [rM]; omega)) (by first | exact Nat.le_of_ble_eq_true rfl | (simp only [rM]; omega)) (by first | exact Nat.le_of_ble_eq_true rfl | (simp only [rM]; omega)) (fun r99 h100 u101 q102 g103 => ?_)
              obtain ⟨rfl, rfl, rfl⟩ := q102
              refine ch_Gst (st2 := [.int (iI (Nf (6 * s + 2)))]) rfl ?_
              refine gy_i2l dX12_ends_162 (by constructor <;> omega) ?_
              refine gx_lstore [(8, .long (lI (Nf (6 * s + 2)))), (0, .ref (lo + 17)), (1, .int (iI (s : Int))), (2, .long (lI x)), (4, .long (lI y)), (6, .long (lI t))] dX12_ends_163 (by decide) rfl ?_
              have efr : frK Kf Nf s = Nf (6 * s + 2) := by unfold frK; rw [if_neg (by omega)]
              refine gx_aload_n 1 dX12_ends_165 rfl rfl ?_
              refine gx_iload_n 2 dX12_ends_166 rfl rfl ?_
              refine gx_lload_n 3 dX12_ends_167 rfl rfl ?_
              refine gx_lload 4 dX12_ends_168 rfl ?_
              refine gx_lload 0 dX12_ends_170 rfl ?_
              refine gx_callV (ci := 11) (c_X12_isInKind l D cI cL cR lo h hi Kf Nf Wf fz n c FB fh ff fl hc sc MM0 s (by omega) hk3 hN x y (Nf (6 * s + 2)) (by omega) (by omega) (by omega)) ok_X12_isInKind mw_3_84 mw_3_86 mw_p_15 dX12_ends_172 rfl M0 rfl rfl (Nat.le_of_ble_eq_true rfl) (by first | exact Nat.le_of_ble_eq_true rfl | (simp only [rM]; omega)) (by first | exact Nat.le_of_ble_eq_true rfl | (simp only [rM]; omega)) (by first | exact Nat.le_of_ble_eq_true rfl | (simp only [rM]; omega)) (by first | exact Nat.le_of_ble_eq_true rfl | (simp only [rM]; omega)) (fun r104 h105 u106 q107 g108 => ?_)
              obtain ⟨rfl, rfl, rfl⟩ := q107
              refine ch_Gst (st2 := [.int (iI (bI (ikB Kf Nf s x y (Nf (6 * s + 2)))))]) rfl ?_
              refine gy_if_ne 181 dX12_ends_175 (by decide) ir_bI (fun c175 => ?_) (fun c175 => ?_)
              · refine gx_aload_n 1 dX12_ends_181 rfl rfl ?_
                refine gx_iload_n 2 dX12_ends_182 rfl rfl ?_
                refine gx_lload_n 3 dX12_ends_183 rfl rfl ?_
                refine gx_lload 4 dX12_ends_184 rfl ?_
                refine gx_lload 0 dX12_ends_186 rfl ?_
                have hin := (ki (Nf (6 * s + 2))).mp (bI_1 c175)
                have kc2 := kc (by omega)
                rw [efr] at kc2
                refine gx_callV (ci := 11) (c_X12_last l D cI cL cR lo h hi Kf Nf Wf fz n c FB fh ff fl hc sc MM0 s (by omega) hk3 hN x y (by omega) (by omega) (Nf (6 * s + 2)) (by omega) (bI_1 c175) (fun m m2 q1 q2 q3 => (ki m).mpr ⟨by omega, by have := (ki m2).mp q3; omega⟩)) ok_X12_last mw_3_116 mw_3_118 mw_p_19 dX12_ends_188 rfl M0 rfl rfl (Nat.le_of_ble_eq_true rfl) (by first | exact Nat.le_of_ble_eq_true rfl | (simp only [rM]; omega)) (by first | exact Nat.le_of_ble_eq_true rfl | (simp only [rM]; omega)) (by first | exact Nat.le_of_ble_eq_true rfl | (simp only [rM]; omega)) (by first | exact Nat.le_of_ble_eq_true rfl | (simp only [rM]; omega)) (fun r109 h110 u111 q112 g113 => ?_)
                obtain ⟨⟨r, rfl, r1, r2, r3, r4⟩, rfl, rfl⟩ := q112
                have eb : b = r + 1 := by
                  have q1 := (ki r).mp r3
                  by_cases q2 : r + 1 < b
                  · exact absurd ((ki (r + 1)).mpr ⟨by omega, q2⟩) (by rw [r4 (r + 1) (by omega) (by omega)]; decide)
                  · omega
                refine ch_Gst (st2 := [.long (lI r)]) rfl ?_
                refine gx_lstore [(10, .long (lI r)), (8, .long (lI (Nf (6 * s + 2)))), (0, .ref (lo + 17)), (1, .int (iI (s : Int))), (2, .long (lI x)), (4, .long (lI y)), (6, .long (lI t))] dX12_ends_191 (by decide) rfl ?_
                refine gx_aload_n 2 dX12_ends_193 rfl rfl ?_
                refine gx_aload_n 2 dX12_ends_194 rfl rfl ?_
                refine gx_get (ci := 11) (f := 0) (C := RX12) (T := TX12) (N := 12) rfl inX12 (by decide) mw_3_1 dX12_ends_195 M0 rfl ?_
                refine gx_iload_n 3 dX12_ends_198 rfl rfl ?_
                refine gy_iald dX12_ends_199 M1 (by omega) (by omega) (by decide) ?_
                refine ch_Gst (st2 := [.int (iI (Kf s)), .ref (lo + 17)]) (by rw [Int.toNat_natCast]; try rfl) ?_
                refine gx_iconst (iI 2) dX12_ends_200 rfl ?_
                refine gy_icmp_ne 216 dX12_ends_201 (by decide) (by constructor <;> omega) (by decide) (fun c201 => ?_) (fun c201 => ?_)
                · refine gx_lload 1 dX12_ends_216 rfl ?_
                  refine gx_lload 6 dX12_ends_218 rfl ?_
                  refine gy_ladd dX12_ends_220 ?_
                  refine gx_callV (ci := 11) (c_X12_height l D cI cL cR lo h hi Kf Nf Wf fz n c FB fh ff fl hc sc MM0 (by omega) ((Nf (6 * s + 2)) + t)) ok_X12_height mw_3_122 mw_3_124 mw_p_20 dX12_ends_221 rfl M0 rfl rfl (Nat.le_of_ble_eq_true rfl) (by first | exact Nat.le_of_ble_eq_true rfl | (simp only [rM]; omega)) (by first | exact Nat.le_of_ble_eq_true rfl | (simp only [rM]; omega)) (by first | exact Nat.le_of_ble_eq_true rfl | (simp only [rM]; omega)) (by first | exact Nat.le_of_ble_eq_true rfl | (simp only [rM]; omega)) (fun r114 h115 u116 q117 g118 => ?_)
                  obtain ⟨rfl, WE119, mE119, rfl⟩ := q117
                  have WE119b := WE119
                  obtain ⟨E119c0, E119c1, E119c2, E119c3, E119c4, E119c5, E119c6, E119c7, E119c8⟩ := WE119b
                  refine ch_Gst (st2 := []) rfl ?_
                  refine gx_aload_n 2 dX12_ends_224 rfl rfl ?_
                  refine gx_lload 0 dX12_ends_225 rfl ?_
                  refine gx_lconst (lI 1) dX12_ends_227 rfl ?_
                  refine gy_ladd dX12_ends_228 ?_
                  refine gx_lload 6 dX12_ends_229 rfl ?_
                  refine gy_ladd dX12_ends_231 ?_
                  refine gx_callV (ci := 11) (c_X12_height l D cI cL cR lo h115 hi Kf Nf Wf fz n c FB (updI fh hc.toNat ((Nf (6 * s + 2)) + t)) ff fl (hc + 1) sc WE119 (by omega) ((r + 1) + t)) ok_X12_height mw_3_122 mw_3_124 mw_p_20 dX12_ends_232 rfl E119c0 rfl rfl (Nat.le_of_ble_eq_true rfl) (by first | exact Nat.le_of_ble_eq_true rfl | (simp only [rM]; omega)) (by first | exact Nat.le_of_ble_eq_true rfl | (simp only [rM]; omega)) (by first | exact Nat.le_of_ble_eq_true rfl | (simp only [rM]; omega)) (by first | exact Nat.le_of_ble_eq_true rfl | (simp only [rM]; omega)) (fun r120 h121 u122 q123 g124 => ?_)
                  obtain ⟨rfl, WE125, mE125, rfl⟩ := q123
                  have WE125b := WE125
                  obtain ⟨E125c0, E125c1, E125c2, E125c3, E125c4, E125c5, E125c6, E125c7, E125c8⟩ := WE125b
                  refine ch_Gst (st2 := []) rfl ?_
                  refine gx_goto 238 dX12_ends_235 (by decide) ?_
                  refine gx_vret rfl dX12_ends_238 (by first | exact Nat.le_of_ble_eq_true rfl | (simp only [rM]; omega)) (by first | exact Nat.le_of_ble_eq_true rfl | (simp only [rM]; omega)) ?_
                  have el : htL Kf Nf s x y t = [(Nf (6 * s + 2)) + t, (r + 1) + t] := by rw [htL_k hk3.2, ke, seg, if_pos (by omega), show a + t = (Nf (6 * s + 2)) + t by omega, show b + t = (r + 1) + t by omega]
                  rw [el, show hc + (([(Nf (6 * s + 2)) + t, (r + 1) + t] : List Int).length : Int) = hc + 1 + 1 by simp only [List.length_cons, List.length_nil]; omega]
                  refine ⟨rfl, ⟨_, WE125, ?_, ?_⟩, fun b hb => by rw [mE125 b hb, mE119 b hb], rfl⟩
                  · intro j hj; rw [updI_n (by omega), updI_n (by omega)]
                  · intro i hi'
                    simp only [List.length_cons, List.length_nil] at hi'
                    by_cases q : i = 0
                    · rw [q, updI_n (by omega), show hc.toNat + 0 = hc.toNat by omega, updI_s]; rfl
                    · rw [show i = 1 by omega, show hc.toNat + 1 = (hc + 1).toNat by omega, updI_s]; rfl
                · refine gx_ldc2 (lI 2) (by rw [show lI 2 = (2 : Int64) by decide]; exact mw_3_121) dX12_ends_204 ?_
                  refine gx_lload 1 dX12_ends_207 rfl ?_
                  refine gy_lmul dX12_ends_209 ?_
                  refine gx_lload 0 dX12_ends_210 rfl ?_
                  refine gy_lsub dX12_ends_212 ?_
                  refine gx_goto 218 dX12_ends_213 (by decide) ?_
                  refine gx_lload 6 dX12_ends_218 rfl ?_
                  refine gy_ladd dX12_ends_220 ?_
                  refine gx_callV (ci := 11) (c_X12_height l D cI cL cR lo h hi Kf Nf Wf fz n c FB fh ff fl hc sc MM0 (by omega) (((2 * (Nf (6 * s + 2))) - r) + t)) ok_X12_height mw_3_122 mw_3_124 mw_p_20 dX12_ends_221 rfl M0 rfl rfl (Nat.le_of_ble_eq_true rfl) (by first | exact Nat.le_of_ble_eq_true rfl | (simp only [rM]; omega)) (by first | exact Nat.le_of_ble_eq_true rfl | (simp only [rM]; omega)) (by first | exact Nat.le_of_ble_eq_true rfl | (simp only [rM]; omega)) (by first | exact Nat.le_of_ble_eq_true rfl | (simp only [rM]; omega)) (fun r126 h127 u128 q129 g130 => ?_)
                  obtain ⟨rfl, WE131, mE131, rfl⟩ := q129
                  have WE131b := WE131
                  obtain ⟨E131c0, E131c1, E131c2, E131c3, E131c4, E131c5, E131c6, E131c7, E131c8⟩ := WE131b
                  refine ch_Gst (st2 := []) rfl ?_
                  refine gx_aload_n 2 dX12_ends_224 rfl rfl ?_
                  refine gx_lload 0 dX12_ends_225 rfl ?_
                  refine gx_lconst (lI 1) dX12_ends_227 rfl ?_
                  refine gy_ladd dX12_ends_228 ?_
                  refine gx_lload 6 dX12_ends_229 rfl ?_
                  refine gy_ladd dX12_ends_231 ?_
                  refine gx_callV (ci := 11) (c_X12_height l D cI cL cR lo h127 hi Kf Nf Wf fz n c FB (updI fh hc.toNat (((2 * (Nf (6 * s + 2))) - r) + t)) ff fl (hc + 1) sc WE131 (by omega) ((r + 1) + t)) ok_X12_height mw_3_122 mw_3_124 mw_p_20 dX12_ends_232 rfl E131c0 rfl rfl (Nat.le_of_ble_eq_true rfl) (by first | exact Nat.le_of_ble_eq_true rfl | (simp only [rM]; omega)) (by first | exact Nat.le_of_ble_eq_true rfl | (simp only [rM]; omega)) (by first | exact Nat.le_of_ble_eq_true rfl | (simp only [rM]; omega)) (by first | exact Nat.le_of_ble_eq_true rfl | (simp only [rM]; omega)) (fun r132 h133 u134 q135 g136 => ?_)
                  obtain ⟨rfl, WE137, mE137, rfl⟩ := q135
                  have WE137b := WE137
                  obtain ⟨E137c0, E137c1, E137c2, E137c3, E137c4, E137c5, E137c6, E137c7, E137c8⟩ := WE137b
                  refine ch_Gst (st2 := []) rfl ?_
                  refine gx_goto 238 dX12_ends_235 (by decide) ?_
                  refine gx_vret rfl dX12_ends_238 (by first | exact Nat.le_of_ble_eq_true rfl | (simp only [rM]; omega)) (by first | exact Nat.le_of_ble_eq_true rfl | (simp only [rM]; omega)) ?_
                  have el : htL Kf Nf s x y t = [((2 * (Nf (6 * s + 2))) - r) + t, (r + 1) + t] := by rw [htL_k hk3.2, ke, seg, if_pos (by omega), show a + t = ((2 * (Nf (6 * s + 2))) - r) + t by omega, show b + t = (r + 1) + t by omega]
                  rw [el, show hc + (([((2 * (Nf (6 * s + 2))) - r) + t, (r + 1) + t] : List Int).length : Int) = hc + 1 + 1 by simp only [List.length_cons, List.length_nil]; omega]
                  refine ⟨rfl, ⟨_, WE137, ?_, ?_⟩, fun b hb => by rw [mE137 b hb, mE131 b hb], rfl⟩
                  · intro j hj; rw [updI_n (by omega), updI_n (by omega)]
                  · intro i hi'
                    simp only [List.length_cons, List.length_nil] at hi'
                    by_cases q : i = 0
                    · rw [q, updI_n (by omega), show hc.toNat + 0 = hc.toNat by omega, updI_s]; rfl
                    · rw [show i = 1 by omega, show hc.toNat + 1 = (hc + 1).toNat by omega, updI_s]; rfl
              · refine gx_goto 238 dX12_ends_178 (by decide) ?_
                refine gx_vret rfl dX12_ends_238 (by first | exact Nat.le_of_ble_eq_true rfl | (simp only [rM]; omega)) (by first | exact Nat.le_of_ble_eq_true rfl | (simp only [rM]; omega)) ?_
                have hno : ¬ a < b := fun q => by
                  have kc2 := kc q
                  rw [efr] at kc2
                  exact absurd ((ki _).mpr ⟨kc2.1, kc2.2.1⟩) (by rw [bI_0 c175]; decide)
                have el : htL Kf Nf s x y t = [] := by rw [htL_k hk3.2, ke, seg_e hno]
                rw [el]
                exact ⟨rfl, ⟨fh, by rw [show hc + (([] : List Int).length : Int) = hc by simp]; exact MM0, fun _ _ => rfl, fun i hi' => absurd hi' (by simp)⟩, fun b _ => rfl, rfl⟩
            · refine gx_aload_n 0 dX12_ends_146 rfl rfl ?_
              refine gx_iload_n 1 dX12_ends_147 rfl rfl ?_
              refine gx_iconst (iI 3) dX12_ends_148 rfl ?_
              refine gx_callV (ci := 11) (c_X12_number l D cI cL cR lo h hi Kf Nf Wf fz n c FB fh ff fl hc sc MM0 s 3 (by omega) (by omega)) ok_X12_number mw_3_80 mw_3_82 mw_p_14 dX12_ends_149 rfl M0 rfl rfl (Nat.le_of_ble_eq_true rfl) (by first | exact Nat.le_of_ble_eq_true rfl | (simp only [rM]; omega)) (by first | exact Nat.le_of_ble_eq_true rfl | (simp only [rM]; omega)) (by first | exact Nat.le_of_ble_eq_true rfl | (simp only [rM]; omega)) (by first | exact Nat.le_of_ble_eq_true rfl | (simp only [rM]; omega)) (fun r138 h139 u140 q141 g142 => ?_)
              obtain ⟨rfl, rfl, rfl⟩ := q141
              refine ch_Gst (st2 := [.int (iI (Nf (6 * s + 3)))]) rfl ?_
              refine gy_i2l dX12_ends_152 (by constructor <;> omega) ?_
              refine gx_goto 163 dX12_ends_153 (by decide) ?_
              refine gx_lstore [(8, .long (lI (Nf (6 * s + 3)))), (0, .ref (lo + 17)), (1, .int (iI (s : Int))), (2, .long (lI x)), (4, .long (lI y)), (6, .long (lI t))] dX12_ends_163 (by decide) rfl ?_
              have efr : frK Kf Nf s = Nf (6 * s + 3) := by unfold frK; rw [if_pos (by omega)]
              refine gx_aload_n 1 dX12_ends_165 rfl rfl ?_
              refine gx_iload_n 2 dX12_ends_166 rfl rfl ?_
              refine gx_lload_n 3 dX12_ends_167 rfl rfl ?_
              refine gx_lload 4 dX12_ends_168 rfl ?_
              refine gx_lload 0 dX12_ends_170 rfl ?_
              refine gx_callV (ci := 11) (c_X12_isInKind l D cI cL cR lo h hi Kf Nf Wf fz n c FB fh ff fl hc sc MM0 s (by omega) hk3 hN x y (Nf (6 * s + 3)) (by omega) (by omega) (by omega)) ok_X12_isInKind mw_3_84 mw_3_86 mw_p_15 dX12_ends_172 rfl M0 rfl rfl (Nat.le_of_ble_eq_true rfl) (by first | exact Nat.le_of_ble_eq_true rfl | (simp only [rM]; omega)) (by first | exact Nat.le_of_ble_eq_true rfl | (simp only [rM]; omega)) (by first | exact Nat.le_of_ble_eq_true rfl | (simp only [rM]; omega)) (by first | exact Nat.le_of_ble_eq_true rfl | (simp only [rM]; omega)) (fun r143 h144 u145 q146 g147 => ?_)
              obtain ⟨rfl, rfl, rfl⟩ := q146
              refine ch_Gst (st2 := [.int (iI (bI (ikB Kf Nf s x y (Nf (6 * s + 3)))))]) rfl ?_
              refine gy_if_ne 181 dX12_ends_175 (by decide) ir_bI (fun c175 => ?_) (fun c175 => ?_)
              · refine gx_aload_n 1 dX12_ends_181 rfl rfl ?_
                refine gx_iload_n 2 dX12_ends_182 rfl rfl ?_
                refine gx_lload_n 3 dX12_ends_183 rfl rfl ?_
                refine gx_lload 4 dX12_ends_184 rfl ?_
                refine gx_lload 0 dX12_ends_186 rfl ?_
                have hin := (ki (Nf (6 * s + 3))).mp (bI_1 c175)
                have kc2 := kc (by omega)
                rw [efr] at kc2
                refine gx_callV (ci := 11) (c_X12_last l D cI cL cR lo h hi Kf Nf Wf fz n c FB fh ff fl hc sc MM0 s (by omega) hk3 hN x y (by omega) (by omega) (Nf (6 * s + 3)) (by omega) (bI_1 c175) (fun m m2 q1 q2 q3 => (ki m).mpr ⟨by omega, by have := (ki m2).mp q3; omega⟩)) ok_X12_last mw_3_116 mw_3_118 mw_p_19 dX12_ends_188 rfl M0 rfl rfl (Nat.le_of_ble_eq_true rfl) (by first | exact Nat.le_of_ble_eq_true rfl | (simp only [rM]; omega)) (by first | exact Nat.le_of_ble_eq_true rfl | (simp only [rM]; omega)) (by first | exact Nat.le_of_ble_eq_true rfl | (simp only [rM]; omega)) (by first | exact Nat.le_of_ble_eq_true rfl | (simp only [rM]; omega)) (fun r148 h149 u150 q151 g152 => ?_)
                obtain ⟨⟨r, rfl, r1, r2, r3, r4⟩, rfl, rfl⟩ := q151
                have eb : b = r + 1 := by
                  have q1 := (ki r).mp r3
                  by_cases q2 : r + 1 < b
                  · exact absurd ((ki (r + 1)).mpr ⟨by omega, q2⟩) (by rw [r4 (r + 1) (by omega) (by omega)]; decide)
                  · omega
                refine ch_Gst (st2 := [.long (lI r)]) rfl ?_
                refine gx_lstore [(10, .long (lI r)), (8, .long (lI (Nf (6 * s + 3)))), (0, .ref (lo + 17)), (1, .int (iI (s : Int))), (2, .long (lI x)), (4, .long (lI y)), (6, .long (lI t))] dX12_ends_191 (by decide) rfl ?_
                refine gx_aload_n 2 dX12_ends_193 rfl rfl ?_
                refine gx_aload_n 2 dX12_ends_194 rfl rfl ?_
                refine gx_get (ci := 11) (f := 0) (C := RX12) (T := TX12) (N := 12) rfl inX12 (by decide) mw_3_1 dX12_ends_195 M0 rfl ?_
                refine gx_iload_n 3 dX12_ends_198 rfl rfl ?_
                refine gy_iald dX12_ends_199 M1 (by omega) (by omega) (by decide) ?_
                refine ch_Gst (st2 := [.int (iI (Kf s)), .ref (lo + 17)]) (by rw [Int.toNat_natCast]; try rfl) ?_
                refine gx_iconst (iI 2) dX12_ends_200 rfl ?_
                refine gy_icmp_ne 216 dX12_ends_201 (by decide) (by constructor <;> omega) (by decide) (fun c201 => ?_) (fun c201 => ?_)
                · refine gx_lload 1 dX12_ends_216 rfl ?_
                  refine gx_lload 6 dX12_ends_218 rfl ?_
                  refine gy_ladd dX12_ends_220 ?_
                  refine gx_callV (ci := 11) (c_X12_height l D cI cL cR lo h hi Kf Nf Wf fz n c FB fh ff fl hc sc MM0 (by omega) ((Nf (6 * s + 3)) + t)) ok_X12_height mw_3_122 mw_3_124 mw_p_20 dX12_ends_221 rfl M0 rfl rfl (Nat.le_of_ble_eq_true rfl) (by first | exact Nat.le_of_ble_eq_true rfl | (simp only [rM]; omega)) (by first | exact Nat.le_of_ble_eq_true rfl | (simp only [rM]; omega)) (by first | exact Nat.le_of_ble_eq_true rfl | (simp only [rM]; omega)) (by first | exact Nat.le_of_ble_eq_true rfl | (simp only [rM]; omega)) (fun r153 h154 u155 q156 g157 => ?_)
                  obtain ⟨rfl, WE158, mE158, rfl⟩ := q156
                  have WE158b := WE158
                  obtain ⟨E158c0, E158c1, E158c2, E158c3, E158c4, E158c5, E158c6, E158c7, E158c8⟩ := WE158b
                  refine ch_Gst (st2 := []) rfl ?_
                  refine gx_aload_n 2 dX12_ends_224 rfl rfl ?_
                  refine gx_lload 0 dX12_ends_225 rfl ?_
                  refine gx_lconst (lI 1) dX12_ends_227 rfl ?_
                  refine gy_ladd dX12_ends_228 ?_
                  refine gx_lload 6 dX12_ends_229 rfl ?_
                  refine gy_ladd dX12_ends_231 ?_
                  refine gx_callV (ci := 11) (c_X12_height l D cI cL cR lo h154 hi Kf Nf Wf fz n c FB (updI fh hc.toNat ((Nf (6 * s + 3)) + t)) ff fl (hc + 1) sc WE158 (by omega) ((r + 1) + t)) ok_X12_height mw_3_122 mw_3_124 mw_p_20 dX12_ends_232 rfl E158c0 rfl rfl (Nat.le_of_ble_eq_true rfl) (by first | exact Nat.le_of_ble_eq_true rfl | (simp only [rM]; omega)) (by first | exact Nat.le_of_ble_eq_true rfl | (simp only [rM]; omega)) (by first | exact Nat.le_of_ble_eq_true rfl | (simp only [rM]; omega)) (by first | exact Nat.le_of_ble_eq_true rfl | (simp only [rM]; omega)) (fun r159 h160 u161 q162 g163 => ?_)
                  obtain ⟨rfl, WE164, mE164, rfl⟩ := q162
                  have WE164b := WE164
                  obtain ⟨E164c0, E164c1, E164c2, E164c3, E164c4, E164c5, E164c6, E164c7, E164c8⟩ := WE164b
                  refine ch_Gst (st2 := []) rfl ?_
                  refine gx_goto 238 dX12_ends_235 (by decide) ?_
                  refine gx_vret rfl dX12_ends_238 (by first | exact Nat.le_of_ble_eq_true rfl | (simp only [rM]; omega)) (by first | exact Nat.le_of_ble_eq_true rfl | (simp only [rM]; omega)) ?_
                  have el : htL Kf Nf s x y t = [(Nf (6 * s + 3)) + t, (r + 1) + t] := by rw [htL_k hk3.2, ke, seg, if_pos (by omega), show a + t = (Nf (6 * s + 3)) + t by omega, show b + t = (r + 1) + t by omega]
                  rw [el, show hc + (([(Nf (6 * s + 3)) + t, (r + 1) + t] : List Int).length : Int) = hc + 1 + 1 by simp only [List.length_cons, List.length_nil]; omega]
                  refine ⟨rfl, ⟨_, WE164, ?_, ?_⟩, fun b hb => by rw [mE164 b hb, mE158 b hb], rfl⟩
                  · intro j hj; rw [updI_n (by omega), updI_n (by omega)]
                  · intro i hi'
                    simp only [List.length_cons, List.length_nil] at hi'
                    by_cases q : i = 0
                    · rw [q, updI_n (by omega), show hc.toNat + 0 = hc.toNat by omega, updI_s]; rfl
                    · rw [show i = 1 by omega, show hc.toNat + 1 = (hc + 1).toNat by omega, updI_s]; rfl
                · refine gx_ldc2 (lI 2) (by rw [show lI 2 = (2 : Int64) by decide]; exact mw_3_121) dX12_ends_204 ?_
                  refine gx_lload 1 dX12_ends_207 rfl ?_
                  refine gy_lmul dX12_ends_209 ?_
                  refine gx_lload 0 dX12_ends_210 rfl ?_
                  refine gy_lsub dX12_ends_212 ?_
                  refine gx_goto 218 dX12_ends_213 (by decide) ?_
                  refine gx_lload 6 dX12_ends_218 rfl ?_
                  refine gy_ladd dX12_ends_220 ?_
                  refine gx_callV (ci := 11) (c_X12_height l D cI cL cR lo h hi Kf Nf Wf fz n c FB fh ff fl hc sc MM0 (by omega) (((2 * (Nf (6 * s + 3))) - r) + t)) ok_X12_height mw_3_122 mw_3_124 mw_p_20 dX12_ends_221 rfl M0 rfl rfl (Nat.le_of_ble_eq_true rfl) (by first | exact Nat.le_of_ble_eq_true rfl | (simp only [rM]; omega)) (by first | exact Nat.le_of_ble_eq_true rfl | (simp only [rM]; omega)) (by first | exact Nat.le_of_ble_eq_true rfl | (simp only [rM]; omega)) (by first | exact Nat.le_of_ble_eq_true rfl | (simp only [rM]; omega)) (fun r165 h166 u167 q168 g169 => ?_)
                  obtain ⟨rfl, WE170, mE170, rfl⟩ := q168
                  have WE170b := WE170
                  obtain ⟨E170c0, E170c1, E170c2, E170c3, E170c4, E170c5, E170c6, E170c7, E170c8⟩ := WE170b
                  refine ch_Gst (st2 := []) rfl ?_
                  refine gx_aload_n 2 dX12_ends_224 rfl rfl ?_
                  refine gx_lload 0 dX12_ends_225 rfl ?_
                  refine gx_lconst (lI 1) dX12_ends_227 rfl ?_
                  refine gy_ladd dX12_ends_228 ?_
                  refine gx_lload 6 dX12_ends_229 rfl ?_
                  refine gy_ladd dX12_ends_231 ?_
                  refine gx_callV (ci := 11) (c_X12_height l D cI cL cR lo h166 hi Kf Nf Wf fz n c FB (updI fh hc.toNat (((2 * (Nf (6 * s + 3))) - r) + t)) ff fl (hc + 1) sc WE170 (by omega) ((r + 1) + t)) ok_X12_height mw_3_122 mw_3_124 mw_p_20 dX12_ends_232 rfl E170c0 rfl rfl (Nat.le_of_ble_eq_true rfl) (by first | exact Nat.le_of_ble_eq_true rfl | (simp only [rM]; omega)) (by first | exact Nat.le_of_ble_eq_true rfl | (simp only [rM]; omega)) (by first | exact Nat.le_of_ble_eq_true rfl | (simp only [rM]; omega)) (by first | exact Nat.le_of_ble_eq_true rfl | (simp only [rM]; omega)) (fun r171 h172 u173 q174 g175 => ?_)
                  obtain ⟨rfl, WE176, mE176, rfl⟩ := q174
                  have WE176b := WE176
                  obtain ⟨E176c0, E176c1, E176c2, E176c3, E176c4, E176c5, E176c6, E176c7, E176c8⟩ := WE176b
                  refine ch_Gst (st2 := []) rfl ?_
                  refine gx_goto 238 dX12_ends_235 (by decide) ?_
                  refine gx_vret rfl dX12_ends_238 (by first | exact Nat.le_of_ble_eq_true rfl | (simp only [rM]; omega)) (by first | exact Nat.le_of_ble_eq_true rfl | (simp only [rM]; omega)) ?_
                  have el : htL Kf Nf s x y t = [((2 * (Nf (6 * s + 3))) - r) + t, (r + 1) + t] := by rw [htL_k hk3.2, ke, seg, if_pos (by omega), show a + t = ((2 * (Nf (6 * s + 3))) - r) + t by omega, show b + t = (r + 1) + t by omega]
                  rw [el, show hc + (([((2 * (Nf (6 * s + 3))) - r) + t, (r + 1) + t] : List Int).length : Int) = hc + 1 + 1 by simp only [List.length_cons, List.length_nil]; omega]
                  refine ⟨rfl, ⟨_, WE176, ?_, ?_⟩, fun b hb => by rw [mE176 b hb, mE170 b hb], rfl⟩
                  · intro j hj; rw [updI_n (by omega), updI_n (by omega)]
                  · intro i hi'
                    simp only [List.length_cons, List.length_nil] at hi'
                    by_cases q : i = 0
                    · rw [q, updI_n (by omega), show hc.toNat + 0 = hc.toNat by omega, updI_s]; rfl
                    · rw [show i = 1 by omega, show hc.toNat + 1 = (hc + 1).toNat by omega, updI_s]; rfl
              · refine gx_goto 238 dX12_ends_178 (by decide) ?_
                refine gx_vret rfl dX12_ends_238 (by first | exact Nat.le_of_ble_eq_true rfl | (simp only [rM]; omega)) (by first | exact Nat.le_of_ble_eq_true rfl | (simp only [rM]; omega)) ?_
                have hno : ¬ a < b := fun q => by
                  have kc2 := kc q
                  rw [efr] at kc2
                  exact absurd ((ki _).mpr ⟨kc2.1, kc2.2.1⟩) (by rw [bI_0 c175]; decide)
                have el : htL Kf Nf s x y t = [] := by rw [htL_k hk3.2, ke, seg_e hno]
                rw [el]
                exact ⟨rfl, ⟨fh, by rw [show hc + (([] : List Int).length : Int) = hc by simp]; exact MM0, fun _ _ => rfl, fun i hi' => absurd hi' (by simp)⟩, fun b _ => rfl, rfl⟩
end
