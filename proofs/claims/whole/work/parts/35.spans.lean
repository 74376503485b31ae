section
/-- the changes of IS along a row of heights -/
def scnI (IS : Int → Bool) (p : Nat → Int) : Nat → Nat → Bool → List Int
  | 0, _, _ => []
  | r + 1, k, was => if IS (p k) = was then scnI IS p r (k + 1) was else p k :: scnI IS p r (k + 1) (IS (p k))
/-- firsts and lasts hold the edges o -/
def spO (o : List Int) (ff fl : Nat → Int) : Prop := (∀ j, 2 * j < o.length → o[2 * j]? = some (ff j)) ∧ ∀ j, 2 * j + 1 < o.length → o[2 * j + 1]? = some (fl j + 1)
theorem spO_f {o : List Int} {ff fl : Nat → Int} {v : Int} {k : Nat} (H : spO o ff fl) (hk : o.length = 2 * k) : spO (o ++ [v]) (updI ff k v) fl := by
  constructor
  · intro j hj
    rw [List.length_append, List.length_singleton] at hj
    by_cases q : j = k
    · rw [q, updI_s, List.getElem?_append_right (by omega), show 2 * k - o.length = 0 by omega]; rfl
    · rw [updI_n q, List.getElem?_append_left (by omega)]; exact H.1 j (by omega)
  · intro j hj
    rw [List.length_append, List.length_singleton] at hj
    rw [List.getElem?_append_left (by omega)]; exact H.2 j (by omega)
theorem spO_l {o : List Int} {ff fl : Nat → Int} {v : Int} {k : Nat} (H : spO o ff fl) (hk : o.length = 2 * k + 1) : spO (o ++ [v]) ff (updI fl k (v - 1)) := by
  constructor
  · intro j hj
    rw [List.length_append, List.length_singleton] at hj
    rw [List.getElem?_append_left (by omega)]; exact H.1 j (by omega)
  · intro j hj
    rw [List.length_append, List.length_singleton] at hj
    by_cases q : j = k
    · rw [q, updI_s, List.getElem?_append_right (by omega), show 2 * k + 1 - o.length = 0 by omega, Int.sub_add_cancel]; rfl
    · rw [updI_n q, List.getElem?_append_left (by omega)]; exact H.2 j (by omega)
theorem htL_bd {Kf Nf Wf : Nat → Int} {n : Nat} (hn : n ≤ 60) (H : ∀ s, 1 ≤ s → s ≤ n → wfS Kf Nf Wf s) : ∀ (s : Nat), 1 ≤ s → s ≤ n → ∀ (x y t : Int), (-400000 + 5000 * (s : Int) ≤ t ∧ t ≤ 400000 - 5000 * (s : Int)) → ∀ v, v ∈ htL Kf Nf s x y t → -430000 ≤ v ∧ v ≤ 430000 := by
  intro s
  induction s using Nat.strongRecOn with
  | ind s ih =>
    intro h1 h2 x y t ht v hv
    have hw := H s h1 h2
    have hkf := kf_in hw
    by_cases k4 : Kf s = 4
    · obtain ⟨-, a1, a2, b1, b2, -, -, w4⟩ := wfS_4 hw k4
      rw [htL_4 k4 (by omega) (by omega)] at hv
      rcases List.mem_append.mp hv with hv | hv
      · exact ih _ (by omega) (by omega) (by omega) x y t (by omega) v hv
      · exact ih _ (by omega) (by omega) (by omega) x y t (by omega) v hv
    by_cases k5 : Kf s = 5
    · obtain ⟨a1, a2, m0, m1, m2, w4⟩ := wfS_5 hw k5
      rw [htL_5 k5 (by omega)] at hv
      exact ih _ (by omega) (by omega) (by omega) _ _ _ (by omega) v hv
    by_cases k6 : Kf s = 6
    · obtain ⟨a1, a2, w4⟩ := wfS_6 hw k6
      rw [htL_6 k6 (by omega)] at hv
      exact ih _ (by omega) (by omega) (by omega) _ _ _ (by omega) v hv
    obtain ⟨hk3, hw3, hN, hr1, hr2⟩ := wfS_k hw k4 k5 k6
    rw [htL_k hk3.2] at hv
    obtain ⟨a, b, ke, ki, kc⟩ := kd hk3 hN hr1 hr2 x y
    have n2 := hN 2 (by omega)
    have n3 := hN 3 (by omega)
    have hfr : -5000 ≤ frK Kf Nf s ∧ frK Kf Nf s ≤ 5000 := by unfold frK; split <;> omega
    rw [ke] at hv
    unfold seg at hv
    by_cases q : a + t < b + t
    · rw [if_pos q] at hv
      have kc2 := kc (by omega)
      have ha : -26000 ≤ a := by
        by_cases k2 : Kf s = 2
        · have := kc2.2.2.2.1 k2; omega
        · have := kc2.2.2.2.2 k2; omega
      simp only [List.mem_cons, List.not_mem_nil, or_false] at hv
      rcases hv with rfl | rfl <;> omega
    · rw [if_neg q] at hv
      exact absurd hv (by simp)
set_option maxHeartbeats 4000000 in
set_option maxRecDepth 100000 in
theorem c_X12_spans (l : Launch) (D : va_G) (cI cL cR : ClassId) (lo : Nat) (h : ch_H) (hi : Nat) (Kf Nf Wf fz : Nat → Int) (n : Nat) (c : Int) (FB : Nat → Int64) (fh ff fl : Nat → Int) (hc sc : Int) (MM : mmP cI cL lo h Kf Nf Wf fz n c FB fh ff fl hc sc) (hn : n ≤ 60) (HW : ∀ s, 1 ≤ s → s ≤ n → wfS Kf Nf Wf s) (s x y : Int) (hs : ir s) (hx : ir x) (hy : ir y) : ch_C l (eE D cI cL cR lo) M_X12_spans (rM 70 0 0) [.ref (lo + 17), .int (iI s), .int (iI x), .int (iI y)] h hi (fun r0 h2 hi2 => (¬ (1 ≤ s ∧ s ≤ (n : Int)) → r0 = some (.int (iI (-1))) ∧ mmP cI cL lo h2 Kf Nf Wf fz n c FB fh ff fl hc sc) ∧ ((1 ≤ s ∧ s ≤ (n : Int)) → ¬ (nearB x = true ∧ nearB y = true) → r0 = some (.int (iI 0)) ∧ mmP cI cL lo h2 Kf Nf Wf fz n c FB fh ff fl hc 0) ∧ ((1 ≤ s ∧ s ≤ (n : Int)) → (nearB x = true ∧ nearB y = true) → ∃ (p : Nat → Int) (m : Nat) (O : List Int) (fh2 ff2 fl2 : Nat → Int) (hc2 : Int), srt p m ∧ (∀ v, (∃ i, i < m ∧ p i = v) ↔ v ∈ htL Kf Nf s.toNat x y 0) ∧ O = scnI (inB Kf Nf s.toNat x y) p m 0 false ∧ O.length ≤ 200 ∧ spO O ff2 fl2 ∧ r0 = some (.int (iI ((O.length : Int) / 2))) ∧ mmP cI cL lo h2 Kf Nf Wf fz n c FB fh2 ff2 fl2 hc2 ((O.length : Int) / 2)) ∧ mfr lo h h2 ∧ hi = hi2) := by
  refine ch_C.of rfl (Nat.le_of_ble_eq_true rfl) ?_
  have MM0 := MM
  obtain ⟨M0, M1, M2, M3, M4, M5, M6, M7, M8⟩ := MM
  refine gx_aload_n 0 dX12_spans_0 rfl rfl ?_
  refine gx_iload_n 1 dX12_spans_1 rfl rfl ?_
  refine gx_callV (ci := 11) (c_X12_isSolid l D cI cL cR lo h hi Kf Nf Wf fz n c FB fh ff fl hc sc MM0 hn s (by constructor <;> omega)) ok_X12_isSolid mw_3_55 mw_3_57 mw_p_12 dX12_spans_2 rfl M0 rfl rfl (Nat.le_of_ble_eq_true rfl) (by first | exact Nat.le_of_ble_eq_true rfl | (simp only [rM]; omega)) (by first | exact Nat.le_of_ble_eq_true rfl | (simp only [rM]; omega)) (by first | exact Nat.le_of_ble_eq_true rfl | (simp only [rM]; omega)) (by first | exact Nat.le_of_ble_eq_true rfl | (simp only [rM]; omega)) (fun r1 h2 u3 q4 g5 => ?_)
  obtain ⟨rfl, rfl, rfl⟩ := q4
  refine ch_Gst (st2 := [.int (iI (bI (decide (1 ≤ s ∧ s ≤ (n : Int)))))]) rfl ?_
  refine gy_if_ne 10 dX12_spans_5 (by decide) ir_bI (fun c5 => ?_) (fun c5 => ?_)
  · have hq5 := of_decide_eq_true (bI_1 c5)
    refine gx_aload_n 0 dX12_spans_10 rfl rfl ?_
    refine gx_iconst (iI 0) dX12_spans_11 rfl ?_
    refine gy_put (ci := 11) (f := 11) (C := RX12) (T := TX12) (N := 12) (ty := .int) (fs2 := [.ref (lo + 18), .ref (lo + 19), .ref (lo + 20), .int (iI (n : Int)), .ref (lo + 21), .int (iI c), .ref (lo + 22), .ref (lo + 23), .int (iI hc), .ref (lo + 24), .ref (lo + 25), .int (iI 0)]) tyX12 rfl inX12 tyX12_ok nmX12 (by decide) mw_3_12 (Or.inl rfl) (by decide +kernel) rfl rfl dX12_spans_12 M0 (by simp) rfl (fun h6 eh6 => ?_)
    have k7 : h6 (lo + 18) = some (aI cI 61 Kf) := by rw [eh6, ch_set_ne (by first | assumption | exact Ne.symm (by assumption) | omega)]; exact M1
    have k8 : h6 (lo + 19) = some (aI cI 366 Nf) := by rw [eh6, ch_set_ne (by first | assumption | exact Ne.symm (by assumption) | omega)]; exact M2
    have k9 : h6 (lo + 20) = some (aI cI 61 Wf) := by rw [eh6, ch_set_ne (by first | assumption | exact Ne.symm (by assumption) | omega)]; exact M3
    have k10 : h6 (lo + 21) = some (aI cI 6 fz) := by rw [eh6, ch_set_ne (by first | assumption | exact Ne.symm (by assumption) | omega)]; exact M4
    have k11 : h6 (lo + 22) = some (.inl (cL, 1632, .inr (.inl FB))) := by rw [eh6, ch_set_ne (by first | assumption | exact Ne.symm (by assumption) | omega)]; exact M5
    have k12 : h6 (lo + 23) = some (aL cL 200 fh) := by rw [eh6, ch_set_ne (by first | assumption | exact Ne.symm (by assumption) | omega)]; exact M6
    have k13 : h6 (lo + 24) = some (aL cL 101 ff) := by rw [eh6, ch_set_ne (by first | assumption | exact Ne.symm (by assumption) | omega)]; exact M7
    have k14 : h6 (lo + 25) = some (aL cL 101 fl) := by rw [eh6, ch_set_ne (by first | assumption | exact Ne.symm (by assumption) | omega)]; exact M8
    have k15 : h6 (lo + 17) = some (.inr (11, [.ref (lo + 18), .ref (lo + 19), .ref (lo + 20), .int (iI (n : Int)), .ref (lo + 21), .int (iI c), .ref (lo + 22), .ref (lo + 23), .int (iI hc), .ref (lo + 24), .ref (lo + 25), .int (iI 0)])) := by rw [eh6]; exact ch_set_self
    refine gx_iload_n 2 dX12_spans_15 rfl rfl ?_
    refine gx_callS (c_X12_isNear l D cI cL cR lo h6 hi x (by constructor <;> omega)) ok_X12_isNear mw_3_71 mw_3_72 dX12_spans_16 rfl rfl (Nat.le_of_ble_eq_true rfl) (by first | exact Nat.le_of_ble_eq_true rfl | (simp only [rM]; omega)) (by first | exact Nat.le_of_ble_eq_true rfl | (simp only [rM]; omega)) (by first | exact Nat.le_of_ble_eq_true rfl | (simp only [rM]; omega)) (by first | exact Nat.le_of_ble_eq_true rfl | (simp only [rM]; omega)) (fun r16 h17 u18 q19 g20 => ?_)
    obtain ⟨rfl, rfl, rfl⟩ := q19
    refine ch_Gst (st2 := [.int (iI (bI (nearB x)))]) rfl ?_
    refine gy_if_eq 29 dX12_spans_19 (by decide) ir_bI (fun c19 => ?_) (fun c19 => ?_)
    · refine gx_iconst (iI 0) dX12_spans_29 rfl ?_
      refine gx_iret rfl dX12_spans_30 (by first | exact Nat.le_of_ble_eq_true rfl | (simp only [rM]; omega)) (by first | exact Nat.le_of_ble_eq_true rfl | (simp only [rM]; omega)) ?_
      have hno : ¬ (nearB x = true ∧ nearB y = true) := fun q => absurd (bI_0 c19) (by rw [q.1]; decide)
      exact ⟨fun q => absurd hq5 q, fun _ _ => ⟨rfl, ⟨k15, k7, k8, k9, k10, k11, k12, k13, k14⟩⟩, fun _ q => absurd q hno, fun b hb => by rw [eh6, ch_set_ne (by omega)], rfl⟩
    · have nx := bI_1 c19
      have nx2 := of_decide_eq_true nx
      refine gx_iload_n 3 dX12_spans_22 rfl rfl ?_
      refine gx_callS (c_X12_isNear l D cI cL cR lo h6 hi y (by constructor <;> omega)) ok_X12_isNear mw_3_71 mw_3_72 dX12_spans_23 rfl rfl (Nat.le_of_ble_eq_true rfl) (by first | exact Nat.le_of_ble_eq_true rfl | (simp only [rM]; omega)) (by first | exact Nat.le_of_ble_eq_true rfl | (simp only [rM]; omega)) (by first | exact Nat.le_of_ble_eq_true rfl | (simp only [rM]; omega)) (by first | exact Nat.le_of_ble_eq_true rfl | (simp only [rM]; omega)) (fun r21 h22 u23 q24 g25 => ?_)
      obtain ⟨rfl, rfl, rfl⟩ := q24
      refine ch_Gst (st2 := [.int (iI (bI (nearB y)))]) rfl ?_
      refine gy_if_ne 31 dX12_spans_26 (by decide) ir_bI (fun c26 => ?_) (fun c26 => ?_)
      · have ny := bI_1 c26
        have ny2 := of_decide_eq_true ny
        refine gx_aload_n 0 dX12_spans_31 rfl rfl ?_
        refine gx_iconst (iI 0) dX12_spans_32 rfl ?_
        refine gy_put (ci := 11) (f := 8) (C := RX12) (T := TX12) (N := 12) (ty := .int) (fs2 := [.ref (lo + 18), .ref (lo + 19), .ref (lo + 20), .int (iI (n : Int)), .ref (lo + 21), .int (iI c), .ref (lo + 22), .ref (lo + 23), .int (iI 0), .ref (lo + 24), .ref (lo + 25), .int (iI 0)]) tyX12 rfl inX12 tyX12_ok nmX12 (by decide) mw_3_9 (Or.inl rfl) (by decide +kernel) rfl rfl dX12_spans_33 k15 (by simp) rfl (fun h26 eh26 => ?_)
        have k27 : h26 (lo + 18) = some (aI cI 61 Kf) := by rw [eh26, ch_set_ne (by first | assumption | exact Ne.symm (by assumption) | omega)]; exact k7
        have k28 : h26 (lo + 19) = some (aI cI 366 Nf) := by rw [eh26, ch_set_ne (by first | assumption | exact Ne.symm (by assumption) | omega)]; exact k8
        have k29 : h26 (lo + 20) = some (aI cI 61 Wf) := by rw [eh26, ch_set_ne (by first | assumption | exact Ne.symm (by assumption) | omega)]; exact k9
        have k30 : h26 (lo + 21) = some (aI cI 6 fz) := by rw [eh26, ch_set_ne (by first | assumption | exact Ne.symm (by assumption) | omega)]; exact k10
        have k31 : h26 (lo + 22) = some (.inl (cL, 1632, .inr (.inl FB))) := by rw [eh26, ch_set_ne (by first | assumption | exact Ne.symm (by assumption) | omega)]; exact k11
        have k32 : h26 (lo + 23) = some (aL cL 200 fh) := by rw [eh26, ch_set_ne (by first | assumption | exact Ne.symm (by assumption) | omega)]; exact k12
        have k33 : h26 (lo + 24) = some (aL cL 101 ff) := by rw [eh26, ch_set_ne (by first | assumption | exact Ne.symm (by assumption) | omega)]; exact k13
        have k34 : h26 (lo + 25) = some (aL cL 101 fl) := by rw [eh26, ch_set_ne (by first | assumption | exact Ne.symm (by assumption) | omega)]; exact k14
        have k35 : h26 (lo + 17) = some (.inr (11, [.ref (lo + 18), .ref (lo + 19), .ref (lo + 20), .int (iI (n : Int)), .ref (lo + 21), .int (iI c), .ref (lo + 22), .ref (lo + 23), .int (iI 0), .ref (lo + 24), .ref (lo + 25), .int (iI 0)])) := by rw [eh26]; exact ch_set_self
        refine gx_aload_n 0 dX12_spans_36 rfl rfl ?_
        refine gx_iload_n 1 dX12_spans_37 rfl rfl ?_
        refine gx_iload_n 2 dX12_spans_38 rfl rfl ?_
        refine gy_i2l dX12_spans_39 (by constructor <;> omega) ?_
        refine gx_iload_n 3 dX12_spans_40 rfl rfl ?_
        refine gy_i2l dX12_spans_41 (by constructor <;> omega) ?_
        refine gx_lconst (lI 0) dX12_spans_42 rfl ?_
        refine ch_Gst (st2 := [.long (lI 0), .long (lI y), .long (lI x), .int (iI (s.toNat : Int)), .ref (lo + 17)]) (by rw [Int.toNat_of_nonneg (show 0 ≤ s by omega)]) ?_
        have hW := (HW s.toNat (by omega) (by omega)).1
        have mf0 : mfr lo h h26 := fun b hb => by rw [eh26, ch_set_ne (by omega), eh6, ch_set_ne (by omega)]
        refine gx_callV (ci := 11) (c_X12_ends l D cI cL cR lo hi Kf Nf Wf fz n c FB ff fl 0 hn HW s.toNat (by omega) (by omega) x y 0 (by omega) (by omega) (by omega) h26 fh 0 ⟨k35, k27, k28, k29, k30, k31, k32, k33, k34⟩ (by omega) (by omega)) ok_X12_ends mw_3_112 mw_3_114 mw_p_18 dX12_spans_43 rfl k35 rfl rfl (Nat.le_of_ble_eq_true rfl) (by first | exact Nat.le_of_ble_eq_true rfl | (simp only [rM]; omega)) (by first | exact Nat.le_of_ble_eq_true rfl | (simp only [rM]; omega)) (by first | exact Nat.le_of_ble_eq_true rfl | (simp only [rM]; omega)) (by first | exact Nat.le_of_ble_eq_true rfl | (simp only [rM]; omega)) (fun r36 h37 u38 q39 g40 => ?_)
        obtain ⟨rfl, ⟨fE, WE, pE, gE⟩, mE, rfl⟩ := q39
        have WEb := WE
        obtain ⟨Ec0, Ec1, Ec2, Ec3, Ec4, Ec5, Ec6, Ec7, Ec8⟩ := WEb
        have lE := htL_len HW s.toNat (by omega) (by omega) x y 0
        have bE : ∀ j : Nat, (j : Int) < 0 + ((htL Kf Nf s.toNat x y 0).length : Int) → -430000 ≤ fE j ∧ fE j ≤ 430000 := fun j hj => htL_bd hn HW s.toNat (by omega) (by omega) x y 0 (by omega) _ (List.mem_of_getElem? (by have := gE j (by omega); rw [show (0 : Int).toNat + j = j by omega] at this; exact this))
        refine ch_Gst (st2 := []) rfl ?_
        refine gx_aload_n 0 dX12_spans_46 rfl rfl ?_
        refine gx_callV (ci := 11) (c_X12_sort l D cI cL cR lo h37 hi Kf Nf Wf fz n c FB fE ff fl (0 + ((htL Kf Nf s.toNat x y 0).length : Int)) 0 WE (by omega) (fun j hj => by have := bE j hj; omega)) ok_X12_sort mw_3_126 mw_3_128 mw_p_21 dX12_spans_47 rfl Ec0 rfl rfl (Nat.le_of_ble_eq_true rfl) (by first | exact Nat.le_of_ble_eq_true rfl | (simp only [rM]; omega)) (by first | exact Nat.le_of_ble_eq_true rfl | (simp only [rM]; omega)) (by first | exact Nat.le_of_ble_eq_true rfl | (simp only [rM]; omega)) (by first | exact Nat.le_of_ble_eq_true rfl | (simp only [rM]; omega)) (fun r41 h42 u43 q44 g45 => ?_)
        obtain ⟨rfl, ⟨p, WS, hsr, hsm⟩, mS, rfl⟩ := q44
        have WSb := WS
        obtain ⟨Sc0, Sc1, Sc2, Sc3, Sc4, Sc5, Sc6, Sc7, Sc8⟩ := WSb
        obtain ⟨H, eH⟩ : ∃ z, z = 0 + ((htL Kf Nf s.toNat x y 0).length : Int) := ⟨_, rfl⟩
        rw [← eH] at hsr hsm Sc0 bE
        have hbp : ∀ j : Nat, (j : Int) < H → -430000 ≤ p j ∧ p j ≤ 430000 := fun j hj => by obtain ⟨i, q1, q2⟩ := (hsm (p j)).mp ⟨j, by omega, rfl⟩; rw [← q2]; exact bE i (by omega)
        have hmem : ∀ v, (∃ i, i < H.toNat ∧ p i = v) ↔ v ∈ htL Kf Nf s.toNat x y 0 := by
          intro v
          rw [hsm v]
          constructor
          · rintro ⟨i, q1, q2⟩
            have := gE i (by omega)
            rw [show (0 : Int).toNat + i = i by omega, q2] at this
            exact List.mem_of_getElem? this
          · intro q
            obtain ⟨i, q1⟩ := List.getElem?_of_mem q
            have q2 := (List.getElem?_eq_some_iff.mp q1).1
            have := gE i q2
            rw [q1, show (0 : Int).toNat + i = i by omega] at this
            exact ⟨i, by omega, (Option.some.inj this).symm⟩
        have mf1 : mfr lo h h42 := fun b hb => by rw [mS b hb, mE b hb]; exact mf0 b hb
        refine ch_Gst (st2 := []) rfl ?_
        refine gx_iconst (iI 0) dX12_spans_50 rfl ?_
        refine gx_istore [(4, .int (iI 0)), (0, .ref (lo + 17)), (1, .int (iI s)), (2, .int (iI x)), (3, .int (iI y))] dX12_spans_51 (by decide) rfl ?_
        refine gx_iconst (iI 0) dX12_spans_53 rfl ?_
        refine gx_istore [(5, .int (iI 0)), (4, .int (iI 0)), (0, .ref (lo + 17)), (1, .int (iI s)), (2, .int (iI x)), (3, .int (iI y))] dX12_spans_54 (by decide) rfl ?_
        refine ch_Glv (lv' := [(0, .ref (lo + 17)), (1, .int (iI s)), (2, .int (iI x)), (3, .int (iI y)), (4, .int (iI (bI false))), (5, .int (iI 0))]) [2, 3, 4, 5, 1, 0] rfl ?_
        obtain ⟨O, eO⟩ : ∃ z, z = scnI (inB Kf Nf s.toNat x y) p H.toNat 0 false := ⟨_, rfl⟩
        have loop : ∀ (m : Nat) (z sp : Int) (o : List Int) (was : Bool) (gf gl : Nat → Int) (hh : ch_H), (0 ≤ z) → (z ≤ H) → (H + 1 ≤ z + m) → (o ++ scnI (inB Kf Nf s.toNat x y) p (H - z).toNat z.toNat was = O) → ((o.length : Int) ≤ z) → (spO o gf gl) → ((o.length : Int) = 2 * sp + bI was) → (hh (lo + 17) = some (.inr (11, [.ref (lo + 18), .ref (lo + 19), .ref (lo + 20), .int (iI (n : Int)), .ref (lo + 21), .int (iI c), .ref (lo + 22), .ref (lo + 23), .int (iI H), .ref (lo + 24), .ref (lo + 25), .int (iI sp)]))) → (hh (lo + 18) = some (aI cI 61 Kf)) → (hh (lo + 19) = some (aI cI 366 Nf)) → (hh (lo + 20) = some (aI cI 61 Wf)) → (hh (lo + 21) = some (aI cI 6 fz)) → (hh (lo + 22) = some (.inl (cL, 1632, .inr (.inl FB)))) → (hh (lo + 23) = some (aL cL 200 p)) → (hh (lo + 24) = some (aL cL 101 gf)) → (hh (lo + 25) = some (aL cL 101 gl)) → (mfr lo h hh) → ch_G l (eE D cI cL cR lo) M_X12_spans ch_T (rM 70 0 0) (ch_Z (eE D cI cL cR lo) 0 0 (fun r0 h2 hi2 => (¬ (1 ≤ s ∧ s ≤ (n : Int)) → r0 = some (.int (iI (-1))) ∧ mmP cI cL lo h2 Kf Nf Wf fz n c FB fh ff fl hc sc) ∧ ((1 ≤ s ∧ s ≤ (n : Int)) → ¬ (nearB x = true ∧ nearB y = true) → r0 = some (.int (iI 0)) ∧ mmP cI cL lo h2 Kf Nf Wf fz n c FB fh ff fl hc 0) ∧ ((1 ≤ s ∧ s ≤ (n : Int)) → (nearB x = true ∧ nearB y = true) → ∃ (p : Nat → Int) (m : Nat) (O : List Int) (fh2 ff2 fl2 : Nat → Int) (hc2 : Int), srt p m ∧ (∀ v, (∃ i, i < m ∧ p i = v) ↔ v ∈ htL Kf Nf s.toNat x y 0) ∧ O = scnI (inB Kf Nf s.toNat x y) p m 0 false ∧ O.length ≤ 200 ∧ spO O ff2 fl2 ∧ r0 = some (.int (iI ((O.length : Int) / 2))) ∧ mmP cI cL lo h2 Kf Nf Wf fz n c FB fh2 ff2 fl2 hc2 ((O.length : Int) / 2)) ∧ mfr lo h h2 ∧ hi = hi2)) 0 0 hh hi 56 [(0, .ref (lo + 17)), (1, .int (iI s)), (2, .int (iI x)), (3, .int (iI y)), (4, .int (iI (bI was))), (5, .int (iI z))] [] := by
          intro m
          induction m with
          | zero => intro z sp o was gf gl hh z0 z1 zm heq hol hsp hpar V0 V1 V2 V3 V4 V5 V6 V7 V8 mf; exfalso; omega
          | succ m ih =>
            intro z sp o was gf gl hh z0 z1 zm heq hol hsp hpar V0 V1 V2 V3 V4 V5 V6 V7 V8 mf
            refine gx_iload 5 dX12_spans_56 rfl ?_
            refine gx_aload_n 0 dX12_spans_58 rfl rfl ?_
            refine gx_get (ci := 11) (f := 8) (C := RX12) (T := TX12) (N := 12) rfl inX12 (by decide) mw_3_9 dX12_spans_59 V0 rfl ?_
            refine gy_icmp_ge 157 dX12_spans_62 (by decide) (by constructor <;> omega) (by constructor <;> omega) (fun c62 => ?_) (fun c62 => ?_)
            · refine gx_aload_n 0 dX12_spans_157 rfl rfl ?_
              refine gx_get (ci := 11) (f := 11) (C := RX12) (T := TX12) (N := 12) rfl inX12 (by decide) mw_3_12 dX12_spans_158 V0 rfl ?_
              refine gx_iret rfl dX12_spans_161 (by first | exact Nat.le_of_ble_eq_true rfl | (simp only [rM]; omega)) (by first | exact Nat.le_of_ble_eq_true rfl | (simp only [rM]; omega)) ?_
              rw [show (H - z).toNat = 0 by omega, scnI, List.append_nil] at heq
              have hsp2 : sp = (O.length : Int) / 2 := by rw [← heq]; cases was <;> simp only [bI] at hpar <;> omega
              refine ⟨fun q => absurd hq5 q, fun _ q => absurd ⟨nx, ny⟩ q, fun _ _ => ⟨p, H.toNat, O, p, gf, gl, H, hsr, hmem, eO, by rw [← heq]; omega, by rw [← heq]; exact hsp, by rw [← hsp2], by rw [← hsp2]; exact ⟨V0, V1, V2, V3, V4, V5, V6, V7, V8⟩⟩, mf, rfl⟩
            · have hbz := hbp z.toNat (by omega)
              have hsb : 0 ≤ sp ∧ 2 * sp ≤ z := by cases was <;> simp only [bI] at hpar <;> omega
              refine gx_aload_n 0 dX12_spans_65 rfl rfl ?_
              refine gx_iload_n 1 dX12_spans_66 rfl rfl ?_
              refine gx_iload_n 2 dX12_spans_67 rfl rfl ?_
              refine gy_i2l dX12_spans_68 (by constructor <;> omega) ?_
              refine gx_iload_n 3 dX12_spans_69 rfl rfl ?_
              refine gy_i2l dX12_spans_70 (by constructor <;> omega) ?_
              refine gx_aload_n 0 dX12_spans_71 rfl rfl ?_
              refine gx_get (ci := 11) (f := 7) (C := RX12) (T := TX12) (N := 12) rfl inX12 (by decide) mw_3_8 dX12_spans_72 V0 rfl ?_
              refine gx_iload 5 dX12_spans_75 rfl ?_
              refine gy_lald dX12_spans_77 V6 (by omega) (by omega) (by decide) ?_
              refine ch_Gst (st2 := [.long (lI (p z.toNat)), .long (lI y), .long (lI x), .int (iI (s.toNat : Int)), .ref (lo + 17)]) (by rw [Int.toNat_of_nonneg (show 0 ≤ s by omega)]) ?_
              refine gx_callV (ci := 11) (c_X12_isIn l D cI cL cR lo hh hi Kf Nf Wf fz n c FB p gf gl H sp ⟨V0, V1, V2, V3, V4, V5, V6, V7, V8⟩ hn HW s.toNat (by omega) (by omega) x y (p z.toNat) (by omega) (by omega) (by omega)) ok_X12_isIn mw_3_76 mw_3_78 mw_p_13 dX12_spans_78 rfl V0 rfl rfl (Nat.le_of_ble_eq_true rfl) (by first | exact Nat.le_of_ble_eq_true rfl | (simp only [rM]; omega)) (by first | exact Nat.le_of_ble_eq_true rfl | (simp only [rM]; omega)) (by first | exact Nat.le_of_ble_eq_true rfl | (simp only [rM]; omega)) (by first | exact Nat.le_of_ble_eq_true rfl | (simp only [rM]; omega)) (fun r1 h2 u3 q4 g5 => ?_)
              obtain ⟨rfl, rfl, rfl⟩ := q4
              refine ch_Gst (st2 := [.int (iI (bI (inB Kf Nf s.toNat x y (p z.toNat))))]) rfl ?_
              refine gx_istore [(6, .int (iI (bI (inB Kf Nf s.toNat x y (p z.toNat))))), (0, .ref (lo + 17)), (1, .int (iI s)), (2, .int (iI x)), (3, .int (iI y)), (4, .int (iI (bI was))), (5, .int (iI z))] dX12_spans_81 (by decide) rfl ?_
              refine gx_iload 0 dX12_spans_83 rfl ?_
              refine gy_if_eq 109 dX12_spans_85 (by decide) ir_bI (fun c85 => ?_) (fun c85 => ?_)
              · refine gx_iload 5 dX12_spans_109 rfl ?_
                refine gy_if_eq 147 dX12_spans_111 (by decide) ir_bI (fun c111 => ?_) (fun c111 => ?_)
                · refine gx_iload 0 dX12_spans_147 rfl ?_
                  refine gx_istore [(4, .int (iI (bI (inB Kf Nf s.toNat x y (p z.toNat))))), (6, .int (iI (bI (inB Kf Nf s.toNat x y (p z.toNat))))), (0, .ref (lo + 17)), (1, .int (iI s)), (2, .int (iI x)), (3, .int (iI y)), (5, .int (iI z))] dX12_spans_149 (by decide) rfl ?_
                  refine gy_iinc 6 [(5, .int (iI (z + 1))), (4, .int (iI (bI (inB Kf Nf s.toNat x y (p z.toNat))))), (6, .int (iI (bI (inB Kf Nf s.toNat x y (p z.toNat))))), (0, .ref (lo + 17)), (1, .int (iI s)), (2, .int (iI x)), (3, .int (iI y))] dX12_spans_151 rfl (by decide) rfl ?_
                  refine gx_goto 56 dX12_spans_154 (by decide) ?_
                  refine ch_Glv (lv' := [(0, .ref (lo + 17)), (1, .int (iI s)), (2, .int (iI x)), (3, .int (iI y)), (4, .int (iI (bI (inB Kf Nf s.toNat x y (p z.toNat))))), (5, .int (iI (z + 1)))]) [3, 4, 5, 6, 1, 0] rfl ?_
                  have ei : inB Kf Nf s.toNat x y (p z.toNat) = false := bI_0 c85
                  have ew : was = false := bI_0 c111
                  rw [show (H - z).toNat = (H - (z + 1)).toNat + 1 by omega, scnI, ei, ew] at heq
                  rw [ew, show bI false = 0 from rfl] at hpar
                  rw [show z.toNat + 1 = (z + 1).toNat by omega] at heq
                  rw [if_pos rfl] at heq
                  skip
                  exact ih _ _ _ _ _ _ _ (by omega) (by omega) (by omega) (by rw [ei]; exact heq) (by omega) hsp (by rw [ei, show bI false = 0 from rfl]; omega) V0 V1 V2 V3 V4 V5 V6 V7 V8 (mf)
                · refine gx_iload 0 dX12_spans_114 rfl ?_
                  refine gy_if_ne 147 dX12_spans_116 (by decide) ir_bI (fun c116 => ?_) (fun c116 => ?_)
                  · refine gx_iload 0 dX12_spans_147 rfl ?_
                    refine gx_istore [(4, .int (iI (bI (inB Kf Nf s.toNat x y (p z.toNat))))), (6, .int (iI (bI (inB Kf Nf s.toNat x y (p z.toNat))))), (0, .ref (lo + 17)), (1, .int (iI s)), (2, .int (iI x)), (3, .int (iI y)), (5, .int (iI z))] dX12_spans_149 (by decide) rfl ?_
                    refine gy_iinc 6 [(5, .int (iI (z + 1))), (4, .int (iI (bI (inB Kf Nf s.toNat x y (p z.toNat))))), (6, .int (iI (bI (inB Kf Nf s.toNat x y (p z.toNat))))), (0, .ref (lo + 17)), (1, .int (iI s)), (2, .int (iI x)), (3, .int (iI y))] dX12_spans_151 rfl (by decide) rfl ?_
                    refine gx_goto 56 dX12_spans_154 (by decide) ?_
                    refine ch_Glv (lv' := [(0, .ref (lo + 17)), (1, .int (iI s)), (2, .int (iI x)), (3, .int (iI y)), (4, .int (iI (bI (inB Kf Nf s.toNat x y (p z.toNat))))), (5, .int (iI (z + 1)))]) [3, 4, 5, 6, 1, 0] rfl ?_
                    exfalso; omega
                  · refine gx_aload_n 1 dX12_spans_119 rfl rfl ?_
                    refine gx_get (ci := 11) (f := 10) (C := RX12) (T := TX12) (N := 12) rfl inX12 (by decide) mw_3_11 dX12_spans_120 V0 rfl ?_
                    refine gx_aload_n 1 dX12_spans_123 rfl rfl ?_
                    refine gx_get (ci := 11) (f := 11) (C := RX12) (T := TX12) (N := 12) rfl inX12 (by decide) mw_3_12 dX12_spans_124 V0 rfl ?_
                    refine gx_aload_n 1 dX12_spans_127 rfl rfl ?_
                    refine gx_get (ci := 11) (f := 7) (C := RX12) (T := TX12) (N := 12) rfl inX12 (by decide) mw_3_8 dX12_spans_128 V0 rfl ?_
                    refine gx_iload 6 dX12_spans_131 rfl ?_
                    refine gy_lald dX12_spans_133 V6 (by omega) (by omega) (by decide) ?_
                    refine gx_lconst (lI 1) dX12_spans_134 rfl ?_
                    refine gy_lsub dX12_spans_135 ?_
                    refine gy_last dX12_spans_136 V8 (by omega) (by omega) (by decide) (fun h6 eh6 => ?_)
                    have k7 : h6 (lo + 17) = some (.inr (11, [.ref (lo + 18), .ref (lo + 19), .ref (lo + 20), .int (iI (n : Int)), .ref (lo + 21), .int (iI c), .ref (lo + 22), .ref (lo + 23), .int (iI H), .ref (lo + 24), .ref (lo + 25), .int (iI sp)])) := by rw [eh6, ch_set_ne (by first | assumption | exact Ne.symm (by assumption) | omega)]; exact V0
                    have k8 : h6 (lo + 18) = some (aI cI 61 Kf) := by rw [eh6, ch_set_ne (by first | assumption | exact Ne.symm (by assumption) | omega)]; exact V1
                    have k9 : h6 (lo + 19) = some (aI cI 366 Nf) := by rw [eh6, ch_set_ne (by first | assumption | exact Ne.symm (by assumption) | omega)]; exact V2
                    have k10 : h6 (lo + 20) = some (aI cI 61 Wf) := by rw [eh6, ch_set_ne (by first | assumption | exact Ne.symm (by assumption) | omega)]; exact V3
                    have k11 : h6 (lo + 21) = some (aI cI 6 fz) := by rw [eh6, ch_set_ne (by first | assumption | exact Ne.symm (by assumption) | omega)]; exact V4
                    have k12 : h6 (lo + 22) = some (.inl (cL, 1632, .inr (.inl FB))) := by rw [eh6, ch_set_ne (by first | assumption | exact Ne.symm (by assumption) | omega)]; exact V5
                    have k13 : h6 (lo + 23) = some (aL cL 200 p) := by rw [eh6, ch_set_ne (by first | assumption | exact Ne.symm (by assumption) | omega)]; exact V6
                    have k14 : h6 (lo + 24) = some (aL cL 101 gf) := by rw [eh6, ch_set_ne (by first | assumption | exact Ne.symm (by assumption) | omega)]; exact V7
                    have k15 : h6 (lo + 25) = some (aL cL 101 (updI gl sp.toNat ((p z.toNat) - 1))) := by rw [eh6]; exact ch_set_self
                    refine gx_aload_n 1 dX12_spans_137 rfl rfl ?_
                    refine gx_dup dX12_spans_138 rfl ?_
                    refine gx_get (ci := 11) (f := 11) (C := RX12) (T := TX12) (N := 12) rfl inX12 (by decide) mw_3_12 dX12_spans_139 k7 rfl ?_
                    refine gx_iconst (iI 1) dX12_spans_142 rfl ?_
                    refine gy_iadd dX12_spans_143 ?_
                    refine gy_put (ci := 11) (f := 11) (C := RX12) (T := TX12) (N := 12) (ty := .int) (fs2 := [.ref (lo + 18), .ref (lo + 19), .ref (lo + 20), .int (iI (n : Int)), .ref (lo + 21), .int (iI c), .ref (lo + 22), .ref (lo + 23), .int (iI H), .ref (lo + 24), .ref (lo + 25), .int (iI (sp + 1))]) tyX12 rfl inX12 tyX12_ok nmX12 (by decide) mw_3_12 (Or.inl rfl) (by decide +kernel) rfl rfl dX12_spans_144 k7 (by simp) rfl (fun h16 eh16 => ?_)
                    have k17 : h16 (lo + 18) = some (aI cI 61 Kf) := by rw [eh16, ch_set_ne (by first | assumption | exact Ne.symm (by assumption) | omega)]; exact k8
                    have k18 : h16 (lo + 19) = some (aI cI 366 Nf) := by rw [eh16, ch_set_ne (by first | assumption | exact Ne.symm (by assumption) | omega)]; exact k9
                    have k19 : h16 (lo + 20) = some (aI cI 61 Wf) := by rw [eh16, ch_set_ne (by first | assumption | exact Ne.symm (by assumption) | omega)]; exact k10
                    have k20 : h16 (lo + 21) = some (aI cI 6 fz) := by rw [eh16, ch_set_ne (by first | assumption | exact Ne.symm (by assumption) | omega)]; exact k11
                    have k21 : h16 (lo + 22) = some (.inl (cL, 1632, .inr (.inl FB))) := by rw [eh16, ch_set_ne (by first | assumption | exact Ne.symm (by assumption) | omega)]; exact k12
                    have k22 : h16 (lo + 23) = some (aL cL 200 p) := by rw [eh16, ch_set_ne (by first | assumption | exact Ne.symm (by assumption) | omega)]; exact k13
                    have k23 : h16 (lo + 24) = some (aL cL 101 gf) := by rw [eh16, ch_set_ne (by first | assumption | exact Ne.symm (by assumption) | omega)]; exact k14
                    have k24 : h16 (lo + 25) = some (aL cL 101 (updI gl sp.toNat ((p z.toNat) - 1))) := by rw [eh16, ch_set_ne (by first | assumption | exact Ne.symm (by assumption) | omega)]; exact k15
                    have k25 : h16 (lo + 17) = some (.inr (11, [.ref (lo + 18), .ref (lo + 19), .ref (lo + 20), .int (iI (n : Int)), .ref (lo + 21), .int (iI c), .ref (lo + 22), .ref (lo + 23), .int (iI H), .ref (lo + 24), .ref (lo + 25), .int (iI (sp + 1))])) := by rw [eh16]; exact ch_set_self
                    refine gx_iload 0 dX12_spans_147 rfl ?_
                    refine gx_istore [(4, .int (iI (bI (inB Kf Nf s.toNat x y (p z.toNat))))), (6, .int (iI (bI (inB Kf Nf s.toNat x y (p z.toNat))))), (0, .ref (lo + 17)), (1, .int (iI s)), (2, .int (iI x)), (3, .int (iI y)), (5, .int (iI z))] dX12_spans_149 (by decide) rfl ?_
                    refine gy_iinc 6 [(5, .int (iI (z + 1))), (4, .int (iI (bI (inB Kf Nf s.toNat x y (p z.toNat))))), (6, .int (iI (bI (inB Kf Nf s.toNat x y (p z.toNat))))), (0, .ref (lo + 17)), (1, .int (iI s)), (2, .int (iI x)), (3, .int (iI y))] dX12_spans_151 rfl (by decide) rfl ?_
                    refine gx_goto 56 dX12_spans_154 (by decide) ?_
                    refine ch_Glv (lv' := [(0, .ref (lo + 17)), (1, .int (iI s)), (2, .int (iI x)), (3, .int (iI y)), (4, .int (iI (bI (inB Kf Nf s.toNat x y (p z.toNat))))), (5, .int (iI (z + 1)))]) [3, 4, 5, 6, 1, 0] rfl ?_
                    have ei : inB Kf Nf s.toNat x y (p z.toNat) = false := bI_0 c85
                    have ew : was = true := bI_1 c111
                    rw [show (H - z).toNat = (H - (z + 1)).toNat + 1 by omega, scnI, ei, ew] at heq
                    rw [ew, show bI true = 1 from rfl] at hpar
                    rw [show z.toNat + 1 = (z + 1).toNat by omega] at heq
                    rw [if_neg (by decide)] at heq
                    exact ih _ _ (o ++ [p z.toNat]) _ _ _ _ (by omega) (by omega) (by omega) (by rw [ei, List.append_assoc]; exact heq) (by rw [List.length_append, List.length_singleton]; omega) (spO_l (k := sp.toNat) hsp (by omega)) (by rw [ei, show bI false = 0 from rfl, List.length_append, List.length_singleton]; omega) k25 k17 k18 k19 k20 k21 k22 k23 k24 (fun b hb => by rw [eh16, ch_set_ne (by omega), eh6, ch_set_ne (by omega)]; exact mf b hb)
              · refine gx_iload 5 dX12_spans_88 rfl ?_
                refine gy_if_ne 109 dX12_spans_90 (by decide) ir_bI (fun c90 => ?_) (fun c90 => ?_)
                · refine gx_iload 5 dX12_spans_109 rfl ?_
                  refine gy_if_eq 147 dX12_spans_111 (by decide) ir_bI (fun c111 => ?_) (fun c111 => ?_)
                  · refine gx_iload 0 dX12_spans_147 rfl ?_
                    refine gx_istore [(4, .int (iI (bI (inB Kf Nf s.toNat x y (p z.toNat))))), (6, .int (iI (bI (inB Kf Nf s.toNat x y (p z.toNat))))), (0, .ref (lo + 17)), (1, .int (iI s)), (2, .int (iI x)), (3, .int (iI y)), (5, .int (iI z))] dX12_spans_149 (by decide) rfl ?_
                    refine gy_iinc 6 [(5, .int (iI (z + 1))), (4, .int (iI (bI (inB Kf Nf s.toNat x y (p z.toNat))))), (6, .int (iI (bI (inB Kf Nf s.toNat x y (p z.toNat))))), (0, .ref (lo + 17)), (1, .int (iI s)), (2, .int (iI x)), (3, .int (iI y))] dX12_spans_151 rfl (by decide) rfl ?_
                    refine gx_goto 56 dX12_spans_154 (by decide) ?_
                    refine ch_Glv (lv' := [(0, .ref (lo + 17)), (1, .int (iI s)), (2, .int (iI x)), (3, .int (iI y)), (4, .int (iI (bI (inB Kf Nf s.toNat x y (p z.toNat))))), (5, .int (iI (z + 1)))]) [3, 4, 5, 6, 1, 0] rfl ?_
                    exfalso; omega
                  · refine gx_iload 0 dX12_spans_114 rfl ?_
                    refine gy_if_ne 147 dX12_spans_116 (by decide) ir_bI (fun c116 => ?_) (fun c116 => ?_)
                    · refine gx_iload 0 dX12_spans_147 rfl ?_
                      refine gx_istore [(4, .int (iI (bI (inB Kf Nf s.toNat x y (p z.toNat))))), (6, .int (iI (bI (inB Kf Nf s.toNat x y (p z.toNat))))), (0, .ref (lo + 17)), (1, .int (iI s)), (2, .int (iI x)), (3, .int (iI y)), (5, .int (iI z))] dX12_spans_149 (by decide) rfl ?_
                      refine gy_iinc 6 [(5, .int (iI (z + 1))), (4, .int (iI (bI (inB Kf Nf s.toNat x y (p z.toNat))))), (6, .int (iI (bI (inB Kf Nf s.toNat x y (p z.toNat))))), (0, .ref (lo + 17)), (1, .int (iI s)), (2, .int (iI x)), (3, .int (iI y))] dX12_spans_151 rfl (by decide) rfl ?_
                      refine gx_goto 56 dX12_spans_154 (by decide) ?_
                      refine ch_Glv (lv' := [(0, .ref (lo + 17)), (1, .int (iI s)), (2, .int (iI x)), (3, .int (iI y)), (4, .int (iI (bI (inB Kf Nf s.toNat x y (p z.toNat))))), (5, .int (iI (z + 1)))]) [3, 4, 5, 6, 1, 0] rfl ?_
                      have ei : inB Kf Nf s.toNat x y (p z.toNat) = true := bI_1 c85
                      have ew : was = true := bI_1 c90
                      rw [show (H - z).toNat = (H - (z + 1)).toNat + 1 by omega, scnI, ei, ew] at heq
                      rw [ew, show bI true = 1 from rfl] at hpar
                      rw [show z.toNat + 1 = (z + 1).toNat by omega] at heq
                      rw [if_pos rfl] at heq
                      skip
                      exact ih _ _ _ _ _ _ _ (by omega) (by omega) (by omega) (by rw [ei]; exact heq) (by omega) hsp (by rw [ei, show bI true = 1 from rfl]; omega) V0 V1 V2 V3 V4 V5 V6 V7 V8 (mf)
                    · refine gx_aload_n 1 dX12_spans_119 rfl rfl ?_
                      refine gx_get (ci := 11) (f := 10) (C := RX12) (T := TX12) (N := 12) rfl inX12 (by decide) mw_3_11 dX12_spans_120 V0 rfl ?_
                      refine gx_aload_n 1 dX12_spans_123 rfl rfl ?_
                      refine gx_get (ci := 11) (f := 11) (C := RX12) (T := TX12) (N := 12) rfl inX12 (by decide) mw_3_12 dX12_spans_124 V0 rfl ?_
                      refine gx_aload_n 1 dX12_spans_127 rfl rfl ?_
                      refine gx_get (ci := 11) (f := 7) (C := RX12) (T := TX12) (N := 12) rfl inX12 (by decide) mw_3_8 dX12_spans_128 V0 rfl ?_
                      refine gx_iload 6 dX12_spans_131 rfl ?_
                      refine gy_lald dX12_spans_133 V6 (by omega) (by omega) (by decide) ?_
                      refine gx_lconst (lI 1) dX12_spans_134 rfl ?_
                      refine gy_lsub dX12_spans_135 ?_
                      refine gy_last dX12_spans_136 V8 (by omega) (by omega) (by decide) (fun h26 eh26 => ?_)
                      have k27 : h26 (lo + 17) = some (.inr (11, [.ref (lo + 18), .ref (lo + 19), .ref (lo + 20), .int (iI (n : Int)), .ref (lo + 21), .int (iI c), .ref (lo + 22), .ref (lo + 23), .int (iI H), .ref (lo + 24), .ref (lo + 25), .int (iI sp)])) := by rw [eh26, ch_set_ne (by first | assumption | exact Ne.symm (by assumption) | omega)]; exact V0
                      have k28 : h26 (lo + 18) = some (aI cI 61 Kf) := by rw [eh26, ch_set_ne (by first | assumption | exact Ne.symm (by assumption) | omega)]; exact V1
                      have k29 : h26 (lo + 19) = some (aI cI 366 Nf) := by rw [eh26, ch_set_ne (by first | assumption | exact Ne.symm (by assumption) | omega)]; exact V2
                      have k30 : h26 (lo + 20) = some (aI cI 61 Wf) := by rw [eh26, ch_set_ne (by first | assumption | exact Ne.symm (by assumption) | omega)]; exact V3
                      have k31 : h26 (lo + 21) = some (aI cI 6 fz) := by rw [eh26, ch_set_ne (by first | assumption | exact Ne.symm (by assumption) | omega)]; exact V4
                      have k32 : h26 (lo + 22) = some (.inl (cL, 1632, .inr (.inl FB))) := by rw [eh26, ch_set_ne (by first | assumption | exact Ne.symm (by assumption) | omega)]; exact V5
                      have k33 : h26 (lo + 23) = some (aL cL 200 p) := by rw [eh26, ch_set_ne (by first | assumption | exact Ne.symm (by assumption) | omega)]; exact V6
                      have k34 : h26 (lo + 24) = some (aL cL 101 gf) := by rw [eh26, ch_set_ne (by first | assumption | exact Ne.symm (by assumption) | omega)]; exact V7
                      have k35 : h26 (lo + 25) = some (aL cL 101 (updI gl sp.toNat ((p z.toNat) - 1))) := by rw [eh26]; exact ch_set_self
                      refine gx_aload_n 1 dX12_spans_137 rfl rfl ?_
                      refine gx_dup dX12_spans_138 rfl ?_
                      refine gx_get (ci := 11) (f := 11) (C := RX12) (T := TX12) (N := 12) rfl inX12 (by decide) mw_3_12 dX12_spans_139 k27 rfl ?_
                      refine gx_iconst (iI 1) dX12_spans_142 rfl ?_
                      refine gy_iadd dX12_spans_143 ?_
                      refine gy_put (ci := 11) (f := 11) (C := RX12) (T := TX12) (N := 12) (ty := .int) (fs2 := [.ref (lo + 18), .ref (lo + 19), .ref (lo + 20), .int (iI (n : Int)), .ref (lo + 21), .int (iI c), .ref (lo + 22), .ref (lo + 23), .int (iI H), .ref (lo + 24), .ref (lo + 25), .int (iI (sp + 1))]) tyX12 rfl inX12 tyX12_ok nmX12 (by decide) mw_3_12 (Or.inl rfl) (by decide +kernel) rfl rfl dX12_spans_144 k27 (by simp) rfl (fun h36 eh36 => ?_)
                      have k37 : h36 (lo + 18) = some (aI cI 61 Kf) := by rw [eh36, ch_set_ne (by first | assumption | exact Ne.symm (by assumption) | omega)]; exact k28
                      have k38 : h36 (lo + 19) = some (aI cI 366 Nf) := by rw [eh36, ch_set_ne (by first | assumption | exact Ne.symm (by assumption) | omega)]; exact k29
                      have k39 : h36 (lo + 20) = some (aI cI 61 Wf) := by rw [eh36, ch_set_ne (by first | assumption | exact Ne.symm (by assumption) | omega)]; exact k30
                      have k40 : h36 (lo + 21) = some (aI cI 6 fz) := by rw [eh36, ch_set_ne (by first | assumption | exact Ne.symm (by assumption) | omega)]; exact k31
                      have k41 : h36 (lo + 22) = some (.inl (cL, 1632, .inr (.inl FB))) := by rw [eh36, ch_set_ne (by first | assumption | exact Ne.symm (by assumption) | omega)]; exact k32
                      have k42 : h36 (lo + 23) = some (aL cL 200 p) := by rw [eh36, ch_set_ne (by first | assumption | exact Ne.symm (by assumption) | omega)]; exact k33
                      have k43 : h36 (lo + 24) = some (aL cL 101 gf) := by rw [eh36, ch_set_ne (by first | assumption | exact Ne.symm (by assumption) | omega)]; exact k34
                      have k44 : h36 (lo + 25) = some (aL cL 101 (updI gl sp.toNat ((p z.toNat) - 1))) := by rw [eh36, ch_set_ne (by first | assumption | exact Ne.symm (by assumption) | omega)]; exact k35
                      have k45 : h36 (lo + 17) = some (.inr (11, [.ref (lo + 18), .ref (lo + 19), .ref (lo + 20), .int (iI (n : Int)), .ref (lo + 21), .int (iI c), .ref (lo + 22), .ref (lo + 23), .int (iI H), .ref (lo + 24), .ref (lo + 25), .int (iI (sp + 1))])) := by rw [eh36]; exact ch_set_self
                      refine gx_iload 0 dX12_spans_147 rfl ?_
                      refine gx_istore [(4, .int (iI (bI (inB Kf Nf s.toNat x y (p z.toNat))))), (6, .int (iI (bI (inB Kf Nf s.toNat x y (p z.toNat))))), (0, .ref (lo + 17)), (1, .int (iI s)), (2, .int (iI x)), (3, .int (iI y)), (5, .int (iI z))] dX12_spans_149 (by decide) rfl ?_
                      refine gy_iinc 6 [(5, .int (iI (z + 1))), (4, .int (iI (bI (inB Kf Nf s.toNat x y (p z.toNat))))), (6, .int (iI (bI (inB Kf Nf s.toNat x y (p z.toNat))))), (0, .ref (lo + 17)), (1, .int (iI s)), (2, .int (iI x)), (3, .int (iI y))] dX12_spans_151 rfl (by decide) rfl ?_
                      refine gx_goto 56 dX12_spans_154 (by decide) ?_
                      refine ch_Glv (lv' := [(0, .ref (lo + 17)), (1, .int (iI s)), (2, .int (iI x)), (3, .int (iI y)), (4, .int (iI (bI (inB Kf Nf s.toNat x y (p z.toNat))))), (5, .int (iI (z + 1)))]) [3, 4, 5, 6, 1, 0] rfl ?_
                      exfalso; omega
                · refine gx_aload_n 1 dX12_spans_93 rfl rfl ?_
                  refine gx_get (ci := 11) (f := 9) (C := RX12) (T := TX12) (N := 12) rfl inX12 (by decide) mw_3_10 dX12_spans_94 V0 rfl ?_
                  refine gx_aload_n 1 dX12_spans_97 rfl rfl ?_
                  refine gx_get (ci := 11) (f := 11) (C := RX12) (T := TX12) (N := 12) rfl inX12 (by decide) mw_3_12 dX12_spans_98 V0 rfl ?_
                  refine gx_aload_n 1 dX12_spans_101 rfl rfl ?_
                  refine gx_get (ci := 11) (f := 7) (C := RX12) (T := TX12) (N := 12) rfl inX12 (by decide) mw_3_8 dX12_spans_102 V0 rfl ?_
                  refine gx_iload 6 dX12_spans_105 rfl ?_
                  refine gy_lald dX12_spans_107 V6 (by omega) (by omega) (by decide) ?_
                  refine gy_last dX12_spans_108 V7 (by omega) (by omega) (by decide) (fun h46 eh46 => ?_)
                  have k47 : h46 (lo + 17) = some (.inr (11, [.ref (lo + 18), .ref (lo + 19), .ref (lo + 20), .int (iI (n : Int)), .ref (lo + 21), .int (iI c), .ref (lo + 22), .ref (lo + 23), .int (iI H), .ref (lo + 24), .ref (lo + 25), .int (iI sp)])) := by rw [eh46, ch_set_ne (by first | assumption | exact Ne.symm (by assumption) | omega)]; exact V0
                  have k48 : h46 (lo + 18) = some (aI cI 61 Kf) := by rw [eh46, ch_set_ne (by first | assumption | exact Ne.symm (by assumption) | omega)]; exact V1
                  have k49 : h46 (lo + 19) = some (aI cI 366 Nf) := by rw [eh46, ch_set_ne (by first | assumption | exact Ne.symm (by assumption) | omega)]; exact V2
                  have k50 : h46 (lo + 20) = some (aI cI 61 Wf) := by rw [eh46, ch_set_ne (by first | assumption | exact Ne.symm (by assumption) | omega)]; exact V3
                  have k51 : h46 (lo + 21) = some (aI cI 6 fz) := by rw [eh46, ch_set_ne (by first | assumption | exact Ne.symm (by assumption) | omega)]; exact V4
                  have k52 : h46 (lo + 22) = some (.inl (cL, 1632, .inr (.inl FB))) := by rw [eh46, ch_set_ne (by first | assumption | exact Ne.symm (by assumption) | omega)]; exact V5
                  have k53 : h46 (lo + 23) = some (aL cL 200 p) := by rw [eh46, ch_set_ne (by first | assumption | exact Ne.symm (by assumption) | omega)]; exact V6
                  have k54 : h46 (lo + 25) = some (aL cL 101 gl) := by rw [eh46, ch_set_ne (by first | assumption | exact Ne.symm (by assumption) | omega)]; exact V8
                  have k55 : h46 (lo + 24) = some (aL cL 101 (updI gf sp.toNat (p z.toNat))) := by rw [eh46]; exact ch_set_self
                  refine gx_iload 5 dX12_spans_109 rfl ?_
                  refine gy_if_eq 147 dX12_spans_111 (by decide) ir_bI (fun c111 => ?_) (fun c111 => ?_)
                  · refine gx_iload 0 dX12_spans_147 rfl ?_
                    refine gx_istore [(4, .int (iI (bI (inB Kf Nf s.toNat x y (p z.toNat))))), (6, .int (iI (bI (inB Kf Nf s.toNat x y (p z.toNat))))), (0, .ref (lo + 17)), (1, .int (iI s)), (2, .int (iI x)), (3, .int (iI y)), (5, .int (iI z))] dX12_spans_149 (by decide) rfl ?_
                    refine gy_iinc 6 [(5, .int (iI (z + 1))), (4, .int (iI (bI (inB Kf Nf s.toNat x y (p z.toNat))))), (6, .int (iI (bI (inB Kf Nf s.toNat x y (p z.toNat))))), (0, .ref (lo + 17)), (1, .int (iI s)), (2, .int (iI x)), (3, .int (iI y))] dX12_spans_151 rfl (by decide) rfl ?_
                    refine gx_goto 56 dX12_spans_154 (by decide) ?_
                    refine ch_Glv (lv' := [(0, .ref (lo + 17)), (1, .int (iI s)), (2, .int (iI x)), (3, .int (iI y)), (4, .int (iI (bI (inB Kf Nf s.toNat x y (p z.toNat))))), (5, .int (iI (z + 1)))]) [3, 4, 5, 6, 1, 0] rfl ?_
                    have ei : inB Kf Nf s.toNat x y (p z.toNat) = true := bI_1 c85
                    have ew : was = false := bI_0 c90
                    rw [show (H - z).toNat = (H - (z + 1)).toNat + 1 by omega, scnI, ei, ew] at heq
                    rw [ew, show bI false = 0 from rfl] at hpar
                    rw [show z.toNat + 1 = (z + 1).toNat by omega] at heq
                    rw [if_neg (by decide)] at heq
                    exact ih _ _ (o ++ [p z.toNat]) _ _ _ _ (by omega) (by omega) (by omega) (by rw [ei, List.append_assoc]; exact heq) (by rw [List.length_append, List.length_singleton]; omega) (spO_f (k := sp.toNat) hsp (by omega)) (by rw [ei, show bI true = 1 from rfl, List.length_append, List.length_singleton]; omega) k47 k48 k49 k50 k51 k52 k53 k55 k54 (fun b hb => by rw [eh46, ch_set_ne (by omega)]; exact mf b hb)
                  · refine gx_iload 0 dX12_spans_114 rfl ?_
                    refine gy_if_ne 147 dX12_spans_116 (by decide) ir_bI (fun c116 => ?_) (fun c116 => ?_)
                    · refine gx_iload 0 dX12_spans_147 rfl ?_
                      refine gx_istore [(4, .int (iI (bI (inB Kf Nf s.toNat x y (p z.toNat))))), (6, .int (iI (bI (inB Kf Nf s.toNat x y (p z.toNat))))), (0, .ref (lo + 17)), (1, .int (iI s)), (2, .int (iI x)), (3, .int (iI y)), (5, .int (iI z))] dX12_spans_149 (by decide) rfl ?_
                      refine gy_iinc 6 [(5, .int (iI (z + 1))), (4, .int (iI (bI (inB Kf Nf s.toNat x y (p z.toNat))))), (6, .int (iI (bI (inB Kf Nf s.toNat x y (p z.toNat))))), (0, .ref (lo + 17)), (1, .int (iI s)), (2, .int (iI x)), (3, .int (iI y))] dX12_spans_151 rfl (by decide) rfl ?_
                      refine gx_goto 56 dX12_spans_154 (by decide) ?_
                      refine ch_Glv (lv' := [(0, .ref (lo + 17)), (1, .int (iI s)), (2, .int (iI x)), (3, .int (iI y)), (4, .int (iI (bI (inB Kf Nf s.toNat x y (p z.toNat))))), (5, .int (iI (z + 1)))]) [3, 4, 5, 6, 1, 0] rfl ?_
                      exfalso; omega
                    · refine gx_aload_n 1 dX12_spans_119 rfl rfl ?_
                      refine gx_get (ci := 11) (f := 10) (C := RX12) (T := TX12) (N := 12) rfl inX12 (by decide) mw_3_11 dX12_spans_120 k47 rfl ?_
                      refine gx_aload_n 1 dX12_spans_123 rfl rfl ?_
                      refine gx_get (ci := 11) (f := 11) (C := RX12) (T := TX12) (N := 12) rfl inX12 (by decide) mw_3_12 dX12_spans_124 k47 rfl ?_
                      refine gx_aload_n 1 dX12_spans_127 rfl rfl ?_
                      refine gx_get (ci := 11) (f := 7) (C := RX12) (T := TX12) (N := 12) rfl inX12 (by decide) mw_3_8 dX12_spans_128 k47 rfl ?_
                      refine gx_iload 6 dX12_spans_131 rfl ?_
                      refine gy_lald dX12_spans_133 k53 (by omega) (by omega) (by decide) ?_
                      refine gx_lconst (lI 1) dX12_spans_134 rfl ?_
                      refine gy_lsub dX12_spans_135 ?_
                      refine gy_last dX12_spans_136 k54 (by omega) (by omega) (by decide) (fun h56 eh56 => ?_)
                      have k57 : h56 (lo + 17) = some (.inr (11, [.ref (lo + 18), .ref (lo + 19), .ref (lo + 20), .int (iI (n : Int)), .ref (lo + 21), .int (iI c), .ref (lo + 22), .ref (lo + 23), .int (iI H), .ref (lo + 24), .ref (lo + 25), .int (iI sp)])) := by rw [eh56, ch_set_ne (by first | assumption | exact Ne.symm (by assumption) | omega)]; exact k47
                      have k58 : h56 (lo + 18) = some (aI cI 61 Kf) := by rw [eh56, ch_set_ne (by first | assumption | exact Ne.symm (by assumption) | omega)]; exact k48
                      have k59 : h56 (lo + 19) = some (aI cI 366 Nf) := by rw [eh56, ch_set_ne (by first | assumption | exact Ne.symm (by assumption) | omega)]; exact k49
                      have k60 : h56 (lo + 20) = some (aI cI 61 Wf) := by rw [eh56, ch_set_ne (by first | assumption | exact Ne.symm (by assumption) | omega)]; exact k50
                      have k61 : h56 (lo + 21) = some (aI cI 6 fz) := by rw [eh56, ch_set_ne (by first | assumption | exact Ne.symm (by assumption) | omega)]; exact k51
                      have k62 : h56 (lo + 22) = some (.inl (cL, 1632, .inr (.inl FB))) := by rw [eh56, ch_set_ne (by first | assumption | exact Ne.symm (by assumption) | omega)]; exact k52
                      have k63 : h56 (lo + 23) = some (aL cL 200 p) := by rw [eh56, ch_set_ne (by first | assumption | exact Ne.symm (by assumption) | omega)]; exact k53
                      have k64 : h56 (lo + 24) = some (aL cL 101 (updI gf sp.toNat (p z.toNat))) := by rw [eh56, ch_set_ne (by first | assumption | exact Ne.symm (by assumption) | omega)]; exact k55
                      have k65 : h56 (lo + 25) = some (aL cL 101 (updI gl sp.toNat ((p z.toNat) - 1))) := by rw [eh56]; exact ch_set_self
                      refine gx_aload_n 1 dX12_spans_137 rfl rfl ?_
                      refine gx_dup dX12_spans_138 rfl ?_
                      refine gx_get (ci := 11) (f := 11) (C := RX12) (T := TX12) (N := 12) rfl inX12 (by decide) mw_3_12 dX12_spans_139 k57 rfl ?_
                      refine gx_iconst (iI 1) dX12_spans_142 rfl ?_
                      refine gy_iadd dX12_spans_143 ?_
                      refine gy_put (ci := 11) (f := 11) (C := RX12) (T := TX12) (N := 12) (ty := .int) (fs2 := [.ref (lo + 18), .ref (lo + 19), .ref (lo + 20), .int (iI (n : Int)), .ref (lo + 21), .int (iI c), .ref (lo + 22), .ref (lo + 23), .int (iI H), .ref (lo + 24), .ref (lo + 25), .int (iI (sp + 1))]) tyX12 rfl inX12 tyX12_ok nmX12 (by decide) mw_3_12 (Or.inl rfl) (by decide +kernel) rfl rfl dX12_spans_144 k57 (by simp) rfl (fun h66 eh66 => ?_)
                      have k67 : h66 (lo + 18) = some (aI cI 61 Kf) := by rw [eh66, ch_set_ne (by first | assumption | exact Ne.symm (by assumption) | omega)]; exact k58
                      have k68 : h66 (lo + 19) = some (aI cI 366 Nf) := by rw [eh66, ch_set_ne (by first | assumption | exact Ne.symm (by assumption) | omega)]; exact k59
                      have k69 : h66 (lo + 20) = some (aI cI 61 Wf) := by rw [eh66, ch_set_ne (by first | assumption | exact Ne.symm (by assumption) | omega)]; exact k60
                      have k70 : h66 (lo + 21) = some (aI cI 6 fz) := by rw [eh66, ch_set_ne (by first | assumption | exact Ne.symm (by assumption) | omega)]; exact k61
                      have k71 : h66 (lo + 22) = some (.inl (cL, 1632, .inr (.inl FB))) := by rw [eh66, ch_set_ne (by first | assumption | exact Ne.symm (by assumption) | omega)]; exact k62
                      have k72 : h66 (lo + 23) = some (aL cL 200 p) := by rw [eh66, ch_set_ne (by first | assumption | exact Ne.symm (by assumption) | omega)]; exact k63
                      have k73 : h66 (lo + 24) = some (aL cL 101 (updI gf sp.toNat (p z.toNat))) := by rw [eh66, ch_set_ne (by first | assumption | exact Ne.symm (by assumption) | omega)]; exact k64
                      have k74 : h66 (lo + 25) = some (aL cL 101 (updI gl sp.toNat ((p z.toNat) - 1))) := by rw [eh66, ch_set_ne (by first | assumption | exact Ne.symm (by assumption) | omega)]; exact k65
                      have k75 : h66 (lo + 17) = some (.inr (11, [.ref (lo + 18), .ref (lo + 19), .ref (lo + 20), .int (iI (n : Int)), .ref (lo + 21), .int (iI c), .ref (lo + 22), .ref (lo + 23), .int (iI H), .ref (lo + 24), .ref (lo + 25), .int (iI (sp + 1))])) := by rw [eh66]; exact ch_set_self
                      refine gx_iload 0 dX12_spans_147 rfl ?_
                      refine gx_istore [(4, .int (iI (bI (inB Kf Nf s.toNat x y (p z.toNat))))), (6, .int (iI (bI (inB Kf Nf s.toNat x y (p z.toNat))))), (0, .ref (lo + 17)), (1, .int (iI s)), (2, .int (iI x)), (3, .int (iI y)), (5, .int (iI z))] dX12_spans_149 (by decide) rfl ?_
                      refine gy_iinc 6 [(5, .int (iI (z + 1))), (4, .int (iI (bI (inB Kf Nf s.toNat x y (p z.toNat))))), (6, .int (iI (bI (inB Kf Nf s.toNat x y (p z.toNat))))), (0, .ref (lo + 17)), (1, .int (iI s)), (2, .int (iI x)), (3, .int (iI y))] dX12_spans_151 rfl (by decide) rfl ?_
                      refine gx_goto 56 dX12_spans_154 (by decide) ?_
                      refine ch_Glv (lv' := [(0, .ref (lo + 17)), (1, .int (iI s)), (2, .int (iI x)), (3, .int (iI y)), (4, .int (iI (bI (inB Kf Nf s.toNat x y (p z.toNat))))), (5, .int (iI (z + 1)))]) [3, 4, 5, 6, 1, 0] rfl ?_
                      exfalso; omega
        exact loop (H.toNat + 1) 0 0 [] false ff fl _ (by omega) (by omega) (by omega) (by rw [eO, show (H - 0).toNat = H.toNat by omega]; rfl) (by simp) ⟨fun j hj => absurd hj (by simp), fun j hj => absurd hj (by simp)⟩ (by simp [bI]) Sc0 Sc1 Sc2 Sc3 Sc4 Sc5 Sc6 Sc7 Sc8 mf1
      · refine gx_iconst (iI 0) dX12_spans_29 rfl ?_
        refine gx_iret rfl dX12_spans_30 (by first | exact Nat.le_of_ble_eq_true rfl | (simp only [rM]; omega)) (by first | exact Nat.le_of_ble_eq_true rfl | (simp only [rM]; omega)) ?_
        have hno : ¬ (nearB x = true ∧ nearB y = true) := fun q => absurd (bI_0 c26) (by rw [q.2]; decide)
        exact ⟨fun q => absurd hq5 q, fun _ _ => ⟨rfl, ⟨k15, k7, k8, k9, k10, k11, k12, k13, k14⟩⟩, fun _ q => absurd q hno, fun b hb => by rw [eh6, ch_set_ne (by omega)], rfl⟩
  · have hq5 := of_decide_eq_false (bI_0 c5)
    refine gx_iconst (iI (-1)) dX12_spans_8 rfl ?_
    refine gx_iret rfl dX12_spans_9 (by first | exact Nat.le_of_ble_eq_true rfl | (simp only [rM]; omega)) (by first | exact Nat.le_of_ble_eq_true rfl | (simp only [rM]; omega)) ?_
    exact ⟨fun _ => ⟨rfl, MM0⟩, fun q => absurd q hq5, fun q => absurd q hq5, fun b _ => rfl, rfl⟩
end
