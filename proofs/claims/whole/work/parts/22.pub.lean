section
/-- the whole of a SpanSolids at lo: sizes, solids, the walk's cells, the spans seen and told -/
def ssP (cI cR : ClassId) (lo : Nat) (h : ch_H) (hi : Nat) (fz : Nat → Int) (c : Int) (n : Nat) (Ad : Nat → Nat) (Kf Nf Wf : Nat → Int) (Es Et : List Int) : Prop :=
  h lo = some (.inr (10, [.ref (lo + 1), .int (iI c), .ref (lo + 2), .int (iI (n : Int)), .ref (lo + 3), .ref (lo + 13), .ref (lo + 15)])) ∧ h (lo + 1) = some (aI cI 6 fz) ∧ (∃ ga, h (lo + 2) = some (aR cR 60 ga) ∧ ∀ i, i < n → ga i = some (Ad (i + 1))) ∧ wwE cI cR lo h ∧ ruP cI h (lo + 13) (lo + 14) Es ∧ ruP cI h (lo + 15) (lo + 16) Et ∧ soA lo h n Ad Kf Nf Wf ∧ (0 ≤ c ∧ c ≤ 6) ∧ n ≤ 60 ∧ (∀ j, -5000 ≤ fz j ∧ fz j ≤ 5000) ∧ lo + 26 ≤ hi ∧ ∀ s, 1 ≤ s → s ≤ n → Ad s < hi
/-- what isn't the object's own stays -/
def xfr (lo hi : Nat) (h h2 : ch_H) : Prop := ∀ b, lo + 17 ≤ b → b < hi → h2 b = h b
theorem soA_x {lo hi : Nat} {h h2 : ch_H} {n : Nat} {Ad : Nat → Nat} {Kf Nf Wf : Nat → Int} (H : soA lo h n Ad Kf Nf Wf) (hA : ∀ s, 1 ≤ s → s ≤ n → Ad s < hi) (x : xfr lo hi h h2) : soA lo h2 n Ad Kf Nf Wf := by
  intro s h1 h3
  obtain ⟨a, b, c⟩ := H s h1 h3
  exact ⟨a, by rw [x _ (by omega) (hA s h1 h3)]; exact b, c⟩
theorem wwE_fr {cI cR : ClassId} {lo : Nat} {h h2 : ch_H} (W : wwE cI cR lo h) (fr : ∀ b, lo + 3 ≤ b → b ≤ lo + 12 → h2 b = h b) : wwE cI cR lo h2 := by
  obtain ⟨gw, fx, fy, fl, fh, wc, Ls, W⟩ := W
  exact ⟨gw, fx, fy, fl, fh, wc, Ls, wwP_fr W fr⟩
theorem ruP_fr {cI : ClassId} {h h2 : ch_H} {r g : Nat} {L : List Int} (H : ruP cI h r g L) (e1 : h2 r = h r) (e2 : h2 g = h g) : ruP cI h2 r g L := by
  obtain ⟨f, a, b, c, d, e⟩ := H
  exact ⟨f, by rw [e1]; exact a, by rw [e2]; exact b, c, d, e⟩
theorem nin_w {lo r g b : Nat} (h : b < lo + 3 ∨ lo + 13 ≤ b) (h1 : b ≠ r) (h2 : b ≠ g) : b ∉ r :: g :: wwL lo := by
  simp only [List.mem_cons, not_or, wwL_in]
  exact ⟨h1, h2, by omega⟩
theorem ssP_seen {cI cR : ClassId} {lo : Nat} {h : ch_H} {hi : Nat} {fz : Nat → Int} {c : Int} {n : Nat} {Ad : Nat → Nat} {Kf Nf Wf : Nat → Int} {Es Et : List Int} (SS : ssP cI cR lo h hi fz c n Ad Kf Nf Wf Es Et) {h2 : ch_H} {L : List Int} (WE : wwE cI cR lo h2) (RU : ruP cI h2 (lo + 13) (lo + 14) L) (FR : ch_fr ((lo + 13) :: (lo + 14) :: wwL lo) h h2) : ssP cI cR lo h2 hi fz c n Ad Kf Nf Wf L Et ∧ xfr lo hi h h2 := by
  obtain ⟨Z0, Z1, ⟨ga, Z2, hga⟩, -, RS, RT, HA, hc, hn, hfz, hhi, hAd⟩ := SS
  have X : xfr lo hi h h2 := fun b b1 _ => FR b (nin_w (by omega) (by omega) (by omega))
  exact ⟨⟨by rw [FR _ (nin_w (by omega) (by omega) (by omega))]; exact Z0, by rw [FR _ (nin_w (by omega) (by omega) (by omega))]; exact Z1, ⟨ga, by rw [FR _ (nin_w (by omega) (by omega) (by omega))]; exact Z2, hga⟩, WE, RU, ruP_fr RT (FR _ (nin_w (by omega) (by omega) (by omega))) (FR _ (nin_w (by omega) (by omega) (by omega))), soA_x HA hAd X, hc, hn, hfz, hhi, hAd⟩, X⟩
theorem ssP_told {cI cR : ClassId} {lo : Nat} {h : ch_H} {hi : Nat} {fz : Nat → Int} {c : Int} {n : Nat} {Ad : Nat → Nat} {Kf Nf Wf : Nat → Int} {Es Et : List Int} (SS : ssP cI cR lo h hi fz c n Ad Kf Nf Wf Es Et) {h2 : ch_H} {L : List Int} (WE : wwE cI cR lo h2) (RU : ruP cI h2 (lo + 15) (lo + 16) L) (FR : ch_fr ((lo + 15) :: (lo + 16) :: wwL lo) h h2) : ssP cI cR lo h2 hi fz c n Ad Kf Nf Wf Es L ∧ xfr lo hi h h2 := by
  obtain ⟨Z0, Z1, ⟨ga, Z2, hga⟩, -, RS, RT, HA, hc, hn, hfz, hhi, hAd⟩ := SS
  have X : xfr lo hi h h2 := fun b b1 _ => FR b (nin_w (by omega) (by omega) (by omega))
  exact ⟨⟨by rw [FR _ (nin_w (by omega) (by omega) (by omega))]; exact Z0, by rw [FR _ (nin_w (by omega) (by omega) (by omega))]; exact Z1, ⟨ga, by rw [FR _ (nin_w (by omega) (by omega) (by omega))]; exact Z2, hga⟩, WE, ruP_fr RS (FR _ (nin_w (by omega) (by omega) (by omega))) (FR _ (nin_w (by omega) (by omega) (by omega))), RU, soA_x HA hAd X, hc, hn, hfz, hhi, hAd⟩, X⟩
/-- rows of edges by lists -/
def gD (L : List Int) (j : Nat) : Int := L.getD j 0
def spF (L : List Int) (k : Int) : Int := if 0 ≤ k ∧ k < (L.length : Int) / 2 then gD L (2 * k).toNat else 0
def spL (L : List Int) (k : Int) : Int := if 0 ≤ k ∧ k < (L.length : Int) / 2 then gD L (2 * k + 1).toNat - 1 else 0
theorem gD_e {L : List Int} {f : Nat → Int} (H : ∀ j, j < L.length → L[j]? = some (f j)) {j : Nat} (hj : j < L.length) : f j = gD L j := by
  unfold gD
  rw [List.getD_eq_getElem?_getD, H j hj]; rfl
theorem spF_e {L : List Int} {f : Nat → Int} (H : ∀ j, j < L.length → L[j]? = some (f j)) (k : Int) : ruF f (L.length : Int) k = spF L k := by
  unfold ruF spF
  by_cases h : 0 ≤ k ∧ k < (L.length : Int) / 2
  · rw [if_pos h, if_pos h, gD_e H (by omega)]
  · rw [if_neg h, if_neg h]
theorem spL_e {L : List Int} {f : Nat → Int} (H : ∀ j, j < L.length → L[j]? = some (f j)) (k : Int) : ruL f (L.length : Int) k = spL L k := by
  unfold ruL spL
  by_cases h : 0 ≤ k ∧ k < (L.length : Int) / 2
  · rw [if_pos h, if_pos h, gD_e H (by omega)]
  · rw [if_neg h, if_neg h]
theorem cntR_e {L : List Int} {f : Nat → Int} (H : ∀ j, j < L.length → L[j]? = some (f j)) (a b : Int) : ∀ k : Nat, 2 * k ≤ L.length → cntR f a b k = cntR (gD L) a b k := by
  intro k
  induction k with
  | zero => intro _; rfl
  | succ k ih => intro hk; rw [cntR, cntR, ih (by omega), gD_e H (show 2 * k < L.length by omega), gD_e H (show 2 * k + 1 < L.length by omega)]
theorem agR_e {L : List Int} {f : Nat → Int} (H : ∀ j, j < L.length → L[j]? = some (f j)) : ∀ k : Nat, 2 * k ≤ L.length → agR f k = agR (gD L) k := by
  intro k
  induction k with
  | zero => intro _; rfl
  | succ k ih => intro hk; rw [agR, agR, ih (by omega), gD_e H (show 2 * k < L.length by omega), gD_e H (show 2 * k + 1 < L.length by omega)]
theorem half_t (n : Nat) : ((n : Int) / 2).toNat = n / 2 := by omega
theorem half_l (n : Nat) : 2 * (n / 2) ≤ n := by omega
def cnL (L : List Int) (a b : Int) : Int := cntR (gD L) a b (L.length / 2)
def agL (L : List Int) : Int := agR (gD L) (L.length / 2)
set_option maxHeartbeats 4000000 in
set_option maxRecDepth 100000 in
theorem c_X11_size (l : Launch) (D : va_G) (cI cL cR : ClassId) (lo : Nat) (h : ch_H) (hi : Nat) (fz : Nat → Int) (c : Int) (n : Nat) (Ad : Nat → Nat) (Kf Nf Wf : Nat → Int) (Es Et : List Int) (SS : ssP cI cR lo h hi fz c n Ad Kf Nf Wf Es Et) (v : Int) (hv : ir v) : ch_C l (eE D cI cL cR lo) M_X11_size (rM 0 0 0) [.ref lo, .int (iI v)] h hi (fun r0 h2 hi2 => r0 = some (.int (iI (if -5000 ≤ v ∧ v ≤ 5000 ∧ c < 6 then c + 1 else -1))) ∧ ssP cI cR lo h2 hi (if -5000 ≤ v ∧ v ≤ 5000 ∧ c < 6 then updI fz c.toNat v else fz) (if -5000 ≤ v ∧ v ≤ 5000 ∧ c < 6 then c + 1 else c) n Ad Kf Nf Wf Es Et ∧ xfr lo hi h h2 ∧ hi = hi2) := by
  refine ch_C.of rfl (Nat.le_of_ble_eq_true rfl) ?_
  have SS0 := SS
  obtain ⟨Z0, Z1, ⟨ga, Z2, hga⟩, ⟨gw, fx, fy, fl, fh, wc, Ls, W⟩, RS, RT, HA, hc, hn, hfz, hhi, hAd⟩ := SS
  refine gx_iload_n 1 dX11_size_0 rfl rfl ?_
  refine gx_sipush (iI (-5000)) dX11_size_1 (by decide) ?_
  refine gy_icmp_lt 23 dX11_size_4 (by decide) (by constructor <;> omega) (by decide) (fun c4 => ?_) (fun c4 => ?_)
  · refine gx_iconst (iI (-1)) dX11_size_23 rfl ?_
    refine gx_iret rfl dX11_size_24 (by first | exact Nat.le_of_ble_eq_true rfl | (simp only [rM]; omega)) (by first | exact Nat.le_of_ble_eq_true rfl | (simp only [rM]; omega)) ?_
    exact ⟨by rw [if_neg (by omega)], by rw [if_neg (by omega), if_neg (by omega)]; exact SS0, fun b _ _ => rfl, rfl⟩
  · refine gx_iload_n 1 dX11_size_7 rfl rfl ?_
    refine gx_sipush (iI 5000) dX11_size_8 (by decide) ?_
    refine gy_icmp_gt 23 dX11_size_11 (by decide) (by constructor <;> omega) (by decide) (fun c11 => ?_) (fun c11 => ?_)
    · refine gx_iconst (iI (-1)) dX11_size_23 rfl ?_
      refine gx_iret rfl dX11_size_24 (by first | exact Nat.le_of_ble_eq_true rfl | (simp only [rM]; omega)) (by first | exact Nat.le_of_ble_eq_true rfl | (simp only [rM]; omega)) ?_
      exact ⟨by rw [if_neg (by omega)], by rw [if_neg (by omega), if_neg (by omega)]; exact SS0, fun b _ _ => rfl, rfl⟩
    · refine gx_aload_n 0 dX11_size_14 rfl rfl ?_
      refine gx_get (ci := 10) (f := 1) (C := RX11) (T := TX11) (N := 7) rfl inX11 (by decide) mw_1_91 dX11_size_15 Z0 rfl ?_
      refine gx_bipush (iI 6) dX11_size_18 (by decide) ?_
      refine gy_icmp_lt 25 dX11_size_20 (by decide) (by constructor <;> omega) (by decide) (fun c20 => ?_) (fun c20 => ?_)
      · refine gx_aload_n 0 dX11_size_25 rfl rfl ?_
        refine gx_get (ci := 10) (f := 0) (C := RX11) (T := TX11) (N := 7) rfl inX11 (by decide) mw_1_90 dX11_size_26 Z0 rfl ?_
        refine gx_aload_n 0 dX11_size_29 rfl rfl ?_
        refine gx_get (ci := 10) (f := 1) (C := RX11) (T := TX11) (N := 7) rfl inX11 (by decide) mw_1_91 dX11_size_30 Z0 rfl ?_
        refine gx_iload_n 1 dX11_size_33 rfl rfl ?_
        refine gy_iast dX11_size_34 Z1 (by omega) (by omega) (by decide) (fun h1 eh1 => ?_)
        have k2 : h1 lo = some (.inr (10, [.ref (lo + 1), .int (iI c), .ref (lo + 2), .int (iI (n : Int)), .ref (lo + 3), .ref (lo + 13), .ref (lo + 15)])) := by rw [eh1, ch_set_ne (ch_ne Z0 Z1 (by intro q; cases q))]; exact Z0
        have k3 : h1 (lo + 2) = some (aR cR 60 ga) := by rw [eh1, ch_set_ne (by first | assumption | exact Ne.symm (by assumption) | omega)]; exact Z2
        have k4 : h1 (lo + 1) = some (aI cI 6 (updI fz c.toNat v)) := by rw [eh1]; exact ch_set_self
        refine gx_aload_n 0 dX11_size_35 rfl rfl ?_
        refine gx_dup dX11_size_36 rfl ?_
        refine gx_get (ci := 10) (f := 1) (C := RX11) (T := TX11) (N := 7) rfl inX11 (by decide) mw_1_91 dX11_size_37 k2 rfl ?_
        refine gx_iconst (iI 1) dX11_size_40 rfl ?_
        refine gy_iadd dX11_size_41 ?_
        refine gy_put (ci := 10) (f := 1) (C := RX11) (T := TX11) (N := 7) (ty := .int) (fs2 := [.ref (lo + 1), .int (iI (c + 1)), .ref (lo + 2), .int (iI (n : Int)), .ref (lo + 3), .ref (lo + 13), .ref (lo + 15)]) tyX11 rfl inX11 tyX11_ok nmX11 (by decide) mw_1_91 (Or.inl rfl) (by decide +kernel) rfl rfl dX11_size_42 k2 (by simp) rfl (fun h5 eh5 => ?_)
        have k6 : h5 (lo + 2) = some (aR cR 60 ga) := by rw [eh5, ch_set_ne (by first | assumption | exact Ne.symm (by assumption) | omega)]; exact k3
        have k7 : h5 (lo + 1) = some (aI cI 6 (updI fz c.toNat v)) := by rw [eh5, ch_set_ne (by first | assumption | exact Ne.symm (by assumption) | omega)]; exact k4
        have k8 : h5 lo = some (.inr (10, [.ref (lo + 1), .int (iI (c + 1)), .ref (lo + 2), .int (iI (n : Int)), .ref (lo + 3), .ref (lo + 13), .ref (lo + 15)])) := by rw [eh5]; exact ch_set_self
        refine gx_aload_n 0 dX11_size_45 rfl rfl ?_
        refine gx_get (ci := 10) (f := 1) (C := RX11) (T := TX11) (N := 7) rfl inX11 (by decide) mw_1_91 dX11_size_46 k8 rfl ?_
        refine gx_iret rfl dX11_size_49 (by first | exact Nat.le_of_ble_eq_true rfl | (simp only [rM]; omega)) (by first | exact Nat.le_of_ble_eq_true rfl | (simp only [rM]; omega)) ?_
        have X : xfr lo hi h h5 := fun b b1 _ => by rw [eh5, ch_set_ne (by omega), eh1, ch_set_ne (by omega)]
        have Y : ∀ b, lo + 2 ≤ b → h5 b = h b := fun b b1 => by rw [eh5, ch_set_ne (by omega), eh1, ch_set_ne (by omega)]
        refine ⟨by rw [if_pos ⟨by omega, by omega, by omega⟩], ?_, X, rfl⟩
        rw [if_pos ⟨by omega, by omega, by omega⟩, if_pos ⟨by omega, by omega, by omega⟩]
        refine ⟨k8, k7, ⟨ga, k6, hga⟩, wwE_fr ⟨gw, fx, fy, fl, fh, wc, Ls, W⟩ (fun b b1 b2 => Y b (by omega)), ruP_fr RS (Y _ (by omega)) (Y _ (by omega)), ruP_fr RT (Y _ (by omega)) (Y _ (by omega)), soA_x HA hAd X, by omega, hn, fun j => ?_, hhi, hAd⟩
        by_cases q : j = c.toNat
        · rw [q, updI_s]; omega
        · rw [updI_n q]; exact hfz j
      · refine gx_iconst (iI (-1)) dX11_size_23 rfl ?_
        refine gx_iret rfl dX11_size_24 (by first | exact Nat.le_of_ble_eq_true rfl | (simp only [rM]; omega)) (by first | exact Nat.le_of_ble_eq_true rfl | (simp only [rM]; omega)) ?_
        exact ⟨by rw [if_neg (by omega)], by rw [if_neg (by omega), if_neg (by omega)]; exact SS0, fun b _ _ => rfl, rfl⟩
set_option maxHeartbeats 4000000 in
set_option maxRecDepth 100000 in
theorem c_X11_weight (l : Launch) (D : va_G) (cI cL cR : ClassId) (lo : Nat) (h : ch_H) (hi : Nat) (fz : Nat → Int) (c : Int) (n : Nat) (Ad : Nat → Nat) (Kf Nf Wf : Nat → Int) (Es Et : List Int) (SS : ssP cI cR lo h hi fz c n Ad Kf Nf Wf Es Et) (s : Int) (hs : ir s) : ch_C l (eE D cI cL cR lo) M_X11_weight (rM 1 0 0) [.ref lo, .int (iI s)] h hi (fun r0 h2 hi2 => r0 = some (.int (iI (if 1 ≤ s ∧ s ≤ (n : Int) then Wf s.toNat else -1))) ∧ h = h2 ∧ hi = hi2) := by
  refine ch_C.of rfl (Nat.le_of_ble_eq_true rfl) ?_
  have SS0 := SS
  obtain ⟨Z0, Z1, ⟨ga, Z2, hga⟩, ⟨gw, fx, fy, fl, fh, wc, Ls, W⟩, RS, RT, HA, hc, hn, hfz, hhi, hAd⟩ := SS
  refine gx_aload_n 0 dX11_weight_0 rfl rfl ?_
  refine gx_iload_n 1 dX11_weight_1 rfl rfl ?_
  by_cases hfd : 1 ≤ s ∧ s ≤ (n : Int)
  · have hgs : ga (s - 1).toNat = some (Ad s.toNat) := by rw [hga _ (by omega)]; congr 2; omega
    obtain ⟨hpl, hp, hwf⟩ := HA s.toNat (by omega) (by omega)
    obtain ⟨cS, vS, e1, sS⟩ := soC_S (Ad := Ad) hwf
    rw [e1] at hp
    have hWs := hwf.1
    have hAs := hAd s.toNat (by omega) (by omega)
    refine gx_callV (ci := 10) (c_X11_findY l D cI cL cR lo h hi c n hn Z0 ga Z2 s hfd _ hgs) ok_X11_find mw_2_8 mw_2_10 mw_p_5 dX11_weight_2 rfl Z0 rfl rfl (Nat.le_of_ble_eq_true rfl) (by first | exact Nat.le_of_ble_eq_true rfl | (simp only [rM]; omega)) (by first | exact Nat.le_of_ble_eq_true rfl | (simp only [rM]; omega)) (by first | exact Nat.le_of_ble_eq_true rfl | (simp only [rM]; omega)) (by first | exact Nat.le_of_ble_eq_true rfl | (simp only [rM]; omega)) (fun r1 h2 u3 q4 g5 => ?_)
    obtain ⟨rfl, rfl, rfl⟩ := q4
    refine ch_Gst (st2 := [.ref (Ad s.toNat)]) rfl ?_
    refine gx_astore_n [(2, .ref (Ad s.toNat)), (0, .ref lo), (1, .int (iI s))] dX11_weight_5 rfl (by decide) rfl ?_
    refine gx_aload_n 0 dX11_weight_6 rfl rfl ?_
    refine gx_ifnonnullA 14 dX11_weight_7 (by decide) ?_
    refine gx_aload_n 0 dX11_weight_14 rfl rfl ?_
    refine gy_getw sS mw_1_158 dX11_weight_15 hp ?_
    refine gx_iret rfl dX11_weight_18 (by first | exact Nat.le_of_ble_eq_true rfl | (simp only [rM]; omega)) (by first | exact Nat.le_of_ble_eq_true rfl | (simp only [rM]; omega)) ?_
    exact ⟨by rw [if_pos hfd], rfl, rfl⟩
  · refine gx_callV (ci := 10) (c_X11_findN l D cI cL cR lo h hi c n hn Z0 ga Z2 s (by constructor <;> omega) (by omega)) ok_X11_find mw_2_8 mw_2_10 mw_p_5 dX11_weight_2 rfl Z0 rfl rfl (Nat.le_of_ble_eq_true rfl) (by first | exact Nat.le_of_ble_eq_true rfl | (simp only [rM]; omega)) (by first | exact Nat.le_of_ble_eq_true rfl | (simp only [rM]; omega)) (by first | exact Nat.le_of_ble_eq_true rfl | (simp only [rM]; omega)) (by first | exact Nat.le_of_ble_eq_true rfl | (simp only [rM]; omega)) (fun r6 h7 u8 q9 g10 => ?_)
    obtain ⟨rfl, rfl, rfl⟩ := q9
    refine ch_Gst (st2 := [.null]) rfl ?_
    refine gx_astore_nN [(2, .null), (0, .ref lo), (1, .int (iI s))] dX11_weight_5 rfl (by decide) rfl ?_
    refine gx_aload_nN 0 dX11_weight_6 rfl rfl ?_
    refine gx_ifnonnullZ dX11_weight_7 ?_
    refine gx_iconst (iI (-1)) dX11_weight_10 rfl ?_
    refine gx_goto 18 dX11_weight_11 (by decide) ?_
    refine gx_iret rfl dX11_weight_18 (by first | exact Nat.le_of_ble_eq_true rfl | (simp only [rM]; omega)) (by first | exact Nat.le_of_ble_eq_true rfl | (simp only [rM]; omega)) ?_
    exact ⟨by rw [if_neg hfd], rfl, rfl⟩
theorem cnL_in {L : List Int} {f : Nat → Int} (H : ∀ j, j < L.length → L[j]? = some (f j)) (a b : Int) : cntR f a b ((L.length : Int) / 2).toNat = cnL L a b := by
  unfold cnL
  rw [half_t]
  exact cntR_e H a b _ (half_l _)
theorem agL_in {L : List Int} {f : Nat → Int} (H : ∀ j, j < L.length → L[j]? = some (f j)) : agR f ((L.length : Int) / 2).toNat = agL L := by
  unfold agL
  rw [half_t]
  exact agR_e H _ (half_l _)
theorem cntR_b {f : Nat → Int} {z : Int} : ∀ k : Nat, 0 ≤ cntR f z z k ∧ cntR f z z k ≤ k := by
  intro k
  induction k with
  | zero => rw [cntR]; omega
  | succ k ih => rw [cntR]; split <;> omega
set_option maxHeartbeats 4000000 in
set_option maxRecDepth 100000 in
theorem c_X11_inside (l : Launch) (D : va_G) (cI cL cR : ClassId) (lo : Nat) (h : ch_H) (hi : Nat) (fz : Nat → Int) (c : Int) (n : Nat) (Ad : Nat → Nat) (Kf Nf Wf : Nat → Int) (Es Et : List Int) (SS : ssP cI cR lo h hi fz c n Ad Kf Nf Wf Es Et) (s x y : Int) (hs : ir s) (hx : ir x) (hy : ir y) (z : Int) (hz : ir z) : ch_C l (eE D cI cL cR lo) M_X11_inside (rM 6 0 0) [.ref lo, .int (iI s), .int (iI x), .int (iI y), .int (iI z)] h hi (fun r0 h2 hi2 => r0 = some (.int (iI (bI (decide (1 ≤ s ∧ s ≤ (n : Int) ∧ nearB z = true ∧ 0 < cnL (edN Kf Nf s.toNat x y) z z))))) ∧ ssP cI cR lo h2 hi fz c n Ad Kf Nf Wf (if 1 ≤ s ∧ s ≤ (n : Int) ∧ nearB z = true then edN Kf Nf s.toNat x y else Es) Et ∧ xfr lo hi h h2 ∧ hi = hi2) := by
  refine ch_C.of rfl (Nat.le_of_ble_eq_true rfl) ?_
  have SS0 := SS
  obtain ⟨Z0, Z1, ⟨ga, Z2, hga⟩, ⟨gw, fx, fy, fl, fh, wc, Ls, W⟩, RS, RT, HA, hc, hn, hfz, hhi, hAd⟩ := SS
  refine gx_aload_n 0 dX11_inside_0 rfl rfl ?_
  refine gx_iload_n 1 dX11_inside_1 rfl rfl ?_
  by_cases hfd : 1 ≤ s ∧ s ≤ (n : Int)
  · have hgs : ga (s - 1).toNat = some (Ad s.toNat) := by rw [hga _ (by omega)]; congr 2; omega
    obtain ⟨hpl, hp, hwf⟩ := HA s.toNat (by omega) (by omega)
    obtain ⟨cS, vS, e1, sS⟩ := soC_S (Ad := Ad) hwf
    rw [e1] at hp
    have hWs := hwf.1
    have hAs := hAd s.toNat (by omega) (by omega)
    refine gx_callV (ci := 10) (c_X11_findY l D cI cL cR lo h hi c n hn Z0 ga Z2 s hfd _ hgs) ok_X11_find mw_2_8 mw_2_10 mw_p_5 dX11_inside_2 rfl Z0 rfl rfl (Nat.le_of_ble_eq_true rfl) (by first | exact Nat.le_of_ble_eq_true rfl | (simp only [rM]; omega)) (by first | exact Nat.le_of_ble_eq_true rfl | (simp only [rM]; omega)) (by first | exact Nat.le_of_ble_eq_true rfl | (simp only [rM]; omega)) (by first | exact Nat.le_of_ble_eq_true rfl | (simp only [rM]; omega)) (fun r1 h2 u3 q4 g5 => ?_)
    obtain ⟨rfl, rfl, rfl⟩ := q4
    refine ch_Gst (st2 := [.ref (Ad s.toNat)]) rfl ?_
    refine gx_astore [(5, .ref (Ad s.toNat)), (0, .ref lo), (1, .int (iI s)), (2, .int (iI x)), (3, .int (iI y)), (4, .int (iI z))] dX11_inside_5 (by decide) rfl ?_
    refine gx_aload 0 dX11_inside_7 rfl ?_
    refine gx_ifnullA dX11_inside_9 ?_
    refine gx_iload 5 dX11_inside_12 rfl ?_
    refine gx_callS (c_X11_isBeyond l D cI cL cR lo h hi z (by constructor <;> omega)) ok_X11_isBeyond mw_2_76 mw_2_77 dX11_inside_14 rfl rfl (Nat.le_of_ble_eq_true rfl) (by first | exact Nat.le_of_ble_eq_true rfl | (simp only [rM]; omega)) (by first | exact Nat.le_of_ble_eq_true rfl | (simp only [rM]; omega)) (by first | exact Nat.le_of_ble_eq_true rfl | (simp only [rM]; omega)) (by first | exact Nat.le_of_ble_eq_true rfl | (simp only [rM]; omega)) (fun r6 h7 u8 q9 g10 => ?_)
    obtain ⟨rfl, rfl, rfl⟩ := q9
    refine ch_Gst (st2 := [.int (iI (bI (!nearB z)))]) rfl ?_
    refine gy_if_eq 22 dX11_inside_17 (by decide) ir_bI (fun c17 => ?_) (fun c17 => ?_)
    · refine gx_aload_n 1 dX11_inside_22 rfl rfl ?_
      refine gx_aload 0 dX11_inside_23 rfl ?_
      refine gx_iload_n 3 dX11_inside_25 rfl rfl ?_
      refine gx_iload_n 4 dX11_inside_26 rfl rfl ?_
      refine gx_aload_n 1 dX11_inside_27 rfl rfl ?_
      refine gx_get (ci := 10) (f := 5) (C := RX11) (T := TX11) (N := 7) rfl inX11 (by decide) mw_1_95 dX11_inside_28 Z0 rfl ?_
      obtain ⟨fg, R0, R1, R2, R3, R4⟩ := RS
      refine gx_callV (ci := 10) (c_X11_lookOver l D cI cL cR lo h hi gw fx fy fl fh wc Ls W c (lo + 13) (lo + 14) _ fg R0 R1 (by omega) (by omega) n Ad Kf Nf Wf hn Z0 HA (fun q q1 q2 => by have := (HA q q1 q2).1; omega) s.toNat (by omega) (by omega) x y hx hy) ok_X11_lookOver mw_2_81 mw_2_83 mw_p_6 dX11_inside_31 rfl Z0 rfl rfl (Nat.le_of_ble_eq_true rfl) (by first | exact Nat.le_of_ble_eq_true rfl | (simp only [rM]; omega)) (by first | exact Nat.le_of_ble_eq_true rfl | (simp only [rM]; omega)) (by first | exact Nat.le_of_ble_eq_true rfl | (simp only [rM]; omega)) (by first | exact Nat.le_of_ble_eq_true rfl | (simp only [rM]; omega)) (fun r11 h12 u13 q14 g15 => ?_)
      obtain ⟨rfl, WE, RU, FR, rfl⟩ := q14
      obtain ⟨S2, X2⟩ := ssP_seen SS0 WE RU FR
      obtain ⟨f2, U0, U1, U2, U3, U4⟩ := RU
      have Z0b : h12 lo = some (.inr (10, [.ref (lo + 1), .int (iI c), .ref (lo + 2), .int (iI (n : Int)), .ref (lo + 3), .ref (lo + 13), .ref (lo + 15)])) := by rw [FR _ (nin_w (by omega) (by omega) (by omega))]; exact Z0
      refine ch_Gst (st2 := []) rfl ?_
      refine gx_aload_n 1 dX11_inside_34 rfl rfl ?_
      refine gx_get (ci := 10) (f := 5) (C := RX11) (T := TX11) (N := 7) rfl inX11 (by decide) mw_1_95 dX11_inside_35 Z0b rfl ?_
      refine gx_iload 5 dX11_inside_38 rfl ?_
      refine gx_iload 5 dX11_inside_40 rfl ?_
      refine gx_callV (ci := 7) (c_X7_countFrom l D cI cL cR lo h12 hi (lo + 13) (lo + 14) _ f2 U0 U1 ⟨by omega, by omega⟩ U4 z z (by constructor <;> omega) (by constructor <;> omega)) ok_X7_countFrom mw_2_193 mw_2_194 mw_2_195 dX11_inside_42 rfl U0 rfl rfl (Nat.le_of_ble_eq_true rfl) (by first | exact Nat.le_of_ble_eq_true rfl | (simp only [rM]; omega)) (by first | exact Nat.le_of_ble_eq_true rfl | (simp only [rM]; omega)) (by first | exact Nat.le_of_ble_eq_true rfl | (simp only [rM]; omega)) (by first | exact Nat.le_of_ble_eq_true rfl | (simp only [rM]; omega)) (fun r16 h17 u18 q19 g20 => ?_)
      obtain ⟨rfl, rfl, rfl⟩ := q19
      refine ch_Gst (st2 := [.long (lI (cntR f2 z z (((edN Kf Nf s.toNat x y).length : Int) / 2).toNat))]) rfl ?_
      have hcb := cntR_b (f := f2) (z := z) (((edN Kf Nf s.toNat x y).length : Int) / 2).toNat
      refine gx_lconst (lI 0) dX11_inside_45 rfl ?_
      refine gy_lcmp_le 54 dX11_inside_46 dX11_inside_47 (by decide) (by constructor <;> omega) (by decide) (fun c46 => ?_) (fun c46 => ?_)
      · refine gx_iconst (iI 0) dX11_inside_54 rfl ?_
        refine gx_zret rfl rfl dX11_inside_55 (by first | exact Nat.le_of_ble_eq_true rfl | (simp only [rM]; omega)) (by first | exact Nat.le_of_ble_eq_true rfl | (simp only [rM]; omega)) ?_
        have nz : nearB z = true := by have := bI_0 c17; simpa using this
        rw [cnL_in U3] at c46
        exact ⟨by rw [show decide (1 ≤ s ∧ s ≤ (n : Int) ∧ nearB z = true ∧ 0 < cnL (edN Kf Nf s.toNat x y) z z) = false from decide_eq_false (fun q => by omega)]; rfl, by rw [if_pos ⟨hfd.1, hfd.2, nz⟩]; exact S2, X2, rfl⟩
      · refine gx_iconst (iI 1) dX11_inside_50 rfl ?_
        refine gx_goto 55 dX11_inside_51 (by decide) ?_
        refine gx_zret rfl rfl dX11_inside_55 (by first | exact Nat.le_of_ble_eq_true rfl | (simp only [rM]; omega)) (by first | exact Nat.le_of_ble_eq_true rfl | (simp only [rM]; omega)) ?_
        have nz : nearB z = true := by have := bI_0 c17; simpa using this
        rw [cnL_in U3] at c46
        exact ⟨by rw [show decide (1 ≤ s ∧ s ≤ (n : Int) ∧ nearB z = true ∧ 0 < cnL (edN Kf Nf s.toNat x y) z z) = true from decide_eq_true ⟨hfd.1, hfd.2, nz, by omega⟩]; rfl, by rw [if_pos ⟨hfd.1, hfd.2, nz⟩]; exact S2, X2, rfl⟩
    · refine gx_iconst (iI 0) dX11_inside_20 rfl ?_
      refine gx_zret rfl rfl dX11_inside_21 (by first | exact Nat.le_of_ble_eq_true rfl | (simp only [rM]; omega)) (by first | exact Nat.le_of_ble_eq_true rfl | (simp only [rM]; omega)) ?_
      have hno : ¬ (1 ≤ s ∧ s ≤ (n : Int) ∧ nearB z = true) := fun q => by have := bI_1 c17; rw [q.2.2] at this; exact absurd this (by decide)
      exact ⟨by rw [show decide (1 ≤ s ∧ s ≤ (n : Int) ∧ nearB z = true ∧ 0 < cnL (edN Kf Nf s.toNat x y) z z) = false from decide_eq_false (fun q => hno ⟨q.1, q.2.1, q.2.2.1⟩)]; rfl, by rw [if_neg hno]; exact SS0, fun b _ _ => rfl, rfl⟩
  · refine gx_callV (ci := 10) (c_X11_findN l D cI cL cR lo h hi c n hn Z0 ga Z2 s (by constructor <;> omega) (by omega)) ok_X11_find mw_2_8 mw_2_10 mw_p_5 dX11_inside_2 rfl Z0 rfl rfl (Nat.le_of_ble_eq_true rfl) (by first | exact Nat.le_of_ble_eq_true rfl | (simp only [rM]; omega)) (by first | exact Nat.le_of_ble_eq_true rfl | (simp only [rM]; omega)) (by first | exact Nat.le_of_ble_eq_true rfl | (simp only [rM]; omega)) (by first | exact Nat.le_of_ble_eq_true rfl | (simp only [rM]; omega)) (fun r21 h22 u23 q24 g25 => ?_)
    obtain ⟨rfl, rfl, rfl⟩ := q24
    refine ch_Gst (st2 := [.null]) rfl ?_
    refine gx_astoreN [(5, .null), (0, .ref lo), (1, .int (iI s)), (2, .int (iI x)), (3, .int (iI y)), (4, .int (iI z))] dX11_inside_5 (by decide) rfl ?_
    refine gx_aloadN 0 dX11_inside_7 rfl ?_
    refine gx_ifnullZ 20 dX11_inside_9 (by decide) ?_
    refine gx_iconst (iI 0) dX11_inside_20 rfl ?_
    refine gx_zret rfl rfl dX11_inside_21 (by first | exact Nat.le_of_ble_eq_true rfl | (simp only [rM]; omega)) (by first | exact Nat.le_of_ble_eq_true rfl | (simp only [rM]; omega)) ?_
    have hno : ¬ (1 ≤ s ∧ s ≤ (n : Int) ∧ nearB z = true) := fun q => hfd ⟨q.1, q.2.1⟩
    exact ⟨by rw [show decide (1 ≤ s ∧ s ≤ (n : Int) ∧ nearB z = true ∧ 0 < cnL (edN Kf Nf s.toNat x y) z z) = false from decide_eq_false (fun q => hno ⟨q.1, q.2.1, q.2.2.1⟩)]; rfl, by rw [if_neg hno]; exact SS0, fun b _ _ => rfl, rfl⟩
set_option maxHeartbeats 4000000 in
set_option maxRecDepth 100000 in
theorem c_X11_top (l : Launch) (D : va_G) (cI cL cR : ClassId) (lo : Nat) (h : ch_H) (hi : Nat) (fz : Nat → Int) (c : Int) (n : Nat) (Ad : Nat → Nat) (Kf Nf Wf : Nat → Int) (Es Et : List Int) (SS : ssP cI cR lo h hi fz c n Ad Kf Nf Wf Es Et) (s x y : Int) (hs : ir s) (hx : ir x) (hy : ir y) : ch_C l (eE D cI cL cR lo) M_X11_top (rM 6 0 0) [.ref lo, .int (iI s), .int (iI x), .int (iI y)] h hi (fun r0 h2 hi2 => r0 = some (.int (iI (if 1 ≤ s ∧ s ≤ (n : Int) then agL (edN Kf Nf s.toNat x y) else -1))) ∧ ssP cI cR lo h2 hi fz c n Ad Kf Nf Wf (if 1 ≤ s ∧ s ≤ (n : Int) then edN Kf Nf s.toNat x y else Es) Et ∧ xfr lo hi h h2 ∧ hi = hi2) := by
  refine ch_C.of rfl (Nat.le_of_ble_eq_true rfl) ?_
  have SS0 := SS
  obtain ⟨Z0, Z1, ⟨ga, Z2, hga⟩, ⟨gw, fx, fy, fl, fh, wc, Ls, W⟩, RS, RT, HA, hc, hn, hfz, hhi, hAd⟩ := SS
  refine gx_aload_n 0 dX11_top_0 rfl rfl ?_
  refine gx_iload_n 1 dX11_top_1 rfl rfl ?_
  by_cases hfd : 1 ≤ s ∧ s ≤ (n : Int)
  · have hgs : ga (s - 1).toNat = some (Ad s.toNat) := by rw [hga _ (by omega)]; congr 2; omega
    obtain ⟨hpl, hp, hwf⟩ := HA s.toNat (by omega) (by omega)
    obtain ⟨cS, vS, e1, sS⟩ := soC_S (Ad := Ad) hwf
    rw [e1] at hp
    have hWs := hwf.1
    have hAs := hAd s.toNat (by omega) (by omega)
    refine gx_callV (ci := 10) (c_X11_findY l D cI cL cR lo h hi c n hn Z0 ga Z2 s hfd _ hgs) ok_X11_find mw_2_8 mw_2_10 mw_p_5 dX11_top_2 rfl Z0 rfl rfl (Nat.le_of_ble_eq_true rfl) (by first | exact Nat.le_of_ble_eq_true rfl | (simp only [rM]; omega)) (by first | exact Nat.le_of_ble_eq_true rfl | (simp only [rM]; omega)) (by first | exact Nat.le_of_ble_eq_true rfl | (simp only [rM]; omega)) (by first | exact Nat.le_of_ble_eq_true rfl | (simp only [rM]; omega)) (fun r1 h2 u3 q4 g5 => ?_)
    obtain ⟨rfl, rfl, rfl⟩ := q4
    refine ch_Gst (st2 := [.ref (Ad s.toNat)]) rfl ?_
    refine gx_astore [(4, .ref (Ad s.toNat)), (0, .ref lo), (1, .int (iI s)), (2, .int (iI x)), (3, .int (iI y))] dX11_top_5 (by decide) rfl ?_
    refine gx_aload 0 dX11_top_7 rfl ?_
    refine gx_ifnonnullA 14 dX11_top_9 (by decide) ?_
    refine gx_aload_n 1 dX11_top_14 rfl rfl ?_
    refine gx_aload 0 dX11_top_15 rfl ?_
    refine gx_iload_n 3 dX11_top_17 rfl rfl ?_
    refine gx_iload_n 4 dX11_top_18 rfl rfl ?_
    refine gx_aload_n 1 dX11_top_19 rfl rfl ?_
    refine gx_get (ci := 10) (f := 5) (C := RX11) (T := TX11) (N := 7) rfl inX11 (by decide) mw_1_95 dX11_top_20 Z0 rfl ?_
    obtain ⟨fg, R0, R1, R2, R3, R4⟩ := RS
    refine gx_callV (ci := 10) (c_X11_lookOver l D cI cL cR lo h hi gw fx fy fl fh wc Ls W c (lo + 13) (lo + 14) _ fg R0 R1 (by omega) (by omega) n Ad Kf Nf Wf hn Z0 HA (fun q q1 q2 => by have := (HA q q1 q2).1; omega) s.toNat (by omega) (by omega) x y hx hy) ok_X11_lookOver mw_2_81 mw_2_83 mw_p_6 dX11_top_23 rfl Z0 rfl rfl (Nat.le_of_ble_eq_true rfl) (by first | exact Nat.le_of_ble_eq_true rfl | (simp only [rM]; omega)) (by first | exact Nat.le_of_ble_eq_true rfl | (simp only [rM]; omega)) (by first | exact Nat.le_of_ble_eq_true rfl | (simp only [rM]; omega)) (by first | exact Nat.le_of_ble_eq_true rfl | (simp only [rM]; omega)) (fun r6 h7 u8 q9 g10 => ?_)
    obtain ⟨rfl, WE, RU, FR, rfl⟩ := q9
    obtain ⟨S2, X2⟩ := ssP_seen SS0 WE RU FR
    obtain ⟨f2, U0, U1, U2, U3, U4⟩ := RU
    have Z0b : h7 lo = some (.inr (10, [.ref (lo + 1), .int (iI c), .ref (lo + 2), .int (iI (n : Int)), .ref (lo + 3), .ref (lo + 13), .ref (lo + 15)])) := by rw [FR _ (nin_w (by omega) (by omega) (by omega))]; exact Z0
    refine ch_Gst (st2 := []) rfl ?_
    refine gx_aload_n 1 dX11_top_26 rfl rfl ?_
    refine gx_get (ci := 10) (f := 5) (C := RX11) (T := TX11) (N := 7) rfl inX11 (by decide) mw_1_95 dX11_top_27 Z0b rfl ?_
    refine gx_callV (ci := 7) (c_X7_afterGreatest l D cI cL cR lo h7 hi (lo + 13) (lo + 14) _ f2 U0 U1 ⟨by omega, by omega⟩ U4) ok_X7_afterGreatest mw_2_216 mw_2_217 mw_2_218 dX11_top_30 rfl U0 rfl rfl (Nat.le_of_ble_eq_true rfl) (by first | exact Nat.le_of_ble_eq_true rfl | (simp only [rM]; omega)) (by first | exact Nat.le_of_ble_eq_true rfl | (simp only [rM]; omega)) (by first | exact Nat.le_of_ble_eq_true rfl | (simp only [rM]; omega)) (by first | exact Nat.le_of_ble_eq_true rfl | (simp only [rM]; omega)) (fun r11 h12 u13 q14 g15 => ?_)
    obtain ⟨rfl, rfl, rfl⟩ := q14
    refine ch_Gst (st2 := [.int (iI (agR f2 (((edN Kf Nf s.toNat x y).length : Int) / 2).toNat))]) rfl ?_
    refine gx_iret rfl dX11_top_33 (by first | exact Nat.le_of_ble_eq_true rfl | (simp only [rM]; omega)) (by first | exact Nat.le_of_ble_eq_true rfl | (simp only [rM]; omega)) ?_
    exact ⟨by rw [if_pos hfd, agL_in U3], by rw [if_pos hfd]; exact S2, X2, rfl⟩
  · refine gx_callV (ci := 10) (c_X11_findN l D cI cL cR lo h hi c n hn Z0 ga Z2 s (by constructor <;> omega) (by omega)) ok_X11_find mw_2_8 mw_2_10 mw_p_5 dX11_top_2 rfl Z0 rfl rfl (Nat.le_of_ble_eq_true rfl) (by first | exact Nat.le_of_ble_eq_true rfl | (simp only [rM]; omega)) (by first | exact Nat.le_of_ble_eq_true rfl | (simp only [rM]; omega)) (by first | exact Nat.le_of_ble_eq_true rfl | (simp only [rM]; omega)) (by first | exact Nat.le_of_ble_eq_true rfl | (simp only [rM]; omega)) (fun r16 h17 u18 q19 g20 => ?_)
    obtain ⟨rfl, rfl, rfl⟩ := q19
    refine ch_Gst (st2 := [.null]) rfl ?_
    refine gx_astoreN [(4, .null), (0, .ref lo), (1, .int (iI s)), (2, .int (iI x)), (3, .int (iI y))] dX11_top_5 (by decide) rfl ?_
    refine gx_aloadN 0 dX11_top_7 rfl ?_
    refine gx_ifnonnullZ dX11_top_9 ?_
    refine gx_iconst (iI (-1)) dX11_top_12 rfl ?_
    refine gx_iret rfl dX11_top_13 (by first | exact Nat.le_of_ble_eq_true rfl | (simp only [rM]; omega)) (by first | exact Nat.le_of_ble_eq_true rfl | (simp only [rM]; omega)) ?_
    exact ⟨by rw [if_neg hfd], by rw [if_neg hfd]; exact SS0, fun b _ _ => rfl, rfl⟩
set_option maxHeartbeats 4000000 in
set_option maxRecDepth 100000 in
theorem c_X11_spans (l : Launch) (D : va_G) (cI cL cR : ClassId) (lo : Nat) (h : ch_H) (hi : Nat) (fz : Nat → Int) (c : Int) (n : Nat) (Ad : Nat → Nat) (Kf Nf Wf : Nat → Int) (Es Et : List Int) (SS : ssP cI cR lo h hi fz c n Ad Kf Nf Wf Es Et) (s x y : Int) (hs : ir s) (hx : ir x) (hy : ir y) : ch_C l (eE D cI cL cR lo) M_X11_spans (rM 6 0 0) [.ref lo, .int (iI s), .int (iI x), .int (iI y)] h hi (fun r0 h2 hi2 => r0 = some (.int (iI (if 1 ≤ s ∧ s ≤ (n : Int) then ((edN Kf Nf s.toNat x y).length : Int) / 2 else -1))) ∧ ssP cI cR lo h2 hi fz c n Ad Kf Nf Wf Es (if 1 ≤ s ∧ s ≤ (n : Int) then edN Kf Nf s.toNat x y else Et) ∧ xfr lo hi h h2 ∧ hi = hi2) := by
  refine ch_C.of rfl (Nat.le_of_ble_eq_true rfl) ?_
  have SS0 := SS
  obtain ⟨Z0, Z1, ⟨ga, Z2, hga⟩, ⟨gw, fx, fy, fl, fh, wc, Ls, W⟩, RS, RT, HA, hc, hn, hfz, hhi, hAd⟩ := SS
  refine gx_aload_n 0 dX11_spans_0 rfl rfl ?_
  refine gx_iload_n 1 dX11_spans_1 rfl rfl ?_
  by_cases hfd : 1 ≤ s ∧ s ≤ (n : Int)
  · have hgs : ga (s - 1).toNat = some (Ad s.toNat) := by rw [hga _ (by omega)]; congr 2; omega
    obtain ⟨hpl, hp, hwf⟩ := HA s.toNat (by omega) (by omega)
    obtain ⟨cS, vS, e1, sS⟩ := soC_S (Ad := Ad) hwf
    rw [e1] at hp
    have hWs := hwf.1
    have hAs := hAd s.toNat (by omega) (by omega)
    refine gx_callV (ci := 10) (c_X11_findY l D cI cL cR lo h hi c n hn Z0 ga Z2 s hfd _ hgs) ok_X11_find mw_2_8 mw_2_10 mw_p_5 dX11_spans_2 rfl Z0 rfl rfl (Nat.le_of_ble_eq_true rfl) (by first | exact Nat.le_of_ble_eq_true rfl | (simp only [rM]; omega)) (by first | exact Nat.le_of_ble_eq_true rfl | (simp only [rM]; omega)) (by first | exact Nat.le_of_ble_eq_true rfl | (simp only [rM]; omega)) (by first | exact Nat.le_of_ble_eq_true rfl | (simp only [rM]; omega)) (fun r1 h2 u3 q4 g5 => ?_)
    obtain ⟨rfl, rfl, rfl⟩ := q4
    refine ch_Gst (st2 := [.ref (Ad s.toNat)]) rfl ?_
    refine gx_astore [(4, .ref (Ad s.toNat)), (0, .ref lo), (1, .int (iI s)), (2, .int (iI x)), (3, .int (iI y))] dX11_spans_5 (by decide) rfl ?_
    refine gx_aload 0 dX11_spans_7 rfl ?_
    refine gx_ifnonnullA 14 dX11_spans_9 (by decide) ?_
    refine gx_aload_n 1 dX11_spans_14 rfl rfl ?_
    refine gx_aload 0 dX11_spans_15 rfl ?_
    refine gx_iload_n 3 dX11_spans_17 rfl rfl ?_
    refine gx_iload_n 4 dX11_spans_18 rfl rfl ?_
    refine gx_aload_n 1 dX11_spans_19 rfl rfl ?_
    refine gx_get (ci := 10) (f := 6) (C := RX11) (T := TX11) (N := 7) rfl inX11 (by decide) mw_1_96 dX11_spans_20 Z0 rfl ?_
    obtain ⟨fg, R0, R1, R2, R3, R4⟩ := RT
    refine gx_callV (ci := 10) (c_X11_lookOver l D cI cL cR lo h hi gw fx fy fl fh wc Ls W c (lo + 15) (lo + 16) _ fg R0 R1 (by omega) (by omega) n Ad Kf Nf Wf hn Z0 HA (fun q q1 q2 => by have := (HA q q1 q2).1; omega) s.toNat (by omega) (by omega) x y hx hy) ok_X11_lookOver mw_2_81 mw_2_83 mw_p_6 dX11_spans_23 rfl Z0 rfl rfl (Nat.le_of_ble_eq_true rfl) (by first | exact Nat.le_of_ble_eq_true rfl | (simp only [rM]; omega)) (by first | exact Nat.le_of_ble_eq_true rfl | (simp only [rM]; omega)) (by first | exact Nat.le_of_ble_eq_true rfl | (simp only [rM]; omega)) (by first | exact Nat.le_of_ble_eq_true rfl | (simp only [rM]; omega)) (fun r6 h7 u8 q9 g10 => ?_)
    obtain ⟨rfl, WE, RU, FR, rfl⟩ := q9
    obtain ⟨S2, X2⟩ := ssP_told SS0 WE RU FR
    obtain ⟨f2, U0, U1, U2, U3, U4⟩ := RU
    have Z0b : h7 lo = some (.inr (10, [.ref (lo + 1), .int (iI c), .ref (lo + 2), .int (iI (n : Int)), .ref (lo + 3), .ref (lo + 13), .ref (lo + 15)])) := by rw [FR _ (nin_w (by omega) (by omega) (by omega))]; exact Z0
    refine ch_Gst (st2 := []) rfl ?_
    refine gx_aload_n 1 dX11_spans_26 rfl rfl ?_
    refine gx_get (ci := 10) (f := 6) (C := RX11) (T := TX11) (N := 7) rfl inX11 (by decide) mw_1_96 dX11_spans_27 Z0b rfl ?_
    refine gx_callV (ci := 7) (c_X7_runCount l D cI cL cR lo h7 hi (lo + 15) (lo + 16) _ U0 ⟨by omega, by omega⟩) ok_X7_runCount mw_2_224 mw_2_198 mw_2_199 dX11_spans_30 rfl U0 rfl rfl (Nat.le_of_ble_eq_true rfl) (by first | exact Nat.le_of_ble_eq_true rfl | (simp only [rM]; omega)) (by first | exact Nat.le_of_ble_eq_true rfl | (simp only [rM]; omega)) (by first | exact Nat.le_of_ble_eq_true rfl | (simp only [rM]; omega)) (by first | exact Nat.le_of_ble_eq_true rfl | (simp only [rM]; omega)) (fun r11 h12 u13 q14 g15 => ?_)
    obtain ⟨rfl, rfl, rfl⟩ := q14
    refine ch_Gst (st2 := [.int (iI (((edN Kf Nf s.toNat x y).length : Int) / 2))]) rfl ?_
    refine gx_iret rfl dX11_spans_33 (by first | exact Nat.le_of_ble_eq_true rfl | (simp only [rM]; omega)) (by first | exact Nat.le_of_ble_eq_true rfl | (simp only [rM]; omega)) ?_
    exact ⟨by rw [if_pos hfd], by rw [if_pos hfd]; exact S2, X2, rfl⟩
  · refine gx_callV (ci := 10) (c_X11_findN l D cI cL cR lo h hi c n hn Z0 ga Z2 s (by constructor <;> omega) (by omega)) ok_X11_find mw_2_8 mw_2_10 mw_p_5 dX11_spans_2 rfl Z0 rfl rfl (Nat.le_of_ble_eq_true rfl) (by first | exact Nat.le_of_ble_eq_true rfl | (simp only [rM]; omega)) (by first | exact Nat.le_of_ble_eq_true rfl | (simp only [rM]; omega)) (by first | exact Nat.le_of_ble_eq_true rfl | (simp only [rM]; omega)) (by first | exact Nat.le_of_ble_eq_true rfl | (simp only [rM]; omega)) (fun r16 h17 u18 q19 g20 => ?_)
    obtain ⟨rfl, rfl, rfl⟩ := q19
    refine ch_Gst (st2 := [.null]) rfl ?_
    refine gx_astoreN [(4, .null), (0, .ref lo), (1, .int (iI s)), (2, .int (iI x)), (3, .int (iI y))] dX11_spans_5 (by decide) rfl ?_
    refine gx_aloadN 0 dX11_spans_7 rfl ?_
    refine gx_ifnonnullZ dX11_spans_9 ?_
    refine gx_iconst (iI (-1)) dX11_spans_12 rfl ?_
    refine gx_iret rfl dX11_spans_13 (by first | exact Nat.le_of_ble_eq_true rfl | (simp only [rM]; omega)) (by first | exact Nat.le_of_ble_eq_true rfl | (simp only [rM]; omega)) ?_
    exact ⟨by rw [if_neg hfd], by rw [if_neg hfd]; exact SS0, fun b _ _ => rfl, rfl⟩
set_option maxHeartbeats 4000000 in
set_option maxRecDepth 100000 in
theorem c_X11_span (l : Launch) (D : va_G) (cI cL cR : ClassId) (lo : Nat) (h : ch_H) (hi : Nat) (fz : Nat → Int) (c : Int) (n : Nat) (Ad : Nat → Nat) (Kf Nf Wf : Nat → Int) (Es Et : List Int) (SS : ssP cI cR lo h hi fz c n Ad Kf Nf Wf Es Et) (k w : Int) (hk : ir k) (hw : ir w) : ch_C l (eE D cI cL cR lo) M_X11_span (rM 2 0 0) [.ref lo, .int (iI k), .int (iI w)] h hi (fun r0 h2 hi2 => r0 = some (.int (iI (if w = 0 then spF Et k else if w = 1 then spL Et k else 0))) ∧ h = h2 ∧ hi = hi2) := by
  refine ch_C.of rfl (Nat.le_of_ble_eq_true rfl) ?_
  have SS0 := SS
  obtain ⟨Z0, Z1, ⟨ga, Z2, hga⟩, ⟨gw, fx, fy, fl, fh, wc, Ls, W⟩, RS, RT, HA, hc, hn, hfz, hhi, hAd⟩ := SS
  obtain ⟨f2, U0, U1, U2, U3, U4⟩ := RT
  refine gx_iload_n 2 dX11_span_0 rfl rfl ?_
  refine gy_if_ne 13 dX11_span_1 (by decide) (by constructor <;> omega) (fun c1 => ?_) (fun c1 => ?_)
  · refine gx_iload_n 2 dX11_span_13 rfl rfl ?_
    refine gx_iconst (iI 1) dX11_span_14 rfl ?_
    refine gy_icmp_ne 29 dX11_span_15 (by decide) (by constructor <;> omega) (by decide) (fun c15 => ?_) (fun c15 => ?_)
    · refine gx_iconst (iI 0) dX11_span_29 rfl ?_
      refine gx_iret rfl dX11_span_30 (by first | exact Nat.le_of_ble_eq_true rfl | (simp only [rM]; omega)) (by first | exact Nat.le_of_ble_eq_true rfl | (simp only [rM]; omega)) ?_
      exact ⟨by rw [if_neg (by omega), if_neg (by omega)], rfl, rfl⟩
    · refine gx_aload_n 0 dX11_span_18 rfl rfl ?_
      refine gx_get (ci := 10) (f := 6) (C := RX11) (T := TX11) (N := 7) rfl inX11 (by decide) mw_1_96 dX11_span_19 Z0 rfl ?_
      refine gx_iload_n 1 dX11_span_22 rfl rfl ?_
      refine gx_callV (ci := 7) (c_X7_lastOf l D cI cL cR lo h hi (lo + 15) (lo + 16) _ f2 U0 U1 ⟨by omega, by omega⟩ k (by constructor <;> omega)) ok_X7_lastOf mw_2_230 mw_2_209 mw_2_210 dX11_span_23 rfl U0 rfl rfl (Nat.le_of_ble_eq_true rfl) (by first | exact Nat.le_of_ble_eq_true rfl | (simp only [rM]; omega)) (by first | exact Nat.le_of_ble_eq_true rfl | (simp only [rM]; omega)) (by first | exact Nat.le_of_ble_eq_true rfl | (simp only [rM]; omega)) (by first | exact Nat.le_of_ble_eq_true rfl | (simp only [rM]; omega)) (fun r1 h2 u3 q4 g5 => ?_)
      obtain ⟨rfl, rfl, rfl⟩ := q4
      refine ch_Gst (st2 := [.int (iI (ruL f2 (Et.length : Int) k))]) rfl ?_
      refine gx_goto 30 dX11_span_26 (by decide) ?_
      refine gx_iret rfl dX11_span_30 (by first | exact Nat.le_of_ble_eq_true rfl | (simp only [rM]; omega)) (by first | exact Nat.le_of_ble_eq_true rfl | (simp only [rM]; omega)) ?_
      exact ⟨by rw [if_neg (by omega), if_pos (by omega), spL_e U3], rfl, rfl⟩
  · refine gx_aload_n 0 dX11_span_4 rfl rfl ?_
    refine gx_get (ci := 10) (f := 6) (C := RX11) (T := TX11) (N := 7) rfl inX11 (by decide) mw_1_96 dX11_span_5 Z0 rfl ?_
    refine gx_iload_n 1 dX11_span_8 rfl rfl ?_
    refine gx_callV (ci := 7) (c_X7_firstOf l D cI cL cR lo h hi (lo + 15) (lo + 16) _ f2 U0 U1 ⟨by omega, by omega⟩ k (by constructor <;> omega)) ok_X7_firstOf mw_2_229 mw_2_202 mw_2_203 dX11_span_9 rfl U0 rfl rfl (Nat.le_of_ble_eq_true rfl) (by first | exact Nat.le_of_ble_eq_true rfl | (simp only [rM]; omega)) (by first | exact Nat.le_of_ble_eq_true rfl | (simp only [rM]; omega)) (by first | exact Nat.le_of_ble_eq_true rfl | (simp only [rM]; omega)) (by first | exact Nat.le_of_ble_eq_true rfl | (simp only [rM]; omega)) (fun r6 h7 u8 q9 g10 => ?_)
    obtain ⟨rfl, rfl, rfl⟩ := q9
    refine ch_Gst (st2 := [.int (iI (ruF f2 (Et.length : Int) k))]) rfl ?_
    refine gx_iret rfl dX11_span_12 (by first | exact Nat.le_of_ble_eq_true rfl | (simp only [rM]; omega)) (by first | exact Nat.le_of_ble_eq_true rfl | (simp only [rM]; omega)) ?_
    exact ⟨by rw [if_pos (by omega), spF_e U3], rfl, rfl⟩
set_option maxHeartbeats 4000000 in
set_option maxRecDepth 100000 in
theorem c_X11_within (l : Launch) (D : va_G) (cI cL cR : ClassId) (lo : Nat) (h : ch_H) (hi : Nat) (fz : Nat → Int) (c : Int) (n : Nat) (Ad : Nat → Nat) (Kf Nf Wf : Nat → Int) (Es Et : List Int) (SS : ssP cI cR lo h hi fz c n Ad Kf Nf Wf Es Et) (a b : Int) (ha : ir a) (hb : ir b) : ch_C l (eE D cI cL cR lo) M_X11_within (rM 3 0 0) [.ref lo, .int (iI a), .int (iI b)] h hi (fun r0 h2 hi2 => r0 = some (.long (lI (cnL Et a b))) ∧ h = h2 ∧ hi = hi2) := by
  refine ch_C.of rfl (Nat.le_of_ble_eq_true rfl) ?_
  have SS0 := SS
  obtain ⟨Z0, Z1, ⟨ga, Z2, hga⟩, ⟨gw, fx, fy, fl, fh, wc, Ls, W⟩, RS, RT, HA, hc, hn, hfz, hhi, hAd⟩ := SS
  obtain ⟨f2, U0, U1, U2, U3, U4⟩ := RT
  refine gx_aload_n 0 dX11_within_0 rfl rfl ?_
  refine gx_get (ci := 10) (f := 6) (C := RX11) (T := TX11) (N := 7) rfl inX11 (by decide) mw_1_96 dX11_within_1 Z0 rfl ?_
  refine gx_iload_n 1 dX11_within_4 rfl rfl ?_
  refine gx_iload_n 2 dX11_within_5 rfl rfl ?_
  refine gx_callV (ci := 7) (c_X7_countFrom l D cI cL cR lo h hi (lo + 15) (lo + 16) _ f2 U0 U1 ⟨by omega, by omega⟩ U4 a b (by constructor <;> omega) (by constructor <;> omega)) ok_X7_countFrom mw_2_193 mw_2_194 mw_2_195 dX11_within_6 rfl U0 rfl rfl (Nat.le_of_ble_eq_true rfl) (by first | exact Nat.le_of_ble_eq_true rfl | (simp only [rM]; omega)) (by first | exact Nat.le_of_ble_eq_true rfl | (simp only [rM]; omega)) (by first | exact Nat.le_of_ble_eq_true rfl | (simp only [rM]; omega)) (by first | exact Nat.le_of_ble_eq_true rfl | (simp only [rM]; omega)) (fun r1 h2 u3 q4 g5 => ?_)
  obtain ⟨rfl, rfl, rfl⟩ := q4
  refine ch_Gst (st2 := [.long (lI (cntR f2 a b ((Et.length : Int) / 2).toNat))]) rfl ?_
  refine gx_lret rfl dX11_within_9 (by first | exact Nat.le_of_ble_eq_true rfl | (simp only [rM]; omega)) (by first | exact Nat.le_of_ble_eq_true rfl | (simp only [rM]; omega)) ?_
  exact ⟨by rw [cnL_in U3], rfl, rfl⟩
end
