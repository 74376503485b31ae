section
/-- two tables of solids that agree on the first n -/
def agN (n : Nat) (Kf Nf Wf Kf2 Nf2 Wf2 : Nat → Int) : Prop := ∀ s, 1 ≤ s → s ≤ n → Kf2 s = Kf s ∧ Wf2 s = Wf s ∧ ∀ k, k < 6 → Nf2 (6 * s + k) = Nf (6 * s + k)
theorem wfS_ag {n : Nat} {Kf Nf Wf Kf2 Nf2 Wf2 : Nat → Int} (H : agN n Kf Nf Wf Kf2 Nf2 Wf2) {s : Nat} (h1 : 1 ≤ s) (h2 : s ≤ n) (w : wfS Kf Nf Wf s) : wfS Kf2 Nf2 Wf2 s := by
  obtain ⟨e1, e2, e3⟩ := H s h1 h2
  have n0 : Nf2 (6 * s) = Nf (6 * s) := e3 0 (by omega)
  have n1 := e3 1 (by omega)
  have n2 := e3 2 (by omega)
  have n3 := e3 3 (by omega)
  obtain ⟨w1, w2⟩ := w
  unfold wfS
  rw [e1, e2, n0, n1, n2, n3]
  refine ⟨w1, ?_⟩
  rcases w2 with ⟨a, b, c, d, e⟩ | ⟨a, b, c, d, e, f, g, i⟩ | ⟨a, b, c, d, e, f, g⟩ | ⟨a, b, c, d⟩
  · exact Or.inl ⟨a, b, fun k hk => by rw [e3 k hk]; exact c k hk, d, e⟩
  · refine Or.inr (Or.inl ⟨a, b, c, d, e, f, g, ?_⟩)
    rw [(H _ (by omega) (by omega)).2.1, (H _ (by omega) (by omega)).2.1]; exact i
  · refine Or.inr (Or.inr (Or.inl ⟨a, b, c, d, e, f, ?_⟩))
    rw [(H _ (by omega) (by omega)).2.1]; exact g
  · refine Or.inr (Or.inr (Or.inr ⟨a, b, c, ?_⟩))
    rw [(H _ (by omega) (by omega)).2.1]; exact d
theorem soC_ag {n p : Nat} {Ad : Nat → Nat} {Kf Nf Wf Kf2 Nf2 Wf2 : Nat → Int} (H : agN n Kf Nf Wf Kf2 Nf2 Wf2) {s : Nat} (h1 : 1 ≤ s) (h2 : s ≤ n) (w : wfS Kf Nf Wf s) : soC (va_up Ad (n + 1) p) Kf2 Nf2 Wf2 s = soC Ad Kf Nf Wf s := by
  obtain ⟨e1, e2, e3⟩ := H s h1 h2
  have n0 : Nf2 (6 * s) = Nf (6 * s) := e3 0 (by omega)
  have n1 := e3 1 (by omega)
  have n2 := e3 2 (by omega)
  have n3 := e3 3 (by omega)
  have n4 := e3 4 (by omega)
  have n5 := e3 5 (by omega)
  obtain ⟨w1, w2⟩ := w
  unfold soC
  rw [e1, e2, n0, n1, n2, n3, n4, n5]
  rcases w2 with ⟨a, b, c, d, e⟩ | ⟨a, b, c, d, e, f, g, i⟩ | ⟨a, b, c, d, e, f, g⟩ | ⟨a, b, c, d⟩
  · by_cases k0 : Kf s = 0
    · rw [if_pos k0, if_pos k0]
    by_cases k1 : Kf s = 1
    · rw [if_neg k0, if_neg k0, if_pos k1, if_pos k1]
    by_cases k2 : Kf s = 2
    · rw [if_neg k0, if_neg k0, if_neg k1, if_neg k1, if_pos k2, if_pos k2]
    have k3 : Kf s = 3 := by omega
    rw [if_neg k0, if_neg k0, if_neg k1, if_neg k1, if_neg k2, if_neg k2, if_pos k3, if_pos k3]
  · have hp : va_up Ad (n + 1) p (Nf (6 * s)).toNat = Ad (Nf (6 * s)).toNat := va_upN (by omega)
    have hq : va_up Ad (n + 1) p (Nf (6 * s + 1)).toNat = Ad (Nf (6 * s + 1)).toNat := va_upN (by omega)
    rw [if_neg (by omega), if_neg (by omega), if_neg (by omega), if_neg (by omega), if_pos a, if_neg (by omega), if_neg (by omega), if_neg (by omega), if_neg (by omega), if_pos a, hp, hq]
  · have hp : va_up Ad (n + 1) p (Nf (6 * s + 3)).toNat = Ad (Nf (6 * s + 3)).toNat := va_upN (by omega)
    rw [if_neg (by omega), if_neg (by omega), if_neg (by omega), if_neg (by omega), if_neg (by omega), if_pos a, if_neg (by omega), if_neg (by omega), if_neg (by omega), if_neg (by omega), if_neg (by omega), if_pos a, hp]
  · have hp : va_up Ad (n + 1) p (Nf (6 * s)).toNat = Ad (Nf (6 * s)).toNat := va_upN (by omega)
    rw [if_neg (by omega), if_neg (by omega), if_neg (by omega), if_neg (by omega), if_neg (by omega), if_neg (by omega), if_neg (by omega), if_neg (by omega), if_neg (by omega), if_neg (by omega), if_neg (by omega), if_neg (by omega), hp]
/-- one more solid, at the new cell -/
theorem ssP_push {cI cR : ClassId} {lo : Nat} {h : ch_H} {hi : Nat} {fz : Nat → Int} {c : Int} {n : Nat} {Ad : Nat → Nat} {Kf Nf Wf : Nat → Int} {Es Et : List Int} (SS : ssP cI cR lo h hi fz c n Ad Kf Nf Wf Es Et) {Kf2 Nf2 Wf2 : Nat → Int} (hag : agN n Kf Nf Wf Kf2 Nf2 Wf2) (hwf : wfS Kf2 Nf2 Wf2 (n + 1)) (hnf : n < 60) {h2 : ch_H} {c2 : Int} (e0 : h2 lo = some (.inr (10, [.ref (lo + 1), .int (iI c2), .ref (lo + 2), .int (iI ((n + 1 : Nat) : Int)), .ref (lo + 3), .ref (lo + 13), .ref (lo + 15)]))) {ga : Nat → Option Nat} (hga : ∀ i, i < n → ga i = some (Ad (i + 1))) (e2 : h2 (lo + 2) = some (aR cR 60 (va_up ga n (some hi)))) (e3 : h2 hi = some (soC (va_up Ad (n + 1) hi) Kf2 Nf2 Wf2 (n + 1))) (e4 : ∀ b, b ≠ lo → b ≠ lo + 2 → b ≠ hi → h2 b = h b) (hc2 : 0 ≤ c2 ∧ c2 ≤ 6) : ssP cI cR lo h2 (hi + 1) fz c2 (n + 1) (va_up Ad (n + 1) hi) Kf2 Nf2 Wf2 Es Et ∧ xfr lo hi h h2 := by
  obtain ⟨Z0, Z1, -, WE, RS, RT, HA, hc, hn, hfz, hhi, hAd⟩ := SS
  have X : xfr lo hi h h2 := fun b b1 b2 => e4 b (by omega) (by omega) (by omega)
  refine ⟨⟨e0, by rw [e4 _ (by omega) (by omega) (by omega)]; exact Z1, ⟨_, e2, fun i hi' => ?_⟩, wwE_fr WE (fun b b1 b2 => e4 b (by omega) (by omega) (by omega)), ruP_fr RS (e4 _ (by omega) (by omega) (by omega)) (e4 _ (by omega) (by omega) (by omega)), ruP_fr RT (e4 _ (by omega) (by omega) (by omega)) (e4 _ (by omega) (by omega) (by omega)), ?_, hc2, by omega, hfz, by omega, ?_⟩, X⟩
  · by_cases q : i = n
    · rw [q, va_upS, va_upS]
    · rw [va_upN q, va_upN (by omega)]; exact hga i (by omega)
  · intro s s1 s2
    by_cases q : s = n + 1
    · subst q
      rw [va_upS]
      exact ⟨by omega, e3, hwf⟩
    · rw [va_upN q]
      obtain ⟨a, b, w⟩ := HA s s1 (by omega)
      exact ⟨a, by rw [X _ (by omega) (hAd s s1 (by omega)), soC_ag hag s1 (by omega) w]; exact b, wfS_ag hag s1 (by omega) w⟩
  · intro s s1 s2
    by_cases q : s = n + 1
    · rw [q, va_upS]; omega
    · rw [va_upN q]; have := hAd s s1 (by omega); omega
/-- the sizes used up, nothing else -/
theorem ssP_use {cI cR : ClassId} {lo : Nat} {h : ch_H} {hi : Nat} {fz : Nat → Int} {c : Int} {n : Nat} {Ad : Nat → Nat} {Kf Nf Wf : Nat → Int} {Es Et : List Int} (SS : ssP cI cR lo h hi fz c n Ad Kf Nf Wf Es Et) {h2 : ch_H} {c2 : Int} (e : h2 = ch_set h lo (.inr (10, [.ref (lo + 1), .int (iI c2), .ref (lo + 2), .int (iI (n : Int)), .ref (lo + 3), .ref (lo + 13), .ref (lo + 15)]))) (hc2 : 0 ≤ c2 ∧ c2 ≤ 6) : ssP cI cR lo h2 hi fz c2 n Ad Kf Nf Wf Es Et ∧ xfr lo hi h h2 := by
  obtain ⟨Z0, Z1, ⟨ga, Z2, hga⟩, WE, RS, RT, HA, hc, hn, hfz, hhi, hAd⟩ := SS
  have Y : ∀ b, b ≠ lo → h2 b = h b := fun b q => by rw [e, ch_set_ne q]
  have X : xfr lo hi h h2 := fun b b1 b2 => Y b (by omega)
  exact ⟨⟨by rw [e]; exact ch_set_self, by rw [Y _ (by omega)]; exact Z1, ⟨ga, by rw [Y _ (by omega)]; exact Z2, hga⟩, wwE_fr WE (fun b b1 b2 => Y b (by omega)), ruP_fr RS (Y _ (by omega)) (Y _ (by omega)), ruP_fr RT (Y _ (by omega)) (Y _ (by omega)), soA_x HA hAd X, hc2, hn, hfz, hhi, hAd⟩, X⟩
set_option maxHeartbeats 4000000 in
set_option maxRecDepth 100000 in
theorem c_X11_turned (l : Launch) (D : va_G) (cI cL cR : ClassId) (lo : Nat) (h : ch_H) (hi : Nat) (fz : Nat → Int) (c : Int) (n : Nat) (Ad : Nat → Nat) (Kf Nf Wf : Nat → Int) (Es Et : List Int) (SS : ssP cI cR lo h hi fz c n Ad Kf Nf Wf Es Et) (s : Int) (hs : ir s) (Kf2 Nf2 Wf2 : Nat → Int) (hag : agN n Kf Nf Wf Kf2 Nf2 Wf2) (hnew : (1 ≤ s ∧ s ≤ (n : Int) ∧ Wf s.toNat + 1 ≤ 100) → n < 60 → Kf2 (n + 1) = 6 ∧ Wf2 (n + 1) = Wf s.toNat + 1 ∧ Nf2 (6 * (n + 1)) = s) : ch_C l (eE D cI cL cR lo) M_X11_turned (rM 3 1 7) [.ref lo, .int (iI s)] h hi (fun r0 h2 hi2 => (((1 ≤ s ∧ s ≤ (n : Int) ∧ Wf s.toNat + 1 ≤ 100) ∧ n < 60) → r0 = some (.int (iI ((n : Int) + 1))) ∧ ssP cI cR lo h2 hi2 fz c (n + 1) (va_up Ad (n + 1) hi) Kf2 Nf2 Wf2 Es Et) ∧ (¬ ((1 ≤ s ∧ s ≤ (n : Int) ∧ Wf s.toNat + 1 ≤ 100) ∧ n < 60) → r0 = some (.int (iI (if 1 ≤ s ∧ s ≤ (n : Int) ∧ Wf s.toNat + 1 ≤ 100 then -2 else -1))) ∧ ssP cI cR lo h2 hi2 fz c n Ad Kf Nf Wf Es Et) ∧ xfr lo hi h h2 ∧ hi ≤ hi2) := by
  refine ch_C.of rfl (Nat.le_of_ble_eq_true rfl) ?_
  have SS0 := SS
  obtain ⟨Z0, Z1, ⟨ga, Z2, hga⟩, ⟨gw, fx, fy, fl, fh, wc, Ls, W⟩, RS, RT, HA, hc, hn, hfz, hhi, hAd⟩ := SS
  refine gx_aload_n 0 dX11_turned_0 rfl rfl ?_
  refine gx_iload_n 1 dX11_turned_1 rfl rfl ?_
  by_cases hfds : 1 ≤ s ∧ s ≤ (n : Int)
  · have hgss : ga (s - 1).toNat = some (Ad s.toNat) := by rw [hga _ (by omega)]; congr 2; omega
    obtain ⟨hpls, hps, hwfs⟩ := HA s.toNat (by omega) (by omega)
    obtain ⟨cs, vs, e1s, sSs⟩ := soC_S (Ad := Ad) hwfs
    rw [e1s] at hps
    have hWss := hwfs.1
    have hAss := hAd s.toNat (by omega) (by omega)
    refine gx_callV (ci := 10) (c_X11_findY l D cI cL cR lo h hi c n hn Z0 ga Z2 s hfds _ hgss) ok_X11_find mw_2_8 mw_2_10 mw_p_5 dX11_turned_2 rfl Z0 rfl rfl (Nat.le_of_ble_eq_true rfl) (by first | exact Nat.le_of_ble_eq_true rfl | (simp only [rM]; omega)) (by first | exact Nat.le_of_ble_eq_true rfl | (simp only [rM]; omega)) (by first | exact Nat.le_of_ble_eq_true rfl | (simp only [rM]; omega)) (by first | exact Nat.le_of_ble_eq_true rfl | (simp only [rM]; omega)) (fun r1 h2 u3 q4 g5 => ?_)
    obtain ⟨rfl, rfl, rfl⟩ := q4
    refine ch_Gst (st2 := [.ref (Ad s.toNat)]) rfl ?_
    refine gx_astore_n [(2, .ref (Ad s.toNat)), (0, .ref lo), (1, .int (iI s))] dX11_turned_5 rfl (by decide) rfl ?_
    refine gx_aload_n 0 dX11_turned_6 rfl rfl ?_
    refine gx_ifnullA dX11_turned_7 ?_
    refine gx_aload_n 0 dX11_turned_10 rfl rfl ?_
    refine gy_getw sSs mw_1_158 dX11_turned_11 hps ?_
    refine gx_iconst (iI 1) dX11_turned_14 rfl ?_
    refine gy_iadd dX11_turned_15 ?_
    refine gx_bipush (iI 100) dX11_turned_16 (by decide) ?_
    refine gy_icmp_le 23 dX11_turned_18 (by decide) (by constructor <;> omega) (by decide) (fun c18 => ?_) (fun c18 => ?_)
    · refine gx_aload_n 1 dX11_turned_23 rfl rfl ?_
      refine gx_callV (ci := 10) (c_X11_isFull l D cI cL cR lo h hi c n hn Z0) ok_X11_isFull mw_1_131 mw_1_133 mw_p_2 dX11_turned_24 rfl Z0 rfl rfl (Nat.le_of_ble_eq_true rfl) (by first | exact Nat.le_of_ble_eq_true rfl | (simp only [rM]; omega)) (by first | exact Nat.le_of_ble_eq_true rfl | (simp only [rM]; omega)) (by first | exact Nat.le_of_ble_eq_true rfl | (simp only [rM]; omega)) (by first | exact Nat.le_of_ble_eq_true rfl | (simp only [rM]; omega)) (fun r6 h7 u8 q9 g10 => ?_)
      obtain ⟨rfl, rfl, rfl⟩ := q9
      refine ch_Gst (st2 := [.int (iI (bI (decide (60 ≤ n))))]) rfl ?_
      refine gy_if_eq 35 dX11_turned_27 (by decide) ir_bI (fun c27 => ?_) (fun c27 => ?_)
      · refine gx_aload_n 1 dX11_turned_35 rfl rfl ?_
        have hnf0 : n < 60 := by have := bI_0 c27; have := of_decide_eq_false this; omega
        refine gy_new (ci := 8) (C := RX9) (T := TX9) (N := 2) [.int (iI 0), .null] tyX9 rfl inX9 tyX9_ok mw_2_57 mw_2_58 mw_1_13 (fun j hj => by rcases (show j = 0 ∨ j = 1 by omega) with rfl | rfl <;> rfl) (by first | exact Nat.le_of_ble_eq_true rfl | (simp only [rM]; omega)) (by first | exact Nat.le_of_ble_eq_true rfl | (simp only [rM]; omega)) dX11_turned_36 (fun h11 eh11 => ?_)
        have k12 : h11 lo = some (.inr (10, [.ref (lo + 1), .int (iI c), .ref (lo + 2), .int (iI (n : Int)), .ref (lo + 3), .ref (lo + 13), .ref (lo + 15)])) := by rw [eh11, ch_set_ne (by first | assumption | omega)]; exact Z0
        have k13 : h11 (lo + 1) = some (aI cI 6 fz) := by rw [eh11, ch_set_ne (by first | assumption | omega)]; exact Z1
        have k14 : h11 (lo + 2) = some (aR cR 60 ga) := by rw [eh11, ch_set_ne (by first | assumption | omega)]; exact Z2
        have k15 : h11 (Ad s.toNat) = some (.inr (cs, (.int (iI (Wf s.toNat)) :: vs))) := by rw [eh11, ch_set_ne (by first | assumption | omega)]; exact hps
        have k16 : h11 hi = some (.inr (8, [.int (iI 0), .null])) := by rw [eh11]; exact ch_set_self
        refine gx_dup dX11_turned_39 rfl ?_
        refine gx_aload_n 0 dX11_turned_40 rfl rfl ?_
        refine gx_callI (c_X9_init l D cI cL cR lo h11 (hi + 1) hi (Ad s.toNat) cs _ (Wf s.toNat) k16 k15 sSs (by omega)) ok_X9_init mw_2_59 mw_2_60 rfl rfl dX11_turned_41 rfl rfl (Nat.le_of_ble_eq_true rfl) (by first | exact Nat.le_of_ble_eq_true rfl | (simp only [rM]; omega)) (by first | exact Nat.le_of_ble_eq_true rfl | (simp only [rM]; omega)) (by first | exact Nat.le_of_ble_eq_true rfl | (simp only [rM]; omega)) (by first | exact Nat.le_of_ble_eq_true rfl | (simp only [rM]; omega)) (fun r17 h18 u19 q20 g21 => ?_)
        obtain ⟨rfl, eh0, rfl⟩ := q20
        have k22 : h18 lo = some (.inr (10, [.ref (lo + 1), .int (iI c), .ref (lo + 2), .int (iI (n : Int)), .ref (lo + 3), .ref (lo + 13), .ref (lo + 15)])) := by rw [eh0, ch_set_ne (ch_ne k12 k16 (by intro q; cases q))]; exact k12
        have k23 : h18 (lo + 1) = some (aI cI 6 fz) := by rw [eh0, ch_set_ne (by first | assumption | exact Ne.symm (by assumption) | omega)]; exact k13
        have k24 : h18 (lo + 2) = some (aR cR 60 ga) := by rw [eh0, ch_set_ne (by first | assumption | exact Ne.symm (by assumption) | omega)]; exact k14
        have k25 : h18 (Ad s.toNat) = some (.inr (cs, (.int (iI (Wf s.toNat)) :: vs))) := by rw [eh0, ch_set_ne (by omega)]; exact k15
        have k26 : h18 hi = some (.inr (8, [.int (iI (Wf s.toNat + 1)), .ref (Ad s.toNat)])) := by rw [eh0]; exact ch_set_self
        refine ch_Gst (st2 := [.ref hi, .ref lo]) rfl ?_
        refine gx_callV (ci := 10) (c_X11_keep l D cI cL cR lo h18 (hi + 1) c n hn k22 ga k24 hi 8 _ k26 isS_8 (by omega) (by omega)) ok_X11_keep mw_2_0 mw_2_2 mw_p_4 dX11_turned_44 rfl k22 rfl rfl (Nat.le_of_ble_eq_true rfl) (by first | exact Nat.le_of_ble_eq_true rfl | (simp only [rM]; omega)) (by first | exact Nat.le_of_ble_eq_true rfl | (simp only [rM]; omega)) (by first | exact Nat.le_of_ble_eq_true rfl | (simp only [rM]; omega)) (by first | exact Nat.le_of_ble_eq_true rfl | (simp only [rM]; omega)) (fun r27 h28 u29 q30 g31 => ?_)
        obtain ⟨rfl, ehk, rfl⟩ := q30
        refine ch_Gst (st2 := [.int (iI ((n : Int) + 1))]) rfl ?_
        refine gx_iret rfl dX11_turned_47 (by first | exact Nat.le_of_ble_eq_true rfl | (simp only [rM]; omega)) (by first | exact Nat.le_of_ble_eq_true rfl | (simp only [rM]; omega)) ?_
        have hok : 1 ≤ s ∧ s ≤ (n : Int) ∧ Wf s.toNat + 1 ≤ 100 := ⟨hfds.1, hfds.2, by omega⟩
        have hnf : n < 60 := by omega
        obtain ⟨m1, m2, m3⟩ := hnew hok hnf
        have hwf2 : wfS Kf2 Nf2 Wf2 (n + 1) := by
          unfold wfS
          rw [m1, m2, m3, (hag s.toNat (by omega) (by omega)).2.1]
          exact ⟨by omega, Or.inr (Or.inr (Or.inr ⟨rfl, by omega, by omega, rfl⟩))⟩
        have hA2 : va_up Ad (n + 1) hi s.toNat = Ad s.toNat := va_upN (by omega)
        have g0 : ∀ b, b ≠ lo → b ≠ lo + 2 → b ≠ hi → h28 b = h b := fun b q0 q2 q3 => by rw [ehk, ch_set_ne q0, ch_set_ne q2, eh0, ch_set_ne q3, eh11, ch_set_ne q3]
        obtain ⟨P1, P2⟩ := ssP_push (c2 := c) SS0 hag hwf2 hnf (by rw [ehk]; exact ch_set_self) hga (by rw [ehk, ch_set_ne (by omega)]; exact ch_set_self) (by rw [ehk, ch_set_ne (by omega), ch_set_ne (by omega), eh0, ch_set_self, soC, m1, m2, m3, hA2, if_neg (by decide), if_neg (by decide), if_neg (by decide), if_neg (by decide), if_neg (by decide), if_neg (by decide)]) g0 (by omega)
        exact ⟨fun _ => ⟨rfl, P1⟩, fun q => absurd ⟨hok, hnf⟩ q, P2, by omega⟩
      · refine gx_bipush (iI (-2)) dX11_turned_30 (by decide) ?_
        refine gx_goto 47 dX11_turned_32 (by decide) ?_
        refine gx_iret rfl dX11_turned_47 (by first | exact Nat.le_of_ble_eq_true rfl | (simp only [rM]; omega)) (by first | exact Nat.le_of_ble_eq_true rfl | (simp only [rM]; omega)) ?_
        have hok : 1 ≤ s ∧ s ≤ (n : Int) ∧ Wf s.toNat + 1 ≤ 100 := ⟨hfds.1, hfds.2, by omega⟩
        have hfl : ¬ n < 60 := by have := bI_1 c27; have := of_decide_eq_true this; omega
        exact ⟨fun q => absurd q.2 hfl, fun _ => ⟨by rw [if_pos hok], SS0⟩, fun b _ _ => rfl, Nat.le_refl _⟩
    · refine gx_iconst (iI (-1)) dX11_turned_21 rfl ?_
      refine gx_iret rfl dX11_turned_22 (by first | exact Nat.le_of_ble_eq_true rfl | (simp only [rM]; omega)) (by first | exact Nat.le_of_ble_eq_true rfl | (simp only [rM]; omega)) ?_
      have hno : ¬ (1 ≤ s ∧ s ≤ (n : Int) ∧ Wf s.toNat + 1 ≤ 100) := by omega
      exact ⟨fun q => absurd q.1 hno, fun _ => ⟨by rw [if_neg hno], SS0⟩, fun b _ _ => rfl, Nat.le_refl _⟩
  · refine gx_callV (ci := 10) (c_X11_findN l D cI cL cR lo h hi c n hn Z0 ga Z2 s (by constructor <;> omega) (by omega)) ok_X11_find mw_2_8 mw_2_10 mw_p_5 dX11_turned_2 rfl Z0 rfl rfl (Nat.le_of_ble_eq_true rfl) (by first | exact Nat.le_of_ble_eq_true rfl | (simp only [rM]; omega)) (by first | exact Nat.le_of_ble_eq_true rfl | (simp only [rM]; omega)) (by first | exact Nat.le_of_ble_eq_true rfl | (simp only [rM]; omega)) (by first | exact Nat.le_of_ble_eq_true rfl | (simp only [rM]; omega)) (fun r32 h33 u34 q35 g36 => ?_)
    obtain ⟨rfl, rfl, rfl⟩ := q35
    refine ch_Gst (st2 := [.null]) rfl ?_
    refine gx_astore_nN [(2, .null), (0, .ref lo), (1, .int (iI s))] dX11_turned_5 rfl (by decide) rfl ?_
    refine gx_aload_nN 0 dX11_turned_6 rfl rfl ?_
    refine gx_ifnullZ 21 dX11_turned_7 (by decide) ?_
    refine gx_iconst (iI (-1)) dX11_turned_21 rfl ?_
    refine gx_iret rfl dX11_turned_22 (by first | exact Nat.le_of_ble_eq_true rfl | (simp only [rM]; omega)) (by first | exact Nat.le_of_ble_eq_true rfl | (simp only [rM]; omega)) ?_
    have hno : ¬ (1 ≤ s ∧ s ≤ (n : Int) ∧ Wf s.toNat + 1 ≤ 100) := by omega
    exact ⟨fun q => absurd q.1 hno, fun _ => ⟨by rw [if_neg hno], SS0⟩, fun b _ _ => rfl, Nat.le_refl _⟩
set_option maxHeartbeats 4000000 in
set_option maxRecDepth 100000 in
theorem c_X11_moved (l : Launch) (D : va_G) (cI cL cR : ClassId) (lo : Nat) (h : ch_H) (hi : Nat) (fz : Nat → Int) (c : Int) (n : Nat) (Ad : Nat → Nat) (Kf Nf Wf : Nat → Int) (Es Et : List Int) (SS : ssP cI cR lo h hi fz c n Ad Kf Nf Wf Es Et) (s : Int) (hs : ir s) (Kf2 Nf2 Wf2 : Nat → Int) (hag : agN n Kf Nf Wf Kf2 Nf2 Wf2) (hnew : (1 ≤ s ∧ s ≤ (n : Int) ∧ c = 3 ∧ Wf s.toNat + 1 ≤ 100) → n < 60 → Kf2 (n + 1) = 5 ∧ Wf2 (n + 1) = Wf s.toNat + 1 ∧ Nf2 (6 * (n + 1)) = fz 0 ∧ Nf2 (6 * (n + 1) + 1) = fz 1 ∧ Nf2 (6 * (n + 1) + 2) = fz 2 ∧ Nf2 (6 * (n + 1) + 3) = s) : ch_C l (eE D cI cL cR lo) M_X11_moved (rM 3 1 7) [.ref lo, .int (iI s)] h hi (fun r0 h2 hi2 => (((1 ≤ s ∧ s ≤ (n : Int) ∧ c = 3 ∧ Wf s.toNat + 1 ≤ 100) ∧ n < 60) → r0 = some (.int (iI ((n : Int) + 1))) ∧ ssP cI cR lo h2 hi2 fz 0 (n + 1) (va_up Ad (n + 1) hi) Kf2 Nf2 Wf2 Es Et) ∧ (¬ ((1 ≤ s ∧ s ≤ (n : Int) ∧ c = 3 ∧ Wf s.toNat + 1 ≤ 100) ∧ n < 60) → r0 = some (.int (iI (if 1 ≤ s ∧ s ≤ (n : Int) ∧ c = 3 ∧ Wf s.toNat + 1 ≤ 100 then -2 else -1))) ∧ ssP cI cR lo h2 hi2 fz 0 n Ad Kf Nf Wf Es Et) ∧ xfr lo hi h h2 ∧ hi ≤ hi2) := by
  refine ch_C.of rfl (Nat.le_of_ble_eq_true rfl) ?_
  have SS0 := SS
  obtain ⟨Z0, Z1, ⟨ga, Z2, hga⟩, ⟨gw, fx, fy, fl, fh, wc, Ls, W⟩, RS, RT, HA, hc, hn, hfz, hhi, hAd⟩ := SS
  refine gx_aload_n 0 dX11_moved_0 rfl rfl ?_
  refine gx_callV (ci := 10) (c_X11_useUpSizes l D cI cL cR lo h hi c n hn Z0) ok_X11_useUpSizes mw_1_120 mw_1_122 mw_p_0 dX11_moved_1 rfl Z0 rfl rfl (Nat.le_of_ble_eq_true rfl) (by first | exact Nat.le_of_ble_eq_true rfl | (simp only [rM]; omega)) (by first | exact Nat.le_of_ble_eq_true rfl | (simp only [rM]; omega)) (by first | exact Nat.le_of_ble_eq_true rfl | (simp only [rM]; omega)) (by first | exact Nat.le_of_ble_eq_true rfl | (simp only [rM]; omega)) (fun r1 h2 u3 q4 g5 => ?_)
  obtain ⟨rfl, ehu, rfl⟩ := q4
  have k6 : h2 (lo + 1) = some (aI cI 6 fz) := by rw [ehu, ch_set_ne (by first | assumption | exact Ne.symm (by assumption) | omega)]; exact Z1
  have k7 : h2 (lo + 2) = some (aR cR 60 ga) := by rw [ehu, ch_set_ne (by first | assumption | exact Ne.symm (by assumption) | omega)]; exact Z2
  have k8 : h2 lo = some (.inr (10, [.ref (lo + 1), .int (iI 0), .ref (lo + 2), .int (iI (n : Int)), .ref (lo + 3), .ref (lo + 13), .ref (lo + 15)])) := by rw [ehu]; exact ch_set_self
  refine ch_Gst (st2 := [.int (iI c)]) rfl ?_
  refine gx_istore_n [(2, .int (iI c)), (0, .ref lo), (1, .int (iI s))] dX11_moved_4 rfl (by decide) rfl ?_
  refine gx_aload_n 1 dX11_moved_5 rfl rfl ?_
  refine gx_iload_n 2 dX11_moved_6 rfl rfl ?_
  by_cases hfds : 1 ≤ s ∧ s ≤ (n : Int)
  · have hgss : ga (s - 1).toNat = some (Ad s.toNat) := by rw [hga _ (by omega)]; congr 2; omega
    obtain ⟨hpls, hps, hwfs⟩ := HA s.toNat (by omega) (by omega)
    obtain ⟨cs, vs, e1s, sSs⟩ := soC_S (Ad := Ad) hwfs
    rw [e1s] at hps
    have hWss := hwfs.1
    have hAss := hAd s.toNat (by omega) (by omega)
    have k9 : h2 (Ad s.toNat) = some (.inr (cs, .int (iI (Wf s.toNat)) :: vs)) := by rw [ehu, ch_set_ne (by omega)]; exact hps
    refine gx_callV (ci := 10) (c_X11_findY l D cI cL cR lo h2 hi 0 n hn k8 ga k7 s hfds _ hgss) ok_X11_find mw_2_8 mw_2_10 mw_p_5 dX11_moved_7 rfl k8 rfl rfl (Nat.le_of_ble_eq_true rfl) (by first | exact Nat.le_of_ble_eq_true rfl | (simp only [rM]; omega)) (by first | exact Nat.le_of_ble_eq_true rfl | (simp only [rM]; omega)) (by first | exact Nat.le_of_ble_eq_true rfl | (simp only [rM]; omega)) (by first | exact Nat.le_of_ble_eq_true rfl | (simp only [rM]; omega)) (fun r10 h11 u12 q13 g14 => ?_)
    obtain ⟨rfl, rfl, rfl⟩ := q13
    refine ch_Gst (st2 := [.ref (Ad s.toNat)]) rfl ?_
    refine gx_astore_n [(3, .ref (Ad s.toNat)), (2, .int (iI c)), (0, .ref lo), (1, .int (iI s))] dX11_moved_10 rfl (by decide) rfl ?_
    refine gx_aload_n 0 dX11_moved_11 rfl rfl ?_
    refine gx_ifnullA dX11_moved_12 ?_
    refine gx_iload_n 1 dX11_moved_15 rfl rfl ?_
    refine gx_iconst (iI 3) dX11_moved_16 rfl ?_
    refine gy_icmp_ne 31 dX11_moved_17 (by decide) (by constructor <;> omega) (by decide) (fun c17 => ?_) (fun c17 => ?_)
    · refine gx_iconst (iI (-1)) dX11_moved_31 rfl ?_
      refine gx_iret rfl dX11_moved_32 (by first | exact Nat.le_of_ble_eq_true rfl | (simp only [rM]; omega)) (by first | exact Nat.le_of_ble_eq_true rfl | (simp only [rM]; omega)) ?_
      have hno : ¬ (1 ≤ s ∧ s ≤ (n : Int) ∧ c = 3 ∧ Wf s.toNat + 1 ≤ 100) := by omega
      obtain ⟨P1, P2⟩ := ssP_use SS0 ehu (by omega)
      exact ⟨fun q => absurd q.1 hno, fun _ => ⟨by rw [if_neg hno], P1⟩, P2, Nat.le_refl _⟩
    · refine gx_aload_n 0 dX11_moved_20 rfl rfl ?_
      refine gy_getw sSs mw_1_158 dX11_moved_21 k9 ?_
      refine gx_iconst (iI 1) dX11_moved_24 rfl ?_
      refine gy_iadd dX11_moved_25 ?_
      refine gx_bipush (iI 100) dX11_moved_26 (by decide) ?_
      refine gy_icmp_le 33 dX11_moved_28 (by decide) (by constructor <;> omega) (by decide) (fun c28 => ?_) (fun c28 => ?_)
      · refine gx_aload_n 2 dX11_moved_33 rfl rfl ?_
        refine gx_callV (ci := 10) (c_X11_isFull l D cI cL cR lo h2 hi 0 n hn k8) ok_X11_isFull mw_1_131 mw_1_133 mw_p_2 dX11_moved_34 rfl k8 rfl rfl (Nat.le_of_ble_eq_true rfl) (by first | exact Nat.le_of_ble_eq_true rfl | (simp only [rM]; omega)) (by first | exact Nat.le_of_ble_eq_true rfl | (simp only [rM]; omega)) (by first | exact Nat.le_of_ble_eq_true rfl | (simp only [rM]; omega)) (by first | exact Nat.le_of_ble_eq_true rfl | (simp only [rM]; omega)) (fun r15 h16 u17 q18 g19 => ?_)
        obtain ⟨rfl, rfl, rfl⟩ := q18
        refine ch_Gst (st2 := [.int (iI (bI (decide (60 ≤ n))))]) rfl ?_
        refine gy_if_eq 45 dX11_moved_37 (by decide) ir_bI (fun c37 => ?_) (fun c37 => ?_)
        · refine gx_aload_n 2 dX11_moved_45 rfl rfl ?_
          have hnf0 : n < 60 := by have := bI_0 c37; have := of_decide_eq_false this; omega
          refine gy_new (ci := 5) (C := RX5) (T := TX5) (N := 5) [.int (iI 0), .null, .int (iI 0), .int (iI 0), .int (iI 0)] tyX5 rfl inX5 tyX5_ok mw_2_33 mw_2_34 mw_1_12 (fun j hj => by rcases (show j = 0 ∨ j = 1 ∨ j = 2 ∨ j = 3 ∨ j = 4 by omega) with rfl | rfl | rfl | rfl | rfl <;> rfl) (by first | exact Nat.le_of_ble_eq_true rfl | (simp only [rM]; omega)) (by first | exact Nat.le_of_ble_eq_true rfl | (simp only [rM]; omega)) dX11_moved_46 (fun h20 eh20 => ?_)
          have k21 : h20 (lo + 1) = some (aI cI 6 fz) := by rw [eh20, ch_set_ne (by first | assumption | omega)]; exact k6
          have k22 : h20 (lo + 2) = some (aR cR 60 ga) := by rw [eh20, ch_set_ne (by first | assumption | omega)]; exact k7
          have k23 : h20 lo = some (.inr (10, [.ref (lo + 1), .int (iI 0), .ref (lo + 2), .int (iI (n : Int)), .ref (lo + 3), .ref (lo + 13), .ref (lo + 15)])) := by rw [eh20, ch_set_ne (by first | assumption | omega)]; exact k8
          have k24 : h20 (Ad s.toNat) = some (.inr (cs, (.int (iI (Wf s.toNat)) :: vs))) := by rw [eh20, ch_set_ne (by first | assumption | omega)]; exact k9
          have k25 : h20 hi = some (.inr (5, [.int (iI 0), .null, .int (iI 0), .int (iI 0), .int (iI 0)])) := by rw [eh20]; exact ch_set_self
          refine gx_dup dX11_moved_49 rfl ?_
          refine gx_aload_n 0 dX11_moved_50 rfl rfl ?_
          refine gx_aload_n 2 dX11_moved_51 rfl rfl ?_
          refine gx_get (ci := 10) (f := 0) (C := RX11) (T := TX11) (N := 7) rfl inX11 (by decide) mw_1_90 dX11_moved_52 k23 rfl ?_
          refine gx_iconst (iI 0) dX11_moved_55 rfl ?_
          refine gy_iald dX11_moved_56 k21 (by decide) (by decide) (by decide) ?_
          refine ch_Gst (st2 := [.int (iI (fz 0)), .ref (Ad s.toNat), .ref hi, .ref hi, .ref lo]) rfl ?_
          refine gx_aload_n 2 dX11_moved_57 rfl rfl ?_
          refine gx_get (ci := 10) (f := 0) (C := RX11) (T := TX11) (N := 7) rfl inX11 (by decide) mw_1_90 dX11_moved_58 k23 rfl ?_
          refine gx_iconst (iI 1) dX11_moved_61 rfl ?_
          refine gy_iald dX11_moved_62 k21 (by decide) (by decide) (by decide) ?_
          refine ch_Gst (st2 := [.int (iI (fz 1)), .int (iI (fz 0)), .ref (Ad s.toNat), .ref hi, .ref hi, .ref lo]) rfl ?_
          refine gx_aload_n 2 dX11_moved_63 rfl rfl ?_
          refine gx_get (ci := 10) (f := 0) (C := RX11) (T := TX11) (N := 7) rfl inX11 (by decide) mw_1_90 dX11_moved_64 k23 rfl ?_
          refine gx_iconst (iI 2) dX11_moved_67 rfl ?_
          refine gy_iald dX11_moved_68 k21 (by decide) (by decide) (by decide) ?_
          refine ch_Gst (st2 := [.int (iI (fz 2)), .int (iI (fz 1)), .int (iI (fz 0)), .ref (Ad s.toNat), .ref hi, .ref hi, .ref lo]) rfl ?_
          refine gx_callI (c_X5_init l D cI cL cR lo h20 (hi + 1) hi (Ad s.toNat) cs _ (Wf s.toNat) (fz 0) (fz 1) (fz 2) k25 k24 sSs (by omega)) ok_X5_init mw_2_35 mw_2_36 rfl rfl dX11_moved_69 rfl rfl (Nat.le_of_ble_eq_true rfl) (by first | exact Nat.le_of_ble_eq_true rfl | (simp only [rM]; omega)) (by first | exact Nat.le_of_ble_eq_true rfl | (simp only [rM]; omega)) (by first | exact Nat.le_of_ble_eq_true rfl | (simp only [rM]; omega)) (by first | exact Nat.le_of_ble_eq_true rfl | (simp only [rM]; omega)) (fun r26 h27 u28 q29 g30 => ?_)
          obtain ⟨rfl, eh0, rfl⟩ := q29
          have k31 : h27 (lo + 1) = some (aI cI 6 fz) := by rw [eh0, ch_set_ne (by first | assumption | exact Ne.symm (by assumption) | omega)]; exact k21
          have k32 : h27 (lo + 2) = some (aR cR 60 ga) := by rw [eh0, ch_set_ne (by first | assumption | exact Ne.symm (by assumption) | omega)]; exact k22
          have k33 : h27 lo = some (.inr (10, [.ref (lo + 1), .int (iI 0), .ref (lo + 2), .int (iI (n : Int)), .ref (lo + 3), .ref (lo + 13), .ref (lo + 15)])) := by rw [eh0, ch_set_ne (ch_ne k23 k25 (by intro q; cases q))]; exact k23
          have k34 : h27 (Ad s.toNat) = some (.inr (cs, (.int (iI (Wf s.toNat)) :: vs))) := by rw [eh0, ch_set_ne (by omega)]; exact k24
          have k35 : h27 hi = some (.inr (5, [.int (iI (Wf s.toNat + 1)), .ref (Ad s.toNat), .int (iI (fz 0)), .int (iI (fz 1)), .int (iI (fz 2))])) := by rw [eh0]; exact ch_set_self
          refine ch_Gst (st2 := [.ref hi, .ref lo]) rfl ?_
          refine gx_callV (ci := 10) (c_X11_keep l D cI cL cR lo h27 (hi + 1) 0 n hn k33 ga k32 hi 5 _ k35 isS_5 (by omega) (by omega)) ok_X11_keep mw_2_0 mw_2_2 mw_p_4 dX11_moved_72 rfl k33 rfl rfl (Nat.le_of_ble_eq_true rfl) (by first | exact Nat.le_of_ble_eq_true rfl | (simp only [rM]; omega)) (by first | exact Nat.le_of_ble_eq_true rfl | (simp only [rM]; omega)) (by first | exact Nat.le_of_ble_eq_true rfl | (simp only [rM]; omega)) (by first | exact Nat.le_of_ble_eq_true rfl | (simp only [rM]; omega)) (fun r36 h37 u38 q39 g40 => ?_)
          obtain ⟨rfl, ehk, rfl⟩ := q39
          refine ch_Gst (st2 := [.int (iI ((n : Int) + 1))]) rfl ?_
          refine gx_iret rfl dX11_moved_75 (by first | exact Nat.le_of_ble_eq_true rfl | (simp only [rM]; omega)) (by first | exact Nat.le_of_ble_eq_true rfl | (simp only [rM]; omega)) ?_
          have hok : 1 ≤ s ∧ s ≤ (n : Int) ∧ c = 3 ∧ Wf s.toNat + 1 ≤ 100 := ⟨hfds.1, hfds.2, by omega, by omega⟩
          have hnf : n < 60 := by omega
          obtain ⟨m1, m2, m3⟩ := hnew hok hnf
          obtain ⟨m3, m4, m5, m6⟩ := m3
          have hwf2 : wfS Kf2 Nf2 Wf2 (n + 1) := by
            unfold wfS
            rw [m1, m2, m3, m4, m5, m6, (hag s.toNat (by omega) (by omega)).2.1]
            exact ⟨by omega, Or.inr (Or.inr (Or.inl ⟨rfl, by omega, by omega, hfz 0, hfz 1, hfz 2, rfl⟩))⟩
          have hA2 : va_up Ad (n + 1) hi s.toNat = Ad s.toNat := va_upN (by omega)
          have g0 : ∀ b, b ≠ lo → b ≠ lo + 2 → b ≠ hi → h37 b = h b := fun b q0 q2 q3 => by rw [ehk, ch_set_ne q0, ch_set_ne q2, eh0, ch_set_ne q3, eh20, ch_set_ne q3, ehu, ch_set_ne q0]
          obtain ⟨P1, P2⟩ := ssP_push (c2 := 0) SS0 hag hwf2 hnf (by rw [ehk]; exact ch_set_self) hga (by rw [ehk, ch_set_ne (by omega)]; exact ch_set_self) (by rw [ehk, ch_set_ne (by omega), ch_set_ne (by omega), eh0, ch_set_self, soC, m1, m2, m3, m4, m5, m6, hA2, if_neg (by decide), if_neg (by decide), if_neg (by decide), if_neg (by decide), if_neg (by decide), if_pos rfl]) g0 (by omega)
          exact ⟨fun _ => ⟨rfl, P1⟩, fun q => absurd ⟨hok, hnf⟩ q, P2, by omega⟩
        · refine gx_bipush (iI (-2)) dX11_moved_40 (by decide) ?_
          refine gx_goto 75 dX11_moved_42 (by decide) ?_
          refine gx_iret rfl dX11_moved_75 (by first | exact Nat.le_of_ble_eq_true rfl | (simp only [rM]; omega)) (by first | exact Nat.le_of_ble_eq_true rfl | (simp only [rM]; omega)) ?_
          have hok : 1 ≤ s ∧ s ≤ (n : Int) ∧ c = 3 ∧ Wf s.toNat + 1 ≤ 100 := ⟨hfds.1, hfds.2, by omega, by omega⟩
          have hfl : ¬ n < 60 := by have := bI_1 c37; have := of_decide_eq_true this; omega
          obtain ⟨P1, P2⟩ := ssP_use SS0 ehu (by omega)
          exact ⟨fun q => absurd q.2 hfl, fun _ => ⟨by rw [if_pos hok], P1⟩, P2, Nat.le_refl _⟩
      · refine gx_iconst (iI (-1)) dX11_moved_31 rfl ?_
        refine gx_iret rfl dX11_moved_32 (by first | exact Nat.le_of_ble_eq_true rfl | (simp only [rM]; omega)) (by first | exact Nat.le_of_ble_eq_true rfl | (simp only [rM]; omega)) ?_
        have hno : ¬ (1 ≤ s ∧ s ≤ (n : Int) ∧ c = 3 ∧ Wf s.toNat + 1 ≤ 100) := by omega
        obtain ⟨P1, P2⟩ := ssP_use SS0 ehu (by omega)
        exact ⟨fun q => absurd q.1 hno, fun _ => ⟨by rw [if_neg hno], P1⟩, P2, Nat.le_refl _⟩
  · refine gx_callV (ci := 10) (c_X11_findN l D cI cL cR lo h2 hi 0 n hn k8 ga k7 s (by constructor <;> omega) (by omega)) ok_X11_find mw_2_8 mw_2_10 mw_p_5 dX11_moved_7 rfl k8 rfl rfl (Nat.le_of_ble_eq_true rfl) (by first | exact Nat.le_of_ble_eq_true rfl | (simp only [rM]; omega)) (by first | exact Nat.le_of_ble_eq_true rfl | (simp only [rM]; omega)) (by first | exact Nat.le_of_ble_eq_true rfl | (simp only [rM]; omega)) (by first | exact Nat.le_of_ble_eq_true rfl | (simp only [rM]; omega)) (fun r41 h42 u43 q44 g45 => ?_)
    obtain ⟨rfl, rfl, rfl⟩ := q44
    refine ch_Gst (st2 := [.null]) rfl ?_
    refine gx_astore_nN [(3, .null), (2, .int (iI c)), (0, .ref lo), (1, .int (iI s))] dX11_moved_10 rfl (by decide) rfl ?_
    refine gx_aload_nN 0 dX11_moved_11 rfl rfl ?_
    refine gx_ifnullZ 31 dX11_moved_12 (by decide) ?_
    refine gx_iconst (iI (-1)) dX11_moved_31 rfl ?_
    refine gx_iret rfl dX11_moved_32 (by first | exact Nat.le_of_ble_eq_true rfl | (simp only [rM]; omega)) (by first | exact Nat.le_of_ble_eq_true rfl | (simp only [rM]; omega)) ?_
    have hno : ¬ (1 ≤ s ∧ s ≤ (n : Int) ∧ c = 3 ∧ Wf s.toNat + 1 ≤ 100) := by omega
    obtain ⟨P1, P2⟩ := ssP_use SS0 ehu (by omega)
    exact ⟨fun q => absurd q.1 hno, fun _ => ⟨by rw [if_neg hno], P1⟩, P2, Nat.le_refl _⟩
set_option maxHeartbeats 4000000 in
set_option maxRecDepth 100000 in
theorem c_X11_join (l : Launch) (D : va_G) (cI cL cR : ClassId) (lo : Nat) (h : ch_H) (hi : Nat) (fz : Nat → Int) (c : Int) (n : Nat) (Ad : Nat → Nat) (Kf Nf Wf : Nat → Int) (Es Et : List Int) (SS : ssP cI cR lo h hi fz c n Ad Kf Nf Wf Es Et) (a b how : Int) (ha : ir a) (hb : ir b) (hh : ir how) (Kf2 Nf2 Wf2 : Nat → Int) (hag : agN n Kf Nf Wf Kf2 Nf2 Wf2) (hnew : ((1 ≤ a ∧ a ≤ (n : Int)) ∧ (1 ≤ b ∧ b ≤ (n : Int)) ∧ (0 ≤ how ∧ how ≤ 2) ∧ Wf a.toNat + Wf b.toNat + 1 ≤ 100) → n < 60 → Kf2 (n + 1) = 4 ∧ Wf2 (n + 1) = Wf a.toNat + Wf b.toNat + 1 ∧ Nf2 (6 * (n + 1)) = a ∧ Nf2 (6 * (n + 1) + 1) = b ∧ Nf2 (6 * (n + 1) + 2) = how) : ch_C l (eE D cI cL cR lo) M_X11_join (rM 3 1 7) [.ref lo, .int (iI a), .int (iI b), .int (iI how)] h hi (fun r0 h2 hi2 => ((((1 ≤ a ∧ a ≤ (n : Int)) ∧ (1 ≤ b ∧ b ≤ (n : Int)) ∧ (0 ≤ how ∧ how ≤ 2) ∧ Wf a.toNat + Wf b.toNat + 1 ≤ 100) ∧ n < 60) → r0 = some (.int (iI ((n : Int) + 1))) ∧ ssP cI cR lo h2 hi2 fz c (n + 1) (va_up Ad (n + 1) hi) Kf2 Nf2 Wf2 Es Et) ∧ (¬ (((1 ≤ a ∧ a ≤ (n : Int)) ∧ (1 ≤ b ∧ b ≤ (n : Int)) ∧ (0 ≤ how ∧ how ≤ 2) ∧ Wf a.toNat + Wf b.toNat + 1 ≤ 100) ∧ n < 60) → r0 = some (.int (iI (if (1 ≤ a ∧ a ≤ (n : Int)) ∧ (1 ≤ b ∧ b ≤ (n : Int)) ∧ (0 ≤ how ∧ how ≤ 2) ∧ Wf a.toNat + Wf b.toNat + 1 ≤ 100 then -2 else -1))) ∧ ssP cI cR lo h2 hi2 fz c n Ad Kf Nf Wf Es Et) ∧ xfr lo hi h h2 ∧ hi ≤ hi2) := by
  refine ch_C.of rfl (Nat.le_of_ble_eq_true rfl) ?_
  have SS0 := SS
  obtain ⟨Z0, Z1, ⟨ga, Z2, hga⟩, ⟨gw, fx, fy, fl, fh, wc, Ls, W⟩, RS, RT, HA, hc, hn, hfz, hhi, hAd⟩ := SS
  refine gx_aload_n 0 dX11_join_0 rfl rfl ?_
  refine gx_iload_n 1 dX11_join_1 rfl rfl ?_
  by_cases hfda : 1 ≤ a ∧ a ≤ (n : Int)
  · have hgsa : ga (a - 1).toNat = some (Ad a.toNat) := by rw [hga _ (by omega)]; congr 2; omega
    obtain ⟨hpla, hpa, hwfa⟩ := HA a.toNat (by omega) (by omega)
    obtain ⟨ca, va, e1a, sSa⟩ := soC_S (Ad := Ad) hwfa
    rw [e1a] at hpa
    have hWsa := hwfa.1
    have hAsa := hAd a.toNat (by omega) (by omega)
    refine gx_callV (ci := 10) (c_X11_findY l D cI cL cR lo h hi c n hn Z0 ga Z2 a hfda _ hgsa) ok_X11_find mw_2_8 mw_2_10 mw_p_5 dX11_join_2 rfl Z0 rfl rfl (Nat.le_of_ble_eq_true rfl) (by first | exact Nat.le_of_ble_eq_true rfl | (simp only [rM]; omega)) (by first | exact Nat.le_of_ble_eq_true rfl | (simp only [rM]; omega)) (by first | exact Nat.le_of_ble_eq_true rfl | (simp only [rM]; omega)) (by first | exact Nat.le_of_ble_eq_true rfl | (simp only [rM]; omega)) (fun r1 h2 u3 q4 g5 => ?_)
    obtain ⟨rfl, rfl, rfl⟩ := q4
    refine ch_Gst (st2 := [.ref (Ad a.toNat)]) rfl ?_
    refine gx_astore [(4, .ref (Ad a.toNat)), (0, .ref lo), (1, .int (iI a)), (2, .int (iI b)), (3, .int (iI how))] dX11_join_5 (by decide) rfl ?_
    refine gx_aload_n 1 dX11_join_7 rfl rfl ?_
    refine gx_iload_n 3 dX11_join_8 rfl rfl ?_
    by_cases hfdb : 1 ≤ b ∧ b ≤ (n : Int)
    · have hgsb : ga (b - 1).toNat = some (Ad b.toNat) := by rw [hga _ (by omega)]; congr 2; omega
      obtain ⟨hplb, hpb, hwfb⟩ := HA b.toNat (by omega) (by omega)
      obtain ⟨cb, vb, e1b, sSb⟩ := soC_S (Ad := Ad) hwfb
      rw [e1b] at hpb
      have hWsb := hwfb.1
      have hAsb := hAd b.toNat (by omega) (by omega)
      refine gx_callV (ci := 10) (c_X11_findY l D cI cL cR lo h hi c n hn Z0 ga Z2 b hfdb _ hgsb) ok_X11_find mw_2_8 mw_2_10 mw_p_5 dX11_join_9 rfl Z0 rfl rfl (Nat.le_of_ble_eq_true rfl) (by first | exact Nat.le_of_ble_eq_true rfl | (simp only [rM]; omega)) (by first | exact Nat.le_of_ble_eq_true rfl | (simp only [rM]; omega)) (by first | exact Nat.le_of_ble_eq_true rfl | (simp only [rM]; omega)) (by first | exact Nat.le_of_ble_eq_true rfl | (simp only [rM]; omega)) (fun r6 h7 u8 q9 g10 => ?_)
      obtain ⟨rfl, rfl, rfl⟩ := q9
      refine ch_Gst (st2 := [.ref (Ad b.toNat)]) rfl ?_
      refine gx_astore [(5, .ref (Ad b.toNat)), (4, .ref (Ad a.toNat)), (0, .ref lo), (1, .int (iI a)), (2, .int (iI b)), (3, .int (iI how))] dX11_join_12 (by decide) rfl ?_
      refine gx_aload 1 dX11_join_14 rfl ?_
      refine gx_ifnullA dX11_join_16 ?_
      refine gx_aload 0 dX11_join_19 rfl ?_
      refine gx_ifnullA dX11_join_21 ?_
      refine gx_iload_n 5 dX11_join_24 rfl rfl ?_
      refine gy_if_lt 33 dX11_join_25 (by decide) (by constructor <;> omega) (fun c25 => ?_) (fun c25 => ?_)
      · refine gx_iconst (iI (-1)) dX11_join_33 rfl ?_
        refine gx_iret rfl dX11_join_34 (by first | exact Nat.le_of_ble_eq_true rfl | (simp only [rM]; omega)) (by first | exact Nat.le_of_ble_eq_true rfl | (simp only [rM]; omega)) ?_
        have hno : ¬ ((1 ≤ a ∧ a ≤ (n : Int)) ∧ (1 ≤ b ∧ b ≤ (n : Int)) ∧ (0 ≤ how ∧ how ≤ 2) ∧ Wf a.toNat + Wf b.toNat + 1 ≤ 100) := by omega
        exact ⟨fun q => absurd q.1 hno, fun _ => ⟨by rw [if_neg hno], SS0⟩, fun b _ _ => rfl, Nat.le_refl _⟩
      · refine gx_iload_n 5 dX11_join_28 rfl rfl ?_
        refine gx_iconst (iI 2) dX11_join_29 rfl ?_
        refine gy_icmp_le 35 dX11_join_30 (by decide) (by constructor <;> omega) (by decide) (fun c30 => ?_) (fun c30 => ?_)
        · refine gx_aload 1 dX11_join_35 rfl ?_
          refine gy_getw sSa mw_1_158 dX11_join_37 hpa ?_
          refine gx_aload 0 dX11_join_40 rfl ?_
          refine gy_getw sSb mw_1_158 dX11_join_42 hpb ?_
          refine gy_iadd dX11_join_45 ?_
          refine gx_iconst (iI 1) dX11_join_46 rfl ?_
          refine gy_iadd dX11_join_47 ?_
          refine gx_bipush (iI 100) dX11_join_48 (by decide) ?_
          refine gy_icmp_le 55 dX11_join_50 (by decide) (by constructor <;> omega) (by decide) (fun c50 => ?_) (fun c50 => ?_)
          · refine gx_aload_n 2 dX11_join_55 rfl rfl ?_
            refine gx_callV (ci := 10) (c_X11_isFull l D cI cL cR lo h hi c n hn Z0) ok_X11_isFull mw_1_131 mw_1_133 mw_p_2 dX11_join_56 rfl Z0 rfl rfl (Nat.le_of_ble_eq_true rfl) (by first | exact Nat.le_of_ble_eq_true rfl | (simp only [rM]; omega)) (by first | exact Nat.le_of_ble_eq_true rfl | (simp only [rM]; omega)) (by first | exact Nat.le_of_ble_eq_true rfl | (simp only [rM]; omega)) (by first | exact Nat.le_of_ble_eq_true rfl | (simp only [rM]; omega)) (fun r11 h12 u13 q14 g15 => ?_)
            obtain ⟨rfl, rfl, rfl⟩ := q14
            refine ch_Gst (st2 := [.int (iI (bI (decide (60 ≤ n))))]) rfl ?_
            refine gy_if_eq 67 dX11_join_59 (by decide) ir_bI (fun c59 => ?_) (fun c59 => ?_)
            · refine gx_aload_n 2 dX11_join_67 rfl rfl ?_
              have hnf0 : n < 60 := by have := bI_0 c59; have := of_decide_eq_false this; omega
              refine gy_new (ci := 4) (C := RX4) (T := TX4) (N := 4) [.int (iI 0), .null, .null, .int (iI 0)] tyX4 rfl inX4 tyX4_ok mw_2_12 mw_2_13 mw_1_11 (fun j hj => by rcases (show j = 0 ∨ j = 1 ∨ j = 2 ∨ j = 3 by omega) with rfl | rfl | rfl | rfl <;> rfl) (by first | exact Nat.le_of_ble_eq_true rfl | (simp only [rM]; omega)) (by first | exact Nat.le_of_ble_eq_true rfl | (simp only [rM]; omega)) dX11_join_68 (fun h16 eh16 => ?_)
              have k17 : h16 lo = some (.inr (10, [.ref (lo + 1), .int (iI c), .ref (lo + 2), .int (iI (n : Int)), .ref (lo + 3), .ref (lo + 13), .ref (lo + 15)])) := by rw [eh16, ch_set_ne (by first | assumption | omega)]; exact Z0
              have k18 : h16 (lo + 1) = some (aI cI 6 fz) := by rw [eh16, ch_set_ne (by first | assumption | omega)]; exact Z1
              have k19 : h16 (lo + 2) = some (aR cR 60 ga) := by rw [eh16, ch_set_ne (by first | assumption | omega)]; exact Z2
              have k20 : h16 (Ad a.toNat) = some (.inr (ca, (.int (iI (Wf a.toNat)) :: va))) := by rw [eh16, ch_set_ne (by first | assumption | omega)]; exact hpa
              have k21 : h16 (Ad b.toNat) = some (.inr (cb, (.int (iI (Wf b.toNat)) :: vb))) := by rw [eh16, ch_set_ne (by first | assumption | omega)]; exact hpb
              have k22 : h16 hi = some (.inr (4, [.int (iI 0), .null, .null, .int (iI 0)])) := by rw [eh16]; exact ch_set_self
              refine gx_dup dX11_join_71 rfl ?_
              refine gx_aload 1 dX11_join_72 rfl ?_
              refine gx_aload 0 dX11_join_74 rfl ?_
              refine gx_iload_n 5 dX11_join_76 rfl rfl ?_
              refine gx_callI (c_X4_init l D cI cL cR lo h16 (hi + 1) hi (Ad a.toNat) (Ad b.toNat) ca cb _ _ (Wf a.toNat) (Wf b.toNat) how k22 k20 k21 sSa sSb (by omega) (by omega)) ok_X4_init mw_2_14 mw_2_15 rfl rfl dX11_join_77 rfl rfl (Nat.le_of_ble_eq_true rfl) (by first | exact Nat.le_of_ble_eq_true rfl | (simp only [rM]; omega)) (by first | exact Nat.le_of_ble_eq_true rfl | (simp only [rM]; omega)) (by first | exact Nat.le_of_ble_eq_true rfl | (simp only [rM]; omega)) (by first | exact Nat.le_of_ble_eq_true rfl | (simp only [rM]; omega)) (fun r23 h24 u25 q26 g27 => ?_)
              obtain ⟨rfl, eh0, rfl⟩ := q26
              have k28 : h24 lo = some (.inr (10, [.ref (lo + 1), .int (iI c), .ref (lo + 2), .int (iI (n : Int)), .ref (lo + 3), .ref (lo + 13), .ref (lo + 15)])) := by rw [eh0, ch_set_ne (ch_ne k17 k22 (by intro q; cases q))]; exact k17
              have k29 : h24 (lo + 1) = some (aI cI 6 fz) := by rw [eh0, ch_set_ne (by first | assumption | exact Ne.symm (by assumption) | omega)]; exact k18
              have k30 : h24 (lo + 2) = some (aR cR 60 ga) := by rw [eh0, ch_set_ne (by first | assumption | exact Ne.symm (by assumption) | omega)]; exact k19
              have k31 : h24 (Ad a.toNat) = some (.inr (ca, (.int (iI (Wf a.toNat)) :: va))) := by rw [eh0, ch_set_ne (by omega)]; exact k20
              have k32 : h24 (Ad b.toNat) = some (.inr (cb, (.int (iI (Wf b.toNat)) :: vb))) := by rw [eh0, ch_set_ne (by omega)]; exact k21
              have k33 : h24 hi = some (.inr (4, [.int (iI (Wf a.toNat + Wf b.toNat + 1)), .ref (Ad a.toNat), .ref (Ad b.toNat), .int (iI how)])) := by rw [eh0]; exact ch_set_self
              refine ch_Gst (st2 := [.ref hi, .ref lo]) rfl ?_
              refine gx_callV (ci := 10) (c_X11_keep l D cI cL cR lo h24 (hi + 1) c n hn k28 ga k30 hi 4 _ k33 isS_4 (by omega) (by omega)) ok_X11_keep mw_2_0 mw_2_2 mw_p_4 dX11_join_80 rfl k28 rfl rfl (Nat.le_of_ble_eq_true rfl) (by first | exact Nat.le_of_ble_eq_true rfl | (simp only [rM]; omega)) (by first | exact Nat.le_of_ble_eq_true rfl | (simp only [rM]; omega)) (by first | exact Nat.le_of_ble_eq_true rfl | (simp only [rM]; omega)) (by first | exact Nat.le_of_ble_eq_true rfl | (simp only [rM]; omega)) (fun r34 h35 u36 q37 g38 => ?_)
              obtain ⟨rfl, ehk, rfl⟩ := q37
              refine ch_Gst (st2 := [.int (iI ((n : Int) + 1))]) rfl ?_
              refine gx_iret rfl dX11_join_83 (by first | exact Nat.le_of_ble_eq_true rfl | (simp only [rM]; omega)) (by first | exact Nat.le_of_ble_eq_true rfl | (simp only [rM]; omega)) ?_
              have hok : (1 ≤ a ∧ a ≤ (n : Int)) ∧ (1 ≤ b ∧ b ≤ (n : Int)) ∧ (0 ≤ how ∧ how ≤ 2) ∧ Wf a.toNat + Wf b.toNat + 1 ≤ 100 := ⟨hfda, hfdb, by omega, by omega⟩
              have hnf : n < 60 := by omega
              obtain ⟨m1, m2, m3⟩ := hnew hok hnf
              obtain ⟨m3, m4, m5⟩ := m3
              have hwf2 : wfS Kf2 Nf2 Wf2 (n + 1) := by
                unfold wfS
                rw [m1, m2, m3, m4, m5, (hag a.toNat (by omega) (by omega)).2.1, (hag b.toNat (by omega) (by omega)).2.1]
                exact ⟨by omega, Or.inr (Or.inl ⟨rfl, by omega, by omega, by omega, by omega, by omega, by omega, rfl⟩)⟩
              have hA2 : va_up Ad (n + 1) hi a.toNat = Ad a.toNat := va_upN (by omega)
              have hA3 : va_up Ad (n + 1) hi b.toNat = Ad b.toNat := va_upN (by omega)
              have g0 : ∀ b, b ≠ lo → b ≠ lo + 2 → b ≠ hi → h35 b = h b := fun b q0 q2 q3 => by rw [ehk, ch_set_ne q0, ch_set_ne q2, eh0, ch_set_ne q3, eh16, ch_set_ne q3]
              obtain ⟨P1, P2⟩ := ssP_push (c2 := c) SS0 hag hwf2 hnf (by rw [ehk]; exact ch_set_self) hga (by rw [ehk, ch_set_ne (by omega)]; exact ch_set_self) (by rw [ehk, ch_set_ne (by omega), ch_set_ne (by omega), eh0, ch_set_self, soC, m1, m2, m3, m4, m5, hA2, hA3, if_neg (by decide), if_neg (by decide), if_neg (by decide), if_neg (by decide), if_pos rfl]) g0 (by omega)
              exact ⟨fun _ => ⟨rfl, P1⟩, fun q => absurd ⟨hok, hnf⟩ q, P2, by omega⟩
            · refine gx_bipush (iI (-2)) dX11_join_62 (by decide) ?_
              refine gx_goto 83 dX11_join_64 (by decide) ?_
              refine gx_iret rfl dX11_join_83 (by first | exact Nat.le_of_ble_eq_true rfl | (simp only [rM]; omega)) (by first | exact Nat.le_of_ble_eq_true rfl | (simp only [rM]; omega)) ?_
              have hok : (1 ≤ a ∧ a ≤ (n : Int)) ∧ (1 ≤ b ∧ b ≤ (n : Int)) ∧ (0 ≤ how ∧ how ≤ 2) ∧ Wf a.toNat + Wf b.toNat + 1 ≤ 100 := ⟨hfda, hfdb, by omega, by omega⟩
              have hfl : ¬ n < 60 := by have := bI_1 c59; have := of_decide_eq_true this; omega
              exact ⟨fun q => absurd q.2 hfl, fun _ => ⟨by rw [if_pos hok], SS0⟩, fun b _ _ => rfl, Nat.le_refl _⟩
          · refine gx_iconst (iI (-1)) dX11_join_53 rfl ?_
            refine gx_iret rfl dX11_join_54 (by first | exact Nat.le_of_ble_eq_true rfl | (simp only [rM]; omega)) (by first | exact Nat.le_of_ble_eq_true rfl | (simp only [rM]; omega)) ?_
            have hno : ¬ ((1 ≤ a ∧ a ≤ (n : Int)) ∧ (1 ≤ b ∧ b ≤ (n : Int)) ∧ (0 ≤ how ∧ how ≤ 2) ∧ Wf a.toNat + Wf b.toNat + 1 ≤ 100) := by omega
            exact ⟨fun q => absurd q.1 hno, fun _ => ⟨by rw [if_neg hno], SS0⟩, fun b _ _ => rfl, Nat.le_refl _⟩
        · refine gx_iconst (iI (-1)) dX11_join_33 rfl ?_
          refine gx_iret rfl dX11_join_34 (by first | exact Nat.le_of_ble_eq_true rfl | (simp only [rM]; omega)) (by first | exact Nat.le_of_ble_eq_true rfl | (simp only [rM]; omega)) ?_
          have hno : ¬ ((1 ≤ a ∧ a ≤ (n : Int)) ∧ (1 ≤ b ∧ b ≤ (n : Int)) ∧ (0 ≤ how ∧ how ≤ 2) ∧ Wf a.toNat + Wf b.toNat + 1 ≤ 100) := by omega
          exact ⟨fun q => absurd q.1 hno, fun _ => ⟨by rw [if_neg hno], SS0⟩, fun b _ _ => rfl, Nat.le_refl _⟩
    · refine gx_callV (ci := 10) (c_X11_findN l D cI cL cR lo h hi c n hn Z0 ga Z2 b (by constructor <;> omega) (by omega)) ok_X11_find mw_2_8 mw_2_10 mw_p_5 dX11_join_9 rfl Z0 rfl rfl (Nat.le_of_ble_eq_true rfl) (by first | exact Nat.le_of_ble_eq_true rfl | (simp only [rM]; omega)) (by first | exact Nat.le_of_ble_eq_true rfl | (simp only [rM]; omega)) (by first | exact Nat.le_of_ble_eq_true rfl | (simp only [rM]; omega)) (by first | exact Nat.le_of_ble_eq_true rfl | (simp only [rM]; omega)) (fun r39 h40 u41 q42 g43 => ?_)
      obtain ⟨rfl, rfl, rfl⟩ := q42
      refine ch_Gst (st2 := [.null]) rfl ?_
      refine gx_astoreN [(5, .null), (4, .ref (Ad a.toNat)), (0, .ref lo), (1, .int (iI a)), (2, .int (iI b)), (3, .int (iI how))] dX11_join_12 (by decide) rfl ?_
      refine gx_aload 1 dX11_join_14 rfl ?_
      refine gx_ifnullA dX11_join_16 ?_
      refine gx_aloadN 0 dX11_join_19 rfl ?_
      refine gx_ifnullZ 33 dX11_join_21 (by decide) ?_
      refine gx_iconst (iI (-1)) dX11_join_33 rfl ?_
      refine gx_iret rfl dX11_join_34 (by first | exact Nat.le_of_ble_eq_true rfl | (simp only [rM]; omega)) (by first | exact Nat.le_of_ble_eq_true rfl | (simp only [rM]; omega)) ?_
      have hno : ¬ ((1 ≤ a ∧ a ≤ (n : Int)) ∧ (1 ≤ b ∧ b ≤ (n : Int)) ∧ (0 ≤ how ∧ how ≤ 2) ∧ Wf a.toNat + Wf b.toNat + 1 ≤ 100) := by omega
      exact ⟨fun q => absurd q.1 hno, fun _ => ⟨by rw [if_neg hno], SS0⟩, fun b _ _ => rfl, Nat.le_refl _⟩
  · refine gx_callV (ci := 10) (c_X11_findN l D cI cL cR lo h hi c n hn Z0 ga Z2 a (by constructor <;> omega) (by omega)) ok_X11_find mw_2_8 mw_2_10 mw_p_5 dX11_join_2 rfl Z0 rfl rfl (Nat.le_of_ble_eq_true rfl) (by first | exact Nat.le_of_ble_eq_true rfl | (simp only [rM]; omega)) (by first | exact Nat.le_of_ble_eq_true rfl | (simp only [rM]; omega)) (by first | exact Nat.le_of_ble_eq_true rfl | (simp only [rM]; omega)) (by first | exact Nat.le_of_ble_eq_true rfl | (simp only [rM]; omega)) (fun r44 h45 u46 q47 g48 => ?_)
    obtain ⟨rfl, rfl, rfl⟩ := q47
    refine ch_Gst (st2 := [.null]) rfl ?_
    refine gx_astoreN [(4, .null), (0, .ref lo), (1, .int (iI a)), (2, .int (iI b)), (3, .int (iI how))] dX11_join_5 (by decide) rfl ?_
    refine gx_aload_n 1 dX11_join_7 rfl rfl ?_
    refine gx_iload_n 3 dX11_join_8 rfl rfl ?_
    by_cases hfdb : 1 ≤ b ∧ b ≤ (n : Int)
    · have hgsb : ga (b - 1).toNat = some (Ad b.toNat) := by rw [hga _ (by omega)]; congr 2; omega
      obtain ⟨hplb, hpb, hwfb⟩ := HA b.toNat (by omega) (by omega)
      obtain ⟨cb, vb, e1b, sSb⟩ := soC_S (Ad := Ad) hwfb
      rw [e1b] at hpb
      have hWsb := hwfb.1
      have hAsb := hAd b.toNat (by omega) (by omega)
      refine gx_callV (ci := 10) (c_X11_findY l D cI cL cR lo h hi c n hn Z0 ga Z2 b hfdb _ hgsb) ok_X11_find mw_2_8 mw_2_10 mw_p_5 dX11_join_9 rfl Z0 rfl rfl (Nat.le_of_ble_eq_true rfl) (by first | exact Nat.le_of_ble_eq_true rfl | (simp only [rM]; omega)) (by first | exact Nat.le_of_ble_eq_true rfl | (simp only [rM]; omega)) (by first | exact Nat.le_of_ble_eq_true rfl | (simp only [rM]; omega)) (by first | exact Nat.le_of_ble_eq_true rfl | (simp only [rM]; omega)) (fun r49 h50 u51 q52 g53 => ?_)
      obtain ⟨rfl, rfl, rfl⟩ := q52
      refine ch_Gst (st2 := [.ref (Ad b.toNat)]) rfl ?_
      refine gx_astore [(5, .ref (Ad b.toNat)), (4, .null), (0, .ref lo), (1, .int (iI a)), (2, .int (iI b)), (3, .int (iI how))] dX11_join_12 (by decide) rfl ?_
      refine gx_aloadN 1 dX11_join_14 rfl ?_
      refine gx_ifnullZ 33 dX11_join_16 (by decide) ?_
      refine gx_iconst (iI (-1)) dX11_join_33 rfl ?_
      refine gx_iret rfl dX11_join_34 (by first | exact Nat.le_of_ble_eq_true rfl | (simp only [rM]; omega)) (by first | exact Nat.le_of_ble_eq_true rfl | (simp only [rM]; omega)) ?_
      have hno : ¬ ((1 ≤ a ∧ a ≤ (n : Int)) ∧ (1 ≤ b ∧ b ≤ (n : Int)) ∧ (0 ≤ how ∧ how ≤ 2) ∧ Wf a.toNat + Wf b.toNat + 1 ≤ 100) := by omega
      exact ⟨fun q => absurd q.1 hno, fun _ => ⟨by rw [if_neg hno], SS0⟩, fun b _ _ => rfl, Nat.le_refl _⟩
    · refine gx_callV (ci := 10) (c_X11_findN l D cI cL cR lo h hi c n hn Z0 ga Z2 b (by constructor <;> omega) (by omega)) ok_X11_find mw_2_8 mw_2_10 mw_p_5 dX11_join_9 rfl Z0 rfl rfl (Nat.le_of_ble_eq_true rfl) (by first | exact Nat.le_of_ble_eq_true rfl | (simp only [rM]; omega)) (by first | exact Nat.le_of_ble_eq_true rfl | (simp only [rM]; omega)) (by first | exact Nat.le_of_ble_eq_true rfl | (simp only [rM]; omega)) (by first | exact Nat.le_of_ble_eq_true rfl | (simp only [rM]; omega)) (fun r54 h55 u56 q57 g58 => ?_)
      obtain ⟨rfl, rfl, rfl⟩ := q57
      refine ch_Gst (st2 := [.null]) rfl ?_
      refine gx_astoreN [(5, .null), (4, .null), (0, .ref lo), (1, .int (iI a)), (2, .int (iI b)), (3, .int (iI how))] dX11_join_12 (by decide) rfl ?_
      refine gx_aloadN 1 dX11_join_14 rfl ?_
      refine gx_ifnullZ 33 dX11_join_16 (by decide) ?_
      refine gx_iconst (iI (-1)) dX11_join_33 rfl ?_
      refine gx_iret rfl dX11_join_34 (by first | exact Nat.le_of_ble_eq_true rfl | (simp only [rM]; omega)) (by first | exact Nat.le_of_ble_eq_true rfl | (simp only [rM]; omega)) ?_
      have hno : ¬ ((1 ≤ a ∧ a ≤ (n : Int)) ∧ (1 ≤ b ∧ b ≤ (n : Int)) ∧ (0 ≤ how ∧ how ≤ 2) ∧ Wf a.toNat + Wf b.toNat + 1 ≤ 100) := by omega
      exact ⟨fun q => absurd q.1 hno, fun _ => ⟨by rw [if_neg hno], SS0⟩, fun b _ _ => rfl, Nat.le_refl _⟩
theorem szN_in {c k : Int} (hc : 0 ≤ c) (h : c = szN k) : k = 0 ∨ k = 1 ∨ k = 2 ∨ k = 3 := by
  unfold szN at h
  by_cases h0 : k = 0
  · exact Or.inl h0
  by_cases h1 : k = 1
  · exact Or.inr (Or.inl h1)
  by_cases h2 : k = 2
  · exact Or.inr (Or.inr (Or.inl h2))
  by_cases h3 : k = 3
  · exact Or.inr (Or.inr (Or.inr h3))
  rw [if_neg h0, if_neg h1, if_neg h2, if_neg h3] at h
  exfalso; omega
theorem szN_b (k : Int) : -1 ≤ szN k ∧ szN k ≤ 6 := by
  unfold szN
  split
  · omega
  split
  · omega
  split
  · omega
  split <;> omega
theorem rdO_b {fz : Nat → Int} (hfz : ∀ j, -5000 ≤ fz j ∧ fz j ≤ 5000) (k : Int) : -5000 ≤ rdO fz k ∧ rdO fz k ≤ 5000 := by
  unfold rdO
  split
  · exact hfz 2
  split
  · exact hfz 3
  split
  · exact hfz 2
  · omega
set_option maxHeartbeats 4000000 in
set_option maxRecDepth 100000 in
theorem c_X11_solid (l : Launch) (D : va_G) (cI cL cR : ClassId) (lo : Nat) (h : ch_H) (hi : Nat) (fz : Nat → Int) (c : Int) (n : Nat) (Ad : Nat → Nat) (Kf Nf Wf : Nat → Int) (Es Et : List Int) (SS : ssP cI cR lo h hi fz c n Ad Kf Nf Wf Es Et) (kind : Int) (hk : ir kind) (Kf2 Nf2 Wf2 : Nat → Int) (hag : agN n Kf Nf Wf Kf2 Nf2 Wf2) (hnew : (c = szN kind ∧ 0 ≤ rdO fz kind) → n < 60 → Kf2 (n + 1) = kind ∧ Wf2 (n + 1) = 1 ∧ ∀ k, k < 6 → Nf2 (6 * (n + 1) + k) = fz k) : ch_C l (eE D cI cL cR lo) M_X11_solid (rM 4 1 7) [.ref lo, .int (iI kind)] h hi (fun r0 h2 hi2 => (((c = szN kind ∧ 0 ≤ rdO fz kind) ∧ n < 60) → r0 = some (.int (iI ((n : Int) + 1))) ∧ ssP cI cR lo h2 hi2 fz 0 (n + 1) (va_up Ad (n + 1) hi) Kf2 Nf2 Wf2 Es Et) ∧ (¬ ((c = szN kind ∧ 0 ≤ rdO fz kind) ∧ n < 60) → r0 = some (.int (iI (if c = szN kind ∧ 0 ≤ rdO fz kind then -2 else -1))) ∧ ssP cI cR lo h2 hi2 fz 0 n Ad Kf Nf Wf Es Et) ∧ xfr lo hi h h2 ∧ hi ≤ hi2) := by
  refine ch_C.of rfl (Nat.le_of_ble_eq_true rfl) ?_
  have SS0 := SS
  obtain ⟨Z0, Z1, ⟨ga, Z2, hga⟩, ⟨gw, fx, fy, fl, fh, wc, Ls, W⟩, RS, RT, HA, hc, hn, hfz, hhi, hAd⟩ := SS
  have hsn := szN_b kind
  have hrd := rdO_b hfz kind
  refine gx_aload_n 0 dX11_solid_0 rfl rfl ?_
  refine gx_callV (ci := 10) (c_X11_useUpSizes l D cI cL cR lo h hi c n hn Z0) ok_X11_useUpSizes mw_1_120 mw_1_122 mw_p_0 dX11_solid_1 rfl Z0 rfl rfl (Nat.le_of_ble_eq_true rfl) (by first | exact Nat.le_of_ble_eq_true rfl | (simp only [rM]; omega)) (by first | exact Nat.le_of_ble_eq_true rfl | (simp only [rM]; omega)) (by first | exact Nat.le_of_ble_eq_true rfl | (simp only [rM]; omega)) (by first | exact Nat.le_of_ble_eq_true rfl | (simp only [rM]; omega)) (fun r1 h2 u3 q4 g5 => ?_)
  obtain ⟨rfl, ehu, rfl⟩ := q4
  have k6 : h2 (lo + 1) = some (aI cI 6 fz) := by rw [ehu, ch_set_ne (by first | assumption | exact Ne.symm (by assumption) | omega)]; exact Z1
  have k7 : h2 (lo + 2) = some (aR cR 60 ga) := by rw [ehu, ch_set_ne (by first | assumption | exact Ne.symm (by assumption) | omega)]; exact Z2
  have k8 : h2 lo = some (.inr (10, [.ref (lo + 1), .int (iI 0), .ref (lo + 2), .int (iI (n : Int)), .ref (lo + 3), .ref (lo + 13), .ref (lo + 15)])) := by rw [ehu]; exact ch_set_self
  refine ch_Gst (st2 := [.int (iI c)]) rfl ?_
  refine gx_istore_n [(2, .int (iI c)), (0, .ref lo), (1, .int (iI kind))] dX11_solid_4 rfl (by decide) rfl ?_
  refine gx_iload_n 0 dX11_solid_5 rfl rfl ?_
  refine gx_iload_n 2 dX11_solid_6 rfl rfl ?_
  refine gx_callS (c_X11_sizesNeeded l D cI cL cR lo h2 hi kind hk) ok_X11_sizesNeeded mw_1_124 mw_1_125 dX11_solid_7 rfl rfl (Nat.le_of_ble_eq_true rfl) (by first | exact Nat.le_of_ble_eq_true rfl | (simp only [rM]; omega)) (by first | exact Nat.le_of_ble_eq_true rfl | (simp only [rM]; omega)) (by first | exact Nat.le_of_ble_eq_true rfl | (simp only [rM]; omega)) (by first | exact Nat.le_of_ble_eq_true rfl | (simp only [rM]; omega)) (fun r9 h10 u11 q12 g13 => ?_)
  obtain ⟨rfl, rfl, rfl⟩ := q12
  refine ch_Gst (st2 := [.int (iI (szN kind)), .int (iI c)]) rfl ?_
  refine gy_icmp_ne 21 dX11_solid_10 (by decide) (by constructor <;> omega) (by constructor <;> omega) (fun c10 => ?_) (fun c10 => ?_)
  · refine gx_iconst (iI (-1)) dX11_solid_21 rfl ?_
    refine gx_iret rfl dX11_solid_22 (by first | exact Nat.le_of_ble_eq_true rfl | (simp only [rM]; omega)) (by first | exact Nat.le_of_ble_eq_true rfl | (simp only [rM]; omega)) ?_
    have hno : ¬ (c = szN kind ∧ 0 ≤ rdO fz kind) := by omega
    obtain ⟨P1, P2⟩ := ssP_use SS0 ehu (by omega)
    exact ⟨fun q => absurd q.1 hno, fun _ => ⟨by rw [if_neg hno], P1⟩, P2, Nat.le_refl _⟩
  · refine gx_aload_n 1 dX11_solid_13 rfl rfl ?_
    refine gx_iload_n 2 dX11_solid_14 rfl rfl ?_
    refine gx_callV (ci := 10) (c_X11_radiusOf l D cI cL cR lo h2 hi 0 n hn k8 fz k6 kind hk) ok_X11_radiusOf mw_1_127 mw_1_129 mw_p_1 dX11_solid_15 rfl k8 rfl rfl (Nat.le_of_ble_eq_true rfl) (by first | exact Nat.le_of_ble_eq_true rfl | (simp only [rM]; omega)) (by first | exact Nat.le_of_ble_eq_true rfl | (simp only [rM]; omega)) (by first | exact Nat.le_of_ble_eq_true rfl | (simp only [rM]; omega)) (by first | exact Nat.le_of_ble_eq_true rfl | (simp only [rM]; omega)) (fun r14 h15 u16 q17 g18 => ?_)
    obtain ⟨rfl, rfl, rfl⟩ := q17
    refine ch_Gst (st2 := [.int (iI (rdO fz kind))]) rfl ?_
    refine gy_if_ge 23 dX11_solid_18 (by decide) (by constructor <;> omega) (fun c18 => ?_) (fun c18 => ?_)
    · refine gx_aload_n 1 dX11_solid_23 rfl rfl ?_
      refine gx_callV (ci := 10) (c_X11_isFull l D cI cL cR lo h2 hi 0 n hn k8) ok_X11_isFull mw_1_131 mw_1_133 mw_p_2 dX11_solid_24 rfl k8 rfl rfl (Nat.le_of_ble_eq_true rfl) (by first | exact Nat.le_of_ble_eq_true rfl | (simp only [rM]; omega)) (by first | exact Nat.le_of_ble_eq_true rfl | (simp only [rM]; omega)) (by first | exact Nat.le_of_ble_eq_true rfl | (simp only [rM]; omega)) (by first | exact Nat.le_of_ble_eq_true rfl | (simp only [rM]; omega)) (fun r19 h20 u21 q22 g23 => ?_)
      obtain ⟨rfl, rfl, rfl⟩ := q22
      refine ch_Gst (st2 := [.int (iI (bI (decide (60 ≤ n))))]) rfl ?_
      refine gy_if_eq 35 dX11_solid_27 (by decide) ir_bI (fun c27 => ?_) (fun c27 => ?_)
      · refine gx_aload_n 1 dX11_solid_35 rfl rfl ?_
        refine gx_aload_n 1 dX11_solid_36 rfl rfl ?_
        refine gx_iload_n 2 dX11_solid_37 rfl rfl ?_
        have hnf0 : n < 60 := by have := bI_0 c27; have := of_decide_eq_false this; omega
        have hok : c = szN kind ∧ 0 ≤ rdO fz kind := ⟨by omega, by omega⟩
        rcases szN_in hc.1 hok.1 with rfl | rfl | rfl | rfl
        · refine gx_callV (ci := 10) (c_X11_newShape_0 l D cI cL cR lo h2 hi 0 n hn k8 fz k6 hhi) ok_X11_newShape mw_1_135 mw_1_137 mw_p_3 dX11_solid_38 rfl k8 rfl rfl (Nat.le_of_ble_eq_true rfl) (by first | exact Nat.le_of_ble_eq_true rfl | (simp only [rM]; omega)) (by first | exact Nat.le_of_ble_eq_true rfl | (simp only [rM]; omega)) (by first | exact Nat.le_of_ble_eq_true rfl | (simp only [rM]; omega)) (by first | exact Nat.le_of_ble_eq_true rfl | (simp only [rM]; omega)) (fun r24 h25 u26 q27 g28 => ?_)
          obtain ⟨rfl, eh0, rfl⟩ := q27
          have k29 : h25 (lo + 1) = some (aI cI 6 fz) := by rw [eh0, ch_set_ne (by first | assumption | omega)]; exact k6
          have k30 : h25 (lo + 2) = some (aR cR 60 ga) := by rw [eh0, ch_set_ne (by first | assumption | omega)]; exact k7
          have k31 : h25 lo = some (.inr (10, [.ref (lo + 1), .int (iI 0), .ref (lo + 2), .int (iI (n : Int)), .ref (lo + 3), .ref (lo + 13), .ref (lo + 15)])) := by rw [eh0, ch_set_ne (by first | assumption | omega)]; exact k8
          have k32 : h25 hi = some (.inr (1, [.int (iI 1), .int (iI (fz 0)), .int (iI (fz 1)), .int (iI (fz 2)), .int (iI (fz 3)), .int (iI (fz 4)), .int (iI (fz 5))])) := by rw [eh0]; exact ch_set_self
          refine ch_Gst (st2 := [.ref hi, .ref lo]) rfl ?_
          refine gx_callV (ci := 10) (c_X11_keep l D cI cL cR lo h25 (hi + 1) 0 n hn k31 ga k30 hi 1 _ k32 isS_1 (by omega) (by omega)) ok_X11_keep mw_2_0 mw_2_2 mw_p_4 dX11_solid_41 rfl k31 rfl rfl (Nat.le_of_ble_eq_true rfl) (by first | exact Nat.le_of_ble_eq_true rfl | (simp only [rM]; omega)) (by first | exact Nat.le_of_ble_eq_true rfl | (simp only [rM]; omega)) (by first | exact Nat.le_of_ble_eq_true rfl | (simp only [rM]; omega)) (by first | exact Nat.le_of_ble_eq_true rfl | (simp only [rM]; omega)) (fun r33 h34 u35 q36 g37 => ?_)
          obtain ⟨rfl, ehk, rfl⟩ := q36
          refine ch_Gst (st2 := [.int (iI ((n : Int) + 1))]) rfl ?_
          refine gx_iret rfl dX11_solid_44 (by first | exact Nat.le_of_ble_eq_true rfl | (simp only [rM]; omega)) (by first | exact Nat.le_of_ble_eq_true rfl | (simp only [rM]; omega)) ?_
          skip
          have hnf : n < 60 := by omega
          obtain ⟨m1, m2, m3⟩ := hnew hok hnf
          have hwf2 : wfS Kf2 Nf2 Wf2 (n + 1) := by
            unfold wfS
            rw [m1, m2]
            exact ⟨by omega, Or.inl ⟨by omega, rfl, fun k hk => by rw [m3 k hk]; exact hfz k, fun q => by omega, fun q => by omega⟩⟩
          have m30 : Nf2 (6 * (n + 1)) = fz 0 := m3 0 (by omega)
          have g0 : ∀ b, b ≠ lo → b ≠ lo + 2 → b ≠ hi → h34 b = h b := fun b q0 q2 q3 => by rw [ehk, ch_set_ne q0, ch_set_ne q2, eh0, ch_set_ne q3, ehu, ch_set_ne q0]
          obtain ⟨P1, P2⟩ := ssP_push (c2 := 0) SS0 hag hwf2 hnf (by rw [ehk]; exact ch_set_self) hga (by rw [ehk, ch_set_ne (by omega)]; exact ch_set_self) (by rw [ehk, ch_set_ne (by omega), ch_set_ne (by omega), eh0, ch_set_self, soC, m1, m2, m30, m3 1 (by omega), m3 2 (by omega), m3 3 (by omega), m3 4 (by omega), m3 5 (by omega), if_pos rfl]) g0 (by omega)
          exact ⟨fun _ => ⟨rfl, P1⟩, fun q => absurd ⟨hok, hnf⟩ q, P2, by omega⟩
        · refine gx_callV (ci := 10) (c_X11_newShape_1 l D cI cL cR lo h2 hi 0 n hn k8 fz k6 hhi) ok_X11_newShape mw_1_135 mw_1_137 mw_p_3 dX11_solid_38 rfl k8 rfl rfl (Nat.le_of_ble_eq_true rfl) (by first | exact Nat.le_of_ble_eq_true rfl | (simp only [rM]; omega)) (by first | exact Nat.le_of_ble_eq_true rfl | (simp only [rM]; omega)) (by first | exact Nat.le_of_ble_eq_true rfl | (simp only [rM]; omega)) (by first | exact Nat.le_of_ble_eq_true rfl | (simp only [rM]; omega)) (fun r38 h39 u40 q41 g42 => ?_)
          obtain ⟨rfl, eh0, rfl⟩ := q41
          have k43 : h39 (lo + 1) = some (aI cI 6 fz) := by rw [eh0, ch_set_ne (by first | assumption | omega)]; exact k6
          have k44 : h39 (lo + 2) = some (aR cR 60 ga) := by rw [eh0, ch_set_ne (by first | assumption | omega)]; exact k7
          have k45 : h39 lo = some (.inr (10, [.ref (lo + 1), .int (iI 0), .ref (lo + 2), .int (iI (n : Int)), .ref (lo + 3), .ref (lo + 13), .ref (lo + 15)])) := by rw [eh0, ch_set_ne (by first | assumption | omega)]; exact k8
          have k46 : h39 hi = some (.inr (6, [.int (iI 1), .int (iI (fz 0)), .int (iI (fz 1)), .int (iI (fz 2)), .int (iI (fz 3)), .int (iI (fz 4))])) := by rw [eh0]; exact ch_set_self
          refine ch_Gst (st2 := [.ref hi, .ref lo]) rfl ?_
          refine gx_callV (ci := 10) (c_X11_keep l D cI cL cR lo h39 (hi + 1) 0 n hn k45 ga k44 hi 6 _ k46 isS_6 (by omega) (by omega)) ok_X11_keep mw_2_0 mw_2_2 mw_p_4 dX11_solid_41 rfl k45 rfl rfl (Nat.le_of_ble_eq_true rfl) (by first | exact Nat.le_of_ble_eq_true rfl | (simp only [rM]; omega)) (by first | exact Nat.le_of_ble_eq_true rfl | (simp only [rM]; omega)) (by first | exact Nat.le_of_ble_eq_true rfl | (simp only [rM]; omega)) (by first | exact Nat.le_of_ble_eq_true rfl | (simp only [rM]; omega)) (fun r47 h48 u49 q50 g51 => ?_)
          obtain ⟨rfl, ehk, rfl⟩ := q50
          refine ch_Gst (st2 := [.int (iI ((n : Int) + 1))]) rfl ?_
          refine gx_iret rfl dX11_solid_44 (by first | exact Nat.le_of_ble_eq_true rfl | (simp only [rM]; omega)) (by first | exact Nat.le_of_ble_eq_true rfl | (simp only [rM]; omega)) ?_
          skip
          have hnf : n < 60 := by omega
          obtain ⟨m1, m2, m3⟩ := hnew hok hnf
          have hwf2 : wfS Kf2 Nf2 Wf2 (n + 1) := by
            unfold wfS
            rw [m1, m2]
            exact ⟨by omega, Or.inl ⟨by omega, rfl, fun k hk => by rw [m3 k hk]; exact hfz k, fun _ => by rw [m3 2 (by omega)]; exact hok.2, fun q => by omega⟩⟩
          have m30 : Nf2 (6 * (n + 1)) = fz 0 := m3 0 (by omega)
          have g0 : ∀ b, b ≠ lo → b ≠ lo + 2 → b ≠ hi → h48 b = h b := fun b q0 q2 q3 => by rw [ehk, ch_set_ne q0, ch_set_ne q2, eh0, ch_set_ne q3, ehu, ch_set_ne q0]
          obtain ⟨P1, P2⟩ := ssP_push (c2 := 0) SS0 hag hwf2 hnf (by rw [ehk]; exact ch_set_self) hga (by rw [ehk, ch_set_ne (by omega)]; exact ch_set_self) (by rw [ehk, ch_set_ne (by omega), ch_set_ne (by omega), eh0, ch_set_self, soC, m1, m2, m30, m3 1 (by omega), m3 2 (by omega), m3 3 (by omega), m3 4 (by omega), if_neg (by decide), if_pos rfl]) g0 (by omega)
          exact ⟨fun _ => ⟨rfl, P1⟩, fun q => absurd ⟨hok, hnf⟩ q, P2, by omega⟩
        · refine gx_callV (ci := 10) (c_X11_newShape_2 l D cI cL cR lo h2 hi 0 n hn k8 fz k6 hhi) ok_X11_newShape mw_1_135 mw_1_137 mw_p_3 dX11_solid_38 rfl k8 rfl rfl (Nat.le_of_ble_eq_true rfl) (by first | exact Nat.le_of_ble_eq_true rfl | (simp only [rM]; omega)) (by first | exact Nat.le_of_ble_eq_true rfl | (simp only [rM]; omega)) (by first | exact Nat.le_of_ble_eq_true rfl | (simp only [rM]; omega)) (by first | exact Nat.le_of_ble_eq_true rfl | (simp only [rM]; omega)) (fun r52 h53 u54 q55 g56 => ?_)
          obtain ⟨rfl, eh0, rfl⟩ := q55
          have k57 : h53 (lo + 1) = some (aI cI 6 fz) := by rw [eh0, ch_set_ne (by first | assumption | omega)]; exact k6
          have k58 : h53 (lo + 2) = some (aR cR 60 ga) := by rw [eh0, ch_set_ne (by first | assumption | omega)]; exact k7
          have k59 : h53 lo = some (.inr (10, [.ref (lo + 1), .int (iI 0), .ref (lo + 2), .int (iI (n : Int)), .ref (lo + 3), .ref (lo + 13), .ref (lo + 15)])) := by rw [eh0, ch_set_ne (by first | assumption | omega)]; exact k8
          have k60 : h53 hi = some (.inr (0, [.int (iI 1), .int (iI (fz 0)), .int (iI (fz 1)), .int (iI (fz 2)), .int (iI (fz 3))])) := by rw [eh0]; exact ch_set_self
          refine ch_Gst (st2 := [.ref hi, .ref lo]) rfl ?_
          refine gx_callV (ci := 10) (c_X11_keep l D cI cL cR lo h53 (hi + 1) 0 n hn k59 ga k58 hi 0 _ k60 isS_0 (by omega) (by omega)) ok_X11_keep mw_2_0 mw_2_2 mw_p_4 dX11_solid_41 rfl k59 rfl rfl (Nat.le_of_ble_eq_true rfl) (by first | exact Nat.le_of_ble_eq_true rfl | (simp only [rM]; omega)) (by first | exact Nat.le_of_ble_eq_true rfl | (simp only [rM]; omega)) (by first | exact Nat.le_of_ble_eq_true rfl | (simp only [rM]; omega)) (by first | exact Nat.le_of_ble_eq_true rfl | (simp only [rM]; omega)) (fun r61 h62 u63 q64 g65 => ?_)
          obtain ⟨rfl, ehk, rfl⟩ := q64
          refine ch_Gst (st2 := [.int (iI ((n : Int) + 1))]) rfl ?_
          refine gx_iret rfl dX11_solid_44 (by first | exact Nat.le_of_ble_eq_true rfl | (simp only [rM]; omega)) (by first | exact Nat.le_of_ble_eq_true rfl | (simp only [rM]; omega)) ?_
          skip
          have hnf : n < 60 := by omega
          obtain ⟨m1, m2, m3⟩ := hnew hok hnf
          have hwf2 : wfS Kf2 Nf2 Wf2 (n + 1) := by
            unfold wfS
            rw [m1, m2]
            exact ⟨by omega, Or.inl ⟨by omega, rfl, fun k hk => by rw [m3 k hk]; exact hfz k, fun q => by omega, fun _ => by rw [m3 3 (by omega)]; exact hok.2⟩⟩
          have m30 : Nf2 (6 * (n + 1)) = fz 0 := m3 0 (by omega)
          have g0 : ∀ b, b ≠ lo → b ≠ lo + 2 → b ≠ hi → h62 b = h b := fun b q0 q2 q3 => by rw [ehk, ch_set_ne q0, ch_set_ne q2, eh0, ch_set_ne q3, ehu, ch_set_ne q0]
          obtain ⟨P1, P2⟩ := ssP_push (c2 := 0) SS0 hag hwf2 hnf (by rw [ehk]; exact ch_set_self) hga (by rw [ehk, ch_set_ne (by omega)]; exact ch_set_self) (by rw [ehk, ch_set_ne (by omega), ch_set_ne (by omega), eh0, ch_set_self, soC, m1, m2, m30, m3 1 (by omega), m3 2 (by omega), m3 3 (by omega), if_neg (by decide), if_neg (by decide), if_pos rfl]) g0 (by omega)
          exact ⟨fun _ => ⟨rfl, P1⟩, fun q => absurd ⟨hok, hnf⟩ q, P2, by omega⟩
        · refine gx_callV (ci := 10) (c_X11_newShape_3 l D cI cL cR lo h2 hi 0 n hn k8 fz k6 hhi) ok_X11_newShape mw_1_135 mw_1_137 mw_p_3 dX11_solid_38 rfl k8 rfl rfl (Nat.le_of_ble_eq_true rfl) (by first | exact Nat.le_of_ble_eq_true rfl | (simp only [rM]; omega)) (by first | exact Nat.le_of_ble_eq_true rfl | (simp only [rM]; omega)) (by first | exact Nat.le_of_ble_eq_true rfl | (simp only [rM]; omega)) (by first | exact Nat.le_of_ble_eq_true rfl | (simp only [rM]; omega)) (fun r66 h67 u68 q69 g70 => ?_)
          obtain ⟨rfl, eh0, rfl⟩ := q69
          have k71 : h67 (lo + 1) = some (aI cI 6 fz) := by rw [eh0, ch_set_ne (by first | assumption | omega)]; exact k6
          have k72 : h67 (lo + 2) = some (aR cR 60 ga) := by rw [eh0, ch_set_ne (by first | assumption | omega)]; exact k7
          have k73 : h67 lo = some (.inr (10, [.ref (lo + 1), .int (iI 0), .ref (lo + 2), .int (iI (n : Int)), .ref (lo + 3), .ref (lo + 13), .ref (lo + 15)])) := by rw [eh0, ch_set_ne (by first | assumption | omega)]; exact k8
          have k74 : h67 hi = some (.inr (2, [.int (iI 1), .int (iI (fz 0)), .int (iI (fz 1)), .int (iI (fz 2)), .int (iI (fz 3)), .int (iI (fz 4))])) := by rw [eh0]; exact ch_set_self
          refine ch_Gst (st2 := [.ref hi, .ref lo]) rfl ?_
          refine gx_callV (ci := 10) (c_X11_keep l D cI cL cR lo h67 (hi + 1) 0 n hn k73 ga k72 hi 2 _ k74 isS_2 (by omega) (by omega)) ok_X11_keep mw_2_0 mw_2_2 mw_p_4 dX11_solid_41 rfl k73 rfl rfl (Nat.le_of_ble_eq_true rfl) (by first | exact Nat.le_of_ble_eq_true rfl | (simp only [rM]; omega)) (by first | exact Nat.le_of_ble_eq_true rfl | (simp only [rM]; omega)) (by first | exact Nat.le_of_ble_eq_true rfl | (simp only [rM]; omega)) (by first | exact Nat.le_of_ble_eq_true rfl | (simp only [rM]; omega)) (fun r75 h76 u77 q78 g79 => ?_)
          obtain ⟨rfl, ehk, rfl⟩ := q78
          refine ch_Gst (st2 := [.int (iI ((n : Int) + 1))]) rfl ?_
          refine gx_iret rfl dX11_solid_44 (by first | exact Nat.le_of_ble_eq_true rfl | (simp only [rM]; omega)) (by first | exact Nat.le_of_ble_eq_true rfl | (simp only [rM]; omega)) ?_
          skip
          have hnf : n < 60 := by omega
          obtain ⟨m1, m2, m3⟩ := hnew hok hnf
          have hwf2 : wfS Kf2 Nf2 Wf2 (n + 1) := by
            unfold wfS
            rw [m1, m2]
            exact ⟨by omega, Or.inl ⟨by omega, rfl, fun k hk => by rw [m3 k hk]; exact hfz k, fun _ => by rw [m3 2 (by omega)]; exact hok.2, fun q => by omega⟩⟩
          have m30 : Nf2 (6 * (n + 1)) = fz 0 := m3 0 (by omega)
          have g0 : ∀ b, b ≠ lo → b ≠ lo + 2 → b ≠ hi → h76 b = h b := fun b q0 q2 q3 => by rw [ehk, ch_set_ne q0, ch_set_ne q2, eh0, ch_set_ne q3, ehu, ch_set_ne q0]
          obtain ⟨P1, P2⟩ := ssP_push (c2 := 0) SS0 hag hwf2 hnf (by rw [ehk]; exact ch_set_self) hga (by rw [ehk, ch_set_ne (by omega)]; exact ch_set_self) (by rw [ehk, ch_set_ne (by omega), ch_set_ne (by omega), eh0, ch_set_self, soC, m1, m2, m30, m3 1 (by omega), m3 2 (by omega), m3 3 (by omega), m3 4 (by omega), if_neg (by decide), if_neg (by decide), if_neg (by decide), if_pos rfl]) g0 (by omega)
          exact ⟨fun _ => ⟨rfl, P1⟩, fun q => absurd ⟨hok, hnf⟩ q, P2, by omega⟩
      · refine gx_bipush (iI (-2)) dX11_solid_30 (by decide) ?_
        refine gx_goto 44 dX11_solid_32 (by decide) ?_
        refine gx_iret rfl dX11_solid_44 (by first | exact Nat.le_of_ble_eq_true rfl | (simp only [rM]; omega)) (by first | exact Nat.le_of_ble_eq_true rfl | (simp only [rM]; omega)) ?_
        have hok : c = szN kind ∧ 0 ≤ rdO fz kind := ⟨by omega, by omega⟩
        have hfl : ¬ n < 60 := by have := bI_1 c27; have := of_decide_eq_true this; omega
        obtain ⟨P1, P2⟩ := ssP_use SS0 ehu (by omega)
        exact ⟨fun q => absurd q.2 hfl, fun _ => ⟨by rw [if_pos hok], P1⟩, P2, Nat.le_refl _⟩
    · refine gx_iconst (iI (-1)) dX11_solid_21 rfl ?_
      refine gx_iret rfl dX11_solid_22 (by first | exact Nat.le_of_ble_eq_true rfl | (simp only [rM]; omega)) (by first | exact Nat.le_of_ble_eq_true rfl | (simp only [rM]; omega)) ?_
      have hno : ¬ (c = szN kind ∧ 0 ≤ rdO fz kind) := by omega
      obtain ⟨P1, P2⟩ := ssP_use SS0 ehu (by omega)
      exact ⟨fun q => absurd q.1 hno, fun _ => ⟨by rw [if_neg hno], P1⟩, P2, Nat.le_refl _⟩
end
