section
set_option maxHeartbeats 4000000 in
set_option maxRecDepth 100000 in
theorem law_call (l : Launch) (D : va_G) (cI cL cR : ClassId) (lo b L : Nat) (xs : Nat → Int32) (nm : String) (hL : L ≤ 2560) (i : Int) (i0 : 0 ≤ i) (i1 : i + 5 ≤ (L : Int)) (k n : Nat) (hk : k + 1 ≤ 600000) (hn : n + 7 ≤ 7302250) (h : ch_H) (hi : Nat) (J : lwJ cI cL cR lo h hi) (kk : ∀ h2 hi2, lwJ cI cL cR lo h2 hi2 → ch_G l (eE D cI cL cR lo) (M_L nm) (lX b L lo xs) room_1 lw_Z (k + 1) (n + 7) h2 hi2 456 [(3, .int (iI i)), (2, .ref (lo + 17)), (1, .ref lo), (0, .ref b)] []) : ch_G l (eE D cI cL cR lo) (M_L nm) (lX b L lo xs) room_1 lw_Z k n h hi 26 [(3, .int (iI i)), (2, .ref (lo + 17)), (1, .ref lo), (0, .ref b)] [] := by
  refine gx_aload_n 3 dL_law_26 rfl rfl ?_
  refine gx_iload_n 0 dL_law_27 rfl rfl ?_
  refine gl_ld (by omega) (by omega) hL dL_law_28 ?_
  refine gx_bipush (iI 15) dL_law_29 (by decide) ?_
  refine gx_iand dL_law_31 (fun v hv => ?_)
  clear hv
  obtain ⟨z, hz, e⟩ := iI_of v
  subst e
  by_cases w0 : z = 0
  · refine gy_tin 0 w0 92 dL_law_32 (by decide) (by decide) (by decide) rfl (by decide) ?_
    exact st_size l D cI cL cR lo b L xs nm hL i i0 i1 k n hk hn h hi J kk
  by_cases w1 : z = 1
  · refine gy_tin 1 w1 115 dL_law_32 (by decide) (by decide) (by decide) rfl (by decide) ?_
    exact st_solid l D cI cL cR lo b L xs nm hL i i0 i1 k n hk hn h hi J kk
  by_cases w2 : z = 2
  · refine gy_tin 2 w2 138 dL_law_32 (by decide) (by decide) (by decide) rfl (by decide) ?_
    exact st_join l D cI cL cR lo b L xs nm hL i i0 i1 k n hk hn h hi J kk
  by_cases w3 : z = 3
  · refine gy_tin 3 w3 181 dL_law_32 (by decide) (by decide) (by decide) rfl (by decide) ?_
    exact st_moved l D cI cL cR lo b L xs nm hL i i0 i1 k n hk hn h hi J kk
  by_cases w4 : z = 4
  · refine gy_tin 4 w4 204 dL_law_32 (by decide) (by decide) (by decide) rfl (by decide) ?_
    exact st_turned l D cI cL cR lo b L xs nm hL i i0 i1 k n hk hn h hi J kk
  by_cases w5 : z = 5
  · refine gy_tin 5 w5 227 dL_law_32 (by decide) (by decide) (by decide) rfl (by decide) ?_
    exact st_weight l D cI cL cR lo b L xs nm hL i i0 i1 k n hk hn h hi J kk
  by_cases w6 : z = 6
  · refine gy_tin 6 w6 250 dL_law_32 (by decide) (by decide) (by decide) rfl (by decide) ?_
    exact st_inside l D cI cL cR lo b L xs nm hL i i0 i1 k n hk hn h hi J kk
  by_cases w7 : z = 7
  · refine gy_tin 7 w7 303 dL_law_32 (by decide) (by decide) (by decide) rfl (by decide) ?_
    exact st_top l D cI cL cR lo b L xs nm hL i i0 i1 k n hk hn h hi J kk
  by_cases w8 : z = 8
  · refine gy_tin 8 w8 346 dL_law_32 (by decide) (by decide) (by decide) rfl (by decide) ?_
    exact st_spans l D cI cL cR lo b L xs nm hL i i0 i1 k n hk hn h hi J kk
  by_cases w9 : z = 9
  · refine gy_tin 9 w9 389 dL_law_32 (by decide) (by decide) (by decide) rfl (by decide) ?_
    exact st_span l D cI cL cR lo b L xs nm hL i i0 i1 k n hk hn h hi J kk
  by_cases w10 : z = 10
  · refine gy_tin 10 w10 422 dL_law_32 (by decide) (by decide) (by decide) rfl (by decide) ?_
    exact st_within l D cI cL cR lo b L xs nm hL i i0 i1 k n hk hn h hi J kk
  refine gy_tout 456 dL_law_32 hz (by omega) (by decide) ?_
  exact ch_Gwd (by omega) (by omega) (kk h hi J)
set_option maxHeartbeats 4000000 in
set_option maxRecDepth 100000 in
theorem law_loop (l : Launch) (D : va_G) (cI cL cR : ClassId) (lo b L : Nat) (xs : Nat → Int32) (nm : String) (hL : L ≤ 2560) : ∀ (r : Nat) (i : Int) (k n : Nat) (h : ch_H) (hi : Nat), 0 ≤ i → i ≤ 2560 → (L : Int) < i + 5 * r + 5 → k + r ≤ 600000 → n + 7 * r ≤ 7302250 → lwJ cI cL cR lo h hi → ch_G l (eE D cI cL cR lo) (M_L nm) (lX b L lo xs) room_1 lw_Z k n h hi 18 [(3, .int (iI i)), (2, .ref (lo + 17)), (1, .ref lo), (0, .ref b)] [] := by
  intro r
  induction r with
  | zero =>
    intro i k n h hi i0 i1 i2 hk hn J
    refine gx_iload_n 0 dL_law_18 rfl rfl ?_
    refine gx_aload_n 3 dL_law_19 rfl rfl ?_
    refine gl_len dL_law_20 ?_
    refine gx_iconst (iI 5) dL_law_21 rfl ?_
    refine gy_isub dL_law_22 ?_
    refine gy_icmp_gt 462 dL_law_23 (by decide) (by constructor <;> omega) (by constructor <;> omega) (fun c => ?_) (fun c => ?_)
    · refine gx_iconst (iI 1) dL_law_462 rfl ?_
      exact gl_ret (by omega) (by omega)
    · exact absurd c (by omega)
  | succ r ih =>
    intro i k n h hi i0 i1 i2 hk hn J
    refine gx_iload_n 0 dL_law_18 rfl rfl ?_
    refine gx_aload_n 3 dL_law_19 rfl rfl ?_
    refine gl_len dL_law_20 ?_
    refine gx_iconst (iI 5) dL_law_21 rfl ?_
    refine gy_isub dL_law_22 ?_
    refine gy_icmp_gt 462 dL_law_23 (by decide) (by constructor <;> omega) (by constructor <;> omega) (fun c => ?_) (fun c => ?_)
    · refine gx_iconst (iI 1) dL_law_462 rfl ?_
      exact gl_ret (by omega) (by omega)
    · refine law_call l D cI cL cR lo b L xs nm hL i i0 (by omega) k n (by omega) (by omega) h hi J (fun h2 hi2 J2 => ?_)
      refine gy_iinc 0 [(3, .int (iI (i + 5))), (2, .ref (lo + 17)), (1, .ref lo), (0, .ref b)] dL_law_456 rfl (Nat.le_of_ble_eq_true rfl) rfl ?_
      refine gx_goto 18 dL_law_459 (by decide) ?_
      exact ih (i + 5) (k + 1) (n + 7) h2 hi2 (by omega) (by omega) (by omega) (by omega) (by omega) J2
set_option maxHeartbeats 4000000 in
set_option maxRecDepth 100000 in
theorem law_start (l : Launch) (D : va_G) (cI cL cR : ClassId) (lo b L : Nat) (xs : Nat → Int32) (nm : String) (hL : L ≤ 2560) : ch_G l (eE D cI cL cR lo) (M_L nm) (lX b L lo xs) room_1 lw_Z 0 0 (fun _ => none) lo 0 (lv_args 0 [.ref b]) [] := by
  refine gy_new (ci := 10) (C := RX11) (T := TX11) (N := 7) [.null, .int (iI 0), .null, .int (iI 0), .null, .null, .null] tyX11 rfl inX11 tyX11_ok mw_1_15 mw_1_16 mw_1_1 (fun j hj => by rcases (show j = 0 ∨ j = 1 ∨ j = 2 ∨ j = 3 ∨ j = 4 ∨ j = 5 ∨ j = 6 by omega) with rfl | rfl | rfl | rfl | rfl | rfl | rfl <;> rfl) (by first | exact Nat.le_of_ble_eq_true rfl | (simp only [rM, room_1]; omega)) (by first | exact Nat.le_of_ble_eq_true rfl | (simp only [rM, room_1]; omega)) dL_law_0 (fun hA eA => ?_)
  have kA : hA lo = some (.inr (10, [.null, .int (iI 0), .null, .int (iI 0), .null, .null, .null])) := by rw [eA]; exact ch_set_self
  refine gx_dup dL_law_3 rfl ?_
  refine gx_callI (c_X11_init l D cI cL cR lo hA kA) ok_X11_init mw_1_17 mw_1_18 rfl rfl dL_law_4 rfl rfl (Nat.le_of_ble_eq_true rfl) (by first | exact Nat.le_of_ble_eq_true rfl | (simp only [rM, room_1]; omega)) (by first | exact Nat.le_of_ble_eq_true rfl | (simp only [rM, room_1]; omega)) (by first | exact Nat.le_of_ble_eq_true rfl | (simp only [rM, room_1]; omega)) (by first | exact Nat.le_of_ble_eq_true rfl | (simp only [rM, room_1]; omega)) (fun r1 h1 u1 q1 g1 => ?_)
  obtain ⟨rfl, rfl, a0, a1, a2, a3, a4, a5⟩ := q1
  refine ch_Gst (st2 := [.ref lo]) rfl ?_
  refine gx_astore_n [(1, .ref lo), (0, .ref b)] dL_law_7 rfl (Nat.le_of_ble_eq_true rfl) rfl ?_
  refine gy_new (ci := 11) (C := RX12) (T := TX12) (N := 12) [.null, .null, .null, .int (iI 0), .null, .int (iI 0), .null, .null, .int (iI 0), .null, .null, .int (iI 0)] tyX12 rfl inX12 tyX12_ok mw_2_235 mw_2_236 mw_1_5 (fun j hj => by rcases (show j = 0 ∨ j = 1 ∨ j = 2 ∨ j = 3 ∨ j = 4 ∨ j = 5 ∨ j = 6 ∨ j = 7 ∨ j = 8 ∨ j = 9 ∨ j = 10 ∨ j = 11 by omega) with rfl | rfl | rfl | rfl | rfl | rfl | rfl | rfl | rfl | rfl | rfl | rfl <;> rfl) (by first | exact Nat.le_of_ble_eq_true rfl | (simp only [rM, room_1]; omega)) (by first | exact Nat.le_of_ble_eq_true rfl | (simp only [rM, room_1]; omega)) dL_law_8 (fun hB eB => ?_)
  have kB : hB (lo + 17) = some (.inr (11, [.null, .null, .null, .int (iI 0), .null, .int (iI 0), .null, .null, .int (iI 0), .null, .null, .int (iI 0)])) := by rw [eB]; exact ch_set_self
  have fB : ∀ q, q < lo + 17 → hB q = h1 q := fun q hq => by rw [eB]; exact ch_set_ne (by omega)
  refine gx_dup dL_law_11 rfl ?_
  refine gx_callI (c_X12_init l D cI cL cR lo hB kB) ok_X12_init mw_2_237 mw_2_238 rfl rfl dL_law_12 rfl rfl (Nat.le_of_ble_eq_true rfl) (by first | exact Nat.le_of_ble_eq_true rfl | (simp only [rM, room_1]; omega)) (by first | exact Nat.le_of_ble_eq_true rfl | (simp only [rM, room_1]; omega)) (by first | exact Nat.le_of_ble_eq_true rfl | (simp only [rM, room_1]; omega)) (by first | exact Nat.le_of_ble_eq_true rfl | (simp only [rM, room_1]; omega)) (fun r2 h2 u2 q2 g2 => ?_)
  obtain ⟨rfl, MM, F2, rfl⟩ := q2
  refine ch_Gst (st2 := [.ref (lo + 17)]) rfl ?_
  refine gx_astore_n [(2, .ref (lo + 17)), (1, .ref lo), (0, .ref b)] dL_law_15 rfl (Nat.le_of_ble_eq_true rfl) rfl ?_
  refine gx_iconst (iI 0) dL_law_16 rfl ?_
  refine gx_istore_n [(3, .int (iI 0)), (2, .ref (lo + 17)), (1, .ref lo), (0, .ref b)] dL_law_17 rfl (Nat.le_of_ble_eq_true rfl) rfl ?_
  have fA : ∀ q, q < lo + 17 → h2 q = h1 q := fun q hq => by rw [F2 q hq, fB q hq]
  have RE : ∀ {r g : Nat}, r < lo + 17 → g < lo + 17 → ruP cI h1 r g [] → ruP cI h2 r g [] := fun q1 q2 H => ruP_fr H (fA _ q1) (fA _ q2)
  have SS : ssP cI cR lo h2 (lo + 26) (fun _ => 0) 0 0 (fun _ => 0) (fun _ => 0) (fun _ => 0) (fun _ => 0) [] [] := ⟨by rw [fA _ (by omega)]; exact a0, by rw [fA _ (by omega)]; exact a1, ⟨_, by rw [fA _ (by omega)]; exact a2, fun i hi => absurd hi (Nat.not_lt_zero _)⟩, wwE_fr a3 (fun q _ _ => fA q (by omega)), RE (by omega) (by omega) a4, RE (by omega) (by omega) a5, fun s h1 h2 => absurd h1 (by omega), by decide, by decide, fun _ => ⟨by show (-5000 : Int) ≤ 0; decide, by show (0 : Int) ≤ 5000; decide⟩, Nat.le_refl _, fun s h1 h2 => absurd h1 (by omega)⟩
  refine ch_Gwd (k2 := 26) (n2 := 3579) (Nat.le_of_ble_eq_true rfl) (Nat.le_of_ble_eq_true rfl) ?_
  exact law_loop l D cI cL cR lo b L xs nm hL 512 0 26 3579 h2 (lo + 26) (by decide) (by decide) (by omega) (by decide) (by decide) ⟨_, _, 0, _, _, _, _, [], [], _, _, _, _, _, SS, MM, ⟨fun j q => absurd q (Nat.not_lt_zero _), fun j q => absurd q (Nat.not_lt_zero _)⟩, trivial⟩
set_option maxHeartbeats 4000000 in
theorem whole_start {p : Program} {e : Env} {s : State} {m : MethodId} {below : List Frame} {meth : Method} {c : Code} (l : Launch) {b L : Nat} {xs : Nat → Int32} (hL : L ≤ 2560) (C0 : lw_At p s m meth c b L xs) : W p l e room_1 s m #[Value.ref b] below meth c s.heap [] 0 0 (lw_Z below #[Value.ref b] s) (entryFrame m ([Value.ref b] : List Value).toArray 4) := by
  obtain ⟨hx, hb, hr, hml, hown, hts, hX, hbl, hlk, -⟩ := C0
  have hts2 : ∀ w ∈ ch_tb, w.before #[Value.ref b] s = true := fun w hw => hts w (ch_tbL w hw)
  have hN := ch_N.of hts
  obtain ⟨D, cI, cL, cR, hK⟩ := lw_known hts2 hN
  have G := law_start l D cI cL cR s.heap.size b L xs meth.name hL
  rw [lg_entry_eq]
  exact G p e s m #[Value.ref b] below meth c s.heap [] _ ⟨hx, hb, hml, hown, hts2, hr, hlk, rfl, hK, Nat.le_refl _, hN, ⟨rfl, hX, hbl, rfl⟩⟩ ⟨rfl, Nat.le_refl _, fun a e h => by cases h⟩ va_S.rf (lv_entry [.ref b] (n := 4) (Nat.le_of_ble_eq_true rfl))
end
