section
set_option maxHeartbeats 4000000 in
set_option maxRecDepth 100000 in
theorem st_size (l : Launch) (D : va_G) (cI cL cR : ClassId) (lo b L : Nat) (xs : Nat → Int32) (nm : String) (hL : L ≤ 2560) (i : Int) (i0 : 0 ≤ i) (i1 : i + 5 ≤ (L : Int)) (k n : Nat) (hk : k + 1 ≤ 600000) (hn : n + 7 ≤ 7302250) (h : ch_H) (hi : Nat) (J : lwJ cI cL cR lo h hi) (kk : ∀ h2 hi2, lwJ cI cL cR lo h2 hi2 → ch_G l (eE D cI cL cR lo) (M_L nm) (lX b L lo xs) room_1 lw_Z (k + 1) (n + 7) h2 hi2 456 [(3, .int (iI i)), (2, .ref (lo + 17)), (1, .ref lo), (0, .ref b)] []) : ch_G l (eE D cI cL cR lo) (M_L nm) (lX b L lo xs) room_1 lw_Z k n h hi 92 [(3, .int (iI i)), (2, .ref (lo + 17)), (1, .ref lo), (0, .ref b)] [] := by
  obtain ⟨fz, c, nn, Ad, Kf, Nf, Wf, Es, Et, FB, fh, ff, fl, hc, SS, MM, SO, IN⟩ := J
  have HW := ssP_W SS
  obtain ⟨-, -, -, -, -, RT, -, hc6, hn60, hfz, hhi, -⟩ := id SS
  have hsc : 0 ≤ (Et.length : Int) / 2 ∧ (Et.length : Int) / 2 ≤ 100 := by obtain ⟨_, -, -, q, -⟩ := RT; omega
  refine gx_aload_n 2 dL_law_92 rfl rfl ?_
  refine gx_aload_n 3 dL_law_93 rfl rfl ?_
  refine gx_iload_n 0 dL_law_94 rfl rfl ?_
  refine gx_iconst (iI 1) dL_law_95 rfl ?_
  refine gy_iadd dL_law_96 ?_
  refine gl_ld (by omega) (by omega) hL dL_law_97 ?_
  refine gx_callV (ci := 10) (c_X11_size l D cI cL cR lo h hi fz c nn Ad Kf Nf Wf Es Et SS (sv xs (i + 1)) sv_ir) ok_X11_size mw_1_112 mw_1_113 mw_1_114 dL_law_98 rfl SS.1 rfl rfl (Nat.le_of_ble_eq_true rfl) (by first | exact Nat.le_of_ble_eq_true rfl | (simp only [rM, room_1]; omega)) (by first | exact Nat.le_of_ble_eq_true rfl | (simp only [rM, room_1]; omega)) (by first | exact Nat.le_of_ble_eq_true rfl | (simp only [rM, room_1]; omega)) (by first | exact Nat.le_of_ble_eq_true rfl | (simp only [rM, room_1]; omega)) (fun r1 h1 u1 q1 g1 => ?_)
  obtain ⟨rfl, SS1, X1, rfl⟩ := q1
  have MM1 := mmP_x MM X1 hhi
  refine gx_aload_n 1 dL_law_101 rfl rfl ?_
  refine gx_aload_n 3 dL_law_102 rfl rfl ?_
  refine gx_iload_n 0 dL_law_103 rfl rfl ?_
  refine gx_iconst (iI 1) dL_law_104 rfl ?_
  refine gy_iadd dL_law_105 ?_
  refine gl_ld (by omega) (by omega) hL dL_law_106 ?_
  refine gx_callV (ci := 11) (c_X12_size l D cI cL cR lo h1 hi Kf Nf Wf fz nn c FB fh ff fl hc _ MM1 hc6 (sv xs (i + 1)) sv_ir) ok_X12_size mw_3_39 mw_3_40 mw_3_41 dL_law_107 rfl MM1.1 rfl rfl (Nat.le_of_ble_eq_true rfl) (by first | exact Nat.le_of_ble_eq_true rfl | (simp only [rM, room_1]; omega)) (by first | exact Nat.le_of_ble_eq_true rfl | (simp only [rM, room_1]; omega)) (by first | exact Nat.le_of_ble_eq_true rfl | (simp only [rM, room_1]; omega)) (by first | exact Nat.le_of_ble_eq_true rfl | (simp only [rM, room_1]; omega)) (fun r2 h2 u2 q2 g2 => ?_)
  obtain ⟨rfl, MM2, F2, rfl⟩ := q2
  refine gl_eq rfl 456 dL_law_110 (by decide) ?_
  exact ch_Gwd (by simp only [rM]; omega) (by simp only [rM]; omega) (kk _ _ ⟨_, _, nn, Ad, Kf, Nf, Wf, Es, Et, FB, fh, ff, fl, hc, ssP_m SS1 F2, MM2, SO, IN⟩)
set_option maxHeartbeats 4000000 in
set_option maxRecDepth 100000 in
theorem st_weight (l : Launch) (D : va_G) (cI cL cR : ClassId) (lo b L : Nat) (xs : Nat → Int32) (nm : String) (hL : L ≤ 2560) (i : Int) (i0 : 0 ≤ i) (i1 : i + 5 ≤ (L : Int)) (k n : Nat) (hk : k + 1 ≤ 600000) (hn : n + 7 ≤ 7302250) (h : ch_H) (hi : Nat) (J : lwJ cI cL cR lo h hi) (kk : ∀ h2 hi2, lwJ cI cL cR lo h2 hi2 → ch_G l (eE D cI cL cR lo) (M_L nm) (lX b L lo xs) room_1 lw_Z (k + 1) (n + 7) h2 hi2 456 [(3, .int (iI i)), (2, .ref (lo + 17)), (1, .ref lo), (0, .ref b)] []) : ch_G l (eE D cI cL cR lo) (M_L nm) (lX b L lo xs) room_1 lw_Z k n h hi 227 [(3, .int (iI i)), (2, .ref (lo + 17)), (1, .ref lo), (0, .ref b)] [] := by
  obtain ⟨fz, c, nn, Ad, Kf, Nf, Wf, Es, Et, FB, fh, ff, fl, hc, SS, MM, SO, IN⟩ := J
  have HW := ssP_W SS
  obtain ⟨-, -, -, -, -, RT, -, hc6, hn60, hfz, hhi, -⟩ := id SS
  have hsc : 0 ≤ (Et.length : Int) / 2 ∧ (Et.length : Int) / 2 ≤ 100 := by obtain ⟨_, -, -, q, -⟩ := RT; omega
  refine gx_aload_n 2 dL_law_227 rfl rfl ?_
  refine gx_aload_n 3 dL_law_228 rfl rfl ?_
  refine gx_iload_n 0 dL_law_229 rfl rfl ?_
  refine gx_iconst (iI 1) dL_law_230 rfl ?_
  refine gy_iadd dL_law_231 ?_
  refine gl_ld (by omega) (by omega) hL dL_law_232 ?_
  refine gx_callV (ci := 10) (c_X11_weight l D cI cL cR lo h hi fz c nn Ad Kf Nf Wf Es Et SS (sv xs (i + 1)) sv_ir) ok_X11_weight mw_2_68 mw_2_69 mw_2_70 dL_law_233 rfl SS.1 rfl rfl (Nat.le_of_ble_eq_true rfl) (by first | exact Nat.le_of_ble_eq_true rfl | (simp only [rM, room_1]; omega)) (by first | exact Nat.le_of_ble_eq_true rfl | (simp only [rM, room_1]; omega)) (by first | exact Nat.le_of_ble_eq_true rfl | (simp only [rM, room_1]; omega)) (by first | exact Nat.le_of_ble_eq_true rfl | (simp only [rM, room_1]; omega)) (fun r1 h1 u1 q1 g1 => ?_)
  obtain ⟨rfl, rfl, rfl⟩ := q1
  refine gx_aload_n 1 dL_law_236 rfl rfl ?_
  refine gx_aload_n 3 dL_law_237 rfl rfl ?_
  refine gx_iload_n 0 dL_law_238 rfl rfl ?_
  refine gx_iconst (iI 1) dL_law_239 rfl ?_
  refine gy_iadd dL_law_240 ?_
  refine gl_ld (by omega) (by omega) hL dL_law_241 ?_
  refine gx_callV (ci := 11) (c_X12_weight l D cI cL cR lo h hi Kf Nf Wf fz nn c FB fh ff fl hc _ MM hn60 (sv xs (i + 1)) sv_ir) ok_X12_weight mw_3_104 mw_3_105 mw_3_106 dL_law_242 rfl MM.1 rfl rfl (Nat.le_of_ble_eq_true rfl) (by first | exact Nat.le_of_ble_eq_true rfl | (simp only [rM, room_1]; omega)) (by first | exact Nat.le_of_ble_eq_true rfl | (simp only [rM, room_1]; omega)) (by first | exact Nat.le_of_ble_eq_true rfl | (simp only [rM, room_1]; omega)) (by first | exact Nat.le_of_ble_eq_true rfl | (simp only [rM, room_1]; omega)) (fun r2 h2 u2 q2 g2 => ?_)
  obtain ⟨rfl, rfl, rfl⟩ := q2
  refine gl_eq rfl 456 dL_law_245 (by decide) ?_
  exact ch_Gwd (by simp only [rM]; omega) (by simp only [rM]; omega) (kk _ _ ⟨fz, c, nn, Ad, Kf, Nf, Wf, Es, Et, FB, fh, ff, fl, hc, SS, MM, SO, IN⟩)
set_option maxHeartbeats 4000000 in
set_option maxRecDepth 100000 in
theorem st_span (l : Launch) (D : va_G) (cI cL cR : ClassId) (lo b L : Nat) (xs : Nat → Int32) (nm : String) (hL : L ≤ 2560) (i : Int) (i0 : 0 ≤ i) (i1 : i + 5 ≤ (L : Int)) (k n : Nat) (hk : k + 1 ≤ 600000) (hn : n + 7 ≤ 7302250) (h : ch_H) (hi : Nat) (J : lwJ cI cL cR lo h hi) (kk : ∀ h2 hi2, lwJ cI cL cR lo h2 hi2 → ch_G l (eE D cI cL cR lo) (M_L nm) (lX b L lo xs) room_1 lw_Z (k + 1) (n + 7) h2 hi2 456 [(3, .int (iI i)), (2, .ref (lo + 17)), (1, .ref lo), (0, .ref b)] []) : ch_G l (eE D cI cL cR lo) (M_L nm) (lX b L lo xs) room_1 lw_Z k n h hi 389 [(3, .int (iI i)), (2, .ref (lo + 17)), (1, .ref lo), (0, .ref b)] [] := by
  obtain ⟨fz, c, nn, Ad, Kf, Nf, Wf, Es, Et, FB, fh, ff, fl, hc, SS, MM, SO, IN⟩ := J
  have HW := ssP_W SS
  obtain ⟨-, -, -, -, -, RT, -, hc6, hn60, hfz, hhi, -⟩ := id SS
  have hsc : 0 ≤ (Et.length : Int) / 2 ∧ (Et.length : Int) / 2 ≤ 100 := by obtain ⟨_, -, -, q, -⟩ := RT; omega
  refine gx_aload_n 2 dL_law_389 rfl rfl ?_
  refine gx_aload_n 3 dL_law_390 rfl rfl ?_
  refine gx_iload_n 0 dL_law_391 rfl rfl ?_
  refine gx_iconst (iI 1) dL_law_392 rfl ?_
  refine gy_iadd dL_law_393 ?_
  refine gl_ld (by omega) (by omega) hL dL_law_394 ?_
  refine gx_aload_n 3 dL_law_395 rfl rfl ?_
  refine gx_iload_n 0 dL_law_396 rfl rfl ?_
  refine gx_iconst (iI 2) dL_law_397 rfl ?_
  refine gy_iadd dL_law_398 ?_
  refine gl_ld (by omega) (by omega) hL dL_law_399 ?_
  refine gx_callV (ci := 10) (c_X11_span l D cI cL cR lo h hi fz c nn Ad Kf Nf Wf Es Et SS (sv xs (i + 1)) (sv xs (i + 2)) sv_ir sv_ir) ok_X11_span mw_2_225 mw_2_226 mw_2_227 dL_law_400 rfl SS.1 rfl rfl (Nat.le_of_ble_eq_true rfl) (by first | exact Nat.le_of_ble_eq_true rfl | (simp only [rM, room_1]; omega)) (by first | exact Nat.le_of_ble_eq_true rfl | (simp only [rM, room_1]; omega)) (by first | exact Nat.le_of_ble_eq_true rfl | (simp only [rM, room_1]; omega)) (by first | exact Nat.le_of_ble_eq_true rfl | (simp only [rM, room_1]; omega)) (fun r1 h1 u1 q1 g1 => ?_)
  obtain ⟨rfl, rfl, rfl⟩ := q1
  refine gx_aload_n 1 dL_law_403 rfl rfl ?_
  refine gx_aload_n 3 dL_law_404 rfl rfl ?_
  refine gx_iload_n 0 dL_law_405 rfl rfl ?_
  refine gx_iconst (iI 1) dL_law_406 rfl ?_
  refine gy_iadd dL_law_407 ?_
  refine gl_ld (by omega) (by omega) hL dL_law_408 ?_
  refine gx_aload_n 3 dL_law_409 rfl rfl ?_
  refine gx_iload_n 0 dL_law_410 rfl rfl ?_
  refine gx_iconst (iI 2) dL_law_411 rfl ?_
  refine gy_iadd dL_law_412 ?_
  refine gl_ld (by omega) (by omega) hL dL_law_413 ?_
  refine gx_callV (ci := 11) (c_X12_span l D cI cL cR lo h hi Kf Nf Wf fz nn c FB fh ff fl hc _ MM hsc (sv xs (i + 1)) (sv xs (i + 2)) sv_ir sv_ir) ok_X12_span mw_3_130 mw_3_131 mw_3_132 dL_law_414 rfl MM.1 rfl rfl (Nat.le_of_ble_eq_true rfl) (by first | exact Nat.le_of_ble_eq_true rfl | (simp only [rM, room_1]; omega)) (by first | exact Nat.le_of_ble_eq_true rfl | (simp only [rM, room_1]; omega)) (by first | exact Nat.le_of_ble_eq_true rfl | (simp only [rM, room_1]; omega)) (by first | exact Nat.le_of_ble_eq_true rfl | (simp only [rM, room_1]; omega)) (fun r2 h2 u2 q2 g2 => ?_)
  obtain ⟨rfl, rfl, rfl⟩ := q2
  refine gl_eq (span_eq SO (sv xs (i + 1)) (sv xs (i + 2))).symm 456 dL_law_417 (by decide) ?_
  exact ch_Gwd (by simp only [rM]; omega) (by simp only [rM]; omega) (kk _ _ ⟨fz, c, nn, Ad, Kf, Nf, Wf, Es, Et, FB, fh, ff, fl, hc, SS, MM, SO, IN⟩)
set_option maxHeartbeats 4000000 in
set_option maxRecDepth 100000 in
theorem st_within (l : Launch) (D : va_G) (cI cL cR : ClassId) (lo b L : Nat) (xs : Nat → Int32) (nm : String) (hL : L ≤ 2560) (i : Int) (i0 : 0 ≤ i) (i1 : i + 5 ≤ (L : Int)) (k n : Nat) (hk : k + 1 ≤ 600000) (hn : n + 7 ≤ 7302250) (h : ch_H) (hi : Nat) (J : lwJ cI cL cR lo h hi) (kk : ∀ h2 hi2, lwJ cI cL cR lo h2 hi2 → ch_G l (eE D cI cL cR lo) (M_L nm) (lX b L lo xs) room_1 lw_Z (k + 1) (n + 7) h2 hi2 456 [(3, .int (iI i)), (2, .ref (lo + 17)), (1, .ref lo), (0, .ref b)] []) : ch_G l (eE D cI cL cR lo) (M_L nm) (lX b L lo xs) room_1 lw_Z k n h hi 422 [(3, .int (iI i)), (2, .ref (lo + 17)), (1, .ref lo), (0, .ref b)] [] := by
  obtain ⟨fz, c, nn, Ad, Kf, Nf, Wf, Es, Et, FB, fh, ff, fl, hc, SS, MM, SO, IN⟩ := J
  have HW := ssP_W SS
  obtain ⟨-, -, -, -, -, RT, -, hc6, hn60, hfz, hhi, -⟩ := id SS
  have hsc : 0 ≤ (Et.length : Int) / 2 ∧ (Et.length : Int) / 2 ≤ 100 := by obtain ⟨_, -, -, q, -⟩ := RT; omega
  refine gx_aload_n 2 dL_law_422 rfl rfl ?_
  refine gx_aload_n 3 dL_law_423 rfl rfl ?_
  refine gx_iload_n 0 dL_law_424 rfl rfl ?_
  refine gx_iconst (iI 1) dL_law_425 rfl ?_
  refine gy_iadd dL_law_426 ?_
  refine gl_ld (by omega) (by omega) hL dL_law_427 ?_
  refine gx_aload_n 3 dL_law_428 rfl rfl ?_
  refine gx_iload_n 0 dL_law_429 rfl rfl ?_
  refine gx_iconst (iI 2) dL_law_430 rfl ?_
  refine gy_iadd dL_law_431 ?_
  refine gl_ld (by omega) (by omega) hL dL_law_432 ?_
  refine gx_callV (ci := 10) (c_X11_within l D cI cL cR lo h hi fz c nn Ad Kf Nf Wf Es Et SS (sv xs (i + 1)) (sv xs (i + 2)) sv_ir sv_ir) ok_X11_within mw_2_231 mw_2_232 mw_2_233 dL_law_433 rfl SS.1 rfl rfl (Nat.le_of_ble_eq_true rfl) (by first | exact Nat.le_of_ble_eq_true rfl | (simp only [rM, room_1]; omega)) (by first | exact Nat.le_of_ble_eq_true rfl | (simp only [rM, room_1]; omega)) (by first | exact Nat.le_of_ble_eq_true rfl | (simp only [rM, room_1]; omega)) (by first | exact Nat.le_of_ble_eq_true rfl | (simp only [rM, room_1]; omega)) (fun r1 h1 u1 q1 g1 => ?_)
  obtain ⟨rfl, rfl, rfl⟩ := q1
  refine gx_aload_n 1 dL_law_436 rfl rfl ?_
  refine gx_aload_n 3 dL_law_437 rfl rfl ?_
  refine gx_iload_n 0 dL_law_438 rfl rfl ?_
  refine gx_iconst (iI 1) dL_law_439 rfl ?_
  refine gy_iadd dL_law_440 ?_
  refine gl_ld (by omega) (by omega) hL dL_law_441 ?_
  refine gx_aload_n 3 dL_law_442 rfl rfl ?_
  refine gx_iload_n 0 dL_law_443 rfl rfl ?_
  refine gx_iconst (iI 2) dL_law_444 rfl ?_
  refine gy_iadd dL_law_445 ?_
  refine gl_ld (by omega) (by omega) hL dL_law_446 ?_
  refine gx_callV (ci := 11) (c_X12_within l D cI cL cR lo h hi Kf Nf Wf fz nn c FB fh ff fl hc _ MM hsc (sp_bnd RT SO IN) (sv xs (i + 1)) (sv xs (i + 2)) sv_ir sv_ir) ok_X12_within mw_3_134 mw_3_135 mw_3_136 dL_law_447 rfl MM.1 rfl rfl (Nat.le_of_ble_eq_true rfl) (by first | exact Nat.le_of_ble_eq_true rfl | (simp only [rM, room_1]; omega)) (by first | exact Nat.le_of_ble_eq_true rfl | (simp only [rM, room_1]; omega)) (by first | exact Nat.le_of_ble_eq_true rfl | (simp only [rM, room_1]; omega)) (by first | exact Nat.le_of_ble_eq_true rfl | (simp only [rM, room_1]; omega)) (fun r2 h2 u2 q2 g2 => ?_)
  obtain ⟨rfl, rfl, rfl⟩ := q2
  have ew : cnL Et (sv xs (i + 1)) (sv xs (i + 2)) = wiR ff fl (sv xs (i + 1)) (sv xs (i + 2)) ((Et.length : Int) / 2).toNat := by
    rw [wiR_eq SO _ _ _ (by omega), cnL, show ((Et.length : Int) / 2).toNat = Et.length / 2 by omega]
  refine gl_leq ew 456 dL_law_450 dL_law_451 (by decide) ?_
  exact ch_Gwd (by simp only [rM]; omega) (by simp only [rM]; omega) (kk _ _ ⟨fz, c, nn, Ad, Kf, Nf, Wf, Es, Et, FB, fh, ff, fl, hc, SS, MM, SO, IN⟩)
set_option maxHeartbeats 4000000 in
set_option maxRecDepth 100000 in
theorem st_inside (l : Launch) (D : va_G) (cI cL cR : ClassId) (lo b L : Nat) (xs : Nat → Int32) (nm : String) (hL : L ≤ 2560) (i : Int) (i0 : 0 ≤ i) (i1 : i + 5 ≤ (L : Int)) (k n : Nat) (hk : k + 1 ≤ 600000) (hn : n + 7 ≤ 7302250) (h : ch_H) (hi : Nat) (J : lwJ cI cL cR lo h hi) (kk : ∀ h2 hi2, lwJ cI cL cR lo h2 hi2 → ch_G l (eE D cI cL cR lo) (M_L nm) (lX b L lo xs) room_1 lw_Z (k + 1) (n + 7) h2 hi2 456 [(3, .int (iI i)), (2, .ref (lo + 17)), (1, .ref lo), (0, .ref b)] []) : ch_G l (eE D cI cL cR lo) (M_L nm) (lX b L lo xs) room_1 lw_Z k n h hi 250 [(3, .int (iI i)), (2, .ref (lo + 17)), (1, .ref lo), (0, .ref b)] [] := by
  obtain ⟨fz, c, nn, Ad, Kf, Nf, Wf, Es, Et, FB, fh, ff, fl, hc, SS, MM, SO, IN⟩ := J
  have HW := ssP_W SS
  obtain ⟨-, -, -, -, -, RT, -, hc6, hn60, hfz, hhi, -⟩ := id SS
  have hsc : 0 ≤ (Et.length : Int) / 2 ∧ (Et.length : Int) / 2 ≤ 100 := by obtain ⟨_, -, -, q, -⟩ := RT; omega
  refine gx_aload_n 2 dL_law_250 rfl rfl ?_
  refine gx_aload_n 3 dL_law_251 rfl rfl ?_
  refine gx_iload_n 0 dL_law_252 rfl rfl ?_
  refine gx_iconst (iI 1) dL_law_253 rfl ?_
  refine gy_iadd dL_law_254 ?_
  refine gl_ld (by omega) (by omega) hL dL_law_255 ?_
  refine gx_aload_n 3 dL_law_256 rfl rfl ?_
  refine gx_iload_n 0 dL_law_257 rfl rfl ?_
  refine gx_iconst (iI 2) dL_law_258 rfl ?_
  refine gy_iadd dL_law_259 ?_
  refine gl_ld (by omega) (by omega) hL dL_law_260 ?_
  refine gx_aload_n 3 dL_law_261 rfl rfl ?_
  refine gx_iload_n 0 dL_law_262 rfl rfl ?_
  refine gx_iconst (iI 3) dL_law_263 rfl ?_
  refine gy_iadd dL_law_264 ?_
  refine gl_ld (by omega) (by omega) hL dL_law_265 ?_
  refine gx_aload_n 3 dL_law_266 rfl rfl ?_
  refine gx_iload_n 0 dL_law_267 rfl rfl ?_
  refine gx_iconst (iI 4) dL_law_268 rfl ?_
  refine gy_iadd dL_law_269 ?_
  refine gl_ld (by omega) (by omega) hL dL_law_270 ?_
  refine gx_callV (ci := 10) (c_X11_inside l D cI cL cR lo h hi fz c nn Ad Kf Nf Wf Es Et SS (sv xs (i + 1)) (sv xs (i + 2)) (sv xs (i + 3)) sv_ir sv_ir sv_ir (sv xs (i + 4)) sv_ir) ok_X11_inside mw_2_72 mw_2_73 mw_2_74 dL_law_271 rfl SS.1 rfl rfl (Nat.le_of_ble_eq_true rfl) (by first | exact Nat.le_of_ble_eq_true rfl | (simp only [rM, room_1]; omega)) (by first | exact Nat.le_of_ble_eq_true rfl | (simp only [rM, room_1]; omega)) (by first | exact Nat.le_of_ble_eq_true rfl | (simp only [rM, room_1]; omega)) (by first | exact Nat.le_of_ble_eq_true rfl | (simp only [rM, room_1]; omega)) (fun r1 h1 u1 q1 g1 => ?_)
  obtain ⟨rfl, SS1, X1, rfl⟩ := q1
  have MM1 := mmP_x MM X1 hhi
  refine gx_aload_n 1 dL_law_274 rfl rfl ?_
  refine gx_aload_n 3 dL_law_275 rfl rfl ?_
  refine gx_iload_n 0 dL_law_276 rfl rfl ?_
  refine gx_iconst (iI 1) dL_law_277 rfl ?_
  refine gy_iadd dL_law_278 ?_
  refine gl_ld (by omega) (by omega) hL dL_law_279 ?_
  refine gx_aload_n 3 dL_law_280 rfl rfl ?_
  refine gx_iload_n 0 dL_law_281 rfl rfl ?_
  refine gx_iconst (iI 2) dL_law_282 rfl ?_
  refine gy_iadd dL_law_283 ?_
  refine gl_ld (by omega) (by omega) hL dL_law_284 ?_
  refine gx_aload_n 3 dL_law_285 rfl rfl ?_
  refine gx_iload_n 0 dL_law_286 rfl rfl ?_
  refine gx_iconst (iI 3) dL_law_287 rfl ?_
  refine gy_iadd dL_law_288 ?_
  refine gl_ld (by omega) (by omega) hL dL_law_289 ?_
  refine gx_aload_n 3 dL_law_290 rfl rfl ?_
  refine gx_iload_n 0 dL_law_291 rfl rfl ?_
  refine gx_iconst (iI 4) dL_law_292 rfl ?_
  refine gy_iadd dL_law_293 ?_
  refine gl_ld (by omega) (by omega) hL dL_law_294 ?_
  refine gx_callV (ci := 11) (c_X12_inside l D cI cL cR lo h1 hi Kf Nf Wf fz nn c FB fh ff fl hc _ MM1 hn60 HW (sv xs (i + 1)) (sv xs (i + 2)) (sv xs (i + 3)) (sv xs (i + 4)) sv_ir sv_ir sv_ir sv_ir) ok_X12_inside mw_3_67 mw_3_68 mw_3_69 dL_law_295 rfl MM1.1 rfl rfl (Nat.le_of_ble_eq_true rfl) (by first | exact Nat.le_of_ble_eq_true rfl | (simp only [rM, room_1]; omega)) (by first | exact Nat.le_of_ble_eq_true rfl | (simp only [rM, room_1]; omega)) (by first | exact Nat.le_of_ble_eq_true rfl | (simp only [rM, room_1]; omega)) (by first | exact Nat.le_of_ble_eq_true rfl | (simp only [rM, room_1]; omega)) (fun r2 h2 u2 q2 g2 => ?_)
  obtain ⟨rfl, rfl, rfl⟩ := q2
  refine gl_eq (congrArg bI (ins_ans HW (sv xs (i + 1)) (sv xs (i + 2)) (sv xs (i + 3)) (sv xs (i + 4)))) 456 dL_law_298 (by decide) ?_
  exact ch_Gwd (by simp only [rM]; omega) (by simp only [rM]; omega) (kk _ _ ⟨fz, c, nn, Ad, Kf, Nf, Wf, _, Et, FB, fh, ff, fl, hc, SS1, MM1, SO, IN⟩)
set_option maxHeartbeats 4000000 in
set_option maxRecDepth 100000 in
theorem st_top (l : Launch) (D : va_G) (cI cL cR : ClassId) (lo b L : Nat) (xs : Nat → Int32) (nm : String) (hL : L ≤ 2560) (i : Int) (i0 : 0 ≤ i) (i1 : i + 5 ≤ (L : Int)) (k n : Nat) (hk : k + 1 ≤ 600000) (hn : n + 7 ≤ 7302250) (h : ch_H) (hi : Nat) (J : lwJ cI cL cR lo h hi) (kk : ∀ h2 hi2, lwJ cI cL cR lo h2 hi2 → ch_G l (eE D cI cL cR lo) (M_L nm) (lX b L lo xs) room_1 lw_Z (k + 1) (n + 7) h2 hi2 456 [(3, .int (iI i)), (2, .ref (lo + 17)), (1, .ref lo), (0, .ref b)] []) : ch_G l (eE D cI cL cR lo) (M_L nm) (lX b L lo xs) room_1 lw_Z k n h hi 303 [(3, .int (iI i)), (2, .ref (lo + 17)), (1, .ref lo), (0, .ref b)] [] := by
  obtain ⟨fz, c, nn, Ad, Kf, Nf, Wf, Es, Et, FB, fh, ff, fl, hc, SS, MM, SO, IN⟩ := J
  have HW := ssP_W SS
  obtain ⟨-, -, -, -, -, RT, -, hc6, hn60, hfz, hhi, -⟩ := id SS
  have hsc : 0 ≤ (Et.length : Int) / 2 ∧ (Et.length : Int) / 2 ≤ 100 := by obtain ⟨_, -, -, q, -⟩ := RT; omega
  refine gx_aload_n 2 dL_law_303 rfl rfl ?_
  refine gx_aload_n 3 dL_law_304 rfl rfl ?_
  refine gx_iload_n 0 dL_law_305 rfl rfl ?_
  refine gx_iconst (iI 1) dL_law_306 rfl ?_
  refine gy_iadd dL_law_307 ?_
  refine gl_ld (by omega) (by omega) hL dL_law_308 ?_
  refine gx_aload_n 3 dL_law_309 rfl rfl ?_
  refine gx_iload_n 0 dL_law_310 rfl rfl ?_
  refine gx_iconst (iI 2) dL_law_311 rfl ?_
  refine gy_iadd dL_law_312 ?_
  refine gl_ld (by omega) (by omega) hL dL_law_313 ?_
  refine gx_aload_n 3 dL_law_314 rfl rfl ?_
  refine gx_iload_n 0 dL_law_315 rfl rfl ?_
  refine gx_iconst (iI 3) dL_law_316 rfl ?_
  refine gy_iadd dL_law_317 ?_
  refine gl_ld (by omega) (by omega) hL dL_law_318 ?_
  refine gx_callV (ci := 10) (c_X11_top l D cI cL cR lo h hi fz c nn Ad Kf Nf Wf Es Et SS (sv xs (i + 1)) (sv xs (i + 2)) (sv xs (i + 3)) sv_ir sv_ir sv_ir) ok_X11_top mw_2_212 mw_2_213 mw_2_214 dL_law_319 rfl SS.1 rfl rfl (Nat.le_of_ble_eq_true rfl) (by first | exact Nat.le_of_ble_eq_true rfl | (simp only [rM, room_1]; omega)) (by first | exact Nat.le_of_ble_eq_true rfl | (simp only [rM, room_1]; omega)) (by first | exact Nat.le_of_ble_eq_true rfl | (simp only [rM, room_1]; omega)) (by first | exact Nat.le_of_ble_eq_true rfl | (simp only [rM, room_1]; omega)) (fun r1 h1 u1 q1 g1 => ?_)
  obtain ⟨rfl, SS1, X1, rfl⟩ := q1
  have MM1 := mmP_x MM X1 hhi
  refine gx_aload_n 1 dL_law_322 rfl rfl ?_
  refine gx_aload_n 3 dL_law_323 rfl rfl ?_
  refine gx_iload_n 0 dL_law_324 rfl rfl ?_
  refine gx_iconst (iI 1) dL_law_325 rfl ?_
  refine gy_iadd dL_law_326 ?_
  refine gl_ld (by omega) (by omega) hL dL_law_327 ?_
  refine gx_aload_n 3 dL_law_328 rfl rfl ?_
  refine gx_iload_n 0 dL_law_329 rfl rfl ?_
  refine gx_iconst (iI 2) dL_law_330 rfl ?_
  refine gy_iadd dL_law_331 ?_
  refine gl_ld (by omega) (by omega) hL dL_law_332 ?_
  refine gx_aload_n 3 dL_law_333 rfl rfl ?_
  refine gx_iload_n 0 dL_law_334 rfl rfl ?_
  refine gx_iconst (iI 3) dL_law_335 rfl ?_
  refine gy_iadd dL_law_336 ?_
  refine gl_ld (by omega) (by omega) hL dL_law_337 ?_
  refine gx_callV (ci := 11) (c_X12_top l D cI cL cR lo h1 hi Kf Nf Wf fz nn c FB fh ff fl hc _ MM1 hn60 HW (sv xs (i + 1)) (sv xs (i + 2)) (sv xs (i + 3)) sv_ir sv_ir sv_ir) ok_X12_top mw_3_91 mw_3_92 mw_3_93 dL_law_338 rfl MM1.1 rfl rfl (Nat.le_of_ble_eq_true rfl) (by first | exact Nat.le_of_ble_eq_true rfl | (simp only [rM, room_1]; omega)) (by first | exact Nat.le_of_ble_eq_true rfl | (simp only [rM, room_1]; omega)) (by first | exact Nat.le_of_ble_eq_true rfl | (simp only [rM, room_1]; omega)) (by first | exact Nat.le_of_ble_eq_true rfl | (simp only [rM, room_1]; omega)) (fun r2 h2 u2 q2 g2 => ?_)
  obtain ⟨a1, a2, a3, ⟨FB2, MM2⟩, F2, rfl⟩ := q2
  have er : r2 = some (.int (iI (if 1 ≤ sv xs (i + 1) ∧ sv xs (i + 1) ≤ (nn : Int) then agL (edN Kf Nf (sv xs (i + 1)).toNat (sv xs (i + 2)) (sv xs (i + 3))) else -1))) := by
    by_cases c1 : 1 ≤ sv xs (i + 1) ∧ sv xs (i + 1) ≤ (nn : Int)
    · by_cases c2 : nearB (sv xs (i + 2)) = true ∧ nearB (sv xs (i + 3)) = true
      · obtain ⟨t, e1, t1, t2, t3⟩ := a3 c1 c2
        rw [if_pos c1, edN_ed c2, top_eq HW (by omega) (by omega) t1 t2 t3]
        exact e1
      · rw [if_pos c1, edN_nil c2]
        exact a2 c1 c2
    · rw [if_neg c1]
      exact a1 c1
  subst er
  refine gl_eq rfl 456 dL_law_341 (by decide) ?_
  exact ch_Gwd (by simp only [rM]; omega) (by simp only [rM]; omega) (kk _ _ ⟨fz, c, nn, Ad, Kf, Nf, Wf, _, Et, FB2, fh, ff, fl, hc, ssP_m SS1 F2, MM2, SO, IN⟩)
set_option maxHeartbeats 4000000 in
set_option maxRecDepth 100000 in
theorem st_spans (l : Launch) (D : va_G) (cI cL cR : ClassId) (lo b L : Nat) (xs : Nat → Int32) (nm : String) (hL : L ≤ 2560) (i : Int) (i0 : 0 ≤ i) (i1 : i + 5 ≤ (L : Int)) (k n : Nat) (hk : k + 1 ≤ 600000) (hn : n + 7 ≤ 7302250) (h : ch_H) (hi : Nat) (J : lwJ cI cL cR lo h hi) (kk : ∀ h2 hi2, lwJ cI cL cR lo h2 hi2 → ch_G l (eE D cI cL cR lo) (M_L nm) (lX b L lo xs) room_1 lw_Z (k + 1) (n + 7) h2 hi2 456 [(3, .int (iI i)), (2, .ref (lo + 17)), (1, .ref lo), (0, .ref b)] []) : ch_G l (eE D cI cL cR lo) (M_L nm) (lX b L lo xs) room_1 lw_Z k n h hi 346 [(3, .int (iI i)), (2, .ref (lo + 17)), (1, .ref lo), (0, .ref b)] [] := by
  obtain ⟨fz, c, nn, Ad, Kf, Nf, Wf, Es, Et, FB, fh, ff, fl, hc, SS, MM, SO, IN⟩ := J
  have HW := ssP_W SS
  obtain ⟨-, -, -, -, -, RT, -, hc6, hn60, hfz, hhi, -⟩ := id SS
  have hsc : 0 ≤ (Et.length : Int) / 2 ∧ (Et.length : Int) / 2 ≤ 100 := by obtain ⟨_, -, -, q, -⟩ := RT; omega
  refine gx_aload_n 2 dL_law_346 rfl rfl ?_
  refine gx_aload_n 3 dL_law_347 rfl rfl ?_
  refine gx_iload_n 0 dL_law_348 rfl rfl ?_
  refine gx_iconst (iI 1) dL_law_349 rfl ?_
  refine gy_iadd dL_law_350 ?_
  refine gl_ld (by omega) (by omega) hL dL_law_351 ?_
  refine gx_aload_n 3 dL_law_352 rfl rfl ?_
  refine gx_iload_n 0 dL_law_353 rfl rfl ?_
  refine gx_iconst (iI 2) dL_law_354 rfl ?_
  refine gy_iadd dL_law_355 ?_
  refine gl_ld (by omega) (by omega) hL dL_law_356 ?_
  refine gx_aload_n 3 dL_law_357 rfl rfl ?_
  refine gx_iload_n 0 dL_law_358 rfl rfl ?_
  refine gx_iconst (iI 3) dL_law_359 rfl ?_
  refine gy_iadd dL_law_360 ?_
  refine gl_ld (by omega) (by omega) hL dL_law_361 ?_
  refine gx_callV (ci := 10) (c_X11_spans l D cI cL cR lo h hi fz c nn Ad Kf Nf Wf Es Et SS (sv xs (i + 1)) (sv xs (i + 2)) (sv xs (i + 3)) sv_ir sv_ir sv_ir) ok_X11_spans mw_2_220 mw_2_221 mw_2_222 dL_law_362 rfl SS.1 rfl rfl (Nat.le_of_ble_eq_true rfl) (by first | exact Nat.le_of_ble_eq_true rfl | (simp only [rM, room_1]; omega)) (by first | exact Nat.le_of_ble_eq_true rfl | (simp only [rM, room_1]; omega)) (by first | exact Nat.le_of_ble_eq_true rfl | (simp only [rM, room_1]; omega)) (by first | exact Nat.le_of_ble_eq_true rfl | (simp only [rM, room_1]; omega)) (fun r1 h1 u1 q1 g1 => ?_)
  obtain ⟨rfl, SS1, X1, rfl⟩ := q1
  have MM1 := mmP_x MM X1 hhi
  refine gx_aload_n 1 dL_law_365 rfl rfl ?_
  refine gx_aload_n 3 dL_law_366 rfl rfl ?_
  refine gx_iload_n 0 dL_law_367 rfl rfl ?_
  refine gx_iconst (iI 1) dL_law_368 rfl ?_
  refine gy_iadd dL_law_369 ?_
  refine gl_ld (by omega) (by omega) hL dL_law_370 ?_
  refine gx_aload_n 3 dL_law_371 rfl rfl ?_
  refine gx_iload_n 0 dL_law_372 rfl rfl ?_
  refine gx_iconst (iI 2) dL_law_373 rfl ?_
  refine gy_iadd dL_law_374 ?_
  refine gl_ld (by omega) (by omega) hL dL_law_375 ?_
  refine gx_aload_n 3 dL_law_376 rfl rfl ?_
  refine gx_iload_n 0 dL_law_377 rfl rfl ?_
  refine gx_iconst (iI 3) dL_law_378 rfl ?_
  refine gy_iadd dL_law_379 ?_
  refine gl_ld (by omega) (by omega) hL dL_law_380 ?_
  refine gx_callV (ci := 11) (c_X12_spans l D cI cL cR lo h1 hi Kf Nf Wf fz nn c FB fh ff fl hc _ MM1 hn60 HW (sv xs (i + 1)) (sv xs (i + 2)) (sv xs (i + 3)) sv_ir sv_ir sv_ir) ok_X12_spans mw_3_108 mw_3_109 mw_3_110 dL_law_381 rfl MM1.1 rfl rfl (Nat.le_of_ble_eq_true rfl) (by first | exact Nat.le_of_ble_eq_true rfl | (simp only [rM, room_1]; omega)) (by first | exact Nat.le_of_ble_eq_true rfl | (simp only [rM, room_1]; omega)) (by first | exact Nat.le_of_ble_eq_true rfl | (simp only [rM, room_1]; omega)) (by first | exact Nat.le_of_ble_eq_true rfl | (simp only [rM, room_1]; omega)) (fun r2 h2 u2 q2 g2 => ?_)
  obtain ⟨a1, a2, a3, F2, rfl⟩ := q2
  by_cases c1 : 1 ≤ sv xs (i + 1) ∧ sv xs (i + 1) ≤ (nn : Int)
  · rw [if_pos c1] at SS1
    have IN2 := edN_inc HW (show 1 ≤ (sv xs (i + 1)).toNat by omega) (show (sv xs (i + 1)).toNat ≤ nn by omega) (sv xs (i + 2)) (sv xs (i + 3))
    by_cases c2 : nearB (sv xs (i + 2)) = true ∧ nearB (sv xs (i + 3)) = true
    · obtain ⟨p, m, O, fh2, ff2, fl2, hc2, b1, b2, b3, b4, b5, b6, MM2⟩ := a3 c1 c2
      have eO : O = edN Kf Nf (sv xs (i + 1)).toNat (sv xs (i + 2)) (sv xs (i + 3)) := by
        rw [b3, edN_ed c2]
        exact spans_eq HW (by omega) (by omega) b1 b2
      clear b3
      subst eO
      subst b6
      refine gl_eq (if_pos c1) 456 dL_law_384 (by decide) ?_
      exact ch_Gwd (by simp only [rM]; omega) (by simp only [rM]; omega) (kk _ _ ⟨fz, c, nn, Ad, Kf, Nf, Wf, Es, _, FB, fh2, ff2, fl2, hc2, ssP_m SS1 F2, MM2, b5, IN2⟩)
    · obtain ⟨b6, MM2⟩ := a2 c1 c2
      subst b6
      refine gl_eq (by rw [if_pos c1, edN_nil c2]; rfl) 456 dL_law_384 (by decide) ?_
      rw [edN_nil c2] at SS1
      exact ch_Gwd (by simp only [rM]; omega) (by simp only [rM]; omega) (kk _ _ ⟨fz, c, nn, Ad, Kf, Nf, Wf, Es, [], FB, fh, ff, fl, hc, ssP_m SS1 F2, MM2, ⟨fun j q => absurd q (Nat.not_lt_zero _), fun j q => absurd q (Nat.not_lt_zero _)⟩, trivial⟩)
  · rw [if_neg c1] at SS1
    obtain ⟨b6, MM2⟩ := a1 c1
    subst b6
    refine gl_eq (if_neg c1) 456 dL_law_384 (by decide) ?_
    exact ch_Gwd (by simp only [rM]; omega) (by simp only [rM]; omega) (kk _ _ ⟨fz, c, nn, Ad, Kf, Nf, Wf, Es, Et, FB, fh, ff, fl, hc, ssP_m SS1 F2, MM2, SO, IN⟩)
end
