section
set_option maxHeartbeats 4000000 in
set_option maxRecDepth 100000 in
theorem st_solid (l : Launch) (D : va_G) (cI cL cR : ClassId) (lo b L : Nat) (xs : Nat → Int32) (nm : String) (hL : L ≤ 2560) (i : Int) (i0 : 0 ≤ i) (i1 : i + 5 ≤ (L : Int)) (k n : Nat) (hk : k + 1 ≤ 600000) (hn : n + 7 ≤ 7302250) (h : ch_H) (hi : Nat) (J : lwJ cI cL cR lo h hi) (kk : ∀ h2 hi2, lwJ cI cL cR lo h2 hi2 → ch_G l (eE D cI cL cR lo) (M_L nm) (lX b L lo xs) room_1 lw_Z (k + 1) (n + 7) h2 hi2 456 [(3, .int (iI i)), (2, .ref (lo + 17)), (1, .ref lo), (0, .ref b)] []) : ch_G l (eE D cI cL cR lo) (M_L nm) (lX b L lo xs) room_1 lw_Z k n h hi 115 [(3, .int (iI i)), (2, .ref (lo + 17)), (1, .ref lo), (0, .ref b)] [] := by
  obtain ⟨fz, c, nn, Ad, Kf, Nf, Wf, Es, Et, FB, fh, ff, fl, hc, SS, MM, SO, IN⟩ := J
  have HW := ssP_W SS
  obtain ⟨-, -, -, -, -, RT, -, hc6, hn60, hfz, hhi, -⟩ := id SS
  have hsc : 0 ≤ (Et.length : Int) / 2 ∧ (Et.length : Int) / 2 ≤ 100 := by obtain ⟨_, -, -, q, -⟩ := RT; omega
  have hag : agN nn Kf Nf Wf (updI Kf (nn + 1) (sv xs (i + 1))) (mdN Nf fz (nn + 1) 6) (updI Wf (nn + 1) 1) := ag_mk (fun j hj => by exact mdN_o 6 (Or.inl hj))
  refine gx_aload_n 2 dL_law_115 rfl rfl ?_
  refine gx_aload_n 3 dL_law_116 rfl rfl ?_
  refine gx_iload_n 0 dL_law_117 rfl rfl ?_
  refine gx_iconst (iI 1) dL_law_118 rfl ?_
  refine gy_iadd dL_law_119 ?_
  refine gl_ld (by omega) (by omega) hL dL_law_120 ?_
  refine gx_callV (ci := 10) (c_X11_solid l D cI cL cR lo h hi fz c nn Ad Kf Nf Wf Es Et SS (sv xs (i + 1)) sv_ir (updI Kf (nn + 1) (sv xs (i + 1))) (mdN Nf fz (nn + 1) 6) (updI Wf (nn + 1) 1) hag (by intro _ _; exact ⟨updI_s, updI_s, fun k hk => mdN_i 6 hk⟩)) ok_X11_solid mw_1_116 mw_1_117 mw_1_118 dL_law_121 rfl SS.1 rfl rfl (Nat.le_of_ble_eq_true rfl) (by first | exact Nat.le_of_ble_eq_true rfl | (simp only [rM, room_1]; omega)) (by first | exact Nat.le_of_ble_eq_true rfl | (simp only [rM, room_1]; omega)) (by first | exact Nat.le_of_ble_eq_true rfl | (simp only [rM, room_1]; omega)) (by first | exact Nat.le_of_ble_eq_true rfl | (simp only [rM, room_1]; omega)) (fun r1 h1 u1 q1 g1 => ?_)
  obtain ⟨a1, a2, X1, gu⟩ := q1
  have MM1 := mmP_x MM X1 hhi
  by_cases cq : (c = szN (sv xs (i + 1)) ∧ 0 ≤ rdO fz (sv xs (i + 1))) ∧ nn < 60
  · obtain ⟨e1, SS1⟩ := a1 cq
    subst e1
    refine gx_aload_n 1 dL_law_124 rfl rfl ?_
    refine gx_aload_n 3 dL_law_125 rfl rfl ?_
    refine gx_iload_n 0 dL_law_126 rfl rfl ?_
    refine gx_iconst (iI 1) dL_law_127 rfl ?_
    refine gy_iadd dL_law_128 ?_
    refine gl_ld (by omega) (by omega) hL dL_law_129 ?_
    refine gx_callV (ci := 11) (c_X12_solid l D cI cL cR lo h1 u1 Kf Nf Wf fz nn c FB fh ff fl hc _ MM1 hn60 hfz hc6 (sv xs (i + 1)) sv_ir) ok_X12_solid mw_3_43 mw_3_44 mw_3_45 dL_law_130 rfl MM1.1 rfl rfl (Nat.le_of_ble_eq_true rfl) (by first | exact Nat.le_of_ble_eq_true rfl | (simp only [rM, room_1]; omega)) (by first | exact Nat.le_of_ble_eq_true rfl | (simp only [rM, room_1]; omega)) (by first | exact Nat.le_of_ble_eq_true rfl | (simp only [rM, room_1]; omega)) (by first | exact Nat.le_of_ble_eq_true rfl | (simp only [rM, room_1]; omega)) (fun r2 h2 u2 q2 g2 => ?_)
    obtain ⟨b1, b2, F2, rfl⟩ := q2
    obtain ⟨e2, MM2⟩ := b1 cq
    subst e2
    refine gl_eq rfl 456 dL_law_133 (by decide) ?_
    exact ch_Gwd (by simp only [rM]; omega) (by simp only [rM]; omega) (kk _ _ ⟨fz, _, nn + 1, _, _, _, _, Es, Et, FB, fh, ff, fl, hc, ssP_m SS1 F2, MM2, SO, IN⟩)
  · obtain ⟨e1, SS1⟩ := a2 cq
    subst e1
    refine gx_aload_n 1 dL_law_124 rfl rfl ?_
    refine gx_aload_n 3 dL_law_125 rfl rfl ?_
    refine gx_iload_n 0 dL_law_126 rfl rfl ?_
    refine gx_iconst (iI 1) dL_law_127 rfl ?_
    refine gy_iadd dL_law_128 ?_
    refine gl_ld (by omega) (by omega) hL dL_law_129 ?_
    refine gx_callV (ci := 11) (c_X12_solid l D cI cL cR lo h1 u1 Kf Nf Wf fz nn c FB fh ff fl hc _ MM1 hn60 hfz hc6 (sv xs (i + 1)) sv_ir) ok_X12_solid mw_3_43 mw_3_44 mw_3_45 dL_law_130 rfl MM1.1 rfl rfl (Nat.le_of_ble_eq_true rfl) (by first | exact Nat.le_of_ble_eq_true rfl | (simp only [rM, room_1]; omega)) (by first | exact Nat.le_of_ble_eq_true rfl | (simp only [rM, room_1]; omega)) (by first | exact Nat.le_of_ble_eq_true rfl | (simp only [rM, room_1]; omega)) (by first | exact Nat.le_of_ble_eq_true rfl | (simp only [rM, room_1]; omega)) (fun r2 h2 u2 q2 g2 => ?_)
    obtain ⟨b1, b2, F2, rfl⟩ := q2
    obtain ⟨e2, MM2⟩ := b2 cq
    subst e2
    refine gl_eq rfl 456 dL_law_133 (by decide) ?_
    exact ch_Gwd (by simp only [rM]; omega) (by simp only [rM]; omega) (kk _ _ ⟨fz, _, nn, Ad, Kf, Nf, Wf, Es, Et, FB, fh, ff, fl, hc, ssP_m SS1 F2, MM2, SO, IN⟩)
set_option maxHeartbeats 4000000 in
set_option maxRecDepth 100000 in
theorem st_moved (l : Launch) (D : va_G) (cI cL cR : ClassId) (lo b L : Nat) (xs : Nat → Int32) (nm : String) (hL : L ≤ 2560) (i : Int) (i0 : 0 ≤ i) (i1 : i + 5 ≤ (L : Int)) (k n : Nat) (hk : k + 1 ≤ 600000) (hn : n + 7 ≤ 7302250) (h : ch_H) (hi : Nat) (J : lwJ cI cL cR lo h hi) (kk : ∀ h2 hi2, lwJ cI cL cR lo h2 hi2 → ch_G l (eE D cI cL cR lo) (M_L nm) (lX b L lo xs) room_1 lw_Z (k + 1) (n + 7) h2 hi2 456 [(3, .int (iI i)), (2, .ref (lo + 17)), (1, .ref lo), (0, .ref b)] []) : ch_G l (eE D cI cL cR lo) (M_L nm) (lX b L lo xs) room_1 lw_Z k n h hi 181 [(3, .int (iI i)), (2, .ref (lo + 17)), (1, .ref lo), (0, .ref b)] [] := by
  obtain ⟨fz, c, nn, Ad, Kf, Nf, Wf, Es, Et, FB, fh, ff, fl, hc, SS, MM, SO, IN⟩ := J
  have HW := ssP_W SS
  obtain ⟨-, -, -, -, -, RT, -, hc6, hn60, hfz, hhi, -⟩ := id SS
  have hsc : 0 ≤ (Et.length : Int) / 2 ∧ (Et.length : Int) / 2 ≤ 100 := by obtain ⟨_, -, -, q, -⟩ := RT; omega
  have hag : agN nn Kf Nf Wf (updI Kf (nn + 1) 5) (updI (mdN Nf fz (nn + 1) 6) (6 * (nn + 1) + 3) (sv xs (i + 1))) (updI Wf (nn + 1) (Wf (sv xs (i + 1)).toNat + 1)) := ag_mk (fun j hj => by rw [updI_n (by omega)]; exact mdN_o 6 (Or.inl hj))
  refine gx_aload_n 2 dL_law_181 rfl rfl ?_
  refine gx_aload_n 3 dL_law_182 rfl rfl ?_
  refine gx_iload_n 0 dL_law_183 rfl rfl ?_
  refine gx_iconst (iI 1) dL_law_184 rfl ?_
  refine gy_iadd dL_law_185 ?_
  refine gl_ld (by omega) (by omega) hL dL_law_186 ?_
  refine gx_callV (ci := 10) (c_X11_moved l D cI cL cR lo h hi fz c nn Ad Kf Nf Wf Es Et SS (sv xs (i + 1)) sv_ir (updI Kf (nn + 1) 5) (updI (mdN Nf fz (nn + 1) 6) (6 * (nn + 1) + 3) (sv xs (i + 1))) (updI Wf (nn + 1) (Wf (sv xs (i + 1)).toNat + 1)) hag (by intro _ _; exact ⟨updI_s, updI_s, by rw [updI_n (by omega)]; exact mdN_i (s := nn + 1) 6 (j := 0) (by omega), by rw [updI_n (by omega)]; exact mdN_i 6 (by omega), by rw [updI_n (by omega)]; exact mdN_i 6 (by omega), updI_s⟩)) ok_X11_moved mw_2_29 mw_2_30 mw_2_31 dL_law_187 rfl SS.1 rfl rfl (Nat.le_of_ble_eq_true rfl) (by first | exact Nat.le_of_ble_eq_true rfl | (simp only [rM, room_1]; omega)) (by first | exact Nat.le_of_ble_eq_true rfl | (simp only [rM, room_1]; omega)) (by first | exact Nat.le_of_ble_eq_true rfl | (simp only [rM, room_1]; omega)) (by first | exact Nat.le_of_ble_eq_true rfl | (simp only [rM, room_1]; omega)) (fun r1 h1 u1 q1 g1 => ?_)
  obtain ⟨a1, a2, X1, gu⟩ := q1
  have MM1 := mmP_x MM X1 hhi
  by_cases cq : (1 ≤ (sv xs (i + 1)) ∧ (sv xs (i + 1)) ≤ (nn : Int) ∧ c = 3 ∧ Wf (sv xs (i + 1)).toNat + 1 ≤ 100) ∧ nn < 60
  · obtain ⟨e1, SS1⟩ := a1 cq
    subst e1
    refine gx_aload_n 1 dL_law_190 rfl rfl ?_
    refine gx_aload_n 3 dL_law_191 rfl rfl ?_
    refine gx_iload_n 0 dL_law_192 rfl rfl ?_
    refine gx_iconst (iI 1) dL_law_193 rfl ?_
    refine gy_iadd dL_law_194 ?_
    refine gl_ld (by omega) (by omega) hL dL_law_195 ?_
    refine gx_callV (ci := 11) (c_X12_moved l D cI cL cR lo h1 u1 Kf Nf Wf fz nn c FB fh ff fl hc _ MM1 hn60 HW (sv xs (i + 1)) sv_ir hc6) ok_X12_moved mw_3_59 mw_3_60 mw_3_61 dL_law_196 rfl MM1.1 rfl rfl (Nat.le_of_ble_eq_true rfl) (by first | exact Nat.le_of_ble_eq_true rfl | (simp only [rM, room_1]; omega)) (by first | exact Nat.le_of_ble_eq_true rfl | (simp only [rM, room_1]; omega)) (by first | exact Nat.le_of_ble_eq_true rfl | (simp only [rM, room_1]; omega)) (by first | exact Nat.le_of_ble_eq_true rfl | (simp only [rM, room_1]; omega)) (fun r2 h2 u2 q2 g2 => ?_)
    obtain ⟨b1, b2, F2, rfl⟩ := q2
    obtain ⟨e2, MM2⟩ := b1 cq
    subst e2
    refine gl_eq rfl 456 dL_law_199 (by decide) ?_
    exact ch_Gwd (by simp only [rM]; omega) (by simp only [rM]; omega) (kk _ _ ⟨fz, _, nn + 1, _, _, _, _, Es, Et, FB, fh, ff, fl, hc, ssP_m SS1 F2, MM2, SO, IN⟩)
  · obtain ⟨e1, SS1⟩ := a2 cq
    subst e1
    refine gx_aload_n 1 dL_law_190 rfl rfl ?_
    refine gx_aload_n 3 dL_law_191 rfl rfl ?_
    refine gx_iload_n 0 dL_law_192 rfl rfl ?_
    refine gx_iconst (iI 1) dL_law_193 rfl ?_
    refine gy_iadd dL_law_194 ?_
    refine gl_ld (by omega) (by omega) hL dL_law_195 ?_
    refine gx_callV (ci := 11) (c_X12_moved l D cI cL cR lo h1 u1 Kf Nf Wf fz nn c FB fh ff fl hc _ MM1 hn60 HW (sv xs (i + 1)) sv_ir hc6) ok_X12_moved mw_3_59 mw_3_60 mw_3_61 dL_law_196 rfl MM1.1 rfl rfl (Nat.le_of_ble_eq_true rfl) (by first | exact Nat.le_of_ble_eq_true rfl | (simp only [rM, room_1]; omega)) (by first | exact Nat.le_of_ble_eq_true rfl | (simp only [rM, room_1]; omega)) (by first | exact Nat.le_of_ble_eq_true rfl | (simp only [rM, room_1]; omega)) (by first | exact Nat.le_of_ble_eq_true rfl | (simp only [rM, room_1]; omega)) (fun r2 h2 u2 q2 g2 => ?_)
    obtain ⟨b1, b2, F2, rfl⟩ := q2
    obtain ⟨e2, MM2⟩ := b2 cq
    subst e2
    refine gl_eq rfl 456 dL_law_199 (by decide) ?_
    exact ch_Gwd (by simp only [rM]; omega) (by simp only [rM]; omega) (kk _ _ ⟨fz, _, nn, Ad, Kf, Nf, Wf, Es, Et, FB, fh, ff, fl, hc, ssP_m SS1 F2, MM2, SO, IN⟩)
set_option maxHeartbeats 4000000 in
set_option maxRecDepth 100000 in
theorem st_turned (l : Launch) (D : va_G) (cI cL cR : ClassId) (lo b L : Nat) (xs : Nat → Int32) (nm : String) (hL : L ≤ 2560) (i : Int) (i0 : 0 ≤ i) (i1 : i + 5 ≤ (L : Int)) (k n : Nat) (hk : k + 1 ≤ 600000) (hn : n + 7 ≤ 7302250) (h : ch_H) (hi : Nat) (J : lwJ cI cL cR lo h hi) (kk : ∀ h2 hi2, lwJ cI cL cR lo h2 hi2 → ch_G l (eE D cI cL cR lo) (M_L nm) (lX b L lo xs) room_1 lw_Z (k + 1) (n + 7) h2 hi2 456 [(3, .int (iI i)), (2, .ref (lo + 17)), (1, .ref lo), (0, .ref b)] []) : ch_G l (eE D cI cL cR lo) (M_L nm) (lX b L lo xs) room_1 lw_Z k n h hi 204 [(3, .int (iI i)), (2, .ref (lo + 17)), (1, .ref lo), (0, .ref b)] [] := by
  obtain ⟨fz, c, nn, Ad, Kf, Nf, Wf, Es, Et, FB, fh, ff, fl, hc, SS, MM, SO, IN⟩ := J
  have HW := ssP_W SS
  obtain ⟨-, -, -, -, -, RT, -, hc6, hn60, hfz, hhi, -⟩ := id SS
  have hsc : 0 ≤ (Et.length : Int) / 2 ∧ (Et.length : Int) / 2 ≤ 100 := by obtain ⟨_, -, -, q, -⟩ := RT; omega
  have hag : agN nn Kf Nf Wf (updI Kf (nn + 1) 6) (updI (mdN Nf fz (nn + 1) 6) (6 * (nn + 1)) (sv xs (i + 1))) (updI Wf (nn + 1) (Wf (sv xs (i + 1)).toNat + 1)) := ag_mk (fun j hj => by rw [updI_n (by omega)]; exact mdN_o 6 (Or.inl hj))
  refine gx_aload_n 2 dL_law_204 rfl rfl ?_
  refine gx_aload_n 3 dL_law_205 rfl rfl ?_
  refine gx_iload_n 0 dL_law_206 rfl rfl ?_
  refine gx_iconst (iI 1) dL_law_207 rfl ?_
  refine gy_iadd dL_law_208 ?_
  refine gl_ld (by omega) (by omega) hL dL_law_209 ?_
  refine gx_callV (ci := 10) (c_X11_turned l D cI cL cR lo h hi fz c nn Ad Kf Nf Wf Es Et SS (sv xs (i + 1)) sv_ir (updI Kf (nn + 1) 6) (updI (mdN Nf fz (nn + 1) 6) (6 * (nn + 1)) (sv xs (i + 1))) (updI Wf (nn + 1) (Wf (sv xs (i + 1)).toNat + 1)) hag (by intro _ _; exact ⟨updI_s, updI_s, updI_s⟩)) ok_X11_turned mw_2_53 mw_2_54 mw_2_55 dL_law_210 rfl SS.1 rfl rfl (Nat.le_of_ble_eq_true rfl) (by first | exact Nat.le_of_ble_eq_true rfl | (simp only [rM, room_1]; omega)) (by first | exact Nat.le_of_ble_eq_true rfl | (simp only [rM, room_1]; omega)) (by first | exact Nat.le_of_ble_eq_true rfl | (simp only [rM, room_1]; omega)) (by first | exact Nat.le_of_ble_eq_true rfl | (simp only [rM, room_1]; omega)) (fun r1 h1 u1 q1 g1 => ?_)
  obtain ⟨a1, a2, X1, gu⟩ := q1
  have MM1 := mmP_x MM X1 hhi
  by_cases cq : (1 ≤ (sv xs (i + 1)) ∧ (sv xs (i + 1)) ≤ (nn : Int) ∧ Wf (sv xs (i + 1)).toNat + 1 ≤ 100) ∧ nn < 60
  · obtain ⟨e1, SS1⟩ := a1 cq
    subst e1
    refine gx_aload_n 1 dL_law_213 rfl rfl ?_
    refine gx_aload_n 3 dL_law_214 rfl rfl ?_
    refine gx_iload_n 0 dL_law_215 rfl rfl ?_
    refine gx_iconst (iI 1) dL_law_216 rfl ?_
    refine gy_iadd dL_law_217 ?_
    refine gl_ld (by omega) (by omega) hL dL_law_218 ?_
    refine gx_callV (ci := 11) (c_X12_turned l D cI cL cR lo h1 u1 Kf Nf Wf fz nn c FB fh ff fl hc _ MM1 hn60 HW (sv xs (i + 1)) sv_ir) ok_X12_turned mw_3_63 mw_3_64 mw_3_65 dL_law_219 rfl MM1.1 rfl rfl (Nat.le_of_ble_eq_true rfl) (by first | exact Nat.le_of_ble_eq_true rfl | (simp only [rM, room_1]; omega)) (by first | exact Nat.le_of_ble_eq_true rfl | (simp only [rM, room_1]; omega)) (by first | exact Nat.le_of_ble_eq_true rfl | (simp only [rM, room_1]; omega)) (by first | exact Nat.le_of_ble_eq_true rfl | (simp only [rM, room_1]; omega)) (fun r2 h2 u2 q2 g2 => ?_)
    obtain ⟨b1, b2, F2, rfl⟩ := q2
    obtain ⟨e2, MM2⟩ := b1 cq
    subst e2
    refine gl_eq rfl 456 dL_law_222 (by decide) ?_
    exact ch_Gwd (by simp only [rM]; omega) (by simp only [rM]; omega) (kk _ _ ⟨fz, _, nn + 1, _, _, _, _, Es, Et, FB, fh, ff, fl, hc, ssP_m SS1 F2, MM2, SO, IN⟩)
  · obtain ⟨e1, SS1⟩ := a2 cq
    subst e1
    refine gx_aload_n 1 dL_law_213 rfl rfl ?_
    refine gx_aload_n 3 dL_law_214 rfl rfl ?_
    refine gx_iload_n 0 dL_law_215 rfl rfl ?_
    refine gx_iconst (iI 1) dL_law_216 rfl ?_
    refine gy_iadd dL_law_217 ?_
    refine gl_ld (by omega) (by omega) hL dL_law_218 ?_
    refine gx_callV (ci := 11) (c_X12_turned l D cI cL cR lo h1 u1 Kf Nf Wf fz nn c FB fh ff fl hc _ MM1 hn60 HW (sv xs (i + 1)) sv_ir) ok_X12_turned mw_3_63 mw_3_64 mw_3_65 dL_law_219 rfl MM1.1 rfl rfl (Nat.le_of_ble_eq_true rfl) (by first | exact Nat.le_of_ble_eq_true rfl | (simp only [rM, room_1]; omega)) (by first | exact Nat.le_of_ble_eq_true rfl | (simp only [rM, room_1]; omega)) (by first | exact Nat.le_of_ble_eq_true rfl | (simp only [rM, room_1]; omega)) (by first | exact Nat.le_of_ble_eq_true rfl | (simp only [rM, room_1]; omega)) (fun r2 h2 u2 q2 g2 => ?_)
    obtain ⟨b1, b2, F2, rfl⟩ := q2
    obtain ⟨e2, MM2⟩ := b2 cq
    subst e2
    refine gl_eq rfl 456 dL_law_222 (by decide) ?_
    exact ch_Gwd (by simp only [rM]; omega) (by simp only [rM]; omega) (kk _ _ ⟨fz, _, nn, Ad, Kf, Nf, Wf, Es, Et, FB, fh, ff, fl, hc, ssP_m SS1 F2, MM2, SO, IN⟩)
set_option maxHeartbeats 4000000 in
set_option maxRecDepth 100000 in
theorem st_join (l : Launch) (D : va_G) (cI cL cR : ClassId) (lo b L : Nat) (xs : Nat → Int32) (nm : String) (hL : L ≤ 2560) (i : Int) (i0 : 0 ≤ i) (i1 : i + 5 ≤ (L : Int)) (k n : Nat) (hk : k + 1 ≤ 600000) (hn : n + 7 ≤ 7302250) (h : ch_H) (hi : Nat) (J : lwJ cI cL cR lo h hi) (kk : ∀ h2 hi2, lwJ cI cL cR lo h2 hi2 → ch_G l (eE D cI cL cR lo) (M_L nm) (lX b L lo xs) room_1 lw_Z (k + 1) (n + 7) h2 hi2 456 [(3, .int (iI i)), (2, .ref (lo + 17)), (1, .ref lo), (0, .ref b)] []) : ch_G l (eE D cI cL cR lo) (M_L nm) (lX b L lo xs) room_1 lw_Z k n h hi 138 [(3, .int (iI i)), (2, .ref (lo + 17)), (1, .ref lo), (0, .ref b)] [] := by
  obtain ⟨fz, c, nn, Ad, Kf, Nf, Wf, Es, Et, FB, fh, ff, fl, hc, SS, MM, SO, IN⟩ := J
  have HW := ssP_W SS
  obtain ⟨-, -, -, -, -, RT, -, hc6, hn60, hfz, hhi, -⟩ := id SS
  have hsc : 0 ≤ (Et.length : Int) / 2 ∧ (Et.length : Int) / 2 ≤ 100 := by obtain ⟨_, -, -, q, -⟩ := RT; omega
  have hag : agN nn Kf Nf Wf (updI Kf (nn + 1) 4) (updI (updI (updI (mdN Nf fz (nn + 1) 6) (6 * (nn + 1)) (sv xs (i + 1))) (6 * (nn + 1) + 1) (sv xs (i + 2))) (6 * (nn + 1) + 2) (sv xs (i + 3))) (updI Wf (nn + 1) (Wf (sv xs (i + 1)).toNat + Wf (sv xs (i + 2)).toNat + 1)) := ag_mk (fun j hj => by rw [updI_n (by omega), updI_n (by omega), updI_n (by omega)]; exact mdN_o 6 (Or.inl hj))
  refine gx_aload_n 2 dL_law_138 rfl rfl ?_
  refine gx_aload_n 3 dL_law_139 rfl rfl ?_
  refine gx_iload_n 0 dL_law_140 rfl rfl ?_
  refine gx_iconst (iI 1) dL_law_141 rfl ?_
  refine gy_iadd dL_law_142 ?_
  refine gl_ld (by omega) (by omega) hL dL_law_143 ?_
  refine gx_aload_n 3 dL_law_144 rfl rfl ?_
  refine gx_iload_n 0 dL_law_145 rfl rfl ?_
  refine gx_iconst (iI 2) dL_law_146 rfl ?_
  refine gy_iadd dL_law_147 ?_
  refine gl_ld (by omega) (by omega) hL dL_law_148 ?_
  refine gx_aload_n 3 dL_law_149 rfl rfl ?_
  refine gx_iload_n 0 dL_law_150 rfl rfl ?_
  refine gx_iconst (iI 3) dL_law_151 rfl ?_
  refine gy_iadd dL_law_152 ?_
  refine gl_ld (by omega) (by omega) hL dL_law_153 ?_
  refine gx_callV (ci := 10) (c_X11_join l D cI cL cR lo h hi fz c nn Ad Kf Nf Wf Es Et SS (sv xs (i + 1)) (sv xs (i + 2)) (sv xs (i + 3)) sv_ir sv_ir sv_ir (updI Kf (nn + 1) 4) (updI (updI (updI (mdN Nf fz (nn + 1) 6) (6 * (nn + 1)) (sv xs (i + 1))) (6 * (nn + 1) + 1) (sv xs (i + 2))) (6 * (nn + 1) + 2) (sv xs (i + 3))) (updI Wf (nn + 1) (Wf (sv xs (i + 1)).toNat + Wf (sv xs (i + 2)).toNat + 1)) hag (by intro _ _; exact ⟨updI_s, updI_s, by rw [updI_n (by omega), updI_n (by omega)]; exact updI_s, by rw [updI_n (by omega)]; exact updI_s, updI_s⟩)) ok_X11_join mw_2_4 mw_2_5 mw_2_6 dL_law_154 rfl SS.1 rfl rfl (Nat.le_of_ble_eq_true rfl) (by first | exact Nat.le_of_ble_eq_true rfl | (simp only [rM, room_1]; omega)) (by first | exact Nat.le_of_ble_eq_true rfl | (simp only [rM, room_1]; omega)) (by first | exact Nat.le_of_ble_eq_true rfl | (simp only [rM, room_1]; omega)) (by first | exact Nat.le_of_ble_eq_true rfl | (simp only [rM, room_1]; omega)) (fun r1 h1 u1 q1 g1 => ?_)
  obtain ⟨a1, a2, X1, gu⟩ := q1
  have MM1 := mmP_x MM X1 hhi
  by_cases cq : ((1 ≤ (sv xs (i + 1)) ∧ (sv xs (i + 1)) ≤ (nn : Int)) ∧ (1 ≤ (sv xs (i + 2)) ∧ (sv xs (i + 2)) ≤ (nn : Int)) ∧ (0 ≤ (sv xs (i + 3)) ∧ (sv xs (i + 3)) ≤ 2) ∧ Wf (sv xs (i + 1)).toNat + Wf (sv xs (i + 2)).toNat + 1 ≤ 100) ∧ nn < 60
  · obtain ⟨e1, SS1⟩ := a1 cq
    subst e1
    refine gx_aload_n 1 dL_law_157 rfl rfl ?_
    refine gx_aload_n 3 dL_law_158 rfl rfl ?_
    refine gx_iload_n 0 dL_law_159 rfl rfl ?_
    refine gx_iconst (iI 1) dL_law_160 rfl ?_
    refine gy_iadd dL_law_161 ?_
    refine gl_ld (by omega) (by omega) hL dL_law_162 ?_
    refine gx_aload_n 3 dL_law_163 rfl rfl ?_
    refine gx_iload_n 0 dL_law_164 rfl rfl ?_
    refine gx_iconst (iI 2) dL_law_165 rfl ?_
    refine gy_iadd dL_law_166 ?_
    refine gl_ld (by omega) (by omega) hL dL_law_167 ?_
    refine gx_aload_n 3 dL_law_168 rfl rfl ?_
    refine gx_iload_n 0 dL_law_169 rfl rfl ?_
    refine gx_iconst (iI 3) dL_law_170 rfl ?_
    refine gy_iadd dL_law_171 ?_
    refine gl_ld (by omega) (by omega) hL dL_law_172 ?_
    refine gx_callV (ci := 11) (c_X12_join l D cI cL cR lo h1 u1 Kf Nf Wf fz nn c FB fh ff fl hc _ MM1 hn60 HW (sv xs (i + 1)) (sv xs (i + 2)) (sv xs (i + 3)) sv_ir sv_ir sv_ir) ok_X12_join mw_3_51 mw_3_52 mw_3_53 dL_law_173 rfl MM1.1 rfl rfl (Nat.le_of_ble_eq_true rfl) (by first | exact Nat.le_of_ble_eq_true rfl | (simp only [rM, room_1]; omega)) (by first | exact Nat.le_of_ble_eq_true rfl | (simp only [rM, room_1]; omega)) (by first | exact Nat.le_of_ble_eq_true rfl | (simp only [rM, room_1]; omega)) (by first | exact Nat.le_of_ble_eq_true rfl | (simp only [rM, room_1]; omega)) (fun r2 h2 u2 q2 g2 => ?_)
    obtain ⟨b1, b2, F2, rfl⟩ := q2
    obtain ⟨e2, MM2⟩ := b1 cq
    subst e2
    refine gl_eq rfl 456 dL_law_176 (by decide) ?_
    exact ch_Gwd (by simp only [rM]; omega) (by simp only [rM]; omega) (kk _ _ ⟨fz, _, nn + 1, _, _, _, _, Es, Et, FB, fh, ff, fl, hc, ssP_m SS1 F2, MM2, SO, IN⟩)
  · obtain ⟨e1, SS1⟩ := a2 cq
    subst e1
    refine gx_aload_n 1 dL_law_157 rfl rfl ?_
    refine gx_aload_n 3 dL_law_158 rfl rfl ?_
    refine gx_iload_n 0 dL_law_159 rfl rfl ?_
    refine gx_iconst (iI 1) dL_law_160 rfl ?_
    refine gy_iadd dL_law_161 ?_
    refine gl_ld (by omega) (by omega) hL dL_law_162 ?_
    refine gx_aload_n 3 dL_law_163 rfl rfl ?_
    refine gx_iload_n 0 dL_law_164 rfl rfl ?_
    refine gx_iconst (iI 2) dL_law_165 rfl ?_
    refine gy_iadd dL_law_166 ?_
    refine gl_ld (by omega) (by omega) hL dL_law_167 ?_
    refine gx_aload_n 3 dL_law_168 rfl rfl ?_
    refine gx_iload_n 0 dL_law_169 rfl rfl ?_
    refine gx_iconst (iI 3) dL_law_170 rfl ?_
    refine gy_iadd dL_law_171 ?_
    refine gl_ld (by omega) (by omega) hL dL_law_172 ?_
    refine gx_callV (ci := 11) (c_X12_join l D cI cL cR lo h1 u1 Kf Nf Wf fz nn c FB fh ff fl hc _ MM1 hn60 HW (sv xs (i + 1)) (sv xs (i + 2)) (sv xs (i + 3)) sv_ir sv_ir sv_ir) ok_X12_join mw_3_51 mw_3_52 mw_3_53 dL_law_173 rfl MM1.1 rfl rfl (Nat.le_of_ble_eq_true rfl) (by first | exact Nat.le_of_ble_eq_true rfl | (simp only [rM, room_1]; omega)) (by first | exact Nat.le_of_ble_eq_true rfl | (simp only [rM, room_1]; omega)) (by first | exact Nat.le_of_ble_eq_true rfl | (simp only [rM, room_1]; omega)) (by first | exact Nat.le_of_ble_eq_true rfl | (simp only [rM, room_1]; omega)) (fun r2 h2 u2 q2 g2 => ?_)
    obtain ⟨b1, b2, F2, rfl⟩ := q2
    obtain ⟨e2, MM2⟩ := b2 cq
    subst e2
    refine gl_eq rfl 456 dL_law_176 (by decide) ?_
    exact ch_Gwd (by simp only [rM]; omega) (by simp only [rM]; omega) (kk _ _ ⟨fz, _, nn, Ad, Kf, Nf, Wf, Es, Et, FB, fh, ff, fl, hc, ssP_m SS1 F2, MM2, SO, IN⟩)
end
