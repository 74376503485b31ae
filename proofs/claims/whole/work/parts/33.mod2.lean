section
section
variable {l : Launch} {E : ch_E} {M : ch_D} {Xt : State → Array Value → Prop} {R : Room} {Z : List Frame → Array Value → State → State → Prop} {k n : Nat} {h : ch_H} {hi pc : Nat} {lv : List (Nat × Value)} {st : List Value}
theorem gy_lmax {a b : Int} {idx : Nat} (hlink : Cond.methodLink M.1.cls idx Lib.MathLoose.max_long.x ∈ ch_tb) (hstat : Cond.static Lib.MathLoose.max_long.x ∈ ch_tb) (hini : Cond.initialized "java/lang/Math" ∈ ch_tb) (hcode : Cond.code Lib.MathLoose.max_long.x Lib.MathLoose.max_long.code 4 (some .long) ∈ ch_tb) (hd : decode M.2.1 pc = .ok (.invokestatic idx, 3)) (hfr : 1 ≤ R.frames) (hlo : (st.map fun v => v.category).sum + 15 ≤ R.locals) (hk : k ≤ R.cells) (hn : n ≤ R.slots) (ha : lr a) (hb : lr b) (kk : ch_G l E M Xt R Z k n h hi (pc + 3) lv (.long (lI (max a b)) :: st)) : ch_G l E M Xt R Z k n h hi pc lv (.long (lI b) :: .long (lI a) :: st) := by
  intro p e s m args below meth c H locs ls X hM hS hl
  obtain ⟨hx, hb1, hml, hown, hts, -, -, hname, hK, -, hN, -⟩ := id X
  refine va_mmax_long hx hb1 (hml.trans hl.1.symm) hown (hts _ hlink) (hts _ hstat) (hts _ hini) (hts _ hcode) hfr hlo hk hn hd ?_
  have e1 : (if lI b < lI a then lI a else lI b) = lI (max a b) := by
    by_cases q : b < a
    · rw [if_pos ((lI_lt (by assumption) (by assumption)).mpr q), show max a b = a by omega]
    · rw [if_neg (fun z => q ((lI_lt (by assumption) (by assumption)).mp z)), show max a b = b by omega]
  rw [e1]
  exact kk p e s m args below meth c H locs ls X hM hS hl
theorem gy_lmin {a b : Int} {idx : Nat} (hlink : Cond.methodLink M.1.cls idx Lib.MathLoose.min_long.x ∈ ch_tb) (hstat : Cond.static Lib.MathLoose.min_long.x ∈ ch_tb) (hini : Cond.initialized "java/lang/Math" ∈ ch_tb) (hcode : Cond.code Lib.MathLoose.min_long.x Lib.MathLoose.min_long.code 4 (some .long) ∈ ch_tb) (hd : decode M.2.1 pc = .ok (.invokestatic idx, 3)) (hfr : 1 ≤ R.frames) (hlo : (st.map fun v => v.category).sum + 15 ≤ R.locals) (hk : k ≤ R.cells) (hn : n ≤ R.slots) (ha : lr a) (hb : lr b) (kk : ch_G l E M Xt R Z k n h hi (pc + 3) lv (.long (lI (min a b)) :: st)) : ch_G l E M Xt R Z k n h hi pc lv (.long (lI b) :: .long (lI a) :: st) := by
  intro p e s m args below meth c H locs ls X hM hS hl
  obtain ⟨hx, hb1, hml, hown, hts, -, -, hname, hK, -, hN, -⟩ := id X
  refine va_mmin_long hx hb1 (hml.trans hl.1.symm) hown (hts _ hlink) (hts _ hstat) (hts _ hini) (hts _ hcode) hfr hlo hk hn hd ?_
  have e1 : (if lI b < lI a then lI b else lI a) = lI (min a b) := by
    by_cases q : b < a
    · rw [if_pos ((lI_lt (by assumption) (by assumption)).mpr q), show min a b = b by omega]
    · rw [if_neg (fun z => q ((lI_lt (by assumption) (by assumption)).mp z)), show min a b = a by omega]
  rw [e1]
  exact kk p e s m args below meth c H locs ls X hM hS hl
end
set_option maxHeartbeats 4000000 in
set_option maxRecDepth 100000 in
theorem c_X12_inside (l : Launch) (D : va_G) (cI cL cR : ClassId) (lo : Nat) (h : ch_H) (hi : Nat) (Kf Nf Wf fz : Nat → Int) (n : Nat) (c : Int) (FB : Nat → Int64) (fh ff fl : Nat → Int) (hc sc : Int) (MM : mmP cI cL lo h Kf Nf Wf fz n c FB fh ff fl hc sc) (hn : n ≤ 60) (HW : ∀ s, 1 ≤ s → s ≤ n → wfS Kf Nf Wf s) (s x y z : Int) (hs : ir s) (hx : ir x) (hy : ir y) (hz : ir z) : ch_C l (eE D cI cL cR lo) M_X12_inside (rM 70 0 0) [.ref (lo + 17), .int (iI s), .int (iI x), .int (iI y), .int (iI z)] h hi (fun r0 h2 hi2 => r0 = some (.int (iI (bI (decide ((1 ≤ s ∧ s ≤ (n : Int)) ∧ nearB x = true ∧ nearB y = true ∧ nearB z = true ∧ inB Kf Nf s.toNat x y z = true))))) ∧ h = h2 ∧ hi = hi2) := by
  refine ch_C.of rfl (Nat.le_of_ble_eq_true rfl) ?_
  have MM0 := MM
  obtain ⟨M0, M1, M2, M3, M4, M5, M6, M7, M8⟩ := MM
  refine gx_aload_n 0 dX12_inside_0 rfl rfl ?_
  refine gx_iload_n 1 dX12_inside_1 rfl rfl ?_
  refine gx_callV (ci := 11) (c_X12_isSolid l D cI cL cR lo h hi Kf Nf Wf fz n c FB fh ff fl hc sc MM0 hn s (by constructor <;> omega)) ok_X12_isSolid mw_3_55 mw_3_57 mw_p_12 dX12_inside_2 rfl M0 rfl rfl (Nat.le_of_ble_eq_true rfl) (by first | exact Nat.le_of_ble_eq_true rfl | (simp only [rM]; omega)) (by first | exact Nat.le_of_ble_eq_true rfl | (simp only [rM]; omega)) (by first | exact Nat.le_of_ble_eq_true rfl | (simp only [rM]; omega)) (by first | exact Nat.le_of_ble_eq_true rfl | (simp only [rM]; omega)) (fun r1 h2 u3 q4 g5 => ?_)
  obtain ⟨rfl, rfl, rfl⟩ := q4
  refine ch_Gst (st2 := [.int (iI (bI (decide (1 ≤ s ∧ s ≤ (n : Int)))))]) rfl ?_
  refine gy_if_eq 49 dX12_inside_5 (by decide) ir_bI (fun c5 => ?_) (fun c5 => ?_)
  · have hq5 := of_decide_eq_false (bI_0 c5)
    refine gx_iconst (iI 0) dX12_inside_49 rfl ?_
    refine gx_zret rfl rfl dX12_inside_50 (by first | exact Nat.le_of_ble_eq_true rfl | (simp only [rM]; omega)) (by first | exact Nat.le_of_ble_eq_true rfl | (simp only [rM]; omega)) ?_
    exact ⟨by rw [show decide ((1 ≤ s ∧ s ≤ (n : Int)) ∧ nearB x = true ∧ nearB y = true ∧ nearB z = true ∧ inB Kf Nf s.toNat x y z = true) = false from decide_eq_false (fun q => hq5 q.1)]; rfl, rfl, rfl⟩
  · have hq5 := of_decide_eq_true (bI_1 c5)
    refine gx_iload_n 2 dX12_inside_8 rfl rfl ?_
    refine gx_callS (c_X12_isNear l D cI cL cR lo h hi x (by constructor <;> omega)) ok_X12_isNear mw_3_71 mw_3_72 dX12_inside_9 rfl rfl (Nat.le_of_ble_eq_true rfl) (by first | exact Nat.le_of_ble_eq_true rfl | (simp only [rM]; omega)) (by first | exact Nat.le_of_ble_eq_true rfl | (simp only [rM]; omega)) (by first | exact Nat.le_of_ble_eq_true rfl | (simp only [rM]; omega)) (by first | exact Nat.le_of_ble_eq_true rfl | (simp only [rM]; omega)) (fun r6 h7 u8 q9 g10 => ?_)
    obtain ⟨rfl, rfl, rfl⟩ := q9
    refine ch_Gst (st2 := [.int (iI (bI (nearB x)))]) rfl ?_
    refine gy_if_eq 49 dX12_inside_12 (by decide) ir_bI (fun c12 => ?_) (fun c12 => ?_)
    · refine gx_iconst (iI 0) dX12_inside_49 rfl ?_
      refine gx_zret rfl rfl dX12_inside_50 (by first | exact Nat.le_of_ble_eq_true rfl | (simp only [rM]; omega)) (by first | exact Nat.le_of_ble_eq_true rfl | (simp only [rM]; omega)) ?_
      exact ⟨by rw [show decide ((1 ≤ s ∧ s ≤ (n : Int)) ∧ nearB x = true ∧ nearB y = true ∧ nearB z = true ∧ inB Kf Nf s.toNat x y z = true) = false from decide_eq_false (fun q => absurd (bI_0 c12) (by rw [q.2.1]; decide))]; rfl, rfl, rfl⟩
    · have nx := bI_1 c12
      have nx2 := of_decide_eq_true nx
      refine gx_iload_n 3 dX12_inside_15 rfl rfl ?_
      refine gx_callS (c_X12_isNear l D cI cL cR lo h hi y (by constructor <;> omega)) ok_X12_isNear mw_3_71 mw_3_72 dX12_inside_16 rfl rfl (Nat.le_of_ble_eq_true rfl) (by first | exact Nat.le_of_ble_eq_true rfl | (simp only [rM]; omega)) (by first | exact Nat.le_of_ble_eq_true rfl | (simp only [rM]; omega)) (by first | exact Nat.le_of_ble_eq_true rfl | (simp only [rM]; omega)) (by first | exact Nat.le_of_ble_eq_true rfl | (simp only [rM]; omega)) (fun r11 h12 u13 q14 g15 => ?_)
      obtain ⟨rfl, rfl, rfl⟩ := q14
      refine ch_Gst (st2 := [.int (iI (bI (nearB y)))]) rfl ?_
      refine gy_if_eq 49 dX12_inside_19 (by decide) ir_bI (fun c19 => ?_) (fun c19 => ?_)
      · refine gx_iconst (iI 0) dX12_inside_49 rfl ?_
        refine gx_zret rfl rfl dX12_inside_50 (by first | exact Nat.le_of_ble_eq_true rfl | (simp only [rM]; omega)) (by first | exact Nat.le_of_ble_eq_true rfl | (simp only [rM]; omega)) ?_
        exact ⟨by rw [show decide ((1 ≤ s ∧ s ≤ (n : Int)) ∧ nearB x = true ∧ nearB y = true ∧ nearB z = true ∧ inB Kf Nf s.toNat x y z = true) = false from decide_eq_false (fun q => absurd (bI_0 c19) (by rw [q.2.2.1]; decide))]; rfl, rfl, rfl⟩
      · have ny := bI_1 c19
        have ny2 := of_decide_eq_true ny
        refine gx_iload 4 dX12_inside_22 rfl ?_
        refine gx_callS (c_X12_isNear l D cI cL cR lo h hi z (by constructor <;> omega)) ok_X12_isNear mw_3_71 mw_3_72 dX12_inside_24 rfl rfl (Nat.le_of_ble_eq_true rfl) (by first | exact Nat.le_of_ble_eq_true rfl | (simp only [rM]; omega)) (by first | exact Nat.le_of_ble_eq_true rfl | (simp only [rM]; omega)) (by first | exact Nat.le_of_ble_eq_true rfl | (simp only [rM]; omega)) (by first | exact Nat.le_of_ble_eq_true rfl | (simp only [rM]; omega)) (fun r16 h17 u18 q19 g20 => ?_)
        obtain ⟨rfl, rfl, rfl⟩ := q19
        refine ch_Gst (st2 := [.int (iI (bI (nearB z)))]) rfl ?_
        refine gy_if_eq 49 dX12_inside_27 (by decide) ir_bI (fun c27 => ?_) (fun c27 => ?_)
        · refine gx_iconst (iI 0) dX12_inside_49 rfl ?_
          refine gx_zret rfl rfl dX12_inside_50 (by first | exact Nat.le_of_ble_eq_true rfl | (simp only [rM]; omega)) (by first | exact Nat.le_of_ble_eq_true rfl | (simp only [rM]; omega)) ?_
          exact ⟨by rw [show decide ((1 ≤ s ∧ s ≤ (n : Int)) ∧ nearB x = true ∧ nearB y = true ∧ nearB z = true ∧ inB Kf Nf s.toNat x y z = true) = false from decide_eq_false (fun q => absurd (bI_0 c27) (by rw [q.2.2.2.1]; decide))]; rfl, rfl, rfl⟩
        · have nz := bI_1 c27
          have nz2 := of_decide_eq_true nz
          refine gx_aload_n 0 dX12_inside_30 rfl rfl ?_
          refine gx_iload_n 1 dX12_inside_31 rfl rfl ?_
          refine gx_iload_n 2 dX12_inside_32 rfl rfl ?_
          refine gy_i2l dX12_inside_33 (by constructor <;> omega) ?_
          refine gx_iload_n 3 dX12_inside_34 rfl rfl ?_
          refine gy_i2l dX12_inside_35 (by constructor <;> omega) ?_
          refine gx_iload 4 dX12_inside_36 rfl ?_
          refine gy_i2l dX12_inside_38 (by constructor <;> omega) ?_
          refine ch_Gst (st2 := [.long (lI z), .long (lI y), .long (lI x), .int (iI (s.toNat : Int)), .ref (lo + 17)]) (by rw [Int.toNat_of_nonneg (show 0 ≤ s by omega)]) ?_
          refine gx_callV (ci := 11) (c_X12_isIn l D cI cL cR lo h hi Kf Nf Wf fz n c FB fh ff fl hc sc MM0 hn HW s.toNat (by omega) (by omega) x y z (by omega) (by omega) (by omega)) ok_X12_isIn mw_3_76 mw_3_78 mw_p_13 dX12_inside_39 rfl M0 rfl rfl (Nat.le_of_ble_eq_true rfl) (by first | exact Nat.le_of_ble_eq_true rfl | (simp only [rM]; omega)) (by first | exact Nat.le_of_ble_eq_true rfl | (simp only [rM]; omega)) (by first | exact Nat.le_of_ble_eq_true rfl | (simp only [rM]; omega)) (by first | exact Nat.le_of_ble_eq_true rfl | (simp only [rM]; omega)) (fun r21 h22 u23 q24 g25 => ?_)
          obtain ⟨rfl, rfl, rfl⟩ := q24
          refine ch_Gst (st2 := [.int (iI (bI (inB Kf Nf s.toNat x y z)))]) rfl ?_
          refine gy_if_eq 49 dX12_inside_42 (by decide) ir_bI (fun c42 => ?_) (fun c42 => ?_)
          · refine gx_iconst (iI 0) dX12_inside_49 rfl ?_
            refine gx_zret rfl rfl dX12_inside_50 (by first | exact Nat.le_of_ble_eq_true rfl | (simp only [rM]; omega)) (by first | exact Nat.le_of_ble_eq_true rfl | (simp only [rM]; omega)) ?_
            exact ⟨by rw [show decide ((1 ≤ s ∧ s ≤ (n : Int)) ∧ nearB x = true ∧ nearB y = true ∧ nearB z = true ∧ inB Kf Nf s.toNat x y z = true) = false from decide_eq_false (fun q => absurd (bI_0 c42) (by rw [q.2.2.2.2]; decide))]; rfl, rfl, rfl⟩
          · refine gx_iconst (iI 1) dX12_inside_45 rfl ?_
            refine gx_goto 50 dX12_inside_46 (by decide) ?_
            refine gx_zret rfl rfl dX12_inside_50 (by first | exact Nat.le_of_ble_eq_true rfl | (simp only [rM]; omega)) (by first | exact Nat.le_of_ble_eq_true rfl | (simp only [rM]; omega)) ?_
            exact ⟨by rw [show decide ((1 ≤ s ∧ s ≤ (n : Int)) ∧ nearB x = true ∧ nearB y = true ∧ nearB z = true ∧ inB Kf Nf s.toNat x y z = true) = true from decide_eq_true ⟨hq5, nx, ny, nz, bI_1 c42⟩]; rfl, rfl, rfl⟩
theorem tdv (a : Int) : (0 ≤ a → a.tdiv 2 = a / 2) ∧ (a < 0 → a.tdiv 2 = -((-a) / 2)) := by
  constructor
  · intro h; exact Int.tdiv_eq_ediv_of_nonneg h
  · intro h
    have h1 : (-(-a)).tdiv 2 = -((-a).tdiv 2) := Int.neg_tdiv (-a) 2
    rw [Int.neg_neg] at h1
    rw [h1, Int.tdiv_eq_ediv_of_nonneg (by omega)]
set_option maxHeartbeats 4000000 in
set_option maxRecDepth 100000 in
theorem c_X12_last (l : Launch) (D : va_G) (cI cL cR : ClassId) (lo : Nat) (h : ch_H) (hi : Nat) (Kf Nf Wf fz : Nat → Int) (n : Nat) (c : Int) (FB : Nat → Int64) (fh ff fl : Nat → Int) (hc sc : Int) (MM : mmP cI cL lo h Kf Nf Wf fz n c FB fh ff fl hc sc) (s : Nat) (hs : s ≤ 60) (hk : 0 ≤ Kf s ∧ Kf s ≤ 3) (hN : ∀ k, k < 6 → -5000 ≤ Nf (6 * s + k) ∧ Nf (6 * s + k) ≤ 5000) (x y : Int) (hx : -900000 ≤ x ∧ x ≤ 900000) (hy : -900000 ≤ y ∧ y ≤ 900000) (fr : Int) (hfr : -5000 ≤ fr ∧ fr ≤ 5000) (h0 : ikB Kf Nf s x y fr = true) (hd : ∀ m m2, fr ≤ m → m ≤ m2 → ikB Kf Nf s x y m2 = true → ikB Kf Nf s x y m = true) : ch_C l (eE D cI cL cR lo) M_X12_last (rM 2 0 0) [.ref (lo + 17), .int (iI (s : Int)), .long (lI x), .long (lI y), .long (lI fr)] h hi (fun r0 h2 hi2 => (∃ r, r0 = some (.long (lI r)) ∧ fr ≤ r ∧ r ≤ fr + 20001 ∧ ikB Kf Nf s x y r = true ∧ ∀ m, r < m → m ≤ fr + 20001 → ikB Kf Nf s x y m = false) ∧ h = h2 ∧ hi = hi2) := by
  refine ch_C.of rfl (Nat.le_of_ble_eq_true rfl) ?_
  have MM0 := MM
  obtain ⟨M0, M1, M2, M3, M4, M5, M6, M7, M8⟩ := MM
  have loop : ∀ (m : Nat) (low high : Int), (fr ≤ low) → (low ≤ high) → (high ≤ fr + 20001) → (high - low < m) → (ikB Kf Nf s x y low = true) → (∀ m, high < m → m ≤ fr + 20001 → ikB Kf Nf s x y m = false) → ch_G l (eE D cI cL cR lo) M_X12_last ch_T (rM 2 0 0) (ch_Z (eE D cI cL cR lo) 0 0 (fun r0 h2 hi2 => (∃ r, r0 = some (.long (lI r)) ∧ fr ≤ r ∧ r ≤ fr + 20001 ∧ ikB Kf Nf s x y r = true ∧ ∀ m, r < m → m ≤ fr + 20001 → ikB Kf Nf s x y m = false) ∧ h = h2 ∧ hi = hi2)) 0 0 h hi 12 [(0, .ref (lo + 17)), (1, .int (iI (s : Int))), (2, .long (lI x)), (4, .long (lI y)), (8, .long (lI low)), (10, .long (lI high))] [] := by
    intro m
    induction m with
    | zero => intro low high b1 b2 b3 bm hlo hhi; exfalso; omega
    | succ m ih =>
      intro low high b1 b2 b3 bm hlo hhi
      have J62 : low < high → ∀ mm : Int, low < mm → mm ≤ high → ch_G l (eE D cI cL cR lo) M_X12_last ch_T (rM 2 0 0) (ch_Z (eE D cI cL cR lo) 0 0 (fun r0 h2 hi2 => (∃ r, r0 = some (.long (lI r)) ∧ fr ≤ r ∧ r ≤ fr + 20001 ∧ ikB Kf Nf s x y r = true ∧ ∀ m, r < m → m ≤ fr + 20001 → ikB Kf Nf s x y m = false) ∧ h = h2 ∧ hi = hi2)) 0 0 h hi 62 [(0, .ref (lo + 17)), (1, .int (iI (s : Int))), (2, .long (lI x)), (4, .long (lI y)), (8, .long (lI low)), (10, .long (lI high)), (12, .long (lI mm))] [] := by
        intro hlh mm hm1 hm2
        refine gx_aload_n 0 dX12_last_62 rfl rfl ?_
        refine gx_iload_n 1 dX12_last_63 rfl rfl ?_
        refine gx_lload_n 2 dX12_last_64 rfl rfl ?_
        refine gx_lload 3 dX12_last_65 rfl ?_
        refine gx_lload 6 dX12_last_67 rfl ?_
        refine gx_callV (ci := 11) (c_X12_isInKind l D cI cL cR lo h hi Kf Nf Wf fz n c FB fh ff fl hc sc MM0 s hs hk hN x y mm (by omega) (by omega) (by omega)) ok_X12_isInKind mw_3_84 mw_3_86 mw_p_15 dX12_last_69 rfl M0 rfl rfl (Nat.le_of_ble_eq_true rfl) (by first | exact Nat.le_of_ble_eq_true rfl | (simp only [rM]; omega)) (by first | exact Nat.le_of_ble_eq_true rfl | (simp only [rM]; omega)) (by first | exact Nat.le_of_ble_eq_true rfl | (simp only [rM]; omega)) (by first | exact Nat.le_of_ble_eq_true rfl | (simp only [rM]; omega)) (fun rj1 hj2 uj3 qj4 gj5 => ?_)
        obtain ⟨rfl, rfl, rfl⟩ := qj4
        refine ch_Gst (st2 := [.int (iI (bI (ikB Kf Nf s x y mm)))]) rfl ?_
        refine gy_if_eq 82 dX12_last_72 (by decide) ir_bI (fun c72 => ?_) (fun c72 => ?_)
        · refine gx_lload 6 dX12_last_82 rfl ?_
          refine gx_lconst (lI 1) dX12_last_84 rfl ?_
          refine gy_lsub dX12_last_85 ?_
          refine gx_lstore [(10, .long (lI (mm - 1))), (0, .ref (lo + 17)), (1, .int (iI (s : Int))), (2, .long (lI x)), (4, .long (lI y)), (8, .long (lI low)), (12, .long (lI mm))] dX12_last_86 (by decide) rfl ?_
          refine gx_goto 12 dX12_last_88 (by decide) ?_
          refine ch_Glv (lv' := [(0, .ref (lo + 17)), (1, .int (iI (s : Int))), (2, .long (lI x)), (4, .long (lI y)), (8, .long (lI low)), (10, .long (lI (mm - 1)))]) [1, 2, 3, 4, 5, 0] rfl ?_
          exact ih _ _ (by omega) (by omega) (by omega) (by omega) hlo (fun m q1 q2 => by
            cases e : ikB Kf Nf s x y m with
            | false => rfl
            | true => exact absurd (hd mm m (by omega) (by omega) e) (by rw [bI_0 c72]; decide))
        · refine gx_lload 6 dX12_last_75 rfl ?_
          refine gx_lstore [(8, .long (lI mm)), (0, .ref (lo + 17)), (1, .int (iI (s : Int))), (2, .long (lI x)), (4, .long (lI y)), (10, .long (lI high)), (12, .long (lI mm))] dX12_last_77 (by decide) rfl ?_
          refine gx_goto 88 dX12_last_79 (by decide) ?_
          refine gx_goto 12 dX12_last_88 (by decide) ?_
          refine ch_Glv (lv' := [(0, .ref (lo + 17)), (1, .int (iI (s : Int))), (2, .long (lI x)), (4, .long (lI y)), (8, .long (lI mm)), (10, .long (lI high))]) [1, 2, 3, 4, 0, 5] rfl ?_
          exact ih _ _ (by omega) (by omega) (by omega) (by omega) (bI_1 c72) hhi
      refine gx_lload 4 dX12_last_12 rfl ?_
      refine gx_lload 5 dX12_last_14 rfl ?_
      refine gy_lcmp_ge 91 dX12_last_16 dX12_last_17 (by decide) (by constructor <;> omega) (by constructor <;> omega) (fun c16 => ?_) (fun c16 => ?_)
      · refine gx_lload 4 dX12_last_91 rfl ?_
        refine gx_lret rfl dX12_last_93 (by first | exact Nat.le_of_ble_eq_true rfl | (simp only [rM]; omega)) (by first | exact Nat.le_of_ble_eq_true rfl | (simp only [rM]; omega)) ?_
        exact ⟨⟨low, rfl, by omega, by omega, hlo, fun m q1 q2 => hhi m (by omega) q2⟩, rfl, rfl⟩
      · refine gx_lload 4 dX12_last_20 rfl ?_
        refine gx_lload 5 dX12_last_22 rfl ?_
        refine gy_ladd dX12_last_24 ?_
        refine gx_lconst (lI 1) dX12_last_25 rfl ?_
        refine gy_ladd dX12_last_26 ?_
        refine gx_ldc2 (lI 2) (by rw [show lI 2 = (2 : Int64) by decide]; exact mw_3_121) dX12_last_27 ?_
        refine gy_ldiv dX12_last_30 (by constructor <;> omega) (by omega) (by decide) (by decide) ?_
        have ht := tdv (low + high + 1)
        refine gx_lstore [(12, .long (lI (((low + high) + 1).tdiv 2))), (0, .ref (lo + 17)), (1, .int (iI (s : Int))), (2, .long (lI x)), (4, .long (lI y)), (8, .long (lI low)), (10, .long (lI high))] dX12_last_31 (by decide) rfl ?_
        refine gx_lload 0 dX12_last_33 rfl ?_
        refine gx_lconst (lI 0) dX12_last_35 rfl ?_
        refine gy_lcmp_ge 62 dX12_last_36 dX12_last_37 (by decide) (by constructor <;> omega) (by decide) (fun c36 => ?_) (fun c36 => ?_)
        · refine ch_Glv (lv' := [(0, .ref (lo + 17)), (1, .int (iI (s : Int))), (2, .long (lI x)), (4, .long (lI y)), (8, .long (lI low)), (10, .long (lI high)), (12, .long (lI (((low + high) + 1).tdiv 2)))]) [1, 2, 3, 4, 5, 6, 0] rfl ?_
          exact J62 (by omega) _ (by omega) (by omega)
        · refine gx_lload 5 dX12_last_40 rfl ?_
          refine gx_lload 6 dX12_last_42 rfl ?_
          refine gy_ladd dX12_last_44 ?_
          refine gx_lconst (lI 1) dX12_last_45 rfl ?_
          refine gy_ladd dX12_last_46 ?_
          refine gx_ldc2 (lI 2) (by rw [show lI 2 = (2 : Int64) by decide]; exact mw_3_121) dX12_last_47 ?_
          refine gy_lrem dX12_last_50 (by constructor <;> omega) (by omega) (by decide) (by decide) ?_
          refine gx_lconst (lI 0) dX12_last_51 rfl ?_
          refine gy_lcmp_eq 62 dX12_last_52 dX12_last_53 (by decide) (by constructor <;> omega) (by decide) (fun c52 => ?_) (fun c52 => ?_)
          · refine ch_Glv (lv' := [(0, .ref (lo + 17)), (1, .int (iI (s : Int))), (2, .long (lI x)), (4, .long (lI y)), (8, .long (lI low)), (10, .long (lI high)), (12, .long (lI (((low + high) + 1).tdiv 2)))]) [1, 2, 3, 4, 5, 6, 0] rfl ?_
            exact J62 (by omega) _ (by omega) (by omega)
          · refine gx_lload 0 dX12_last_56 rfl ?_
            refine gx_lconst (lI 1) dX12_last_58 rfl ?_
            refine gy_lsub dX12_last_59 ?_
            refine gx_lstore [(12, .long (lI ((((low + high) + 1).tdiv 2) - 1))), (0, .ref (lo + 17)), (1, .int (iI (s : Int))), (2, .long (lI x)), (4, .long (lI y)), (8, .long (lI low)), (10, .long (lI high))] dX12_last_60 (by decide) rfl ?_
            refine ch_Glv (lv' := [(0, .ref (lo + 17)), (1, .int (iI (s : Int))), (2, .long (lI x)), (4, .long (lI y)), (8, .long (lI low)), (10, .long (lI high)), (12, .long (lI ((((low + high) + 1).tdiv 2) - 1)))]) [1, 2, 3, 4, 5, 6, 0] rfl ?_
            exact J62 (by omega) _ (by omega) (by omega)
  refine gx_lload 4 dX12_last_0 rfl ?_
  refine gx_lstore [(8, .long (lI fr)), (0, .ref (lo + 17)), (1, .int (iI (s : Int))), (2, .long (lI x)), (4, .long (lI y)), (6, .long (lI fr))] dX12_last_2 (by decide) rfl ?_
  refine gx_lload 5 dX12_last_4 rfl ?_
  refine gx_ldc2 (lI 20001) (by rw [show lI 20001 = (20001 : Int64) by decide]; exact mw_3_120) dX12_last_6 ?_
  refine gy_ladd dX12_last_9 ?_
  refine gx_lstore [(10, .long (lI (fr + 20001))), (8, .long (lI fr)), (0, .ref (lo + 17)), (1, .int (iI (s : Int))), (2, .long (lI x)), (4, .long (lI y)), (6, .long (lI fr))] dX12_last_10 (by decide) rfl ?_
  refine ch_Glv (lv' := [(0, .ref (lo + 17)), (1, .int (iI (s : Int))), (2, .long (lI x)), (4, .long (lI y)), (8, .long (lI fr)), (10, .long (lI (fr + 20001)))]) [2, 3, 4, 5, 1, 0] rfl ?_
  exact loop 20002 fr (fr + 20001) (by omega) (by omega) (by omega) (by omega) h0 (fun m q1 q2 => by omega)
def wiR (ff fl : Nat → Int) (a b : Int) : Nat → Int
  | 0 => 0
  | k + 1 => wiR ff fl a b k + (if max (ff k) a ≤ min (fl k) b then min (fl k) b - max (ff k) a + 1 else 0)
set_option maxHeartbeats 4000000 in
set_option maxRecDepth 100000 in
theorem c_X12_within (l : Launch) (D : va_G) (cI cL cR : ClassId) (lo : Nat) (h : ch_H) (hi : Nat) (Kf Nf Wf fz : Nat → Int) (n : Nat) (c : Int) (FB : Nat → Int64) (fh ff fl : Nat → Int) (hc sc : Int) (MM : mmP cI cL lo h Kf Nf Wf fz n c FB fh ff fl hc sc) (hsc : 0 ≤ sc ∧ sc ≤ 100) (hb1 : ∀ j : Nat, (j : Int) < sc → (-1000000 ≤ ff j ∧ ff j ≤ 1000000) ∧ (-1000000 ≤ fl j ∧ fl j ≤ 1000000)) (a b : Int) (ha : ir a) (hb : ir b) : ch_C l (eE D cI cL cR lo) M_X12_within (rM 1 0 0) [.ref (lo + 17), .int (iI a), .int (iI b)] h hi (fun r0 h2 hi2 => r0 = some (.long (lI (wiR ff fl a b sc.toNat))) ∧ h = h2 ∧ hi = hi2) := by
  refine ch_C.of rfl (Nat.le_of_ble_eq_true rfl) ?_
  have MM0 := MM
  obtain ⟨M0, M1, M2, M3, M4, M5, M6, M7, M8⟩ := MM
  have loop : ∀ (m : Nat) (z acc : Int), (0 ≤ z) → (z ≤ sc) → (sc + 1 ≤ z + m) → (acc = wiR ff fl a b z.toNat) → ch_G l (eE D cI cL cR lo) M_X12_within ch_T (rM 1 0 0) (ch_Z (eE D cI cL cR lo) 0 0 (fun r0 h2 hi2 => r0 = some (.long (lI (wiR ff fl a b sc.toNat))) ∧ h = h2 ∧ hi = hi2)) 0 0 h hi 5 [(0, .ref (lo + 17)), (1, .int (iI a)), (2, .int (iI b)), (3, .long (lI acc)), (5, .int (iI z))] [] := by
    intro m
    induction m with
    | zero => intro z acc hz0 hz1 hm hacc; exfalso; omega
    | succ m ih =>
      intro z acc hz0 hz1 hm hacc
      refine gx_iload 4 dX12_within_5 rfl ?_
      refine gx_aload_n 0 dX12_within_7 rfl rfl ?_
      refine gx_get (ci := 11) (f := 11) (C := RX12) (T := TX12) (N := 12) rfl inX12 (by decide) mw_3_12 dX12_within_8 M0 rfl ?_
      refine gy_icmp_ge 66 dX12_within_11 (by decide) (by constructor <;> omega) (by constructor <;> omega) (fun c11 => ?_) (fun c11 => ?_)
      · refine gx_lload_n 3 dX12_within_66 rfl rfl ?_
        refine gx_lret rfl dX12_within_67 (by first | exact Nat.le_of_ble_eq_true rfl | (simp only [rM]; omega)) (by first | exact Nat.le_of_ble_eq_true rfl | (simp only [rM]; omega)) ?_
        exact ⟨by rw [hacc, show z.toNat = sc.toNat by omega], rfl, rfl⟩
      · have hfa := hb1 z.toNat (by omega)
        refine gx_aload_n 0 dX12_within_14 rfl rfl ?_
        refine gx_get (ci := 11) (f := 9) (C := RX12) (T := TX12) (N := 12) rfl inX12 (by decide) mw_3_10 dX12_within_15 M0 rfl ?_
        refine gx_iload 4 dX12_within_18 rfl ?_
        refine gy_lald dX12_within_20 M7 (by omega) (by omega) (by decide) ?_
        refine gx_iload_n 1 dX12_within_21 rfl rfl ?_
        refine gy_i2l dX12_within_22 (by constructor <;> omega) ?_
        refine gy_lmax mw_3_138 mw_3_139 mw_1_14 mw_3_140 dX12_within_23 (by decide) (Nat.le_of_ble_eq_true rfl) (by decide) (by decide) (by constructor <;> omega) (by constructor <;> omega) ?_
        refine gx_lstore [(6, .long (lI (max (ff z.toNat) a))), (0, .ref (lo + 17)), (1, .int (iI a)), (2, .int (iI b)), (3, .long (lI acc)), (5, .int (iI z))] dX12_within_26 (by decide) rfl ?_
        refine gx_aload_n 1 dX12_within_28 rfl rfl ?_
        refine gx_get (ci := 11) (f := 10) (C := RX12) (T := TX12) (N := 12) rfl inX12 (by decide) mw_3_11 dX12_within_29 M0 rfl ?_
        refine gx_iload 5 dX12_within_32 rfl ?_
        refine gy_lald dX12_within_34 M8 (by omega) (by omega) (by decide) ?_
        refine gx_iload_n 3 dX12_within_35 rfl rfl ?_
        refine gy_i2l dX12_within_36 (by constructor <;> omega) ?_
        refine gy_lmin mw_3_141 mw_3_142 mw_1_14 mw_3_143 dX12_within_37 (by decide) (Nat.le_of_ble_eq_true rfl) (by decide) (by decide) (by constructor <;> omega) (by constructor <;> omega) ?_
        refine gx_lstore [(8, .long (lI (min (fl z.toNat) b))), (6, .long (lI (max (ff z.toNat) a))), (0, .ref (lo + 17)), (1, .int (iI a)), (2, .int (iI b)), (3, .long (lI acc)), (5, .int (iI z))] dX12_within_40 (by decide) rfl ?_
        refine gx_lload 0 dX12_within_42 rfl ?_
        refine gx_lload 1 dX12_within_44 rfl ?_
        refine gy_lcmp_lt 60 dX12_within_46 dX12_within_47 (by decide) (by constructor <;> omega) (by constructor <;> omega) (fun c46 => ?_) (fun c46 => ?_)
        · refine gy_iinc 6 [(5, .int (iI (z + 1))), (8, .long (lI (min (fl z.toNat) b))), (6, .long (lI (max (ff z.toNat) a))), (0, .ref (lo + 17)), (1, .int (iI a)), (2, .int (iI b)), (3, .long (lI acc))] dX12_within_60 rfl (by decide) rfl ?_
          refine gx_goto 5 dX12_within_63 (by decide) ?_
          refine ch_Glv (lv' := [(0, .ref (lo + 17)), (1, .int (iI a)), (2, .int (iI b)), (3, .long (lI acc)), (5, .int (iI (z + 1)))]) [3, 4, 5, 6, 0] rfl ?_
          exact ih _ _ (by omega) (by omega) (by omega) (by rw [show (z + 1).toNat = z.toNat + 1 by omega, wiR, ← hacc]; rw [if_neg (by omega)]; omega)
        · refine gx_lload_n 5 dX12_within_50 rfl rfl ?_
          refine gx_lload 0 dX12_within_51 rfl ?_
          refine gx_lload 1 dX12_within_53 rfl ?_
          refine gy_lsub dX12_within_55 ?_
          refine gx_lconst (lI 1) dX12_within_56 rfl ?_
          refine gy_ladd dX12_within_57 ?_
          refine gy_ladd dX12_within_58 ?_
          refine gx_lstore_n [(3, .long (lI (acc + (((min (fl z.toNat) b) - (max (ff z.toNat) a)) + 1)))), (8, .long (lI (min (fl z.toNat) b))), (6, .long (lI (max (ff z.toNat) a))), (0, .ref (lo + 17)), (1, .int (iI a)), (2, .int (iI b)), (5, .int (iI z))] dX12_within_59 rfl (by decide) rfl ?_
          refine gy_iinc 6 [(5, .int (iI (z + 1))), (3, .long (lI (acc + (((min (fl z.toNat) b) - (max (ff z.toNat) a)) + 1)))), (8, .long (lI (min (fl z.toNat) b))), (6, .long (lI (max (ff z.toNat) a))), (0, .ref (lo + 17)), (1, .int (iI a)), (2, .int (iI b))] dX12_within_60 rfl (by decide) rfl ?_
          refine gx_goto 5 dX12_within_63 (by decide) ?_
          refine ch_Glv (lv' := [(0, .ref (lo + 17)), (1, .int (iI a)), (2, .int (iI b)), (3, .long (lI (acc + (((min (fl z.toNat) b) - (max (ff z.toNat) a)) + 1)))), (5, .int (iI (z + 1)))]) [4, 5, 6, 1, 0] rfl ?_
          exact ih _ _ (by omega) (by omega) (by omega) (by rw [show (z + 1).toNat = z.toNat + 1 by omega, wiR, ← hacc]; rw [if_pos (by omega)])
  refine gx_lconst (lI 0) dX12_within_0 rfl ?_
  refine gx_lstore_n [(3, .long (lI 0)), (0, .ref (lo + 17)), (1, .int (iI a)), (2, .int (iI b))] dX12_within_1 rfl (by decide) rfl ?_
  refine gx_iconst (iI 0) dX12_within_2 rfl ?_
  refine gx_istore [(5, .int (iI 0)), (3, .long (lI 0)), (0, .ref (lo + 17)), (1, .int (iI a)), (2, .int (iI b))] dX12_within_3 (by decide) rfl ?_
  refine ch_Glv (lv' := [(0, .ref (lo + 17)), (1, .int (iI a)), (2, .int (iI b)), (3, .long (lI 0)), (5, .int (iI 0))]) [2, 3, 4, 1, 0] rfl ?_
  exact loop 101 0 0 (by omega) (by omega) (by omega) rfl
/-- a row with its entries from i on one further, up to k -/
def shf (p : Nat → Int) (k i : Nat) : Nat → Int := fun j => if j ≤ i then p j else if j ≤ k then p (j - 1) else p j
theorem shf_0 (p : Nat → Int) (k : Nat) : shf p k k = p := by
  funext j
  unfold shf
  by_cases h : j ≤ k
  · rw [if_pos h]
  · rw [if_neg h, if_neg h]
theorem shf_s (p : Nat → Int) {k i : Nat} (h0 : 0 < i) (h1 : i ≤ k) : updI (shf p k i) i (shf p k i (i - 1)) = shf p k (i - 1) := by
  funext j
  unfold updI shf
  by_cases q : j = i
  · rw [if_pos q, if_pos (by omega), if_neg (by omega), if_pos (by omega), q]
  · rw [if_neg q]
    by_cases q2 : j ≤ i
    · rw [if_pos q2, if_pos (by omega)]
    · rw [if_neg q2, if_neg (show ¬ j ≤ i - 1 by omega)]
def srt (p : Nat → Int) (k : Nat) : Prop := ∀ i j, i ≤ j → j < k → p i ≤ p j
def sam (p q : Nat → Int) (m : Nat) : Prop := ∀ v, (∃ i, i < m ∧ p i = v) ↔ ∃ i, i < m ∧ q i = v
theorem ins_ok {p : Nat → Int} {k i m : Nat} (hs : srt p k) (hm : k < m) (hi : i ≤ k) (h1 : i = 0 ∨ p (i - 1) ≤ p k) (h2 : ∀ j, i ≤ j → j < k → p k < p j) : srt (updI (shf p k i) i (p k)) (k + 1) ∧ sam (updI (shf p k i) i (p k)) p m := by
  have v1 : ∀ j, j < i → updI (shf p k i) i (p k) j = p j := fun j h => by rw [updI_n (by omega)]; unfold shf; rw [if_pos (by omega)]
  have v2 : updI (shf p k i) i (p k) i = p k := updI_s
  have v3 : ∀ j, i < j → j ≤ k → updI (shf p k i) i (p k) j = p (j - 1) := fun j h h' => by rw [updI_n (by omega)]; unfold shf; rw [if_neg (by omega), if_pos h']
  have v4 : ∀ j, k < j → updI (shf p k i) i (p k) j = p j := fun j h => by rw [updI_n (by omega)]; unfold shf; rw [if_neg (by omega), if_neg (by omega)]
  constructor
  · intro a b hab hb
    by_cases qb : b < i
    · rw [v1 b qb, v1 a (by omega)]; exact hs a b hab (by omega)
    by_cases qb2 : b = i
    · rw [qb2, v2]
      by_cases qa : a = i
      · rw [qa, v2]; exact Int.le_refl _
      · rw [v1 a (by omega)]
        rcases h1 with h1 | h1
        · omega
        · exact Int.le_trans (hs a (i - 1) (by omega) (by omega)) h1
    · rw [v3 b (by omega) (by omega)]
      by_cases qa : a < i
      · rw [v1 a qa]; exact hs a (b - 1) (by omega) (by omega)
      by_cases qa2 : a = i
      · rw [qa2, v2]; exact Int.le_of_lt (h2 (b - 1) (by omega) (by omega))
      · rw [v3 a (by omega) (by omega)]; exact hs (a - 1) (b - 1) (by omega) (by omega)
  · intro v
    constructor
    · rintro ⟨j, hj, e⟩
      by_cases q1 : j < i
      · exact ⟨j, hj, by rw [← e, v1 j q1]⟩
      by_cases q2 : j = i
      · exact ⟨k, hm, by rw [← e, q2, v2]⟩
      by_cases q3 : j ≤ k
      · exact ⟨j - 1, by omega, by rw [← e, v3 j (by omega) q3]⟩
      · exact ⟨j, hj, by rw [← e, v4 j (by omega)]⟩
    · rintro ⟨j, hj, e⟩
      by_cases q1 : j < i
      · exact ⟨j, hj, by rw [← e, v1 j q1]⟩
      by_cases q2 : j < k
      · exact ⟨j + 1, by omega, by rw [← e, v3 (j + 1) (by omega) (by omega)]; rfl⟩
      by_cases q3 : j = k
      · exact ⟨i, by omega, by rw [← e, q3, v2]⟩
      · exact ⟨j, hj, by rw [← e, v4 j (by omega)]⟩
set_option maxHeartbeats 4000000 in
set_option maxRecDepth 100000 in
theorem c_X12_sort (l : Launch) (D : va_G) (cI cL cR : ClassId) (lo : Nat) (h : ch_H) (hi : Nat) (Kf Nf Wf fz : Nat → Int) (n : Nat) (c : Int) (FB : Nat → Int64) (fh ff fl : Nat → Int) (hc sc : Int) (MM : mmP cI cL lo h Kf Nf Wf fz n c FB fh ff fl hc sc) (hhc : 0 ≤ hc ∧ hc ≤ 200) (hbd : ∀ j : Nat, (j : Int) < hc → -1000000 ≤ fh j ∧ fh j ≤ 1000000) : ch_C l (eE D cI cL cR lo) M_X12_sort (rM 0 0 0) [.ref (lo + 17)] h hi (fun r0 h2 hi2 => r0 = none ∧ (∃ fh2, mmP cI cL lo h2 Kf Nf Wf fz n c FB fh2 ff fl hc sc ∧ srt fh2 hc.toNat ∧ sam fh2 fh hc.toNat) ∧ mfr lo h h2 ∧ hi = hi2) := by
  refine ch_C.of rfl (Nat.le_of_ble_eq_true rfl) ?_
  have MM0 := MM
  obtain ⟨M0, M1, M2, M3, M4, M5, M6, M7, M8⟩ := MM
  have loop : ∀ (m : Nat) (z : Int) (p : Nat → Int) (hh : ch_H), (1 ≤ z) → (z ≤ 201) → (202 ≤ z + m) → (srt p z.toNat) → (sam p fh hc.toNat) → (hh (lo + 17) = some (.inr (11, [.ref (lo + 18), .ref (lo + 19), .ref (lo + 20), .int (iI (n : Int)), .ref (lo + 21), .int (iI c), .ref (lo + 22), .ref (lo + 23), .int (iI hc), .ref (lo + 24), .ref (lo + 25), .int (iI sc)]))) → (hh (lo + 18) = some (aI cI 61 Kf)) → (hh (lo + 19) = some (aI cI 366 Nf)) → (hh (lo + 20) = some (aI cI 61 Wf)) → (hh (lo + 21) = some (aI cI 6 fz)) → (hh (lo + 22) = some (.inl (cL, 1632, .inr (.inl FB)))) → (hh (lo + 23) = some (aL cL 200 p)) → (hh (lo + 24) = some (aL cL 101 ff)) → (hh (lo + 25) = some (aL cL 101 fl)) → (mfr lo h hh) → ch_G l (eE D cI cL cR lo) M_X12_sort ch_T (rM 0 0 0) (ch_Z (eE D cI cL cR lo) 0 0 (fun r0 h2 hi2 => r0 = none ∧ (∃ fh2, mmP cI cL lo h2 Kf Nf Wf fz n c FB fh2 ff fl hc sc ∧ srt fh2 hc.toNat ∧ sam fh2 fh hc.toNat) ∧ mfr lo h h2 ∧ hi = hi2)) 0 0 hh hi 2 [(0, .ref (lo + 17)), (1, .int (iI z))] [] := by
    intro m
    induction m with
    | zero => intro z p hh z0 z1 zm hsr hsm V0 V1 V2 V3 V4 V5 V6 V7 V8 mf; exfalso; omega
    | succ m ih =>
      intro z p hh z0 z1 zm hsr hsm V0 V1 V2 V3 V4 V5 V6 V7 V8 mf
      have hbp : ∀ j : Nat, (j : Int) < hc → -1000000 ≤ p j ∧ p j ≤ 1000000 := fun j hj => by obtain ⟨i, q1, q2⟩ := (hsm (p j)).mp ⟨j, by omega, rfl⟩; rw [← q2]; exact hbd i (by omega)
      refine gx_iload_n 1 dX12_sort_2 rfl rfl ?_
      refine gx_aload_n 0 dX12_sort_3 rfl rfl ?_
      refine gx_get (ci := 11) (f := 8) (C := RX12) (T := TX12) (N := 12) rfl inX12 (by decide) mw_3_9 dX12_sort_4 V0 rfl ?_
      refine gy_icmp_ge 75 dX12_sort_7 (by decide) (by constructor <;> omega) (by constructor <;> omega) (fun c7 => ?_) (fun c7 => ?_)
      · refine gx_vret rfl dX12_sort_75 (by first | exact Nat.le_of_ble_eq_true rfl | (simp only [rM]; omega)) (by first | exact Nat.le_of_ble_eq_true rfl | (simp only [rM]; omega)) ?_
        exact ⟨rfl, ⟨p, ⟨V0, V1, V2, V3, V4, V5, V6, V7, V8⟩, fun a b h1 h2 => hsr a b h1 (by omega), hsm⟩, mf, rfl⟩
      · refine gx_aload_n 0 dX12_sort_10 rfl rfl ?_
        refine gx_get (ci := 11) (f := 7) (C := RX12) (T := TX12) (N := 12) rfl inX12 (by decide) mw_3_8 dX12_sort_11 V0 rfl ?_
        refine gx_iload_n 1 dX12_sort_14 rfl rfl ?_
        refine gy_lald dX12_sort_15 V6 (by omega) (by omega) (by decide) ?_
        refine gx_lstore_n [(2, .long (lI (p z.toNat))), (0, .ref (lo + 17)), (1, .int (iI z))] dX12_sort_16 rfl (by decide) rfl ?_
        refine gx_iload_n 2 dX12_sort_17 rfl rfl ?_
        refine gx_istore [(4, .int (iI z)), (2, .long (lI (p z.toNat))), (0, .ref (lo + 17)), (1, .int (iI z))] dX12_sort_18 (by decide) rfl ?_
        refine ch_Glv (lv' := [(0, .ref (lo + 17)), (1, .int (iI z)), (2, .long (lI (p z.toNat))), (4, .int (iI z))]) [2, 3, 1, 0] rfl ?_
        have hzp := hbp z.toNat (by omega)
        have inn : ∀ (mi : Nat) (i : Int) (hh : ch_H), (0 ≤ i) → (i ≤ z) → (i < mi) → (∀ j : Nat, i.toNat ≤ j → j < z.toNat → p z.toNat < p j) → (hh (lo + 17) = some (.inr (11, [.ref (lo + 18), .ref (lo + 19), .ref (lo + 20), .int (iI (n : Int)), .ref (lo + 21), .int (iI c), .ref (lo + 22), .ref (lo + 23), .int (iI hc), .ref (lo + 24), .ref (lo + 25), .int (iI sc)]))) → (hh (lo + 18) = some (aI cI 61 Kf)) → (hh (lo + 19) = some (aI cI 366 Nf)) → (hh (lo + 20) = some (aI cI 61 Wf)) → (hh (lo + 21) = some (aI cI 6 fz)) → (hh (lo + 22) = some (.inl (cL, 1632, .inr (.inl FB)))) → (hh (lo + 23) = some (aL cL 200 (shf p z.toNat i.toNat))) → (hh (lo + 24) = some (aL cL 101 ff)) → (hh (lo + 25) = some (aL cL 101 fl)) → (mfr lo h hh) → ch_G l (eE D cI cL cR lo) M_X12_sort ch_T (rM 0 0 0) (ch_Z (eE D cI cL cR lo) 0 0 (fun r0 h2 hi2 => r0 = none ∧ (∃ fh2, mmP cI cL lo h2 Kf Nf Wf fz n c FB fh2 ff fl hc sc ∧ srt fh2 hc.toNat ∧ sam fh2 fh hc.toNat) ∧ mfr lo h h2 ∧ hi = hi2)) 0 0 hh hi 20 [(0, .ref (lo + 17)), (1, .int (iI z)), (2, .long (lI (p z.toNat))), (4, .int (iI i))] [] := by
          intro mi
          induction mi with
          | zero => intro i hh i0 i1 im hgt U0 U1 U2 U3 U4 U5 U6 U7 U8 mf; exfalso; omega
          | succ mi ihi =>
            intro i hh i0 i1 im hgt U0 U1 U2 U3 U4 U5 U6 U7 U8 mf
            refine gx_iload 3 dX12_sort_20 rfl ?_
            refine gy_if_le 61 dX12_sort_22 (by decide) (by constructor <;> omega) (fun c22 => ?_) (fun c22 => ?_)
            · refine gx_aload_n 0 dX12_sort_61 rfl rfl ?_
              refine gx_get (ci := 11) (f := 7) (C := RX12) (T := TX12) (N := 12) rfl inX12 (by decide) mw_3_8 dX12_sort_62 U0 rfl ?_
              refine gx_iload 3 dX12_sort_65 rfl ?_
              refine gx_lload_n 2 dX12_sort_67 rfl rfl ?_
              refine gy_last dX12_sort_68 U6 (by omega) (by omega) (by decide) (fun hi1 ehi1 => ?_)
              have ki2 : hi1 (lo + 17) = some (.inr (11, [.ref (lo + 18), .ref (lo + 19), .ref (lo + 20), .int (iI (n : Int)), .ref (lo + 21), .int (iI c), .ref (lo + 22), .ref (lo + 23), .int (iI hc), .ref (lo + 24), .ref (lo + 25), .int (iI sc)])) := by rw [ehi1, ch_set_ne (by first | assumption | exact Ne.symm (by assumption) | omega)]; exact U0
              have ki3 : hi1 (lo + 18) = some (aI cI 61 Kf) := by rw [ehi1, ch_set_ne (by first | assumption | exact Ne.symm (by assumption) | omega)]; exact U1
              have ki4 : hi1 (lo + 19) = some (aI cI 366 Nf) := by rw [ehi1, ch_set_ne (by first | assumption | exact Ne.symm (by assumption) | omega)]; exact U2
              have ki5 : hi1 (lo + 20) = some (aI cI 61 Wf) := by rw [ehi1, ch_set_ne (by first | assumption | exact Ne.symm (by assumption) | omega)]; exact U3
              have ki6 : hi1 (lo + 21) = some (aI cI 6 fz) := by rw [ehi1, ch_set_ne (by first | assumption | exact Ne.symm (by assumption) | omega)]; exact U4
              have ki7 : hi1 (lo + 22) = some (.inl (cL, 1632, .inr (.inl FB))) := by rw [ehi1, ch_set_ne (by first | assumption | exact Ne.symm (by assumption) | omega)]; exact U5
              have ki8 : hi1 (lo + 24) = some (aL cL 101 ff) := by rw [ehi1, ch_set_ne (by first | assumption | exact Ne.symm (by assumption) | omega)]; exact U7
              have ki9 : hi1 (lo + 25) = some (aL cL 101 fl) := by rw [ehi1, ch_set_ne (by first | assumption | exact Ne.symm (by assumption) | omega)]; exact U8
              have ki10 : hi1 (lo + 23) = some (aL cL 200 (updI (shf p z.toNat i.toNat) i.toNat (p z.toNat))) := by rw [ehi1]; exact ch_set_self
              refine gy_iinc 1 [(1, .int (iI (z + 1))), (0, .ref (lo + 17)), (2, .long (lI (p z.toNat))), (4, .int (iI i))] dX12_sort_69 rfl (by decide) rfl ?_
              refine gx_goto 2 dX12_sort_72 (by decide) ?_
              refine ch_Glv (lv' := [(0, .ref (lo + 17)), (1, .int (iI (z + 1)))]) [1, 0] rfl ?_
              have ik := ins_ok (m := hc.toNat) hsr (by omega) (show i.toNat ≤ z.toNat by omega) (Or.inl (by omega)) (fun j j1 j2 => hgt j j1 j2)
              exact ih _ _ _ (by omega) (by omega) (by omega) (by rw [show (z + 1).toNat = z.toNat + 1 by omega]; exact ik.1) (fun v => (ik.2 v).trans (hsm v)) ki2 ki3 ki4 ki5 ki6 ki7 ki10 ki8 ki9 (fun b hb => by rw [ehi1, ch_set_ne (by omega)]; exact mf b hb)
            · have hpi := hbp (i - 1).toNat (by omega)
              refine gx_aload_n 0 dX12_sort_25 rfl rfl ?_
              refine gx_get (ci := 11) (f := 7) (C := RX12) (T := TX12) (N := 12) rfl inX12 (by decide) mw_3_8 dX12_sort_26 U0 rfl ?_
              refine gx_iload 3 dX12_sort_29 rfl ?_
              refine gx_iconst (iI 1) dX12_sort_31 rfl ?_
              refine gy_isub dX12_sort_32 ?_
              refine gy_lald dX12_sort_33 U6 (by omega) (by omega) (by decide) ?_
              refine ch_Gst (st2 := [.long (lI (p (i - 1).toNat))]) (by rw [show shf p z.toNat i.toNat (i - 1).toNat = p (i - 1).toNat by unfold shf; rw [if_pos (by omega)]]; try rfl) ?_
              refine gx_lload_n 2 dX12_sort_34 rfl rfl ?_
              refine gy_lcmp_le 61 dX12_sort_35 dX12_sort_36 (by decide) (by constructor <;> omega) (by constructor <;> omega) (fun c35 => ?_) (fun c35 => ?_)
              · refine gx_aload_n 0 dX12_sort_61 rfl rfl ?_
                refine gx_get (ci := 11) (f := 7) (C := RX12) (T := TX12) (N := 12) rfl inX12 (by decide) mw_3_8 dX12_sort_62 U0 rfl ?_
                refine gx_iload 3 dX12_sort_65 rfl ?_
                refine gx_lload_n 2 dX12_sort_67 rfl rfl ?_
                refine gy_last dX12_sort_68 U6 (by omega) (by omega) (by decide) (fun hi11 ehi11 => ?_)
                have ki12 : hi11 (lo + 17) = some (.inr (11, [.ref (lo + 18), .ref (lo + 19), .ref (lo + 20), .int (iI (n : Int)), .ref (lo + 21), .int (iI c), .ref (lo + 22), .ref (lo + 23), .int (iI hc), .ref (lo + 24), .ref (lo + 25), .int (iI sc)])) := by rw [ehi11, ch_set_ne (by first | assumption | exact Ne.symm (by assumption) | omega)]; exact U0
                have ki13 : hi11 (lo + 18) = some (aI cI 61 Kf) := by rw [ehi11, ch_set_ne (by first | assumption | exact Ne.symm (by assumption) | omega)]; exact U1
                have ki14 : hi11 (lo + 19) = some (aI cI 366 Nf) := by rw [ehi11, ch_set_ne (by first | assumption | exact Ne.symm (by assumption) | omega)]; exact U2
                have ki15 : hi11 (lo + 20) = some (aI cI 61 Wf) := by rw [ehi11, ch_set_ne (by first | assumption | exact Ne.symm (by assumption) | omega)]; exact U3
                have ki16 : hi11 (lo + 21) = some (aI cI 6 fz) := by rw [ehi11, ch_set_ne (by first | assumption | exact Ne.symm (by assumption) | omega)]; exact U4
                have ki17 : hi11 (lo + 22) = some (.inl (cL, 1632, .inr (.inl FB))) := by rw [ehi11, ch_set_ne (by first | assumption | exact Ne.symm (by assumption) | omega)]; exact U5
                have ki18 : hi11 (lo + 24) = some (aL cL 101 ff) := by rw [ehi11, ch_set_ne (by first | assumption | exact Ne.symm (by assumption) | omega)]; exact U7
                have ki19 : hi11 (lo + 25) = some (aL cL 101 fl) := by rw [ehi11, ch_set_ne (by first | assumption | exact Ne.symm (by assumption) | omega)]; exact U8
                have ki20 : hi11 (lo + 23) = some (aL cL 200 (updI (shf p z.toNat i.toNat) i.toNat (p z.toNat))) := by rw [ehi11]; exact ch_set_self
                refine gy_iinc 1 [(1, .int (iI (z + 1))), (0, .ref (lo + 17)), (2, .long (lI (p z.toNat))), (4, .int (iI i))] dX12_sort_69 rfl (by decide) rfl ?_
                refine gx_goto 2 dX12_sort_72 (by decide) ?_
                refine ch_Glv (lv' := [(0, .ref (lo + 17)), (1, .int (iI (z + 1)))]) [1, 0] rfl ?_
                have ik := ins_ok (m := hc.toNat) hsr (by omega) (show i.toNat ≤ z.toNat by omega) (Or.inr (by rw [show i.toNat - 1 = (i - 1).toNat by omega]; omega)) (fun j j1 j2 => hgt j j1 j2)
                exact ih _ _ _ (by omega) (by omega) (by omega) (by rw [show (z + 1).toNat = z.toNat + 1 by omega]; exact ik.1) (fun v => (ik.2 v).trans (hsm v)) ki12 ki13 ki14 ki15 ki16 ki17 ki20 ki18 ki19 (fun b hb => by rw [ehi11, ch_set_ne (by omega)]; exact mf b hb)
              · refine gx_aload_n 0 dX12_sort_39 rfl rfl ?_
                refine gx_get (ci := 11) (f := 7) (C := RX12) (T := TX12) (N := 12) rfl inX12 (by decide) mw_3_8 dX12_sort_40 U0 rfl ?_
                refine gx_iload 3 dX12_sort_43 rfl ?_
                refine gx_aload_n 0 dX12_sort_45 rfl rfl ?_
                refine gx_get (ci := 11) (f := 7) (C := RX12) (T := TX12) (N := 12) rfl inX12 (by decide) mw_3_8 dX12_sort_46 U0 rfl ?_
                refine gx_iload 3 dX12_sort_49 rfl ?_
                refine gx_iconst (iI 1) dX12_sort_51 rfl ?_
                refine gy_isub dX12_sort_52 ?_
                refine gy_lald dX12_sort_53 U6 (by omega) (by omega) (by decide) ?_
                refine ch_Gst (st2 := [.long (lI (p (i - 1).toNat)), .int (iI i), .ref (lo + 23)]) (by rw [show shf p z.toNat i.toNat (i - 1).toNat = p (i - 1).toNat by unfold shf; rw [if_pos (by omega)]]; try rfl) ?_
                refine gy_last dX12_sort_54 U6 (by omega) (by omega) (by decide) (fun hi21 ehi21 => ?_)
                have ki22 : hi21 (lo + 17) = some (.inr (11, [.ref (lo + 18), .ref (lo + 19), .ref (lo + 20), .int (iI (n : Int)), .ref (lo + 21), .int (iI c), .ref (lo + 22), .ref (lo + 23), .int (iI hc), .ref (lo + 24), .ref (lo + 25), .int (iI sc)])) := by rw [ehi21, ch_set_ne (by first | assumption | exact Ne.symm (by assumption) | omega)]; exact U0
                have ki23 : hi21 (lo + 18) = some (aI cI 61 Kf) := by rw [ehi21, ch_set_ne (by first | assumption | exact Ne.symm (by assumption) | omega)]; exact U1
                have ki24 : hi21 (lo + 19) = some (aI cI 366 Nf) := by rw [ehi21, ch_set_ne (by first | assumption | exact Ne.symm (by assumption) | omega)]; exact U2
                have ki25 : hi21 (lo + 20) = some (aI cI 61 Wf) := by rw [ehi21, ch_set_ne (by first | assumption | exact Ne.symm (by assumption) | omega)]; exact U3
                have ki26 : hi21 (lo + 21) = some (aI cI 6 fz) := by rw [ehi21, ch_set_ne (by first | assumption | exact Ne.symm (by assumption) | omega)]; exact U4
                have ki27 : hi21 (lo + 22) = some (.inl (cL, 1632, .inr (.inl FB))) := by rw [ehi21, ch_set_ne (by first | assumption | exact Ne.symm (by assumption) | omega)]; exact U5
                have ki28 : hi21 (lo + 24) = some (aL cL 101 ff) := by rw [ehi21, ch_set_ne (by first | assumption | exact Ne.symm (by assumption) | omega)]; exact U7
                have ki29 : hi21 (lo + 25) = some (aL cL 101 fl) := by rw [ehi21, ch_set_ne (by first | assumption | exact Ne.symm (by assumption) | omega)]; exact U8
                have ki30 : hi21 (lo + 23) = some (aL cL 200 (updI (shf p z.toNat i.toNat) i.toNat (p (i - 1).toNat))) := by rw [ehi21]; exact ch_set_self
                refine gy_iinc 3 [(4, .int (iI (i + (-1)))), (0, .ref (lo + 17)), (1, .int (iI z)), (2, .long (lI (p z.toNat)))] dX12_sort_55 rfl (by decide) rfl ?_
                refine gx_goto 20 dX12_sort_58 (by decide) ?_
                refine ch_Glv (lv' := [(0, .ref (lo + 17)), (1, .int (iI z)), (2, .long (lI (p z.toNat))), (4, .int (iI (i + (-1))))]) [1, 2, 3, 0] rfl ?_
                have e : updI (shf p z.toNat i.toNat) i.toNat (p (i - 1).toNat) = shf p z.toNat (i + (-1)).toNat := by
                  have q := shf_s p (k := z.toNat) (i := i.toNat) (by omega) (by omega)
                  rw [show shf p z.toNat i.toNat (i.toNat - 1) = p (i - 1).toNat by unfold shf; rw [if_pos (by omega)]; congr 1; omega] at q
                  rw [q]; congr 1; omega
                have t6 := ki30
                rw [e] at t6
                have hg2 : ∀ j : Nat, (i + (-1)).toNat ≤ j → j < z.toNat → p z.toNat < p j := by
                  intro j j1 j2
                  by_cases qj : j = (i - 1).toNat
                  · rw [qj]; omega
                  · exact hgt j (by omega) j2
                exact ihi _ _ (by omega) (by omega) (by omega) hg2 ki22 ki23 ki24 ki25 ki26 ki27 t6 ki28 ki29 (fun b hb => by rw [ehi21, ch_set_ne (by omega)]; exact mf b hb)
        exact inn (z.toNat + 1) z _ (by omega) (by omega) (by omega) (fun j j1 j2 => by omega) V0 V1 V2 V3 V4 V5 (by rw [shf_0]; exact V6) V7 V8 (mf)
  refine gx_iconst (iI 1) dX12_sort_0 rfl ?_
  refine gx_istore_n [(1, .int (iI 1)), (0, .ref (lo + 17))] dX12_sort_1 rfl (by decide) rfl ?_
  refine ch_Glv (lv' := [(0, .ref (lo + 17)), (1, .int (iI 1))]) [1, 0] rfl ?_
  exact loop 202 1 fh h (by omega) (by omega) (by omega) (fun a b q1 q2 => by rw [show a = b by omega]; exact Int.le_refl _) (fun v => Iff.rfl) M0 M1 M2 M3 M4 M5 M6 M7 M8 (fun b _ => rfl)
end
