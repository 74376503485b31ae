section
theorem sqI_mono {a b : Int} (h0 : 0 ≤ a) (h : a ≤ b) : sqI a ≤ sqI b := by
  unfold sqI
  exact Int.mul_le_mul h h h0 (Int.le_trans h0 h)
theorem sqI_strict {a b : Int} (h0 : 0 ≤ a) (h : a < b) : sqI a < sqI b := by
  have h1 : sqI (a + 1) ≤ sqI b := sqI_mono (by omega) (by omega)
  have h2 : sqI (a + 1) = sqI a + 2 * a + 1 := by
    unfold sqI
    rw [Int.add_mul, Int.mul_add]
    omega
  omega
theorem sqI_neg (a : Int) : sqI (-a) = sqI a := by unfold sqI; rw [Int.neg_mul_neg]
theorem rtB_spec {v : Int} : ∀ (k : Nat) (low high : Int), 0 ≤ low → low ≤ high → high - low < 2 ^ k → sqI low ≤ v → (∀ w, high < w → v < sqI w) → sqI (rtB v k low high) ≤ v ∧ ∀ w, rtB v k low high < w → v < sqI w := by
  intro k
  induction k with
  | zero =>
    intro low high h0 h1 h2 h3 h4
    rw [rtB]
    refine ⟨h3, fun w hw => h4 w ?_⟩
    have : (2 : Int) ^ 0 = 1 := by decide
    omega
  | succ k ih =>
    intro low high h0 h1 h2 h3 h4
    have hp : (2 : Int) ^ (k + 1) = 2 * 2 ^ k := by rw [Int.pow_succ, Int.mul_comm]
    rw [rtB]
    by_cases hlt : low < high
    · rw [if_pos hlt]
      by_cases hs : sqI (low + (high - low + 1) / 2) ≤ v
      · rw [if_pos hs]
        exact ih _ _ (by omega) (by omega) (by omega) hs h4
      · rw [if_neg hs]
        refine ih _ _ h0 (by omega) (by omega) h3 (fun w hw => ?_)
        have := sqI_mono (a := low + (high - low + 1) / 2) (b := w) (by omega) (by omega)
        omega
    · rw [if_neg hlt]
      exact ⟨h3, fun w hw => h4 w (by omega)⟩
theorem ldB_spec {nd rr : Int} (hr : 0 ≤ rr) : ∀ (k : Nat) (low high : Int), 1 ≤ low → low ≤ high → high - low < 2 ^ k → nd ≤ rr * sqI high → (∀ w, 1 ≤ w → w < low → ¬ nd ≤ rr * sqI w) → nd ≤ rr * sqI (ldB nd rr k low high) ∧ ∀ w, 1 ≤ w → w < ldB nd rr k low high → ¬ nd ≤ rr * sqI w := by
  intro k
  induction k with
  | zero =>
    intro low high h0 h1 h2 h3 h4
    rw [ldB]
    have : (2 : Int) ^ 0 = 1 := by decide
    have e : low = high := by omega
    exact ⟨by rw [e]; exact h3, h4⟩
  | succ k ih =>
    intro low high h0 h1 h2 h3 h4
    have hp : (2 : Int) ^ (k + 1) = 2 * 2 ^ k := by rw [Int.pow_succ, Int.mul_comm]
    rw [ldB]
    by_cases hlt : low < high
    · rw [if_pos hlt]
      by_cases hs : nd ≤ rr * sqI (low + (high - low) / 2)
      · rw [if_pos hs]
        exact ih _ _ h0 (by omega) (by omega) hs h4
      · rw [if_neg hs]
        refine ih _ _ (by omega) (by omega) (by omega) h3 (fun w hw1 hw2 hw3 => ?_)
        have h5 := sqI_mono (a := w) (b := low + (high - low) / 2) (by omega) (by omega)
        have h6 : rr * sqI w ≤ rr * sqI (low + (high - low) / 2) := Int.mul_le_mul_of_nonneg_left h5 hr
        omega
    · rw [if_neg hlt]
      have e : low = high := by omega
      exact ⟨by rw [e]; exact h3, h4⟩
theorem seg_e {a b t : Int} (h : ¬ a < b) : seg (a + t) (b + t) = [] := by unfold seg; rw [if_neg (by omega)]
/-- where last begins -/
def frK (Kf Nf : Nat → Int) (s : Nat) : Int := if Kf s = 1 ∨ Kf s = 3 then Nf (6 * s + 3) else Nf (6 * s + 2)
/-- a kind over a place: one run of z -/
theorem kd {Kf Nf : Nat → Int} {s : Nat} (hk : 0 ≤ Kf s ∧ Kf s ≤ 3) (hN : ∀ k, k < 6 → -5000 ≤ Nf (6 * s + k) ∧ Nf (6 * s + k) ≤ 5000) (hr1 : (Kf s = 1 ∨ Kf s = 3) → 0 ≤ Nf (6 * s + 2)) (hr2 : Kf s = 2 → 0 ≤ Nf (6 * s + 3)) (x y : Int) :
    ∃ a b : Int, (∀ t, ed Kf Nf s x y t = seg (a + t) (b + t)) ∧ (∀ z, ikB Kf Nf s x y z = true ↔ a ≤ z ∧ z < b) ∧ (a < b → a ≤ frK Kf Nf s ∧ frK Kf Nf s < b ∧ b ≤ frK Kf Nf s + 10001 ∧ (Kf s = 2 → a = 2 * frK Kf Nf s - (b - 1)) ∧ (Kf s ≠ 2 → a = frK Kf Nf s)) := by
  have n0 : -5000 ≤ Nf (6 * s) ∧ Nf (6 * s) ≤ 5000 := hN 0 (by omega)
  have n1 := hN 1 (by omega)
  have n2 := hN 2 (by omega)
  have n3 := hN 3 (by omega)
  have n4 := hN 4 (by omega)
  have n5 := hN 5 (by omega)
  by_cases k0 : Kf s = 0
  · have ef : frK Kf Nf s = Nf (6 * s + 2) := by unfold frK; rw [if_neg (by omega)]
    by_cases hc : Nf (6 * s) ≤ x ∧ x < Nf (6 * s + 3) ∧ Nf (6 * s + 1) ≤ y ∧ y < Nf (6 * s + 4)
    · refine ⟨Nf (6 * s + 2), Nf (6 * s + 5), fun t => ?_, fun z => ?_, fun h => ?_⟩
      · rw [ed, if_pos k0, bxS, if_pos hc]
      · rw [ikB, if_pos k0, decide_eq_true_iff]; omega
      · rw [ef]; exact ⟨by omega, by omega, by omega, fun q => by omega, fun _ => rfl⟩
    · refine ⟨0, 0, fun t => ?_, fun z => ?_, fun h => by omega⟩
      · rw [ed, if_pos k0, bxS, if_neg hc, seg_e (by omega)]
      · rw [ikB, if_pos k0, decide_eq_true_iff]; omega
  by_cases k1 : Kf s = 1
  · have ef : frK Kf Nf s = Nf (6 * s + 3) := by unfold frK; rw [if_pos (by omega)]
    by_cases hc : sqI (x - Nf (6 * s)) + sqI (y - Nf (6 * s + 1)) ≤ sqI (Nf (6 * s + 2))
    · refine ⟨Nf (6 * s + 3), Nf (6 * s + 4), fun t => ?_, fun z => ?_, fun h => ?_⟩
      · rw [ed, if_neg k0, if_pos k1, poS, if_pos hc]
      · rw [ikB, if_neg k0, if_neg (by omega), decide_eq_true_iff]
        exact ⟨fun q => ⟨q.1, q.2.1⟩, fun q => ⟨q.1, q.2, hc, Or.inl k1⟩⟩
      · rw [ef]; exact ⟨by omega, by omega, by omega, fun q => by omega, fun _ => rfl⟩
    · refine ⟨0, 0, fun t => ?_, fun z => ?_, fun h => by omega⟩
      · rw [ed, if_neg k0, if_pos k1, poS, if_neg hc, seg_e (by omega)]
      · rw [ikB, if_neg k0, if_neg (by omega), decide_eq_true_iff]
        exact ⟨fun q => absurd q.2.2.1 hc, fun q => by omega⟩
  by_cases k2 : Kf s = 2
  · have ef : frK Kf Nf s = Nf (6 * s + 2) := by unfold frK; rw [if_neg (by omega)]
    have h3 := hr2 k2
    obtain ⟨v, ev⟩ : ∃ v, v = sqI (Nf (6 * s + 3)) - sqI (x - Nf (6 * s)) - sqI (y - Nf (6 * s + 1)) := ⟨_, rfl⟩
    by_cases hc : v < 0
    · refine ⟨0, 0, fun t => ?_, fun z => ?_, fun h => by omega⟩
      · rw [ed, if_neg k0, if_neg k1, if_pos k2, baS, ← ev, if_pos hc, seg_e (by omega)]
      · rw [ikB, if_neg k0, if_pos k2, decide_eq_true_iff]
        have := sqI_nn (z - Nf (6 * s + 2))
        omega
    · obtain ⟨k, ek⟩ : ∃ k, k = rtB v 32 0 (Nf (6 * s + 3)) := ⟨_, rfl⟩
      have hb := rtB_in (v := v) 32 0 (Nf (6 * s + 3)) h3
      have q1 := sqI_nn (x - Nf (6 * s))
      have q2 := sqI_nn (y - Nf (6 * s + 1))
      obtain ⟨r1, r2⟩ := rtB_spec (v := v) 32 0 (Nf (6 * s + 3)) (by omega) h3 (by have : (2 : Int) ^ 32 = 4294967296 := by decide
                                                                                   omega) (by have : sqI 0 = 0 := rfl
                                                                                              omega) (fun w hw => by have := sqI_strict (a := Nf (6 * s + 3)) (b := w) h3 hw
                                                                                                                     omega)
      rw [← ek] at r1 r2 hb
      refine ⟨Nf (6 * s + 2) - k, Nf (6 * s + 2) + k + 1, fun t => ?_, fun z => ?_, fun h => ?_⟩
      · rw [ed, if_neg k0, if_neg k1, if_pos k2, baS, ← ev, if_neg hc, ← ek]
      · rw [ikB, if_neg k0, if_pos k2, decide_eq_true_iff]
        have key : sqI (z - Nf (6 * s + 2)) ≤ v ↔ -k ≤ z - Nf (6 * s + 2) ∧ z - Nf (6 * s + 2) ≤ k := by
          constructor
          · intro q
            constructor
            · by_cases h5 : -k ≤ z - Nf (6 * s + 2)
              · exact h5
              · have := r2 (-(z - Nf (6 * s + 2))) (by omega)
                rw [sqI_neg] at this
                omega
            · by_cases h5 : z - Nf (6 * s + 2) ≤ k
              · exact h5
              · have := r2 (z - Nf (6 * s + 2)) (by omega)
                omega
          · intro q
            have : sqI (z - Nf (6 * s + 2)) ≤ sqI k := by
              rcases Int.le_total 0 (z - Nf (6 * s + 2)) with h5 | h5
              · exact sqI_mono h5 q.2
              · rw [← sqI_neg (z - Nf (6 * s + 2))]
                exact sqI_mono (by omega) (by omega)
            omega
        omega
      · rw [ef]; exact ⟨by omega, by omega, by omega, fun _ => by omega, fun q => absurd k2 q⟩
  have k3 : Kf s = 3 := by omega
  have ef : frK Kf Nf s = Nf (6 * s + 3) := by unfold frK; rw [if_pos (by omega)]
  have h2 := hr1 (Or.inr k3)
  obtain ⟨d, ed0⟩ : ∃ d, d = sqI (x - Nf (6 * s)) + sqI (y - Nf (6 * s + 1)) := ⟨_, rfl⟩
  obtain ⟨rr, er⟩ : ∃ d, d = sqI (Nf (6 * s + 2)) := ⟨_, rfl⟩
  have er2 : Nf (6 * s + 2) * Nf (6 * s + 2) = rr := by rw [er]; rfl
  by_cases hc : Nf (6 * s + 4) ≤ Nf (6 * s + 3) ∨ rr < d
  · refine ⟨0, 0, fun t => ?_, fun z => ?_, fun h => by omega⟩
    · rw [ed, if_neg k0, if_neg k1, if_neg k2, if_pos k3, coS, ← ed0, ← er, if_pos hc, seg_e (by omega)]
    · rw [ikB, if_neg k0, if_neg k2, decide_eq_true_iff, ← ed0, er2]
      constructor
      · intro q; omega
      · intro q; omega
  · obtain ⟨nd, en⟩ : ∃ d', d' = d * sqI (Nf (6 * s + 4) - Nf (6 * s + 3)) := ⟨_, rfl⟩
    obtain ⟨k, ek⟩ : ∃ k, k = ldB nd rr 32 1 (Nf (6 * s + 4) - Nf (6 * s + 3)) := ⟨_, rfl⟩
    have hb := ldB_in (nd := nd) (rr := rr) 32 1 (Nf (6 * s + 4) - Nf (6 * s + 3)) (by omega)
    have hrr : 0 ≤ rr := by rw [er]; exact sqI_nn _
    obtain ⟨r1, r2⟩ := ldB_spec (nd := nd) (rr := rr) hrr 32 1 (Nf (6 * s + 4) - Nf (6 * s + 3)) (by omega) (by omega) (by have : (2 : Int) ^ 32 = 4294967296 := by decide
                                                                                                                           omega) (by rw [en]; exact Int.mul_le_mul_of_nonneg_right (by omega) (sqI_nn _)) (fun w h5 h6 => by omega)
    rw [← ek] at r1 r2 hb
    refine ⟨Nf (6 * s + 3), Nf (6 * s + 4) - k + 1, fun t => ?_, fun z => ?_, fun h => ?_⟩
    · rw [ed, if_neg k0, if_neg k1, if_neg k2, if_pos k3, coS, ← ed0, ← er, if_neg hc, ← en, ← ek]
    · rw [ikB, if_neg k0, if_neg k2, decide_eq_true_iff, ← ed0, er2, ← en]
      constructor
      · intro q
        refine ⟨q.1, ?_⟩
        have q5 : nd ≤ rr * sqI (Nf (6 * s + 4) - z) := by
          rcases q.2.2.2 with q6 | q6
          · omega
          · exact q6
        by_cases h7 : Nf (6 * s + 4) - z < k
        · exact absurd q5 (r2 _ (by omega) h7)
        · omega
      · intro q
        refine ⟨q.1, by omega, by omega, Or.inr ?_⟩
        have h5 := sqI_mono (a := k) (b := Nf (6 * s + 4) - z) (by omega) (by omega)
        have h6 : rr * sqI k ≤ rr * sqI (Nf (6 * s + 4) - z) := Int.mul_le_mul_of_nonneg_left h5 hrr
        omega
    · rw [ef]; exact ⟨by omega, by omega, by omega, fun q => by omega, fun _ => rfl⟩
end
