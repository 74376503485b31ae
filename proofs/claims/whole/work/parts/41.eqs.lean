section
/-- the model's changes are the class's edges -/
theorem spans_eq {Kf Nf Wf : Nat → Int} {n s m : Nat} {p : Nat → Int} {x y : Int} (H : ∀ s, 1 ≤ s → s ≤ n → wfS Kf Nf Wf s) (h1 : 1 ≤ s) (h2 : s ≤ n) (hs : srt p m) (hm : ∀ v, (∃ i, i < m ∧ p i = v) ↔ v ∈ htL Kf Nf s x y 0) : scnI (inB Kf Nf s x y) p m 0 false = ed Kf Nf s x y 0 := by
  have hc : ∀ z z2, (∀ i, i < m → (p i ≤ z ↔ p i ≤ z2)) → inB Kf Nf s x y z = inB Kf Nf s x y z2 := by
    intro z z2 h
    have := (inB_ht H s h1 h2 x y 0 z z2).1 (fun v hv => by obtain ⟨i, q1, q2⟩ := (hm v).mpr hv; rw [← q2]; exact h i q1)
    rw [Int.sub_zero, Int.sub_zero] at this
    exact this
  have hlo : ∀ z, (∀ i, i < m → z < p i) → inB Kf Nf s x y z = false := by
    intro z h
    have := (inB_ht H s h1 h2 x y 0 z z).2.1 (fun v hv => by obtain ⟨i, q1, q2⟩ := (hm v).mpr hv; rw [← q2]; exact h i q1)
    rw [Int.sub_zero] at this
    exact this
  obtain ⟨r1, r2⟩ := scn_all hs hc hlo
  obtain ⟨e1, e2⟩ := ed_sem H s h1 h2 x y 0
  refine incE_uniq _ _ r1 e1 (fun z => ?_)
  rw [r2 z, e2 z, Int.sub_zero]
/-- a z of the first k runs -/
def memR (f : Nat → Int) (k : Nat) (z : Int) : Prop := ∃ i, i < k ∧ f (2 * i) ≤ z ∧ z < f (2 * i + 1)
theorem parE_len : ∀ (L : List Int) (z : Int), (∀ v ∈ L, v ≤ z) → parE L z = decide (L.length % 2 = 1) := by
  intro L
  induction L with
  | nil => intro z _; rfl
  | cons e r ih =>
    intro z h
    rw [parE, ih z (fun v hv => h v (List.mem_cons_of_mem _ hv)), decide_eq_true (h e List.mem_cons_self), List.length_cons]
    by_cases q : r.length % 2 = 1
    · rw [decide_eq_true q, decide_eq_false (by omega)]; rfl
    · rw [decide_eq_false q, decide_eq_true (by omega)]; rfl
theorem listMax (L : List Int) : ∃ M, ∀ v ∈ L, v ≤ M := by
  induction L with
  | nil => exact ⟨0, fun v hv => absurd hv (by simp)⟩
  | cons e r ih =>
    obtain ⟨M, hM⟩ := ih
    refine ⟨max e M, fun v hv => ?_⟩
    rcases List.mem_cons.mp hv with rfl | hv
    · omega
    · have := hM v hv; omega
theorem ed_even {Kf Nf Wf : Nat → Int} {n s : Nat} (H : ∀ s, 1 ≤ s → s ≤ n → wfS Kf Nf Wf s) (h1 : 1 ≤ s) (h2 : s ≤ n) (x y : Int) : (ed Kf Nf s x y 0).length % 2 = 0 := by
  obtain ⟨M1, m1⟩ := listMax (ed Kf Nf s x y 0)
  obtain ⟨M2, m2⟩ := listMax (htL Kf Nf s x y 0)
  have e := (ed_sem H s h1 h2 x y 0).2 (max M1 M2)
  rw [parE_len _ _ (fun v hv => by have := m1 v hv; omega), (inB_ht H s h1 h2 x y 0 (max M1 M2) 0).2.2 (fun v hv => by have := m2 v hv; omega)] at e
  have := of_decide_eq_false e
  omega
theorem parE_mem : ∀ (k : Nat) (L : List Int), L.length = 2 * k → incE L → ∀ z, parE L z = true ↔ memR (gD L) k z := by
  intro k
  induction k with
  | zero =>
    intro L hl _ z
    cases L with
    | nil => exact ⟨fun h => (by cases h), fun ⟨i, h, _⟩ => (by omega)⟩
    | cons a r => simp at hl
  | succ k ih =>
    intro L hl hi z
    match L, hl, hi with
    | a :: b :: r, hl, hi =>
      have hr : r.length = 2 * k := by simp at hl; omega
      have hI := ih r hr hi.2.2 z
      have hab := hi.1 b List.mem_cons_self
      have g2 : ∀ j, gD (a :: b :: r) (j + 2) = gD r j := fun j => by simp [gD]
      have key : memR (gD (a :: b :: r)) (k + 1) z ↔ (a ≤ z ∧ z < b) ∨ memR (gD r) k z := by
        constructor
        · rintro ⟨i, q1, q2, q3⟩
          cases i with
          | zero => exact Or.inl ⟨by simpa [gD] using q2, by simpa [gD] using q3⟩
          | succ i =>
            rw [show 2 * (i + 1) = 2 * i + 2 by omega, g2] at q2
            rw [show 2 * (i + 1) + 1 = 2 * i + 1 + 2 by omega, g2] at q3
            exact Or.inr ⟨i, by omega, q2, q3⟩
        · rintro (⟨q1, q2⟩ | ⟨i, q1, q2, q3⟩)
          · exact ⟨0, by omega, by simpa [gD] using q1, by simpa [gD] using q2⟩
          · refine ⟨i + 1, by omega, ?_, ?_⟩
            · rw [show 2 * (i + 1) = 2 * i + 2 by omega, g2]; exact q2
            · rw [show 2 * (i + 1) + 1 = 2 * i + 1 + 2 by omega, g2]; exact q3
      rw [key, ← hI, parE, parE]
      by_cases q1 : a ≤ z
      · by_cases q2 : b ≤ z
        · rw [decide_eq_true q1, decide_eq_true q2]
          constructor
          · intro h; right; revert h; cases parE r z <;> decide
          · rintro (h | h)
            · omega
            · rw [h]; rfl
        · have hz : parE r z = false := parE_lo r z (fun v hv => by have := hi.2.1 v hv; omega)
          rw [decide_eq_true q1, decide_eq_false q2, hz]
          exact ⟨fun _ => Or.inl ⟨q1, by omega⟩, fun _ => rfl⟩
      · have hz : parE r z = false := parE_lo r z (fun v hv => by have := hi.2.1 v hv; omega)
        rw [decide_eq_false q1, decide_eq_false (show ¬ b ≤ z by omega), hz]
        exact ⟨fun h => (by cases h), fun h => (by rcases h with h | h; omega; cases h)⟩
theorem agR_spec {f : Nat → Int} : ∀ (k : Nat), incN f 0 (2 * k) → (0 ≤ agR f k ∧ agR f k ≤ 1000) ∧ (agR f k = 0 ∨ memR f k (agR f k - 1)) ∧ ∀ z, 0 ≤ z → agR f k ≤ z → z < 1000 → ¬ memR f k z := by
  intro k
  induction k with
  | zero => intro _; rw [agR]; exact ⟨by omega, Or.inl rfl, fun z _ _ _ ⟨i, h, _⟩ => by omega⟩
  | succ k ih =>
    intro hi
    obtain ⟨a1, a2, a3⟩ := ih (fun i j q1 q2 q3 => hi i j q1 q2 (by omega))
    have h1 := hi (2 * k) (2 * k + 1) (by omega) (by omega) (by omega)
    rw [agR]
    by_cases hc : 0 ≤ min 999 (f (2 * k + 1) - 1) ∧ f (2 * k) ≤ min 999 (f (2 * k + 1) - 1)
    · rw [if_pos hc]
      refine ⟨by omega, Or.inr ⟨k, by omega, by omega, by omega⟩, fun z z0 z1 z2 => ?_⟩
      rintro ⟨i, q1, q2, q3⟩
      by_cases q4 : i = k
      · rw [q4] at q3; omega
      · have := hi (2 * i + 1) (2 * k + 1) (by omega) (by omega) (by omega)
        omega
    · rw [if_neg hc]
      refine ⟨a1, ?_, fun z z0 z1 z2 => ?_⟩
      · rcases a2 with a2 | ⟨i, q1, q2⟩
        · exact Or.inl a2
        · exact Or.inr ⟨i, by omega, q2⟩
      · rintro ⟨i, q1, q2, q3⟩
        by_cases q4 : i = k
        · rw [q4] at q2 q3; omega
        · exact a3 z z0 z1 z2 ⟨i, by omega, q2, q3⟩
theorem incE_N {L : List Int} (h : incE L) : incN (gD L) 0 L.length := fun i j _ q2 q3 => incE_get L h i j q2 q3
/-- both tops -/
theorem top_eq {Kf Nf Wf : Nat → Int} {n s : Nat} (H : ∀ s, 1 ≤ s → s ≤ n → wfS Kf Nf Wf s) (h1 : 1 ≤ s) (h2 : s ≤ n) {x y t : Int} (t1 : 0 ≤ t ∧ t ≤ 1000) (t2 : t = 0 ∨ inB Kf Nf s x y (t - 1) = true) (t3 : ∀ z, t ≤ z → z < 1000 → inB Kf Nf s x y z = false) : agL (ed Kf Nf s x y 0) = t := by
  obtain ⟨e1, e2⟩ := ed_sem H s h1 h2 x y 0
  have ev := ed_even H h1 h2 x y
  have hl : (ed Kf Nf s x y 0).length = 2 * ((ed Kf Nf s x y 0).length / 2) := by omega
  have hin := incE_N e1
  rw [hl] at hin
  have mem := parE_mem _ _ hl e1
  obtain ⟨b1, b2, b3⟩ := agR_spec ((ed Kf Nf s x y 0).length / 2) hin
  have im : ∀ z, inB Kf Nf s x y z = true ↔ memR (gD (ed Kf Nf s x y 0)) ((ed Kf Nf s x y 0).length / 2) z := fun z => by
    rw [← mem z, e2 z, Int.sub_zero]
  unfold agL
  rcases Int.lt_trichotomy (agR (gD (ed Kf Nf s x y 0)) ((ed Kf Nf s x y 0).length / 2)) t with q | q | q
  · rcases t2 with t2 | t2
    · omega
    · exact absurd ((im _).mp t2) (b3 (t - 1) (by omega) (by omega) (by omega))
  · exact q
  · rcases b2 with b2 | b2
    · omega
    · have := (im _).mpr b2
      rw [t3 _ (by omega) (by omega)] at this
      cases this
theorem cntR_pos {f : Nat → Int} {z : Int} : ∀ k : Nat, 0 < cntR f z z k ↔ memR f k z := by
  intro k
  induction k with
  | zero => rw [cntR]; exact ⟨fun h => by omega, fun ⟨i, h, _⟩ => by omega⟩
  | succ k ih =>
    have hb := cntR_b (f := f) (z := z) k
    rw [cntR]
    by_cases hc : max z (f (2 * k)) ≤ min z (f (2 * k + 1) - 1)
    · rw [if_pos hc]
      exact ⟨fun _ => ⟨k, by omega, by omega, by omega⟩, fun _ => by omega⟩
    · rw [if_neg hc, Int.add_zero, ih]
      constructor
      · rintro ⟨i, q1, q2⟩; exact ⟨i, by omega, q2⟩
      · rintro ⟨i, q1, q2, q3⟩
        by_cases q4 : i = k
        · rw [q4] at q2 q3; omega
        · exact ⟨i, by omega, q2, q3⟩
/-- inside by edges -/
theorem ins_eq {Kf Nf Wf : Nat → Int} {n s : Nat} (H : ∀ s, 1 ≤ s → s ≤ n → wfS Kf Nf Wf s) (h1 : 1 ≤ s) (h2 : s ≤ n) (x y z : Int) : 0 < cnL (ed Kf Nf s x y 0) z z ↔ inB Kf Nf s x y z = true := by
  obtain ⟨e1, e2⟩ := ed_sem H s h1 h2 x y 0
  have ev := ed_even H h1 h2 x y
  have hl : (ed Kf Nf s x y 0).length = 2 * ((ed Kf Nf s x y 0).length / 2) := by omega
  unfold cnL
  rw [cntR_pos, ← parE_mem _ _ hl e1 z, e2 z, Int.sub_zero]
theorem wiR_eq {L : List Int} {ff fl : Nat → Int} (H : spO L ff fl) (a b : Int) : ∀ k : Nat, 2 * k ≤ L.length → wiR ff fl a b k = cntR (gD L) a b k := by
  intro k
  induction k with
  | zero => intro _; rfl
  | succ k ih =>
    intro hk
    have e1 : gD L (2 * k) = ff k := by unfold gD; rw [List.getD_eq_getElem?_getD, H.1 k (by omega)]; rfl
    have e2 : gD L (2 * k + 1) = fl k + 1 := by unfold gD; rw [List.getD_eq_getElem?_getD, H.2 k (by omega)]; rfl
    rw [wiR, cntR, ih (by omega), e1, e2, Int.max_comm, Int.min_comm, Int.add_sub_cancel]
theorem span_eq {L : List Int} {ff fl : Nat → Int} (H : spO L ff fl) (k w : Int) : (if 0 ≤ k ∧ k < (L.length : Int) / 2 ∧ 0 ≤ w ∧ w ≤ 1 then (if w = 0 then ff k.toNat else fl k.toNat) else 0) = (if w = 0 then spF L k else if w = 1 then spL L k else 0) := by
  by_cases hk : 0 ≤ k ∧ k < (L.length : Int) / 2
  · have e1 : gD L (2 * k).toNat = ff k.toNat := by unfold gD; rw [List.getD_eq_getElem?_getD, show (2 * k).toNat = 2 * k.toNat by omega, H.1 k.toNat (by omega)]; rfl
    have e2 : gD L (2 * k + 1).toNat = fl k.toNat + 1 := by unfold gD; rw [List.getD_eq_getElem?_getD, show (2 * k + 1).toNat = 2 * k.toNat + 1 by omega, H.2 k.toNat (by omega)]; rfl
    by_cases w0 : w = 0
    · rw [if_pos (by omega), if_pos w0, if_pos w0, spF, if_pos hk, e1]
    · by_cases w1 : w = 1
      · rw [if_pos (by omega), if_neg w0, if_neg w0, if_pos w1, spL, if_pos hk, e2, Int.add_sub_cancel]
      · rw [if_neg (by omega), if_neg w0, if_neg w1]
  · rw [if_neg (by omega), spF, spL, if_neg hk]
    split
    · rfl
    · split <;> rfl
end
