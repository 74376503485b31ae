section
/-- how many of a row are at most z: odd or not -/
def parE : List Int → Int → Bool
  | [], _ => false
  | e :: r, z => decide (e ≤ z) ^^ parE r z
def incE : List Int → Prop
  | [] => True
  | a :: r => (∀ b ∈ r, a < b) ∧ incE r
theorem parE_lo : ∀ (L : List Int) (z : Int), (∀ v ∈ L, z < v) → parE L z = false := by
  intro L
  induction L with
  | nil => intro z _; rfl
  | cons e r ih =>
    intro z h
    rw [parE, ih z (fun v hv => h v (List.mem_cons_of_mem _ hv)), show decide (e ≤ z) = false from decide_eq_false (by have := h e List.mem_cons_self; omega)]
    rfl
theorem parE_same : ∀ (L : List Int) (z z2 : Int), (∀ v ∈ L, v ≤ z ↔ v ≤ z2) → parE L z = parE L z2 := by
  intro L
  induction L with
  | nil => intro z z2 _; rfl
  | cons e r ih =>
    intro z z2 h
    rw [parE, parE, ih z z2 (fun v hv => h v (List.mem_cons_of_mem _ hv))]
    congr 1
    exact decide_eq_decide.mpr (h e List.mem_cons_self)
theorem incE_uniq : ∀ (A B : List Int), incE A → incE B → (∀ z, parE A z = parE B z) → A = B := by
  intro A
  induction A with
  | nil =>
    intro B _ hB h
    cases B with
    | nil => rfl
    | cons b r =>
      have h1 := h b
      rw [parE, parE, parE_lo r b (fun v hv => hB.1 v hv), show decide (b ≤ b) = true from decide_eq_true (Int.le_refl _)] at h1
      exact absurd h1 (by decide)
  | cons a r ih =>
    intro B hA hB h
    cases B with
    | nil =>
      have h1 := h a
      rw [parE, parE, parE_lo r a (fun v hv => hA.1 v hv), show decide (a ≤ a) = true from decide_eq_true (Int.le_refl _)] at h1
      exact absurd h1 (by decide)
    | cons b r2 =>
      have hab : a = b := by
        rcases Int.lt_trichotomy a b with q | q | q
        · have h1 := h a
          rw [parE, parE_lo r a (fun v hv => hA.1 v hv), show decide (a ≤ a) = true from decide_eq_true (Int.le_refl _), parE_lo (b :: r2) a (fun v hv => by
            rcases List.mem_cons.mp hv with rfl | hv
            · exact q
            · have := hB.1 v hv; omega)] at h1
          exact absurd h1 (by decide)
        · exact q
        · have h1 := h b
          rw [show parE (b :: r2) b = true by rw [parE, parE_lo r2 b (fun v hv => hB.1 v hv), show decide (b ≤ b) = true from decide_eq_true (Int.le_refl _)]; rfl, parE_lo (a :: r) b (fun v hv => by
            rcases List.mem_cons.mp hv with rfl | hv
            · exact q
            · have := hA.1 v hv; omega)] at h1
          exact absurd h1 (by decide)
      subst hab
      rw [ih r2 hA.2 hB.2 (fun z => by
        have h1 := h z
        rw [parE, parE] at h1
        revert h1
        cases decide (a ≤ z) <;> cases parE r z <;> cases parE r2 z <;> decide)]
/-- the same over a row in a function -/
def parN (f : Nat → Int) : Nat → Nat → Int → Bool
  | _, 0, _ => false
  | a, k + 1, z => decide (f a ≤ z) ^^ parN f (a + 1) k z
def incN (f : Nat → Int) (a e : Nat) : Prop := ∀ i j, a ≤ i → i < j → j < e → f i < f j
theorem parN_lo {f : Nat → Int} {z : Int} : ∀ (k a : Nat), (∀ i, a ≤ i → i < a + k → z < f i) → parN f a k z = false := by
  intro k
  induction k with
  | zero => intro a _; rfl
  | succ k ih =>
    intro a h
    rw [parN, ih (a + 1) (fun i h1 h2 => h i (by omega) (by omega)), show decide (f a ≤ z) = false from decide_eq_false (by have := h a (by omega) (by omega); omega)]
    rfl
theorem jnB_f (how : Int) : jnB how false false = false := by
  unfold jnB
  split
  · rfl
  split <;> rfl
theorem bnot_ne {a b : Bool} (h : ¬ a = b) : (!b) = a := by revert h; cases a <;> cases b <;> decide
theorem mxS_mem {fe : Nat → Int} {mid ec how : Int} : ∀ (k : Nat) (a b : Int) (p q j : Bool) (x : Int), 0 ≤ a → 0 ≤ b → x ∈ mxS fe mid ec how k a b p q j → ∃ i : Nat, ((a ≤ i ∧ (i : Int) < mid) ∨ (b ≤ i ∧ (i : Int) < ec)) ∧ fe i = x := by
  intro k
  induction k with
  | zero => intro a b p q j x _ _ hx; rw [mxS] at hx; exact absurd hx (by simp)
  | succ k ih =>
    intro a b p q j x ha hb hx
    rw [mxS] at hx
    by_cases hc : a < mid ∨ b < ec
    · rw [if_pos hc] at hx
      have hcc := nxE_c (fe := fe) hc
      obtain ⟨a2, ea⟩ : ∃ z, z = (if a < mid ∧ fe a.toNat = nxE fe mid ec a b then a + 1 else a) := ⟨_, rfl⟩
      obtain ⟨b2, eb⟩ : ∃ z, z = (if b < ec ∧ fe b.toNat = nxE fe mid ec a b then b + 1 else b) := ⟨_, rfl⟩
      have ha2 : a ≤ a2 := by rw [ea]; split <;> omega
      have hb2 : b ≤ b2 := by rw [eb]; split <;> omega
      rw [← ea, ← eb] at hx
      generalize (if a < mid ∧ fe a.toNat = nxE fe mid ec a b then !p else p) = p2 at hx
      generalize (if b < ec ∧ fe b.toNat = nxE fe mid ec a b then !q else q) = q2 at hx
      have fin : ∀ j2, x ∈ mxS fe mid ec how k a2 b2 p2 q2 j2 → ∃ i : Nat, ((a ≤ i ∧ (i : Int) < mid) ∨ (b ≤ i ∧ (i : Int) < ec)) ∧ fe i = x := fun j2 h => by
        obtain ⟨i, h1, h2⟩ := ih a2 b2 p2 q2 j2 x (by omega) (by omega) h
        exact ⟨i, by omega, h2⟩
      by_cases hj : jnB how p2 q2 = j
      · rw [if_pos hj] at hx; exact fin _ hx
      · rw [if_neg hj] at hx
        rcases List.mem_cons.mp hx with rfl | hx
        · rcases hcc with h | h
          · exact ⟨a.toNat, Or.inl ⟨by omega, by omega⟩, h.2⟩
          · exact ⟨b.toNat, Or.inr ⟨by omega, by omega⟩, h.2⟩
        · exact fin _ hx
    · rw [if_neg hc] at hx; exact absurd hx (by simp)
theorem mxS_sem {fe : Nat → Int} {mid ec how : Int} : ∀ (k : Nat) (a b : Int) (p q j : Bool), 0 ≤ a → a ≤ mid → mid ≤ b → b ≤ ec → (mid - a) + (ec - b) ≤ k → incN fe a.toNat mid.toNat → incN fe b.toNat ec.toNat → j = jnB how p q → incE (mxS fe mid ec how k a b p q j) ∧ ∀ z, (j ^^ parE (mxS fe mid ec how k a b p q j) z) = jnB how (p ^^ parN fe a.toNat (mid - a).toNat z) (q ^^ parN fe b.toNat (ec - b).toNat z) := by
  intro k
  induction k with
  | zero =>
    intro a b p q j h0 h1 h2 h3 h4 i1 i2 hj
    rw [mxS]
    refine ⟨trivial, fun z => ?_⟩
    rw [show (mid - a).toNat = 0 by omega, show (ec - b).toNat = 0 by omega, parN, parN, parE, Bool.xor_false, Bool.xor_false, Bool.xor_false, hj]
  | succ k ih =>
    intro a b p q j h0 h1 h2 h3 h4 i1 i2 hj
    rw [mxS]
    by_cases hc : a < mid ∨ b < ec
    · rw [if_pos hc]
      have hcc := nxE_c (fe := fe) hc
      obtain ⟨z0, ez⟩ : ∃ z, z = nxE fe mid ec a b := ⟨_, rfl⟩
      rw [← ez] at hcc ⊢
      -- the next edge is the least of what is left
      have low : ∀ i : Nat, ((a ≤ i ∧ (i : Int) < mid) ∨ (b ≤ i ∧ (i : Int) < ec)) → z0 ≤ fe i := by
        intro i hi
        have la : a < mid → z0 ≤ fe a.toNat := by
          intro q1
          rw [ez]; unfold nxE
          rw [if_neg (by omega)]
          by_cases q2 : b < ec ∧ fe b.toNat < fe a.toNat
          · rw [if_pos q2]; omega
          · rw [if_neg q2]; exact Int.le_refl _
        have lb : b < ec → z0 ≤ fe b.toNat := by
          intro q1
          rw [ez]; unfold nxE
          by_cases q3 : mid ≤ a
          · rw [if_pos q3, if_pos q1]; exact Int.le_refl _
          · rw [if_neg q3]
            by_cases q2 : b < ec ∧ fe b.toNat < fe a.toNat
            · rw [if_pos q2]; exact Int.le_refl _
            · rw [if_neg q2]
              by_cases q4 : fe b.toNat < fe a.toNat
              · exact absurd ⟨q1, q4⟩ q2
              · omega
        rcases hi with hi | hi
        · by_cases q1 : i = a.toNat
          · rw [q1]; exact la (by omega)
          · have := i1 a.toNat i (by omega) (by omega) (by omega)
            have := la (by omega)
            omega
        · by_cases q1 : i = b.toNat
          · rw [q1]; exact lb (by omega)
          · have := i2 b.toNat i (by omega) (by omega) (by omega)
            have := lb (by omega)
            omega
      obtain ⟨a2, ea⟩ : ∃ z, z = (if a < mid ∧ fe a.toNat = z0 then a + 1 else a) := ⟨_, rfl⟩
      obtain ⟨b2, eb⟩ : ∃ z, z = (if b < ec ∧ fe b.toNat = z0 then b + 1 else b) := ⟨_, rfl⟩
      obtain ⟨p2, ep⟩ : ∃ z, z = (if a < mid ∧ fe a.toNat = z0 then !p else p) := ⟨_, rfl⟩
      obtain ⟨q2, eq⟩ : ∃ z, z = (if b < ec ∧ fe b.toNat = z0 then !q else q) := ⟨_, rfl⟩
      rw [← ea, ← eb, ← ep, ← eq]
      have ha2 : a ≤ a2 ∧ a2 ≤ mid := by rw [ea]; split <;> omega
      have hb2 : b ≤ b2 ∧ b2 ≤ ec := by rw [eb]; split <;> omega
      have hs : a + b + 1 ≤ a2 + b2 := by
        rcases hcc with hcc | hcc
        · rw [if_pos hcc] at ea; omega
        · rw [if_pos hcc] at eb; omega
      -- what is left is above z0
      have high : ∀ i : Nat, ((a2 ≤ i ∧ (i : Int) < mid) ∨ (b2 ≤ i ∧ (i : Int) < ec)) → z0 < fe i := by
        intro i hi
        rcases hi with hi | hi
        · have l1 := low i (Or.inl ⟨by omega, hi.2⟩)
          by_cases q1 : a < mid ∧ fe a.toNat = z0
          · rw [if_pos q1] at ea
            have := i1 a.toNat i (by omega) (by omega) (by omega)
            omega
          · rw [if_neg q1] at ea
            by_cases q3 : i = a.toNat
            · rw [q3] at l1 ⊢
              have : fe a.toNat ≠ z0 := fun e => q1 ⟨by omega, e⟩
              omega
            · have := i1 a.toNat i (by omega) (by omega) (by omega)
              have := low a.toNat (Or.inl ⟨by omega, by omega⟩)
              omega
        · have l1 := low i (Or.inr ⟨by omega, hi.2⟩)
          by_cases q1 : b < ec ∧ fe b.toNat = z0
          · rw [if_pos q1] at eb
            have := i2 b.toNat i (by omega) (by omega) (by omega)
            omega
          · rw [if_neg q1] at eb
            by_cases q3 : i = b.toNat
            · rw [q3] at l1 ⊢
              have : fe b.toNat ≠ z0 := fun e => q1 ⟨by omega, e⟩
              omega
            · have := i2 b.toNat i (by omega) (by omega) (by omega)
              have := low b.toNat (Or.inr ⟨by omega, by omega⟩)
              omega
      have sa : ∀ z, z0 ≤ z → (p ^^ parN fe a.toNat (mid - a).toNat z) = (p2 ^^ parN fe a2.toNat (mid - a2).toNat z) := by
        intro z hz
        by_cases q1 : a < mid ∧ fe a.toNat = z0
        · rw [if_pos q1] at ea ep
          rw [ea, ep, show (mid - a).toNat = (mid - (a + 1)).toNat + 1 by omega, parN, q1.2, show decide (z0 ≤ z) = true from decide_eq_true hz, show a.toNat + 1 = (a + 1).toNat by omega]
          cases p <;> cases parN fe (a + 1).toNat (mid - (a + 1)).toNat z <;> rfl
        · rw [if_neg q1] at ea ep
          rw [ea, ep]
      have sb : ∀ z, z0 ≤ z → (q ^^ parN fe b.toNat (ec - b).toNat z) = (q2 ^^ parN fe b2.toNat (ec - b2).toNat z) := by
        intro z hz
        by_cases q1 : b < ec ∧ fe b.toNat = z0
        · rw [if_pos q1] at eb eq
          rw [eb, eq, show (ec - b).toNat = (ec - (b + 1)).toNat + 1 by omega, parN, q1.2, show decide (z0 ≤ z) = true from decide_eq_true hz, show b.toNat + 1 = (b + 1).toNat by omega]
          cases q <;> cases parN fe (b + 1).toNat (ec - (b + 1)).toNat z <;> rfl
        · rw [if_neg q1] at eb eq
          rw [eb, eq]
      have lowz : ∀ z, z < z0 → jnB how (p ^^ parN fe a.toNat (mid - a).toNat z) (q ^^ parN fe b.toNat (ec - b).toNat z) = j := by
        intro z hz
        rw [parN_lo (mid - a).toNat a.toNat (fun i q1 q2 => by have := low i (Or.inl ⟨by omega, by omega⟩); omega), parN_lo (ec - b).toNat b.toNat (fun i q1 q2 => by have := low i (Or.inr ⟨by omega, by omega⟩); omega), Bool.xor_false, Bool.xor_false, hj]
      have i1' : incN fe a2.toNat mid.toNat := fun i j q1 q2 q3 => i1 i j (by omega) q2 q3
      have i2' : incN fe b2.toNat ec.toNat := fun i j q1 q2 q3 => i2 i j (by omega) q2 q3
      by_cases hjj : jnB how p2 q2 = j
      · rw [if_pos hjj]
        obtain ⟨r1, r2⟩ := ih a2 b2 p2 q2 j (by omega) ha2.2 (by omega) hb2.2 (by omega) i1' i2' hjj.symm
        refine ⟨r1, fun z => ?_⟩
        by_cases hz : z < z0
        · rw [lowz z hz, parE_lo _ z (fun v hv => by obtain ⟨i, q1, q2⟩ := mxS_mem k a2 b2 p2 _ j v (by omega) (by omega) hv; have := high i q1; omega), Bool.xor_false]
        · rw [sa z (by omega), sb z (by omega)]; exact r2 z
      · rw [if_neg hjj]
        have hnj : (!j) = jnB how p2 q2 := bnot_ne hjj
        obtain ⟨r1, r2⟩ := ih a2 b2 p2 q2 (!j) (by omega) ha2.2 (by omega) hb2.2 (by omega) i1' i2' hnj
        have ab : ∀ v ∈ mxS fe mid ec how k a2 b2 p2 q2 (!j), z0 < v := fun v hv => by obtain ⟨i, q1, q2⟩ := mxS_mem k a2 b2 p2 _ (!j) v (by omega) (by omega) hv; have := high i q1; omega
        refine ⟨⟨ab, r1⟩, fun z => ?_⟩
        by_cases hz : z < z0
        · rw [lowz z hz, parE_lo _ z (fun v hv => by
            rcases List.mem_cons.mp hv with rfl | hv
            · exact hz
            · have := ab v hv; omega), Bool.xor_false]
        · rw [sa z (by omega), sb z (by omega), ← r2 z, parE, show decide (z0 ≤ z) = true from decide_eq_true (by omega)]
          cases j <;> cases parE (mxS fe mid ec how k a2 b2 p2 q2 (!_)) z <;> rfl
    · rw [if_neg hc]
      refine ⟨trivial, fun z => ?_⟩
      rw [show (mid - a).toNat = 0 by omega, show (ec - b).toNat = 0 by omega, parN, parN, parE, Bool.xor_false, Bool.xor_false, Bool.xor_false, hj]
theorem parN_list : ∀ (L P S : List Int) (z : Int), parN (fun j => (P ++ L ++ S).getD j 0) P.length L.length z = parE L z := by
  intro L
  induction L with
  | nil => intro P S z; rfl
  | cons e r ih =>
    intro P S z
    have h1 := ih (P ++ [e]) S z
    rw [List.length_append, List.length_singleton, List.append_assoc P [e] r, List.singleton_append] at h1
    rw [List.length_cons, parN, parE, h1]
    congr 2
    simp [List.getD_eq_getElem?_getD]
theorem incE_get : ∀ (L : List Int), incE L → ∀ i j, i < j → j < L.length → L.getD i 0 < L.getD j 0 := by
  intro L
  induction L with
  | nil => intro _ i j _ hj; exact absurd hj (by simp)
  | cons e r ih =>
    intro h i j hij hj
    cases j with
    | zero => omega
    | succ j =>
      have hj' : j < r.length := by simp at hj; omega
      cases i with
      | zero =>
        have : r.getD j 0 ∈ r := by rw [List.getD_eq_getElem?_getD, List.getElem?_eq_getElem hj']; exact List.getElem_mem hj'
        have h2 := h.1 _ this
        simpa using h2
      | succ i =>
        have := ih h.2 i j (by omega) hj'
        simpa using this
theorem mixL_sem {X Y : List Int} (hX : incE X) (hY : incE Y) (how : Int) (hl : X.length + Y.length ≤ 100) : incE (mixL how X Y) ∧ ∀ z, parE (mixL how X Y) z = jnB how (parE X z) (parE Y z) := by
  have gx : ∀ i, i < X.length → (X ++ Y).getD i 0 = X.getD i 0 := fun i hi => by rw [List.getD_eq_getElem?_getD, List.getD_eq_getElem?_getD, List.getElem?_append_left hi]
  have gy : ∀ i, X.length ≤ i → (X ++ Y).getD i 0 = Y.getD (i - X.length) 0 := fun i hi => by rw [List.getD_eq_getElem?_getD, List.getD_eq_getElem?_getD, List.getElem?_append_right hi]
  obtain ⟨r1, r2⟩ := mxS_sem (fe := fun j => (X ++ Y).getD j 0) (mid := X.length) (ec := (X.length : Int) + Y.length) (how := how) 100 0 X.length false false false (by omega) (by omega) (by omega) (by omega) (by omega)
    (fun i j q1 q2 q3 => by
      show (X ++ Y).getD i 0 < (X ++ Y).getD j 0
      rw [gx i (by omega), gx j (by omega)]; exact incE_get X hX i j q2 (by omega))
    (fun i j q1 q2 q3 => by
      show (X ++ Y).getD i 0 < (X ++ Y).getD j 0
      rw [gy i (by omega), gy j (by omega)]; exact incE_get Y hY _ _ (by omega) (by omega))
    (jnB_f how).symm
  refine ⟨r1, fun z => ?_⟩
  have h := r2 z
  rw [Bool.false_xor, Bool.false_xor, Bool.false_xor] at h
  unfold mixL
  rw [h, show (0 : Int).toNat = 0 from rfl, show ((X.length : Int) - 0).toNat = X.length by omega, show ((X.length : Int)).toNat = X.length by omega, show ((X.length : Int) + Y.length - X.length).toNat = Y.length by omega]
  have e1 := parN_list X [] Y z
  have e2 := parN_list Y X [] z
  rw [List.nil_append, List.length_nil] at e1
  rw [List.append_nil] at e2
  rw [e1, e2]
/-- A solid's edges over a place hold just the z that are in it. -/
theorem ed_sem {Kf Nf Wf : Nat → Int} {n : Nat} (H : ∀ s, 1 ≤ s → s ≤ n → wfS Kf Nf Wf s) : ∀ (s : Nat), 1 ≤ s → s ≤ n → ∀ (x y t : Int), incE (ed Kf Nf s x y t) ∧ ∀ z, parE (ed Kf Nf s x y t) z = inB Kf Nf s x y (z - t) := by
  intro s
  induction s using Nat.strongRecOn with
  | ind s ih =>
    intro h1 h2 x y t
    have hw := H s h1 h2
    have hkf := kf_in hw
    by_cases k4 : Kf s = 4
    · obtain ⟨-, a1, a2, b1, b2, -, -, w4⟩ := wfS_4 hw k4
      have hA := ih (Nf (6 * s)).toNat (by omega) (by omega) (by omega) x y t
      have hB := ih (Nf (6 * s + 1)).toNat (by omega) (by omega) (by omega) x y t
      have lA := ed_len H (Nf (6 * s)).toNat (by omega) (by omega) x y t
      have lB := ed_len H (Nf (6 * s + 1)).toNat (by omega) (by omega) x y t
      have e : ed Kf Nf s x y t = mixL (Nf (6 * s + 2)) (ed Kf Nf (Nf (6 * s)).toNat x y t) (ed Kf Nf (Nf (6 * s + 1)).toNat x y t) := by
        conv => lhs; rw [ed]
        rw [if_neg (by omega), if_neg (by omega), if_neg (by omega), if_neg (by omega), if_pos k4, dif_pos ⟨by omega, by omega⟩]
      have hws := hw.1
      have wa := (H (Nf (6 * s)).toNat (by omega) (by omega)).1
      have wb := (H (Nf (6 * s + 1)).toNat (by omega) (by omega)).1
      obtain ⟨r1, r2⟩ := mixL_sem hA.1 hB.1 (Nf (6 * s + 2)) (by omega)
      rw [e]
      refine ⟨r1, fun z => ?_⟩
      rw [r2 z, hA.2 z, hB.2 z, inB_4 (s := s) k4 (by omega) (by omega)]
    by_cases k5 : Kf s = 5
    · obtain ⟨a1, a2, -, -, -, w4⟩ := wfS_5 hw k5
      have hA := ih (Nf (6 * s + 3)).toNat (by omega) (by omega) (by omega) (x - Nf (6 * s)) (y - Nf (6 * s + 1)) (t + Nf (6 * s + 2))
      have e : ed Kf Nf s x y t = ed Kf Nf (Nf (6 * s + 3)).toNat (x - Nf (6 * s)) (y - Nf (6 * s + 1)) (t + Nf (6 * s + 2)) := by
        conv => lhs; rw [ed]
        rw [if_neg (by omega), if_neg (by omega), if_neg (by omega), if_neg (by omega), if_neg (by omega), if_pos k5, dif_pos (by omega)]
      rw [e]
      refine ⟨hA.1, fun z => ?_⟩
      rw [hA.2 z, inB_5 (s := s) k5 (by omega), show z - t - Nf (6 * s + 2) = z - (t + Nf (6 * s + 2)) by omega]
    by_cases k6 : Kf s = 6
    · obtain ⟨a1, a2, w4⟩ := wfS_6 hw k6
      have hA := ih (Nf (6 * s)).toNat (by omega) (by omega) (by omega) y (-x) t
      have e : ed Kf Nf s x y t = ed Kf Nf (Nf (6 * s)).toNat y (-x) t := by
        conv => lhs; rw [ed]
        rw [if_neg (by omega), if_neg (by omega), if_neg (by omega), if_neg (by omega), if_neg (by omega), if_neg (by omega), dif_pos (by omega)]
      rw [e]
      refine ⟨hA.1, fun z => ?_⟩
      rw [hA.2 z, inB_6 (s := s) k6 (by omega)]
    obtain ⟨hk3, hw3, hN, hr1, hr2⟩ := wfS_k hw k4 k5 k6
    obtain ⟨a, b, ke, ki, kc⟩ := kd hk3 hN hr1 hr2 x y
    rw [ke]
    have hb : ∀ z, parE (seg (a + t) (b + t)) z = decide (a ≤ z - t ∧ z - t < b) := by
      intro z
      unfold seg
      by_cases q : a + t < b + t
      · rw [if_pos q, parE, parE, parE, Bool.xor_false]
        by_cases q1 : a + t ≤ z
        · by_cases q2 : b + t ≤ z
          · rw [decide_eq_true q1, decide_eq_true q2, decide_eq_false (show ¬ (a ≤ z - t ∧ z - t < b) by omega)]; rfl
          · rw [decide_eq_true q1, decide_eq_false q2, decide_eq_true (show (a ≤ z - t ∧ z - t < b) by omega)]; rfl
        · rw [decide_eq_false q1, decide_eq_false (show ¬ b + t ≤ z by omega), decide_eq_false (show ¬ (a ≤ z - t ∧ z - t < b) by omega)]; rfl
      · rw [if_neg q, parE, decide_eq_false (by omega)]
    refine ⟨?_, fun z => ?_⟩
    · unfold seg
      by_cases q : a + t < b + t
      · rw [if_pos q]
        exact ⟨fun v hv => by simp only [List.mem_cons, List.not_mem_nil, or_false] at hv; omega, ⟨fun v hv => absurd hv (by simp), trivial⟩⟩
      · rw [if_neg q]; trivial
    · rw [hb z, inB_k (s := s) hk3.2]
      cases e : ikB Kf Nf s x y (z - t) with
      | true => exact decide_eq_true ((ki _).mp e)
      | false => exact decide_eq_false (fun q => by rw [(ki _).mpr q] at e; cases e)
/-- what is in a solid changes at its heights alone -/
theorem inB_ht {Kf Nf Wf : Nat → Int} {n : Nat} (H : ∀ s, 1 ≤ s → s ≤ n → wfS Kf Nf Wf s) : ∀ (s : Nat), 1 ≤ s → s ≤ n → ∀ (x y t z z2 : Int), ((∀ v ∈ htL Kf Nf s x y t, v ≤ z ↔ v ≤ z2) → inB Kf Nf s x y (z - t) = inB Kf Nf s x y (z2 - t)) ∧ ((∀ v ∈ htL Kf Nf s x y t, z < v) → inB Kf Nf s x y (z - t) = false) ∧ ((∀ v ∈ htL Kf Nf s x y t, v ≤ z) → inB Kf Nf s x y (z - t) = false) := by
  intro s
  induction s using Nat.strongRecOn with
  | ind s ih =>
    intro h1 h2 x y t z z2
    have hw := H s h1 h2
    have hkf := kf_in hw
    by_cases k4 : Kf s = 4
    · obtain ⟨-, a1, a2, b1, b2, -, -, w4⟩ := wfS_4 hw k4
      rw [htL_4 k4 (by omega) (by omega), inB_4 (s := s) k4 (by omega) (by omega), inB_4 (s := s) (z := z2 - t) k4 (by omega) (by omega)]
      obtain ⟨A1, A2, A3⟩ := ih (Nf (6 * s)).toNat (by omega) (by omega) (by omega) x y t z z2
      obtain ⟨B1, B2, B3⟩ := ih (Nf (6 * s + 1)).toNat (by omega) (by omega) (by omega) x y t z z2
      refine ⟨fun h => ?_, fun h => ?_, fun h => ?_⟩
      · rw [A1 (fun v hv => h v (List.mem_append_left _ hv)), B1 (fun v hv => h v (List.mem_append_right _ hv))]
      · rw [A2 (fun v hv => h v (List.mem_append_left _ hv)), B2 (fun v hv => h v (List.mem_append_right _ hv)), jnB_f]
      · rw [A3 (fun v hv => h v (List.mem_append_left _ hv)), B3 (fun v hv => h v (List.mem_append_right _ hv)), jnB_f]
    by_cases k5 : Kf s = 5
    · obtain ⟨a1, a2, -, -, -, w4⟩ := wfS_5 hw k5
      have hA := ih (Nf (6 * s + 3)).toNat (by omega) (by omega) (by omega) (x - Nf (6 * s)) (y - Nf (6 * s + 1)) (t + Nf (6 * s + 2)) z z2
      rw [htL_5 k5 (by omega), inB_5 (s := s) k5 (by omega), inB_5 (s := s) (z := z2 - t) k5 (by omega), show z - t - Nf (6 * s + 2) = z - (t + Nf (6 * s + 2)) by omega, show z2 - t - Nf (6 * s + 2) = z2 - (t + Nf (6 * s + 2)) by omega]
      exact hA
    by_cases k6 : Kf s = 6
    · obtain ⟨a1, a2, w4⟩ := wfS_6 hw k6
      have hA := ih (Nf (6 * s)).toNat (by omega) (by omega) (by omega) y (-x) t z z2
      rw [htL_6 k6 (by omega), inB_6 (s := s) k6 (by omega), inB_6 (s := s) (z := z2 - t) k6 (by omega)]
      exact hA
    obtain ⟨hk3, hw3, hN, hr1, hr2⟩ := wfS_k hw k4 k5 k6
    have hs := ed_sem H s h1 h2 x y t
    rw [htL_k hk3.2, ← hs.2 z, ← hs.2 z2]
    refine ⟨fun h => parE_same _ _ _ h, fun h => parE_lo _ _ h, fun h => ?_⟩
    obtain ⟨a, b, ke, ki, kc⟩ := kd hk3 hN hr1 hr2 x y
    rw [ke] at h ⊢
    unfold seg at h ⊢
    by_cases q : a + t < b + t
    · rw [if_pos q] at h ⊢
      rw [parE, parE, parE, Bool.xor_false, decide_eq_true (h (a + t) (by simp)), decide_eq_true (h (b + t) (by simp))]; rfl
    · rw [if_neg q, parE]
/-- the changes along sorted heights are the edges -/
theorem scn_sem {IS : Int → Bool} {p : Nat → Int} {m : Nat} (hs : srt p m) (hc : ∀ z z2, (∀ i, i < m → (p i ≤ z ↔ p i ≤ z2)) → IS z = IS z2) : ∀ (r k : Nat) (was : Bool), k + r = m → 0 < k → was = IS (p (k - 1)) → incE (scnI IS p r k was) ∧ (∀ x ∈ scnI IS p r k was, p (k - 1) < x) ∧ ∀ z, p (k - 1) ≤ z → (was ^^ parE (scnI IS p r k was) z) = IS z := by
  intro r
  induction r with
  | zero =>
    intro k was hk h0 hw
    rw [scnI]
    refine ⟨trivial, fun x hx => absurd hx (by simp), fun z hz => ?_⟩
    rw [parE, Bool.xor_false, hw]
    refine hc _ _ (fun i hi => ?_)
    have := hs i (k - 1) (by omega) (by omega)
    omega
  | succ r ih =>
    intro k was hk h0 hw
    have hle := hs (k - 1) k (by omega) (by omega)
    obtain ⟨r1, r2, r3⟩ := ih (k + 1) (IS (p k)) (by omega) (by omega) (by rw [Nat.add_sub_cancel])
    rw [Nat.add_sub_cancel] at r2 r3
    have lowz : ∀ z, p (k - 1) ≤ z → z < p k → IS z = was := by
      intro z h1 h2
      rw [hw]
      refine hc _ _ (fun i hi => ?_)
      by_cases q : i < k
      · have := hs i (k - 1) (by omega) (by omega); omega
      · have := hs k i (by omega) hi; omega
    rw [scnI]
    by_cases he : IS (p k) = was
    · rw [if_pos he]
      rw [he] at r1 r2 r3
      refine ⟨r1, fun x hx => by have := r2 x hx; omega, fun z hz => ?_⟩
      by_cases q : z < p k
      · rw [parE_lo _ z (fun v hv => by have := r2 v hv; omega), Bool.xor_false, lowz z hz q]
      · exact r3 z (by omega)
    · rw [if_neg he]
      have hne : p (k - 1) ≠ p k := fun e => he (by rw [hw, e])
      refine ⟨⟨r2, r1⟩, fun x hx => ?_, fun z hz => ?_⟩
      · rcases List.mem_cons.mp hx with rfl | hx
        · omega
        · have := r2 x hx; omega
      · by_cases q : z < p k
        · rw [parE_lo _ z (fun v hv => by
            rcases List.mem_cons.mp hv with rfl | hv
            · exact q
            · have := r2 v hv; omega), Bool.xor_false, lowz z hz q]
        · have h3 := r3 z (by omega)
          rw [← h3, parE, decide_eq_true (show p k ≤ z by omega)]
          revert he
          cases IS (p k) <;> cases was <;> cases parE (scnI IS p r (k + 1) _) z <;> decide
theorem scn_all {IS : Int → Bool} {p : Nat → Int} {m : Nat} (hs : srt p m) (hc : ∀ z z2, (∀ i, i < m → (p i ≤ z ↔ p i ≤ z2)) → IS z = IS z2) (hlo : ∀ z, (∀ i, i < m → z < p i) → IS z = false) : incE (scnI IS p m 0 false) ∧ ∀ z, parE (scnI IS p m 0 false) z = IS z := by
  cases m with
  | zero =>
    rw [scnI]
    exact ⟨trivial, fun z => by rw [parE, hlo z (fun i hi => by omega)]⟩
  | succ m =>
    obtain ⟨r1, r2, r3⟩ := scn_sem hs hc m 1 (IS (p 0)) (by omega) (by omega) rfl
    rw [show 1 - 1 = 0 from rfl] at r2 r3
    have lowz : ∀ z, z < p 0 → IS z = false := fun z h => hlo z (fun i hi => by have := hs 0 i (by omega) hi; omega)
    rw [scnI]
    by_cases he : IS (p 0) = false
    · rw [if_pos he]
      rw [he] at r1 r2 r3
      refine ⟨r1, fun z => ?_⟩
      by_cases q : z < p 0
      · rw [parE_lo _ z (fun v hv => by have := r2 v hv; omega), lowz z q]
      · have := r3 z (by omega); rw [Bool.false_xor] at this; exact this
    · rw [if_neg he]
      have ht : IS (p 0) = true := by cases h : IS (p 0) <;> simp_all
      refine ⟨⟨r2, r1⟩, fun z => ?_⟩
      by_cases q : z < p 0
      · rw [parE_lo _ z (fun v hv => by
          rcases List.mem_cons.mp hv with rfl | hv
          · exact q
          · have := r2 v hv; omega), lowz z q]
      · have h3 := r3 z (by omega)
        rw [← h3, parE, decide_eq_true (show p 0 ≤ z by omega)]
        rw [ht]
end
