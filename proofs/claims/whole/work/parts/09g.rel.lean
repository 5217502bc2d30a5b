-- one call, both sides
def MA (a p j : Nat) : Prop := ((p = 181 ∨ p = 182 ∨ p = 184 ∨ p = 185) ∧ j = a) ∨ (p = 183 ∧ 4 * a ≤ j ∧ j < 4 * a + 4) ∨ (((186 ≤ p ∧ p ≤ 191) ∨ p = 193 ∨ p = 194) ∧ 4 * a ≤ j ∧ j < 4 * a + 4) ∨ (p = 192 ∧ 24 * a ≤ j ∧ j < 24 * a + 24)
def nc (s : MM) (a : Nat) : Nat → Nat
  | 0 => 0
  | n + 1 => nc s a n + @ite _ (m_going s (4 * a + n)) (m_goingD s (4 * a + n)) 0 1
def RQ (c : CM) (s : MM) (a n r : Nat) (g o : Nat → Nat) : Prop :=
  (n = 0 ∨ c.1 (pC a) 4 = nI (nc s a n))
  ∧ (∀ i, i < n → m_going s (4 * a + i) → s.1 190 (4 * a + i) = 0)
  ∧ (∀ i, i < n → ¬ m_going s (4 * a + i) → ¬ s.1 190 (4 * a + i) = 0 ∧ s.1 191 (4 * a + i) = nI (g i) ∧ c.1 (pB a i) 15 = nI (o i) ∧ g i < r ∧ 1 ≤ o i ∧ o i ≤ nc s a n)
  ∧ (∀ i j, i < n → j < n → ¬ m_going s (4 * a + i) → ¬ m_going s (4 * a + j) → (g i < g j ↔ o i < o j) ∧ (o i = o j → i = j))
def RQ1 (s : MM) (a n : Nat) : Prop := s.1 181 a = 1 → ∀ i, i < n → ¬ m_going s (4 * a + i) → 300 ≤ s.1 190 (4 * a + i) ∧ s.1 190 (4 * a + i) ≤ 699
def RC (τs : Nat → Nat) (τb : Nat → Nat → Nat) (t M : Nat) (c : CM) (s : MM) (a n : Nat) : Prop :=
  (c.1 (pC a) 3 = nI n ∧ s.1 185 a = nI n ∧ n ≤ 4 ∧ c.1 (pC a) 0 = nI a)
  ∧ (∃ q sg, RS τs t M q sg c s a)
  ∧ (s.1 181 a = 0 → n = 0)
  ∧ (∀ i, i < 4 → c.1 (pB a i) 2 = nI a ∧ c.1 (pB a i) 3 = nI i)
  ∧ (∀ i, i < n → ∃ r sa se, RB (τb i) t M r sa se c s a i)
  ∧ (∀ i, n ≤ i → i < 4 → c.1 (pB a i) 11 = 4 ∧ ∀ k, k < 6 → c.1 (pT a i k) 2 = NV)
theorem nc_eq {s s' : MM} {a : Nat} : ∀ n, (∀ i, i < n → s'.1 186 (4 * a + i) = s.1 186 (4 * a + i)) → nc s' a n = nc s a n := by
  intro n
  induction n with
  | zero => intro _; rfl
  | succ n ih =>
    intro h
    simp only [nc]
    rw [ih (fun i hi => h i (by omega))]
    have e := h n (by omega)
    have : m_going s' (4 * a + n) ↔ m_going s (4 * a + n) := by unfold m_going; rw [e]
    by_cases g : m_going s (4 * a + n)
    · rw [@if_pos _ (m_goingD s' (4 * a + n)) (this.mpr g), @if_pos _ (m_goingD s (4 * a + n)) g]
    · rw [@if_neg _ (m_goingD s' (4 * a + n)) (fun w => g (this.mp w)), @if_neg _ (m_goingD s (4 * a + n)) g]
theorem nc_le {s : MM} {a : Nat} : ∀ n, nc s a n ≤ n := by
  intro n
  induction n with
  | zero => exact Nat.le_refl _
  | succ n ih =>
    simp only [nc]
    have : @ite Nat _ (m_goingD s (4 * a + n)) 0 1 ≤ 1 := by split <;> omega
    omega
theorem nc_all {s : MM} {a : Nat} : ∀ n, nc s a n = n ↔ ∀ i, i < n → ¬ m_going s (4 * a + i) := by
  intro n
  induction n with
  | zero => exact ⟨fun _ i hi => absurd hi (Nat.not_lt_zero _), fun _ => rfl⟩
  | succ n ih =>
    have hl := nc_le (s := s) (a := a) n
    simp only [nc]
    by_cases g : m_going s (4 * a + n)
    · rw [@if_pos _ (m_goingD s (4 * a + n)) g]
      exact ⟨fun h => by omega, fun h => absurd g (h n (by omega))⟩
    · rw [@if_neg _ (m_goingD s (4 * a + n)) g]
      refine ⟨fun h i hi => ?_, fun h => ?_⟩
      · by_cases e : i = n
        · rw [e]; exact g
        · exact (ih.mp (by omega)) i (by omega)
      · rw [ih.mpr (fun i hi => h i (by omega))]
theorem nc_one {s s' : MM} {a i : Nat} : ∀ n, i < n → (∀ j, j < n → ¬ j = i → s'.1 186 (4 * a + j) = s.1 186 (4 * a + j)) → m_going s (4 * a + i) → ¬ m_going s' (4 * a + i) → nc s' a n = nc s a n + 1 := by
  intro n
  induction n with
  | zero => intro h; exact absurd h (Nat.not_lt_zero _)
  | succ n ih =>
    intro hi h g1 g2
    simp only [nc]
    by_cases e : i = n
    · subst e
      rw [nc_eq i (fun j hj => h j (by omega) (by omega)), @if_pos _ (m_goingD s (4 * a + i)) g1, @if_neg _ (m_goingD s' (4 * a + i)) g2]
    · have e2 := h n (by omega) (fun w => e w.symm)
      have : m_going s' (4 * a + n) ↔ m_going s (4 * a + n) := by unfold m_going; rw [e2]
      rw [ih (by omega) (fun j hj => h j (by omega)) g1 g2]
      by_cases g : m_going s (4 * a + n)
      · rw [@if_pos _ (m_goingD s' (4 * a + n)) (this.mpr g), @if_pos _ (m_goingD s (4 * a + n)) g]
      · rw [@if_neg _ (m_goingD s' (4 * a + n)) (fun w => g (this.mp w)), @if_neg _ (m_goingD s (4 * a + n)) g]
-- the same cells
theorem RQ_eq {c c' : CM} {s s' : MM} {a n r r' : Nat} {g o : Nat → Nat} (h : RQ c s a n r g o) (hr : r ≤ r') (h1 : c'.1 (pC a) 4 = c.1 (pC a) 4) (h2 : ∀ i, i < n → c'.1 (pB a i) 15 = c.1 (pB a i) 15) (h3 : ∀ i, i < n → s'.1 186 (4 * a + i) = s.1 186 (4 * a + i) ∧ s'.1 190 (4 * a + i) = s.1 190 (4 * a + i) ∧ s'.1 191 (4 * a + i) = s.1 191 (4 * a + i)) : RQ c' s' a n r' g o := by
  have e := nc_eq (s := s) (s' := s') (a := a) n (fun i hi => (h3 i hi).1)
  have eg : ∀ i, i < n → (m_going s' (4 * a + i) ↔ m_going s (4 * a + i)) := fun i hi => by unfold m_going; rw [(h3 i hi).1]
  obtain ⟨q1, q2, q3, q4⟩ := h
  refine ⟨?_, ?_, ?_, ?_⟩
  · rw [h1, e]; exact q1
  · intro i hi hg; rw [(h3 i hi).2.1]; exact q2 i hi ((eg i hi).mp hg)
  · intro i hi hg
    rw [(h3 i hi).2.1, (h3 i hi).2.2, h2 i hi, e]
    have := q3 i hi (fun w => hg ((eg i hi).mpr w))
    exact ⟨this.1, this.2.1, this.2.2.1, by omega, this.2.2.2.2.1, this.2.2.2.2.2⟩
  · intro i j hi hj g1 g2
    exact q4 i j hi hj (fun w => g1 ((eg i hi).mpr w)) (fun w => g2 ((eg j hj).mpr w))
theorem RQ1_eq {s s' : MM} {a n : Nat} (h : RQ1 s a n) (h0 : s'.1 181 a = 1 → s.1 181 a = 1) (h3 : ∀ i, i < n → s'.1 186 (4 * a + i) = s.1 186 (4 * a + i) ∧ s'.1 190 (4 * a + i) = s.1 190 (4 * a + i)) : RQ1 s' a n := by
  intro hs i hi hg
  rw [(h3 i hi).2]
  exact h (h0 hs) i hi (fun w => hg (by unfold m_going at w ⊢; rw [(h3 i hi).1]; exact w))
theorem RC_eq {τs : Nat → Nat} {τb : Nat → Nat → Nat} {t M : Nat} {c c' : CM} {s s' : MM} {a n : Nat} (h : RC τs τb t M c s a n) (h1 : ∀ q j, (30 + 35 * a ≤ q ∧ q < 65 + 35 * a) → c'.1 q j = c.1 q j) (h2 : ∀ p j, MA a p j → s'.1 p j = s.1 p j) : RC τs τb t M c' s' a n := by
  obtain ⟨⟨f1, f2, f3, f4⟩, ⟨q, sg, f5⟩, f6, f7, f8, f9⟩ := h
  refine ⟨⟨?_, ?_, f3, ?_⟩, ⟨q, sg, RS_eq f5 (fun p j hp => h1 p j (by unfold pS at hp; omega)) (fun p j hp => h2 p j (by unfold MA; omega))⟩, ?_, ?_, ?_, ?_⟩
  · rw [h1 _ _ (in_C a)]; exact f1
  · rw [h2 185 a (by unfold MA; omega)]; exact f2
  · rw [h1 _ _ (in_C a)]; exact f4
  · rw [h2 181 a (by unfold MA; omega)]; exact f6
  · intro i hi; rw [h1 _ _ (in_B hi), h1 _ _ (in_B hi)]; exact f7 i hi
  · intro i hi
    obtain ⟨r, sa, se, w⟩ := f8 i hi
    exact ⟨r, sa, se, RB_eq w (fun p j hp => h1 p j (by unfold pB at hp; omega)) (fun p j hp => h2 p j (by unfold MA; omega))⟩
  · intro i h3 h4
    refine ⟨?_, fun k hk => ?_⟩
    · rw [h1 _ _ (in_B h4)]; exact (f9 i h3 h4).1
    · rw [h1 _ _ (in_T h4 hk)]; exact (f9 i h3 h4).2 k hk
-- a step of one branch
theorem RC_br {τs : Nat → Nat} {τb : Nat → Nat → Nat} {τ' : Nat → Nat} {t M : Nat} {c c' : CM} {s s' : MM} {a n i : Nat} (h : RC τs τb t M c s a n) (hi : i < n) (hc : Tc (PB a i) c c') (hs : ∀ p j, ¬ QB (4 * a + i) p j → ¬ (p = 170 ∧ j = 28) → s'.1 p j = s.1 p j) (hb : ∃ r sa se, RB τ' t M r sa se c' s' a i) (hl : c'.1 (pB a i) 2 = nI a ∧ c'.1 (pB a i) 3 = nI i) : RC τs (fun j => if j = i then τ' else τb j) t M c' s' a n := by
  obtain ⟨⟨f1, f2, f3, f4⟩, ⟨q, sg, f5⟩, f6, f7, f8, f9⟩ := h
  have i4 : i < 4 := by omega
  have eC : ∀ j, c'.1 (pC a) j = c.1 (pC a) j := fun j => hc.1 _ _ (by unfold PB pC pB; omega)
  refine ⟨⟨?_, ?_, f3, ?_⟩, ⟨q, sg, RS_eq f5 (fun p j hp => hc.1 p j (by unfold pS at hp; unfold PB pB; omega)) (fun p j hp => hs p j (by unfold QB; omega) (by omega))⟩, ?_, ?_, ?_, ?_⟩
  · rw [eC]; exact f1
  · rw [hs 185 a (by unfold QB; omega) (by omega)]; exact f2
  · rw [eC]; exact f4
  · rw [hs 181 a (by unfold QB; omega) (by omega)]; exact f6
  · intro j hj
    by_cases e : j = i
    · subst e; exact hl
    · have : ∀ x, c'.1 (pB a j) x = c.1 (pB a j) x := fun x => hc.1 _ _ (by unfold PB pB; omega)
      rw [this, this]; exact f7 j hj
  · intro j hj
    by_cases e : j = i
    · subst e; simp only [if_true]; exact hb
    · simp only [e, if_false]
      obtain ⟨r, sa, se, w⟩ := f8 j hj
      exact ⟨r, sa, se, RB_eq w (fun p x hp => hc.1 p x (by unfold pB at hp; unfold PB pB; omega)) (fun p x hp => hs p x (by unfold QB; omega) (by omega))⟩
  · intro j h3 h4
    have : ∀ p x, (pB a j ≤ p ∧ p < pB a j + 7) → c'.1 p x = c.1 p x := fun p x hp => hc.1 _ _ (by unfold pB at hp; unfold PB pB; omega)
    refine ⟨?_, fun k hk => ?_⟩
    · rw [this _ _ (by omega)]; exact (f9 j h3 h4).1
    · rw [this _ _ (by unfold pT pB; omega)]; exact (f9 j h3 h4).2 k hk
-- a step of the server
theorem RC_sv {τs τ' : Nat → Nat} {τb : Nat → Nat → Nat} {t M : Nat} {c c' : CM} {s s' : MM} {a n : Nat} (h : RC τs τb t M c s a n) (hc : Tc (PS a) c c') (hs : Td (QS a) s s') (hb : ∃ q sg, RS τ' t M q sg c' s' a) (h0 : s'.1 181 a = 0 → n = 0) : RC τ' τb t M c' s' a n := by
  obtain ⟨⟨f1, f2, f3, f4⟩, -, f6, f7, f8, f9⟩ := h
  have eC : ∀ j, c'.1 (pC a) j = c.1 (pC a) j := fun j => hc.1 _ _ (by unfold PS pC pS; omega)
  have eB : ∀ i p x, i < 4 → (pB a i ≤ p ∧ p < pB a i + 7) → c'.1 p x = c.1 p x := fun i p x hi hp => hc.1 _ _ (by unfold pB at hp; unfold PS pS; omega)
  refine ⟨⟨?_, ?_, f3, ?_⟩, hb, h0, ?_, ?_, ?_⟩
  · rw [eC]; exact f1
  · rw [hs 185 a (by unfold QS; omega)]; exact f2
  · rw [eC]; exact f4
  · intro j hj
    rw [eB j _ _ hj (by omega), eB j _ _ hj (by omega)]; exact f7 j hj
  · intro j hj
    obtain ⟨r, sa, se, w⟩ := f8 j hj
    exact ⟨r, sa, se, RB_eq w (fun p x hp => eB j p x (by omega) hp) (fun p x hp => hs p x (by unfold QS; omega))⟩
  · intro j h3 h4
    refine ⟨?_, fun k hk => ?_⟩
    · rw [eB j _ _ h4 (by omega)]; exact (f9 j h3 h4).1
    · rw [eB j _ _ h4 (by unfold pT pB; omega)]; exact (f9 j h3 h4).2 k hk
