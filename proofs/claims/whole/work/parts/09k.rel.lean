theorem nc_eqg {s s' : MM} {a : Nat} : ∀ n, (∀ i, i < n → (m_going s' (4 * a + i) ↔ m_going s (4 * a + i))) → nc s' a n = nc s a n := by
  intro n
  induction n with
  | zero => intro _; rfl
  | succ n ih =>
    intro h
    simp only [nc]
    rw [ih (fun i hi => h i (by omega))]
    have := h n (by omega)
    by_cases g : m_going s (4 * a + n)
    · rw [@if_pos _ (m_goingD s' (4 * a + n)) (this.mpr g), @if_pos _ (m_goingD s (4 * a + n)) g]
    · rw [@if_neg _ (m_goingD s' (4 * a + n)) (fun w => g (this.mp w)), @if_neg _ (m_goingD s (4 * a + n)) g]
theorem RQ_eqg {c c' : CM} {s s' : MM} {a n r r' : Nat} {g o : Nat → Nat} (h : RQ c s a n r g o) (hr : r ≤ r') (h1 : c'.1 (pC a) 4 = c.1 (pC a) 4) (h2 : ∀ i, i < n → c'.1 (pB a i) 15 = c.1 (pB a i) 15) (h3 : ∀ i, i < n → (m_going s' (4 * a + i) ↔ m_going s (4 * a + i)) ∧ s'.1 190 (4 * a + i) = s.1 190 (4 * a + i) ∧ s'.1 191 (4 * a + i) = s.1 191 (4 * a + i)) : RQ c' s' a n r' g o := by
  have e := nc_eqg (s := s) (s' := s') (a := a) n (fun i hi => (h3 i hi).1)
  obtain ⟨q1, q2, q3, q4⟩ := h
  refine ⟨?_, ?_, ?_, ?_⟩
  · rw [h1, e]; exact q1
  · intro i hi hg; rw [(h3 i hi).2.1]; exact q2 i hi ((h3 i hi).1.mp hg)
  · intro i hi hg
    rw [(h3 i hi).2.1, (h3 i hi).2.2, h2 i hi, e]
    have := q3 i hi (fun w => hg ((h3 i hi).1.mpr w))
    exact ⟨this.1, this.2.1, this.2.2.1, by omega, this.2.2.2.2.1, this.2.2.2.2.2⟩
  · intro i j hi hj g1 g2
    exact q4 i j hi hj (fun w => g1 ((h3 i hi).1.mpr w)) (fun w => g2 ((h3 j hj).1.mpr w))
theorem RQ1_eqg {s s' : MM} {a n : Nat} (h : RQ1 s a n) (h0 : s'.1 181 a = 1 → s.1 181 a = 1) (h3 : ∀ i, i < n → (m_going s' (4 * a + i) ↔ m_going s (4 * a + i)) ∧ s'.1 190 (4 * a + i) = s.1 190 (4 * a + i)) : RQ1 s' a n := by
  intro hs i hi hg
  rw [(h3 i hi).2]
  exact h (h0 hs) i hi (fun w => hg ((h3 i hi).1.mpr w))
def Fm (a : Nat) (s s' : MM) : Prop := ∀ p j, ¬ MA a p j → ¬ (p = 170 ∧ (j = 30 ∨ j = 28)) → s'.1 p j = s.1 p j
theorem Fm_r {a : Nat} {s : MM} : Fm a s s := fun _ _ _ _ => rfl
theorem Fm_t {a : Nat} {s u v : MM} (h : Fm a s u) (g : Fm a u v) : Fm a s v := fun p j h1 h2 => (g p j h1 h2).trans (h p j h1 h2)
theorem Fm_S {a : Nat} {s s' : MM} (h : Td (QS a) s s') : Fm a s s' := fun p j h1 h2 => h p j (fun w => by
  unfold QS at w
  unfold MA at h1
  omega)
theorem Fm_B {a i : Nat} {s s' : MM} (hi : i < 4) (h : ∀ p j, ¬ QB (4 * a + i) p j → ¬ (p = 170 ∧ j = 28) → s'.1 p j = s.1 p j) : Fm a s s' := fun p j h1 h2 => h p j (fun w => (QB_MA hi w).elim h1 (fun v => h2 ⟨v.1, Or.inl v.2⟩)) (fun v => h2 ⟨v.1, Or.inr v.2⟩)
theorem Fr_S {a : Nat} {c c' : CM} (h : Tc (PS a) c c') : Fr a c c' := ⟨fun q j h1 h2 => h.1 q j (fun w => by
  unfold PS pS at w
  omega), h.2⟩
theorem Fr_B {a i : Nat} {c c' : CM} (hi : i < 4) (h : Tc (PB a i) c c') : Fr a c c' := ⟨fun q j h1 h2 => h.1 q j (fun w => by
  unfold PB pB at w
  omega), h.2⟩
-- everything about one call, but for what a server that waits may hope for
def SB (τs : Nat → Nat) (τb : Nat → Nat → Nat) (N t M a n r : Nat) (c : CM) (s : MM) : Prop := RG N t c s ∧ RC τs τb t M c s a n ∧ (∃ g o, RQ c s a n r g o) ∧ s.1 170 28 = nI r
theorem SB_sv {τs τ' : Nat → Nat} {τb : Nat → Nat → Nat} {N t M a n r : Nat} {c c' : CM} {s s' : MM} (h : SB τs τb N t M a n r c s) (hG : RG N t c' s') (hc : Tc (PS a) c c') (hs : Td (QS a) s s') (hb : ∃ q sg, RS τ' t M q sg c' s' a) (h0 : s'.1 181 a = 0 → n = 0) : SB τ' τb N t M a n r c' s' ∧ Fr a c c' ∧ Fm a s s' := by
  obtain ⟨g1, g2, ⟨g, o, g3⟩, g4⟩ := h
  refine ⟨⟨hG, RC_sv g2 hc hs hb h0, ⟨g, o, ?_⟩, ?_⟩, Fr_S hc, Fm_S hs⟩
  · exact RQ_eq g3 (Nat.le_refl _) (hc.1 _ _ (by unfold PS pC pS; omega)) (fun i hi => hc.1 _ _ (by unfold PS pB pS; have := g2.1.2.2.1; omega)) (fun i hi => ⟨hs _ _ (by unfold QS; omega), hs _ _ (by unfold QS; omega), hs _ _ (by unfold QS; omega)⟩)
  · rw [hs 170 28 (by unfold QS; omega)]; exact g4
theorem SB_b {τs : Nat → Nat} {τb : Nat → Nat → Nat} {τ' : Nat → Nat} {N t M a n r i : Nat} {c c' : CM} {s s' : MM} (h : SB τs τb N t M a n r c s) (hi : i < n) (hG : RG N t c' s') (hc : Tc (PB a i) c c') (hs : Td (QB (4 * a + i)) s s') (hb : ∃ r sa se, RB τ' t M r sa se c' s' a i) (hl : c'.1 (pB a i) 2 = c.1 (pB a i) 2 ∧ c'.1 (pB a i) 3 = c.1 (pB a i) 3 ∧ c'.1 (pB a i) 15 = c.1 (pB a i) 15) (hg : (m_going s' (4 * a + i) ↔ m_going s (4 * a + i)) ∧ s'.1 190 (4 * a + i) = s.1 190 (4 * a + i) ∧ s'.1 191 (4 * a + i) = s.1 191 (4 * a + i)) : SB τs (fun j => if j = i then τ' else τb j) N t M a n r c' s' ∧ Fr a c c' ∧ Fm a s s' := by
  obtain ⟨g1, g2, ⟨g, o, g3⟩, g4⟩ := h
  have i4 : i < 4 := by have := g2.1.2.2.1; omega
  have hl0 := g2.2.2.2.1 i i4
  refine ⟨⟨hG, RC_br g2 hi hc (fun p j h1 _ => hs p j h1) hb ⟨hl.1.trans hl0.1, hl.2.1.trans hl0.2⟩, ⟨g, o, ?_⟩, ?_⟩, Fr_B i4 hc, Fm_B i4 (fun p j h1 _ => hs p j h1)⟩
  · refine RQ_eqg g3 (Nat.le_refl _) (hc.1 _ _ (by unfold PB pC pB; omega)) (fun j hj => ?_) (fun j hj => ?_)
    · by_cases e : j = i
      · rw [e]; exact hl.2.2
      · exact hc.1 _ _ (by unfold PB pB; omega)
    · by_cases e : j = i
      · rw [e]; exact hg
      · refine ⟨?_, hs _ _ (by unfold QB; omega), hs _ _ (by unfold QB; omega)⟩
        unfold m_going
        rw [hs 186 (4 * a + j) (by unfold QB; omega)]
  · rw [hs 170 28 (by unfold QB; omega)]; exact g4
theorem up_id {τb : Nat → Nat → Nat} {i : Nat} : (fun j => if j = i then τb i else τb j) = τb := by
  funext j
  by_cases q : j = i
  · rw [if_pos q, q]
  · rw [if_neg q]
-- a branch gets its result
theorem SB_gain {τs : Nat → Nat} {τb : Nat → Nat → Nat} {τ' : Nat → Nat} {N t M a n r i : Nat} {c c' : CM} {s s' : MM} (h : SB τs τb N t M a n r c s) (hi : i < n) (hgo : m_going s (4 * a + i)) (hG : RG N t c' s') (hc : Tc (PB a i) c c') (hs : ∀ p j, ¬ QB (4 * a + i) p j → ¬ (p = 170 ∧ j = 28) → s'.1 p j = s.1 p j) (hb : ∃ r sa se, RB τ' t M r sa se c' s' a i) (hl : c'.1 (pB a i) 2 = c.1 (pB a i) 2 ∧ c'.1 (pB a i) 3 = c.1 (pB a i) 3) (hng : ¬ m_going s' (4 * a + i)) (hw : ¬ s'.1 190 (4 * a + i) = 0) (hca : s'.1 191 (4 * a + i) = s.1 170 28) (hre : s'.1 170 28 = s.1 170 28 + 1) : SB τs (fun j => if j = i then τ' else τb j) N t M a n (r + 1) (cl_cnt c' a i) s' ∧ Fr a c (cl_cnt c' a i) ∧ Fm a s s' := by
  obtain ⟨g1, g2, ⟨g, o, g3⟩, g4⟩ := h
  have i4 : i < 4 := by have := g2.1.2.2.1; omega
  have hl0 := g2.2.2.2.1 i i4
  have eC : ∀ j, c'.1 (pC a) j = c.1 (pC a) j := fun j => hc.1 _ _ (by unfold PB pC pB; omega)
  have hR := RC_br g2 hi hc hs hb ⟨hl.1.trans hl0.1, hl.2.trans hl0.2⟩
  refine ⟨⟨?_, RC_slot hR (fun q j h1 h2 => ?_), ⟨_, _, RQ_gain (c' := cl_cnt c' a i) (s' := s') g3 hi hgo hng hw ?_ (fun j hj e => ⟨hs _ _ (by unfold QB; omega) (by omega), hs _ _ (by unfold QB; omega) (by omega), hs _ _ (by unfold QB; omega) (by omega)⟩) ?_ ?_ (fun j hj e => ?_)⟩, ?_⟩, Fr_t (Fr_B i4 hc) (Fr_cnt i4), Fm_B i4 hs⟩
  · exact RG_c (RG_c hG g3C) g3B
  · rw [cnt_at, if_neg (fun w => h1 w.2), if_neg (fun w => h2 w.2)]
  · rw [hca, g4]
  · rw [cnt_at, if_neg (fun w => absurd w.2 (by decide)), if_pos ⟨rfl, rfl⟩, eC]
  · rw [cnt_at, if_pos ⟨rfl, rfl⟩, eC]
  · rw [cnt_at, if_neg (fun w => e (by have := w.1; unfold pB at this; omega)), if_neg (fun w => absurd w.2 (by decide))]
    exact hc.1 _ _ (by unfold PB pB; omega)
  · rw [hre, g4, ad1]
theorem SB_co {τs : Nat → Nat} {τb : Nat → Nat → Nat} {N t M a n r : Nat} {c : CM} {s : MM} {but : Int32} (h : SB τs τb N t M a n r c s) (hτ : ∀ i k, τb i k ≤ N) (hM : N + 200 * t ≤ M) (ht : 1 ≤ t) (hb : ∀ i, i < n → nI i = but → ¬ m_going s (4 * a + i)) : SB τs τb N t M a n r (cl_co a n 0 c) (m_so s a but n 0) ∧ Fr a c (cl_co a n 0 c) ∧ Fm a s (m_so s a but n 0) ∧ Sk a n c (cl_co a n 0 c) s (m_so s a but n 0) := by
  obtain ⟨g1, g2, ⟨g, o, g3⟩, g4⟩ := h
  obtain ⟨q1, q2, q3⟩ := RC_co (τs := τs) (but := but) hτ hM ht n 0 c s (by omega) g1 g2 hb
  refine ⟨⟨q1, q2, ⟨g, o, RQ_eq g3 (Nat.le_refl _) (q3.2.1 4) q3.1 q3.2.2.1⟩, ?_⟩, q3.2.2.2.2.2.1, fun p j h1 h2 => q3.2.2.2.2.2.2 p j h1 (fun w => h2 ⟨w.1, Or.inl w.2⟩), q3⟩
  rw [q3.2.2.2.2.1]; exact g4
theorem SB_judge {τs : Nat → Nat} {τb : Nat → Nat → Nat} {N t M a n r : Nat} {c : CM} {s : MM} (h : SB τs τb N t M a n r c s) (hQ1 : RQ1 s a n) (hn : 0 < n) (hr : r < 2147483647) (hτ : ∀ k, τs k ≤ N) (hM : N + 200 * t ≤ M) (ht : 1 ≤ t) : SB τs τb N t M a n r (cl_all c a n) (m_judge s a n) ∧ RQ1 (m_judge s a n) a n ∧ Fr a c (cl_all c a n) ∧ Fm a s (m_judge s a n) ∧ Tc (PS a) c (cl_all c a n) ∧ Td (QS a) s (m_judge s a n) := by
  obtain ⟨g1, g2, ⟨g, o, g3⟩, g4⟩ := h
  obtain ⟨q1, q2, q3, q4, q5, q6⟩ := RC_judge g1 g2 g3 hQ1 hn hr hτ hM ht
  refine ⟨⟨q1, q2, ⟨g, o, q3⟩, ?_⟩, q4, Fr_S q5, Fm_S q6, q5, q6⟩
  rw [q6 170 28 (by unfold QS; omega)]; exact g4
