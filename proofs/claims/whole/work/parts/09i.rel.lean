theorem RC_op {τs : Nat → Nat} {τb : Nat → Nat → Nat} {t M : Nat} {c : CM} {s : MM} {a n i : Nat} (h : RC τs τb t M c s a n) (hi : i < n) : b_op c a i ↔ m_going s (4 * a + i) := by
  unfold b_op m_going
  rw [RC_st h hi]
-- a step of one branch at the same instants
theorem RC_b1 {τs : Nat → Nat} {τb : Nat → Nat → Nat} {t M : Nat} {c c' : CM} {s s' : MM} {a n i : Nat} (h : RC τs τb t M c s a n) (hi : i < n) (hc : Tc (PB a i) c c') (hs : ∀ p j, ¬ QB (4 * a + i) p j → ¬ (p = 170 ∧ j = 28) → s'.1 p j = s.1 p j) (hb : ∃ r sa se, RB (τb i) t M r sa se c' s' a i) (hl : c'.1 (pB a i) 2 = nI a ∧ c'.1 (pB a i) 3 = nI i) : RC τs τb t M c' s' a n := by
  have := RC_br h hi hc hs hb hl
  have e : (fun j => if j = i then τb i else τb j) = τb := by
    funext j
    by_cases q : j = i
    · rw [if_pos q, q]
    · rw [if_neg q]
  rw [e] at this
  exact this
theorem RC_stop {τs : Nat → Nat} {τb : Nat → Nat → Nat} {t M N : Nat} {c : CM} {s : MM} {a n i : Nat} (hG : RG N t c s) (h : RC τs τb t M c s a n) (hi : i < n) (hτ : ∀ k, τb i k ≤ N) (hM : N + 200 * t ≤ M) (ht : 1 ≤ t) (ho : b_op c a i) : RG N t (b_want c a i) (m_stop s a i) ∧ RC τs τb t M (b_want c a i) (m_stop s a i) a n := by
  obtain ⟨r, sa, se, hB⟩ := h.2.2.2.2.1 i hi
  have hl := h.2.2.2.1 i (by have := h.1.2.2.1; omega)
  obtain ⟨hG1, r', se', hB1⟩ := RB_stop hG hB hl hτ (by omega) ht ho
  exact ⟨hG1, RC_b1 h hi Tb_want (fun p j h1 _ => Td_stop p j h1) ⟨r', sa, se', hB1⟩ ⟨want_15.2.1.trans hl.1, want_15.2.2.trans hl.2⟩⟩
theorem RC_co {τs : Nat → Nat} {τb : Nat → Nat → Nat} {t M N : Nat} {a n : Nat} {but : Int32} (hτ : ∀ i k, τb i k ≤ N) (hM : N + 200 * t ≤ M) (ht : 1 ≤ t) : ∀ (d j : Nat) (c : CM) (s : MM), j + d = n → RG N t c s → RC τs τb t M c s a n → (∀ i, i < n → nI i = but → ¬ m_going s (4 * a + i)) → RG N t (cl_co a d j c) (m_so s a but d j) ∧ RC τs τb t M (cl_co a d j c) (m_so s a but d j) a n ∧ Sk a n c (cl_co a d j c) s (m_so s a but d j) := by
  intro d
  induction d with
  | zero => intro j c s _ hG h _; exact ⟨hG, h, Sk_r⟩
  | succ d ih =>
    intro j c s hj hG h hb
    have hjn : j < n := by omega
    simp only [cl_co, m_so]
    by_cases ho : b_op c a j
    · have hg := (RC_op h hjn).mp ho
      rw [@if_pos _ (b_opD c a j) ho, if_neg (fun w => hb j hjn w hg)]
      obtain ⟨hG1, h1⟩ := RC_stop hG h hjn (hτ j) hM ht ho
      have hk := Sk_stop (a := a) (c := c) (s := s) hjn h.1.2.2.1
      obtain ⟨q1, q2, q3⟩ := ih (j + 1) _ _ (by omega) hG1 h1 (fun i hi w => by
        have := hb i hi w
        unfold m_going at this ⊢
        rw [(hk.2.2.1 i hi).1]; exact this)
      exact ⟨q1, q2, Sk_t hk q3⟩
    · have hg : ¬ m_going s (4 * a + j) := fun w => ho ((RC_op h hjn).mpr w)
      rw [@if_neg _ (b_opD c a j) ho]
      have e : (if nI j = but then s else m_stop s a j) = s := by
        split
        · rfl
        · exact stop_id hg
      rw [e]
      exact ih (j + 1) c s (by omega) hG h hb
-- counting an outcome
theorem cnt_at (c : CM) (a i q j : Nat) : (cl_cnt c a i).1 q j = if q = pB a i ∧ j = 15 then c.1 (pC a) 4 + 1 else if q = pC a ∧ j = 4 then c.1 (pC a) 4 + 1 else c.1 q j := by
  unfold cl_cnt
  rw [cI_at, cI_at]
theorem RC_slot {τs : Nat → Nat} {τb : Nat → Nat → Nat} {t M : Nat} {c c' : CM} {s : MM} {a n : Nat} (h : RC τs τb t M c s a n) (e : ∀ q j, ¬ j = 15 → ¬ j = 4 → c'.1 q j = c.1 q j) : RC τs τb t M c' s a n := by
  obtain ⟨⟨f1, f2, f3, f4⟩, ⟨q, sg, ⟨⟨s1, s2, s3⟩, s4, s5, s6⟩⟩, f6, f7, f8, f9⟩ := h
  refine ⟨⟨?_, f2, f3, ?_⟩, ⟨q, sg, ⟨⟨?_, ?_, ?_⟩, ?_, s5, ?_⟩⟩, f6, ?_, ?_, ?_⟩
  · rw [e _ _ (by decide) (by decide)]; exact f1
  · rw [e _ _ (by decide) (by decide)]; exact f4
  · rw [e _ _ (by decide) (by decide)]; exact s1
  · rw [e _ _ (by decide) (by decide)]; exact s2
  · rw [e _ _ (by decide) (by decide)]; exact s3
  · intro k hk; rw [e _ _ (by decide) (by decide)]; exact s4 k hk
  · rw [e _ _ (by decide) (by decide)]; exact s6
  · intro i hi; rw [e _ _ (by decide) (by decide), e _ _ (by decide) (by decide)]; exact f7 i hi
  · intro i hi
    obtain ⟨r, sa, se, ⟨b1, b2, b3, b4, b5⟩, b6, b7, b8⟩ := f8 i hi
    refine ⟨r, sa, se, ⟨?_, ?_, ?_, ?_, ?_⟩, ?_, b7, ?_⟩
    · rw [e _ _ (by decide) (by decide)]; exact b1
    · rw [e _ _ (by decide) (by decide)]; exact b2
    · rw [e _ _ (by decide) (by decide)]; exact b3
    · rw [e _ _ (by decide) (by decide)]; exact b4
    · rw [e _ _ (by decide) (by decide)]; exact b5
    · intro k hk; rw [e _ _ (by decide) (by decide)]; exact b6 k hk
    · rw [e _ _ (by decide) (by decide), e _ _ (by decide) (by decide)]; exact b8
  · intro i h3 h4
    refine ⟨?_, fun k hk => ?_⟩
    · rw [e _ _ (by decide) (by decide)]; exact (f9 i h3 h4).1
    · rw [e _ _ (by decide) (by decide)]; exact (f9 i h3 h4).2 k hk
def ug (g : Nat → Nat) (i v j : Nat) : Nat := if j = i then v else g j
theorem RQ_gain {c c' : CM} {s s' : MM} {a n i r : Nat} {g o : Nat → Nat} (h : RQ c s a n r g o) (hi : i < n) (hg : m_going s (4 * a + i)) (hg' : ¬ m_going s' (4 * a + i)) (hw : ¬ s'.1 190 (4 * a + i) = 0) (hc : s'.1 191 (4 * a + i) = nI r) (hs : ∀ j, j < n → ¬ j = i → s'.1 186 (4 * a + j) = s.1 186 (4 * a + j) ∧ s'.1 190 (4 * a + j) = s.1 190 (4 * a + j) ∧ s'.1 191 (4 * a + j) = s.1 191 (4 * a + j)) (h4 : c'.1 (pC a) 4 = c.1 (pC a) 4 + 1) (h15 : c'.1 (pB a i) 15 = c.1 (pC a) 4 + 1) (h15' : ∀ j, j < n → ¬ j = i → c'.1 (pB a j) 15 = c.1 (pB a j) 15) : RQ c' s' a n (r + 1) (ug g i r) (ug o i (nc s a n + 1)) := by
  obtain ⟨q1, q2, q3, q4⟩ := h
  have q1 := q1.resolve_left (by omega)
  have e := nc_one (s := s) (s' := s') (a := a) (i := i) n hi (fun j hj w => (hs j hj w).1) hg hg'
  have eg : ∀ j, j < n → ¬ j = i → (m_going s' (4 * a + j) ↔ m_going s (4 * a + j)) := fun j hj w => by unfold m_going; rw [(hs j hj w).1]
  refine ⟨Or.inr ?_, ?_, ?_, ?_⟩
  · rw [h4, q1, e, ad1]
  · intro j hj w
    have ne : ¬ j = i := fun v => hg' (by rw [← v]; exact w)
    rw [(hs j hj ne).2.1]
    exact q2 j hj ((eg j hj ne).mp w)
  · intro j hj w
    by_cases ne : j = i
    · subst ne
      unfold ug
      rw [if_pos rfl, if_pos rfl, h15, q1, e, ad1]
      exact ⟨hw, hc, rfl, by omega, by omega, Nat.le_refl _⟩
    · unfold ug
      rw [if_neg ne, if_neg ne, (hs j hj ne).2.1, (hs j hj ne).2.2, h15' j hj ne, e]
      have := q3 j hj (fun v => w ((eg j hj ne).mpr v))
      exact ⟨this.1, this.2.1, this.2.2.1, by omega, this.2.2.2.2.1, by omega⟩
  · intro j k hj hk wj wk
    unfold ug
    by_cases nj : j = i
    · by_cases nk : k = i
      · rw [if_pos nj, if_pos nj, if_pos nk, if_pos nk]
        exact ⟨by omega, fun _ => by omega⟩
      · have := q3 k hk (fun v => wk ((eg k hk nk).mpr v))
        rw [if_pos nj, if_pos nj, if_neg nk, if_neg nk]
        exact ⟨by omega, fun _ => by omega⟩
    · have tj := q3 j hj (fun v => wj ((eg j hj nj).mpr v))
      by_cases nk : k = i
      · rw [if_neg nj, if_neg nj, if_pos nk, if_pos nk]
        exact ⟨by omega, fun _ => by omega⟩
      · rw [if_neg nj, if_neg nj, if_neg nk, if_neg nk]
        exact q4 j k hj hk (fun v => wj ((eg j hj nj).mpr v)) (fun v => wk ((eg k hk nk).mpr v))
