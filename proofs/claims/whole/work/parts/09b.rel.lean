def RG (N t : Nat) (c : CM) (s : MM) : Prop := (c.1 1 0 = nI t ∧ s.1 170 0 = nI t) ∧ (c.1 1 1 = nI N ∧ s.1 170 1 = nI N) ∧ (c.1 2 2 = s.1 170 30 ∧ c.2.2 = s.2) ∧ c.1 0 4 = s.1 170 2
theorem RG_c {N t p j : Nat} {v : Int32} {c : CM} {s : MM} (h : RG N t c s) (hp : 2 < p) : RG N t (cI c p j v) s := by
  unfold RG at h ⊢
  have e : ∀ q i, q < 3 → (cI c p j v).1 q i = c.1 q i := fun q i hq => by rw [cI_at, if_neg (fun w => by omega)]
  rw [e 1 0 (by decide), e 1 1 (by decide), e 2 2 (by decide), e 0 4 (by decide)]
  exact h
theorem RG_m {N t p j : Nat} {v : Int32} {c : CM} {s : MM} (h : RG N t c s) (hp : ¬ p = 170) : RG N t c (mI s p j v) := by
  unfold RG at h ⊢
  have e : ∀ i, (mI s p j v).1 170 i = s.1 170 i := fun i => by rw [mI_at, if_neg (fun w => hp w.1.symm)]
  rw [e 0, e 1, e 30, e 2]
  exact h
theorem RG_set {N t p : Nat} {x : Int32} {c : CM} {s : MM} (h : RG N t c s) (hp : 2 < p) : RG N t (tq_set c p x) s := RG_c (RG_c h hp) hp
theorem RG_stp {N t p : Nat} {c : CM} {s : MM} (h : RG N t c s) (hp : 2 < p) : RG N t (tq_stop c p) s := RG_c h hp
theorem RG_add {N t : Nat} {x y w : Int32} {c : CM} {s : MM} (h : RG N t c s) : RG N t (l_add c x y w) (m_send s x y w) := by
  obtain ⟨⟨h1, h2⟩, ⟨h3, h4⟩, ⟨h5, h6⟩, h7⟩ := h
  refine ⟨⟨?_, ?_⟩, ⟨?_, ?_⟩, ⟨?_, ?_⟩, ?_⟩
  · rw [add_at, if_neg (by decide)]; exact h1
  · rw [send_at, if_neg (by decide)]; exact h2
  · rw [add_at, if_neg (by decide)]; exact h3
  · rw [send_at, if_neg (by decide)]; exact h4
  · rw [add_at, if_pos (by decide), send_at, if_pos (by decide), h5]
  · show va_up c.2.2 (c.1 2 2 &&& 63).toNatClampNeg _ = va_up s.2 (s.1 170 30 &&& 63).toNatClampNeg _
    rw [h5, h6, h3, h4]
  · rw [add_at, if_neg (by decide), send_at, if_neg (by decide)]; exact h7
theorem g3B {a i : Nat} : 2 < pB a i := by unfold pB; omega
theorem g3T {a i k : Nat} : 2 < pT a i k := by unfold pT; omega
theorem g3S {a : Nat} : 2 < pS a := by unfold pS; omega
theorem g3G {a k : Nat} : 2 < pG a k := by unfold pG; omega
theorem g3C {a : Nat} : 2 < pC a := by unfold pC; omega
theorem ml64 (t : Nat) : (64 : Int32) * nI t = nI (64 * t) := pk_mul 64 t
theorem ml2 (t : Nat) : (2 : Int32) * nI t = nI (2 * t) := pk_mul 2 t
theorem ml8 (t : Nat) : (8 : Int32) * nI t = nI (8 * t) := pk_mul 8 t
theorem ml200 (t : Nat) : (200 : Int32) * nI t = nI (200 * t) := pk_mul 200 t
theorem ml100 (t : Nat) : (100 : Int32) * nI t = nI (100 * t) := pk_mul 100 t
theorem k6 {k : Nat} (h : k < 6) : k = 0 ∨ k = 1 ∨ k = 2 ∨ k = 3 ∨ k = 4 ∨ k = 5 := by omega
theorem w21 : ((2 : Int32) = 1) = False := eq_false (by decide)
theorem w31 : ((3 : Int32) = 1) = False := eq_false (by decide)
theorem w32 : ((3 : Int32) = 2) = False := eq_false (by decide)
theorem w41 : ((4 : Int32) = 1) = False := eq_false (by decide)
theorem w42 : ((4 : Int32) = 2) = False := eq_false (by decide)
theorem w34 : ((3 : Int32) = 4) = False := eq_false (by decide)
theorem w24 : ((2 : Int32) = 4) = False := eq_false (by decide)
theorem w14 : ((1 : Int32) = 4) = False := eq_false (by decide)
theorem w10 : ((1 : Int32) = 0) = False := eq_false (by decide)
theorem l22 : ((2 : Int32) ≤ 2) = True := eq_true (by decide)
theorem l32 : ((3 : Int32) ≤ 2) = False := eq_false (by decide)
theorem l42 : ((4 : Int32) ≤ 2) = False := eq_false (by decide)
-- the state, where it is one of four
theorem RV_st {τ : Nat → Nat} {t : Nat} {r : Nat → Nat} {sa se : Nat} {st cs x0 x4 : Int32} (h : RV τ t r sa se st cs x0 x4) : st = 1 ∨ st = 2 ∨ st = 3 ∨ st = 4 := by
  rcases h with h | h | h | h
  · exact Or.inl h.1
  · exact Or.inr (Or.inl h.1)
  · exact Or.inr (Or.inr (Or.inl h.1))
  · exact Or.inr (Or.inr (Or.inr h.1))
def st_r (r : Nat → Nat) (N t : Nat) (k : Nat) : Nat := if k = 2 then 0 else if k = 4 then N + t else if k = 5 then N + 64 * t else r k
-- a branch that shall end
theorem RB_stop {τ : Nat → Nat} {t M N : Nat} {r : Nat → Nat} {sa se : Nat} {c : CM} {s : MM} {a i : Nat} (hG : RG N t c s) (h : RB τ t M r sa se c s a i) (hl : c.1 (pB a i) 2 = nI a ∧ c.1 (pB a i) 3 = nI i) (hτ : ∀ k, τ k ≤ N) (hM : N + 64 * t ≤ M) (ht : 1 ≤ t) (ho : b_op c a i) : RG N t (b_want c a i) (m_stop s a i) ∧ ∃ r' se', RB τ t M r' sa se' (b_want c a i) (m_stop s a i) a i := by
  obtain ⟨⟨g1, g2, g3, g4, g5⟩, g6, ⟨g7, g8⟩, g9⟩ := h
  unfold b_want m_stop
  rcases ho with ho | ho
  · have hs : s.1 186 (4 * a + i) = 1 := g1.symm.trans ho
    rw [if_neg (show ¬ c.1 (pB a i) 11 = 2 by rw [ho]; decide), if_pos hs]
    refine ⟨RG_m (RG_c hG g3B) (by decide), r, se, ⟨?_, ?_, ?_, ?_, ?_⟩, ?_, ⟨?_, ?_⟩, ?_⟩
    · simp only [cI_at, set_at, stop_t, add_at, nBT, nTB, nB2, nT2, n2B, n2T, nB1, nT1, n1B, n1T, n12, n21, pT_e, mI_at, send_at, e60, e6k, eq_self, true_and, and_true, false_and, and_false, and_self, if_true, if_false, Nat.reduceEqDiff, reduceIte, Nat.reduceAdd]; exact g1
    · simp only [cI_at, set_at, stop_t, add_at, nBT, nTB, nB2, nT2, n2B, n2T, nB1, nT1, n1B, n1T, n12, n21, pT_e, mI_at, send_at, e60, e6k, eq_self, true_and, and_true, false_and, and_false, and_self, if_true, if_false, Nat.reduceEqDiff, reduceIte, Nat.reduceAdd]; exact g2
    · simp only [cI_at, set_at, stop_t, add_at, nBT, nTB, nB2, nT2, n2B, n2T, nB1, nT1, n1B, n1T, n12, n21, pT_e, mI_at, send_at, e60, e6k, eq_self, true_and, and_true, false_and, and_false, and_self, if_true, if_false, Nat.reduceEqDiff, reduceIte, Nat.reduceAdd]
    · simp only [cI_at, set_at, stop_t, add_at, nBT, nTB, nB2, nT2, n2B, n2T, nB1, nT1, n1B, n1T, n12, n21, pT_e, mI_at, send_at, e60, e6k, eq_self, true_and, and_true, false_and, and_false, and_self, if_true, if_false, Nat.reduceEqDiff, reduceIte, Nat.reduceAdd]; exact g4
    · simp only [cI_at, set_at, stop_t, add_at, nBT, nTB, nB2, nT2, n2B, n2T, nB1, nT1, n1B, n1T, n12, n21, pT_e, mI_at, send_at, e60, e6k, eq_self, true_and, and_true, false_and, and_false, and_self, if_true, if_false, Nat.reduceEqDiff, reduceIte, Nat.reduceAdd]; exact g5
    · intro k hk; simp only [cI_at, set_at, stop_t, add_at, nBT, nTB, nB2, nT2, n2B, n2T, nB1, nT1, n1B, n1T, n12, n21, pT_e, mI_at, send_at, e60, e6k, eq_self, true_and, and_true, false_and, and_false, and_self, if_true, if_false, Nat.reduceEqDiff, reduceIte, Nat.reduceAdd]; exact g6 k hk
    · simp only [cI_at, set_at, stop_t, add_at, nBT, nTB, nB2, nT2, n2B, n2T, nB1, nT1, n1B, n1T, n12, n21, pT_e, mI_at, send_at, e60, e6k, eq_self, true_and, and_true, false_and, and_false, and_self, if_true, if_false, Nat.reduceEqDiff, reduceIte, Nat.reduceAdd]; exact g7
    · simp only [cI_at, set_at, stop_t, add_at, nBT, nTB, nB2, nT2, n2B, n2T, nB1, nT1, n1B, n1T, n12, n21, pT_e, mI_at, send_at, e60, e6k, eq_self, true_and, and_true, false_and, and_false, and_self, if_true, if_false, Nat.reduceEqDiff, reduceIte, Nat.reduceAdd]; exact g8
    · simp only [cI_at, set_at, stop_t, add_at, nBT, nTB, nB2, nT2, n2B, n2T, nB1, nT1, n1B, n1T, n12, n21, pT_e, mI_at, send_at, e60, e6k, eq_self, true_and, and_true, false_and, and_false, and_self, if_true, if_false, Nat.reduceEqDiff, reduceIte, Nat.reduceAdd]; exact g9
  · have hs : s.1 186 (4 * a + i) = 2 := g1.symm.trans ho
    rw [if_pos ho, if_neg (show ¬ s.1 186 (4 * a + i) = 1 by rw [hs]; decide), if_pos hs]
    by_cases hc : s.1 189 (4 * a + i) = 0
    · rw [if_pos (show c.1 (pB a i) 13 = 0 by rw [g4]; exact hc), if_pos hc, hl.1, hl.2, hG.1.1, hG.1.2, hG.2.1.2]
      rw [hs, hc] at g9
      have g9' : r 0 ≤ τ 0 ∧ r 1 ≤ τ 1 ∧ r 3 ≤ τ 3 := by
        rcases g9 with w | w | w | w
        · exact absurd w.1 (by decide)
        · exact ⟨w.2.1, w.2.2.1, w.2.2.2.1⟩
        · exact absurd w.1 (by decide)
        · exact absurd w.1 (by decide)
      refine ⟨?_, st_r r N t, t, ⟨?_, ?_, ?_, ?_, ?_⟩, ?_, ⟨?_, ?_⟩, ?_⟩
      · exact RG_m (RG_m (RG_m (RG_m (RG_set (RG_set (RG_stp (RG_add (RG_m (RG_m (RG_c (RG_c hG g3B) g3B) (by decide)) (by decide))) g3T) g3T) g3T) (by decide)) (by decide)) (by decide)) (by decide)
      · simp only [cI_at, set_at, stop_t, add_at, nBT, nTB, nB2, nT2, n2B, n2T, nB1, nT1, n1B, n1T, n12, n21, pT_e, mI_at, send_at, e60, e6k, eq_self, true_and, and_true, false_and, and_false, and_self, if_true, if_false, Nat.reduceEqDiff, reduceIte, Nat.reduceAdd]; exact g1
      · simp only [cI_at, set_at, stop_t, add_at, nBT, nTB, nB2, nT2, n2B, n2T, nB1, nT1, n1B, n1T, n12, n21, pT_e, mI_at, send_at, e60, e6k, eq_self, true_and, and_true, false_and, and_false, and_self, if_true, if_false, Nat.reduceEqDiff, reduceIte, Nat.reduceAdd]; exact g2
      · simp only [cI_at, set_at, stop_t, add_at, nBT, nTB, nB2, nT2, n2B, n2T, nB1, nT1, n1B, n1T, n12, n21, pT_e, mI_at, send_at, e60, e6k, eq_self, true_and, and_true, false_and, and_false, and_self, if_true, if_false, Nat.reduceEqDiff, reduceIte, Nat.reduceAdd]
      · simp only [cI_at, set_at, stop_t, add_at, nBT, nTB, nB2, nT2, n2B, n2T, nB1, nT1, n1B, n1T, n12, n21, pT_e, mI_at, send_at, e60, e6k, eq_self, true_and, and_true, false_and, and_false, and_self, if_true, if_false, Nat.reduceEqDiff, reduceIte, Nat.reduceAdd]
      · simp only [cI_at, set_at, stop_t, add_at, nBT, nTB, nB2, nT2, n2B, n2T, nB1, nT1, n1B, n1T, n12, n21, pT_e, mI_at, send_at, e60, e6k, eq_self, true_and, and_true, false_and, and_false, and_self, if_true, if_false, Nat.reduceEqDiff, reduceIte, Nat.reduceAdd]; exact g5
      · intro k hk
        rcases k6 hk with rfl | rfl | rfl | rfl | rfl | rfl
        · simp only [cI_at, set_at, stop_t, add_at, nBT, nTB, nB2, nT2, n2B, n2T, nB1, nT1, n1B, n1T, n12, n21, pT_e, mI_at, send_at, e60, e6k, eq_self, true_and, and_true, false_and, and_false, and_self, if_true, if_false, Nat.reduceEqDiff, reduceIte, Nat.reduceAdd, st_r]; exact g6 0 hk
        · simp only [cI_at, set_at, stop_t, add_at, nBT, nTB, nB2, nT2, n2B, n2T, nB1, nT1, n1B, n1T, n12, n21, pT_e, mI_at, send_at, e60, e6k, eq_self, true_and, and_true, false_and, and_false, and_self, if_true, if_false, Nat.reduceEqDiff, reduceIte, Nat.reduceAdd, st_r]; exact g6 1 hk
        · simp only [cI_at, set_at, stop_t, add_at, nBT, nTB, nB2, nT2, n2B, n2T, nB1, nT1, n1B, n1T, n12, n21, pT_e, mI_at, send_at, e60, e6k, eq_self, true_and, and_true, false_and, and_false, and_self, if_true, if_false, Nat.reduceEqDiff, reduceIte, Nat.reduceAdd, st_r]; exact ⟨rfl, (if_neg (Nat.not_lt_zero _)).symm, Nat.zero_le _⟩
        · simp only [cI_at, set_at, stop_t, add_at, nBT, nTB, nB2, nT2, n2B, n2T, nB1, nT1, n1B, n1T, n12, n21, pT_e, mI_at, send_at, e60, e6k, eq_self, true_and, and_true, false_and, and_false, and_self, if_true, if_false, Nat.reduceEqDiff, reduceIte, Nat.reduceAdd, st_r]; exact g6 3 hk
        · simp only [cI_at, set_at, stop_t, add_at, nBT, nTB, nB2, nT2, n2B, n2T, nB1, nT1, n1B, n1T, n12, n21, pT_e, mI_at, send_at, e60, e6k, eq_self, true_and, and_true, false_and, and_false, and_self, if_true, if_false, Nat.reduceEqDiff, reduceIte, Nat.reduceAdd, st_r, hG.2.1.1, nI_add]
          exact ⟨(if_pos (by have := hτ 4; omega)).symm, by omega⟩
        · simp only [cI_at, set_at, stop_t, add_at, nBT, nTB, nB2, nT2, n2B, n2T, nB1, nT1, n1B, n1T, n12, n21, pT_e, mI_at, send_at, e60, e6k, eq_self, true_and, and_true, false_and, and_false, and_self, if_true, if_false, Nat.reduceEqDiff, reduceIte, Nat.reduceAdd, st_r, hG.2.1.1, ml64, nI_add]
          exact ⟨(if_pos (by have := hτ 5; omega)).symm, by omega⟩
      · simp only [cI_at, set_at, stop_t, add_at, nBT, nTB, nB2, nT2, n2B, n2T, nB1, nT1, n1B, n1T, n12, n21, pT_e, mI_at, send_at, e60, e6k, eq_self, true_and, and_true, false_and, and_false, and_self, if_true, if_false, Nat.reduceEqDiff, reduceIte, Nat.reduceAdd]; exact g7
      · simp only [cI_at, set_at, stop_t, add_at, nBT, nTB, nB2, nT2, n2B, n2T, nB1, nT1, n1B, n1T, n12, n21, pT_e, mI_at, send_at, e60, e6k, eq_self, true_and, and_true, false_and, and_false, and_self, if_true, if_false, Nat.reduceEqDiff, reduceIte, Nat.reduceAdd]
      · simp only [cI_at, set_at, stop_t, add_at, nBT, nTB, nB2, nT2, n2B, n2T, nB1, nT1, n1B, n1T, n12, n21, pT_e, mI_at, send_at, e60, e6k, eq_self, true_and, and_true, false_and, and_false, and_self, if_true, if_false, Nat.reduceEqDiff, reduceIte, Nat.reduceAdd, hs]
        refine Or.inr (Or.inl ⟨rfl, ?_⟩)
        simp only [st_r, cI_at, set_at, stop_t, add_at, nBT, nTB, nB2, nT2, n2B, n2T, nB1, nT1, n1B, n1T, n12, n21, pT_e, mI_at, send_at, e60, e6k, eq_self, true_and, and_true, false_and, and_false, and_self, if_true, if_false, Nat.reduceEqDiff, reduceIte, Nat.reduceAdd]
        exact ⟨g9'.1, g9'.2.1, g9'.2.2, Or.inr ⟨Nat.zero_le _, fun _ => ⟨by have := hτ 4; omega, Nat.le_refl _, by omega⟩⟩⟩
    · rw [if_neg (show ¬ c.1 (pB a i) 13 = 0 by rw [g4]; exact hc), if_neg hc]
      refine ⟨RG_m (RG_c hG g3B) (by decide), r, se, ⟨?_, ?_, ?_, ?_, ?_⟩, ?_, ⟨?_, ?_⟩, ?_⟩
      · simp only [cI_at, set_at, stop_t, add_at, nBT, nTB, nB2, nT2, n2B, n2T, nB1, nT1, n1B, n1T, n12, n21, pT_e, mI_at, send_at, e60, e6k, eq_self, true_and, and_true, false_and, and_false, and_self, if_true, if_false, Nat.reduceEqDiff, reduceIte, Nat.reduceAdd]; exact g1
      · simp only [cI_at, set_at, stop_t, add_at, nBT, nTB, nB2, nT2, n2B, n2T, nB1, nT1, n1B, n1T, n12, n21, pT_e, mI_at, send_at, e60, e6k, eq_self, true_and, and_true, false_and, and_false, and_self, if_true, if_false, Nat.reduceEqDiff, reduceIte, Nat.reduceAdd]; exact g2
      · simp only [cI_at, set_at, stop_t, add_at, nBT, nTB, nB2, nT2, n2B, n2T, nB1, nT1, n1B, n1T, n12, n21, pT_e, mI_at, send_at, e60, e6k, eq_self, true_and, and_true, false_and, and_false, and_self, if_true, if_false, Nat.reduceEqDiff, reduceIte, Nat.reduceAdd]
      · simp only [cI_at, set_at, stop_t, add_at, nBT, nTB, nB2, nT2, n2B, n2T, nB1, nT1, n1B, n1T, n12, n21, pT_e, mI_at, send_at, e60, e6k, eq_self, true_and, and_true, false_and, and_false, and_self, if_true, if_false, Nat.reduceEqDiff, reduceIte, Nat.reduceAdd]; exact g4
      · simp only [cI_at, set_at, stop_t, add_at, nBT, nTB, nB2, nT2, n2B, n2T, nB1, nT1, n1B, n1T, n12, n21, pT_e, mI_at, send_at, e60, e6k, eq_self, true_and, and_true, false_and, and_false, and_self, if_true, if_false, Nat.reduceEqDiff, reduceIte, Nat.reduceAdd]; exact g5
      · intro k hk; simp only [cI_at, set_at, stop_t, add_at, nBT, nTB, nB2, nT2, n2B, n2T, nB1, nT1, n1B, n1T, n12, n21, pT_e, mI_at, send_at, e60, e6k, eq_self, true_and, and_true, false_and, and_false, and_self, if_true, if_false, Nat.reduceEqDiff, reduceIte, Nat.reduceAdd]; exact g6 k hk
      · simp only [cI_at, set_at, stop_t, add_at, nBT, nTB, nB2, nT2, n2B, n2T, nB1, nT1, n1B, n1T, n12, n21, pT_e, mI_at, send_at, e60, e6k, eq_self, true_and, and_true, false_and, and_false, and_self, if_true, if_false, Nat.reduceEqDiff, reduceIte, Nat.reduceAdd]; exact g7
      · simp only [cI_at, set_at, stop_t, add_at, nBT, nTB, nB2, nT2, n2B, n2T, nB1, nT1, n1B, n1T, n12, n21, pT_e, mI_at, send_at, e60, e6k, eq_self, true_and, and_true, false_and, and_false, and_self, if_true, if_false, Nat.reduceEqDiff, reduceIte, Nat.reduceAdd]; exact g8
      · simp only [cI_at, set_at, stop_t, add_at, nBT, nTB, nB2, nT2, n2B, n2T, nB1, nT1, n1B, n1T, n12, n21, pT_e, mI_at, send_at, e60, e6k, eq_self, true_and, and_true, false_and, and_false, and_self, if_true, if_false, Nat.reduceEqDiff, reduceIte, Nat.reduceAdd]; exact g9
