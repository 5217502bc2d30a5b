theorem zT {τ : Nat} {x : Int32} {M : Nat} : NV = (if τ < 0 then x else NV) ∧ 0 ≤ M := ⟨(if_neg (Nat.not_lt_zero _)).symm, Nat.zero_le _⟩
theorem nv : (2147483647 : Int32) = NV := rfl
-- open branches, by state
theorem RV_open {τ : Nat → Nat} {t : Nat} {r : Nat → Nat} {sa se : Nat} {st cs x0 x4 : Int32} (h : RV τ t r sa se st cs x0 x4) (ho : st = 1 ∨ st = 2) : r 3 ≤ τ 3 ∧ ((cs = 0 ∧ r 4 = 0 ∧ r 5 ≤ τ 5) ∨ (cs = 1 ∧ r 2 ≤ τ 2 ∧ (¬ r 4 = 0 → τ 4 < r 4 ∧ t ≤ se ∧ se ≤ 8 * t ∧ x4 = nI se))) := by
  rcases h with h | h | h | h
  · exact ⟨h.2.2.2.2.2.2.2.2.1, Or.inl ⟨h.2.1, h.2.2.2.2.2.2.2.2.2.1, h.2.2.2.2.2.2.2.2.2.2⟩⟩
  · exact ⟨h.2.2.2.1, h.2.2.2.2⟩
  · rw [h.1] at ho; exact absurd ho (by decide)
  · rw [h.1] at ho; exact absurd ho (by decide)
def pv_r (r : Nat → Nat) (k : Nat) : Nat := if k = 0 then 0 else if k = 1 then 0 else r k
theorem RB_prov {τ : Nat → Nat} {t M N : Nat} {r : Nat → Nat} {sa se : Nat} {c : CM} {s : MM} {a i : Nat} (hG : RG N t c s) (h : RB τ t M r sa se c s a i) (ho : b_op c a i) : RG N t (b_mv c a i 2) (m_become s (4 * a + i) 2) ∧ RB τ t M (pv_r r) sa se (b_mv c a i 2) (m_become s (4 * a + i) 2) a i := by
  obtain ⟨⟨g1, g2, g3, g4, g5⟩, g6, ⟨g7, g8⟩, g9⟩ := h
  have hv := RV_open g9 (by rw [← g1]; exact ho)
  unfold b_mv b_mA b_mO b_mD m_become
  simp only [w21, w24, l22, false_or, or_true, if_true, if_false]
  refine ⟨RG_m (RG_m (RG_m (RG_stp (RG_stp (RG_c hG g3B) g3T) g3T) (by decide)) (by decide)) (by decide), ⟨?_, ?_, ?_, ?_, ?_⟩, ?_, ⟨?_, ?_⟩, ?_⟩
  · simp only [cI_at, set_at, stop_t, add_at, nBT, nTB, nB2, nT2, n2B, n2T, nB1, nT1, n1B, n1T, n12, n21, pT_e, mI_at, send_at, e60, e6k, eq_self, true_and, and_true, false_and, and_false, and_self, if_true, if_false, Nat.reduceEqDiff, reduceIte, Nat.reduceAdd]
  · simp only [cI_at, set_at, stop_t, add_at, nBT, nTB, nB2, nT2, n2B, n2T, nB1, nT1, n1B, n1T, n12, n21, pT_e, mI_at, send_at, e60, e6k, eq_self, true_and, and_true, false_and, and_false, and_self, if_true, if_false, Nat.reduceEqDiff, reduceIte, Nat.reduceAdd]; exact g2
  · simp only [cI_at, set_at, stop_t, add_at, nBT, nTB, nB2, nT2, n2B, n2T, nB1, nT1, n1B, n1T, n12, n21, pT_e, mI_at, send_at, e60, e6k, eq_self, true_and, and_true, false_and, and_false, and_self, if_true, if_false, Nat.reduceEqDiff, reduceIte, Nat.reduceAdd]; exact g3
  · simp only [cI_at, set_at, stop_t, add_at, nBT, nTB, nB2, nT2, n2B, n2T, nB1, nT1, n1B, n1T, n12, n21, pT_e, mI_at, send_at, e60, e6k, eq_self, true_and, and_true, false_and, and_false, and_self, if_true, if_false, Nat.reduceEqDiff, reduceIte, Nat.reduceAdd]; exact g4
  · simp only [cI_at, set_at, stop_t, add_at, nBT, nTB, nB2, nT2, n2B, n2T, nB1, nT1, n1B, n1T, n12, n21, pT_e, mI_at, send_at, e60, e6k, eq_self, true_and, and_true, false_and, and_false, and_self, if_true, if_false, Nat.reduceEqDiff, reduceIte, Nat.reduceAdd]; exact g5
  · intro k hk
    rcases k6 hk with rfl | rfl | rfl | rfl | rfl | rfl
    · simp only [cI_at, set_at, stop_t, add_at, nBT, nTB, nB2, nT2, n2B, n2T, nB1, nT1, n1B, n1T, n12, n21, pT_e, mI_at, send_at, e60, e6k, eq_self, true_and, and_true, false_and, and_false, and_self, if_true, if_false, Nat.reduceEqDiff, reduceIte, Nat.reduceAdd, pv_r]; exact ⟨rfl, zT⟩
    · simp only [cI_at, set_at, stop_t, add_at, nBT, nTB, nB2, nT2, n2B, n2T, nB1, nT1, n1B, n1T, n12, n21, pT_e, mI_at, send_at, e60, e6k, eq_self, true_and, and_true, false_and, and_false, and_self, if_true, if_false, Nat.reduceEqDiff, reduceIte, Nat.reduceAdd, pv_r]; exact ⟨rfl, zT⟩
    · simp only [cI_at, set_at, stop_t, add_at, nBT, nTB, nB2, nT2, n2B, n2T, nB1, nT1, n1B, n1T, n12, n21, pT_e, mI_at, send_at, e60, e6k, eq_self, true_and, and_true, false_and, and_false, and_self, if_true, if_false, Nat.reduceEqDiff, reduceIte, Nat.reduceAdd, pv_r]; exact g6 2 hk
    · simp only [cI_at, set_at, stop_t, add_at, nBT, nTB, nB2, nT2, n2B, n2T, nB1, nT1, n1B, n1T, n12, n21, pT_e, mI_at, send_at, e60, e6k, eq_self, true_and, and_true, false_and, and_false, and_self, if_true, if_false, Nat.reduceEqDiff, reduceIte, Nat.reduceAdd, pv_r]; exact g6 3 hk
    · simp only [cI_at, set_at, stop_t, add_at, nBT, nTB, nB2, nT2, n2B, n2T, nB1, nT1, n1B, n1T, n12, n21, pT_e, mI_at, send_at, e60, e6k, eq_self, true_and, and_true, false_and, and_false, and_self, if_true, if_false, Nat.reduceEqDiff, reduceIte, Nat.reduceAdd, pv_r]; exact g6 4 hk
    · simp only [cI_at, set_at, stop_t, add_at, nBT, nTB, nB2, nT2, n2B, n2T, nB1, nT1, n1B, n1T, n12, n21, pT_e, mI_at, send_at, e60, e6k, eq_self, true_and, and_true, false_and, and_false, and_self, if_true, if_false, Nat.reduceEqDiff, reduceIte, Nat.reduceAdd, pv_r]; exact g6 5 hk
  · simp only [cI_at, set_at, stop_t, add_at, nBT, nTB, nB2, nT2, n2B, n2T, nB1, nT1, n1B, n1T, n12, n21, pT_e, mI_at, send_at, e60, e6k, eq_self, true_and, and_true, false_and, and_false, and_self, if_true, if_false, Nat.reduceEqDiff, reduceIte, Nat.reduceAdd]; exact g7
  · simp only [cI_at, set_at, stop_t, add_at, nBT, nTB, nB2, nT2, n2B, n2T, nB1, nT1, n1B, n1T, n12, n21, pT_e, mI_at, send_at, e60, e6k, eq_self, true_and, and_true, false_and, and_false, and_self, if_true, if_false, Nat.reduceEqDiff, reduceIte, Nat.reduceAdd]; exact g8
  · refine Or.inr (Or.inl ?_)
    simp only [cI_at, set_at, stop_t, add_at, nBT, nTB, nB2, nT2, n2B, n2T, nB1, nT1, n1B, n1T, n12, n21, pT_e, mI_at, send_at, e60, e6k, eq_self, true_and, and_true, false_and, and_false, and_self, if_true, if_false, Nat.reduceEqDiff, reduceIte, Nat.reduceAdd, pv_r]
    exact ⟨Nat.zero_le _, Nat.zero_le _, hv⟩
-- shows life: its full time again
def an_r (r : Nat → Nat) (N t : Nat) (k : Nat) : Nat := if k = 2 then N + 200 * t else r k
theorem RB_anew {τ : Nat → Nat} {t M N : Nat} {r : Nat → Nat} {sa se : Nat} {c : CM} {s : MM} {a i : Nat} (hG : RG N t c s) (h : RB τ t M r sa se c s a i) (hs : s.1 186 (4 * a + i) = 2) (hτ : ∀ k, τ k ≤ N) (hM : N + 200 * t ≤ M) (ht : 1 ≤ t) : RG N t (b_anew c a i) (m_pvC s (4 * a + i)) ∧ ∃ r', RB τ t M r' sa se (b_anew c a i) (m_pvC s (4 * a + i)) a i := by
  have h0 := h
  obtain ⟨⟨g1, g2, g3, g4, g5⟩, g6, ⟨g7, g8⟩, g9⟩ := h
  unfold b_anew m_pvC
  rw [g4]
  by_cases hc : s.1 189 (4 * a + i) = 0
  · rw [if_pos hc, if_pos hc, hG.1.1, hG.1.2, hG.2.1.2]
    refine ⟨RG_m (RG_set hG g3T) (by decide), an_r r N t, ⟨?_, ?_, ?_, ?_, ?_⟩, ?_, ⟨?_, ?_⟩, ?_⟩
    · simp only [cI_at, set_at, stop_t, add_at, nBT, nTB, nB2, nT2, n2B, n2T, nB1, nT1, n1B, n1T, n12, n21, pT_e, mI_at, send_at, e60, e6k, eq_self, true_and, and_true, false_and, and_false, and_self, if_true, if_false, Nat.reduceEqDiff, reduceIte, Nat.reduceAdd]; exact g1
    · simp only [cI_at, set_at, stop_t, add_at, nBT, nTB, nB2, nT2, n2B, n2T, nB1, nT1, n1B, n1T, n12, n21, pT_e, mI_at, send_at, e60, e6k, eq_self, true_and, and_true, false_and, and_false, and_self, if_true, if_false, Nat.reduceEqDiff, reduceIte, Nat.reduceAdd]; exact g2
    · simp only [cI_at, set_at, stop_t, add_at, nBT, nTB, nB2, nT2, n2B, n2T, nB1, nT1, n1B, n1T, n12, n21, pT_e, mI_at, send_at, e60, e6k, eq_self, true_and, and_true, false_and, and_false, and_self, if_true, if_false, Nat.reduceEqDiff, reduceIte, Nat.reduceAdd]; exact g3
    · simp only [cI_at, set_at, stop_t, add_at, nBT, nTB, nB2, nT2, n2B, n2T, nB1, nT1, n1B, n1T, n12, n21, pT_e, mI_at, send_at, e60, e6k, eq_self, true_and, and_true, false_and, and_false, and_self, if_true, if_false, Nat.reduceEqDiff, reduceIte, Nat.reduceAdd]; exact g4
    · simp only [cI_at, set_at, stop_t, add_at, nBT, nTB, nB2, nT2, n2B, n2T, nB1, nT1, n1B, n1T, n12, n21, pT_e, mI_at, send_at, e60, e6k, eq_self, true_and, and_true, false_and, and_false, and_self, if_true, if_false, Nat.reduceEqDiff, reduceIte, Nat.reduceAdd]; exact g5
    · intro k hk
      rcases k6 hk with rfl | rfl | rfl | rfl | rfl | rfl
      · simp only [cI_at, set_at, stop_t, add_at, nBT, nTB, nB2, nT2, n2B, n2T, nB1, nT1, n1B, n1T, n12, n21, pT_e, mI_at, send_at, e60, e6k, eq_self, true_and, and_true, false_and, and_false, and_self, if_true, if_false, Nat.reduceEqDiff, reduceIte, Nat.reduceAdd, an_r]; exact g6 0 hk
      · simp only [cI_at, set_at, stop_t, add_at, nBT, nTB, nB2, nT2, n2B, n2T, nB1, nT1, n1B, n1T, n12, n21, pT_e, mI_at, send_at, e60, e6k, eq_self, true_and, and_true, false_and, and_false, and_self, if_true, if_false, Nat.reduceEqDiff, reduceIte, Nat.reduceAdd, an_r]; exact g6 1 hk
      · simp only [cI_at, set_at, stop_t, add_at, nBT, nTB, nB2, nT2, n2B, n2T, nB1, nT1, n1B, n1T, n12, n21, pT_e, mI_at, send_at, e60, e6k, eq_self, true_and, and_true, false_and, and_false, and_self, if_true, if_false, Nat.reduceEqDiff, reduceIte, Nat.reduceAdd, an_r, hG.2.1.1, ml200, nI_add]
        exact ⟨(if_pos (by have := hτ 2; omega)).symm, by omega⟩
      · simp only [cI_at, set_at, stop_t, add_at, nBT, nTB, nB2, nT2, n2B, n2T, nB1, nT1, n1B, n1T, n12, n21, pT_e, mI_at, send_at, e60, e6k, eq_self, true_and, and_true, false_and, and_false, and_self, if_true, if_false, Nat.reduceEqDiff, reduceIte, Nat.reduceAdd, an_r]; exact g6 3 hk
      · simp only [cI_at, set_at, stop_t, add_at, nBT, nTB, nB2, nT2, n2B, n2T, nB1, nT1, n1B, n1T, n12, n21, pT_e, mI_at, send_at, e60, e6k, eq_self, true_and, and_true, false_and, and_false, and_self, if_true, if_false, Nat.reduceEqDiff, reduceIte, Nat.reduceAdd, an_r]; exact g6 4 hk
      · simp only [cI_at, set_at, stop_t, add_at, nBT, nTB, nB2, nT2, n2B, n2T, nB1, nT1, n1B, n1T, n12, n21, pT_e, mI_at, send_at, e60, e6k, eq_self, true_and, and_true, false_and, and_false, and_self, if_true, if_false, Nat.reduceEqDiff, reduceIte, Nat.reduceAdd, an_r]; exact g6 5 hk
    · simp only [cI_at, set_at, stop_t, add_at, nBT, nTB, nB2, nT2, n2B, n2T, nB1, nT1, n1B, n1T, n12, n21, pT_e, mI_at, send_at, e60, e6k, eq_self, true_and, and_true, false_and, and_false, and_self, if_true, if_false, Nat.reduceEqDiff, reduceIte, Nat.reduceAdd]; exact g7
    · simp only [cI_at, set_at, stop_t, add_at, nBT, nTB, nB2, nT2, n2B, n2T, nB1, nT1, n1B, n1T, n12, n21, pT_e, mI_at, send_at, e60, e6k, eq_self, true_and, and_true, false_and, and_false, and_self, if_true, if_false, Nat.reduceEqDiff, reduceIte, Nat.reduceAdd]; exact g8
    · simp only [cI_at, set_at, stop_t, add_at, nBT, nTB, nB2, nT2, n2B, n2T, nB1, nT1, n1B, n1T, n12, n21, pT_e, mI_at, send_at, e60, e6k, eq_self, true_and, and_true, false_and, and_false, and_self, if_true, if_false, Nat.reduceEqDiff, reduceIte, Nat.reduceAdd]
      rw [hs, hc] at g9 ⊢
      rcases g9 with w | w | w | w
      · exact absurd w.1 (by decide)
      · refine Or.inr (Or.inl ⟨rfl, ?_⟩)
        simp only [an_r, cI_at, set_at, stop_t, add_at, nBT, nTB, nB2, nT2, n2B, n2T, nB1, nT1, n1B, n1T, n12, n21, pT_e, mI_at, send_at, e60, e6k, eq_self, true_and, and_true, false_and, and_false, and_self, if_true, if_false, Nat.reduceEqDiff, reduceIte, Nat.reduceAdd]
        rcases w.2.2.2.2 with v | v
        · exact ⟨w.2.1, w.2.2.1, w.2.2.2.1, Or.inl v.2⟩
        · exact absurd v.1 (by decide)
      · exact absurd w.1 (by decide)
      · exact absurd w.1 (by decide)
  · rw [if_neg hc, if_neg hc]
    exact ⟨hG, r, h0⟩
-- a success, a timeout
def ou_r (r : Nat → Nat) (k : Nat) : Nat := if k = 3 then r 3 else 0
theorem RB_out {τ : Nat → Nat} {t M N : Nat} {r : Nat → Nat} {sa se : Nat} {c : CM} {s : MM} {a i : Nat} {w : Int32} (hG : RG N t c s) (h : RB τ t M r sa se c s a i) (ho : b_op c a i) : RG N t (b_out c a i w) (m_gain (m_become s (4 * a + i) 4) (4 * a + i) w) ∧ RB τ t M (ou_r r) sa se (b_out c a i w) (m_gain (m_become s (4 * a + i) 4) (4 * a + i) w) a i := by
  obtain ⟨⟨g1, g2, g3, g4, g5⟩, g6, ⟨g7, g8⟩, g9⟩ := h
  have hv := RV_open g9 (by rw [← g1]; exact ho)
  unfold b_out b_mv b_mA b_mO b_mD m_gain m_become
  simp only [w41, w42, l42, or_self, if_true, if_false]
  refine ⟨?_, ⟨?_, ?_, ?_, ?_, ?_⟩, ?_, ⟨?_, ?_⟩, ?_⟩
  · have q := RG_m (p := 191) (j := 4 * a + i) (v := s.1 170 28) (RG_m (p := 190) (j := 4 * a + i) (v := w) (RG_m (p := 192) (j := 6 * (4 * a + i) + 5) (v := 0) (RG_m (p := 192) (j := 6 * (4 * a + i) + 4) (v := 0) (RG_m (p := 192) (j := 6 * (4 * a + i) + 2) (v := 0) (RG_m (p := 192) (j := 6 * (4 * a + i) + 1) (v := 0) (RG_m (p := 192) (j := 6 * (4 * a + i)) (v := 0) (RG_m (p := 186) (j := 4 * a + i) (v := 4) (RG_stp (p := pT a i 3) (RG_stp (p := pT a i 5) (RG_stp (p := pT a i 4) (RG_stp (p := pT a i 2) (RG_stp (p := pT a i 1) (RG_stp (p := pT a i 0) (RG_c (p := pB a i) (j := 11) (v := 4) (RG_c (p := pB a i) (j := 14) (v := w) hG g3B) g3B) g3T) g3T) g3T) g3T) g3T) g3T) (by decide)) (by decide)) (by decide)) (by decide)) (by decide)) (by decide)) (by decide)) (by decide)
    unfold RG at q ⊢
    simp only [cI_at, set_at, stop_t, add_at, nBT, nTB, nB2, nT2, n2B, n2T, nB1, nT1, n1B, n1T, n12, n21, pT_e, mI_at, send_at, e60, e6k, eq_self, true_and, and_true, false_and, and_false, and_self, if_true, if_false, Nat.reduceEqDiff, reduceIte, Nat.reduceAdd] at q ⊢
    exact q
  · simp only [cI_at, set_at, stop_t, add_at, nBT, nTB, nB2, nT2, n2B, n2T, nB1, nT1, n1B, n1T, n12, n21, pT_e, mI_at, send_at, e60, e6k, eq_self, true_and, and_true, false_and, and_false, and_self, if_true, if_false, Nat.reduceEqDiff, reduceIte, Nat.reduceAdd]
  · simp only [cI_at, set_at, stop_t, add_at, nBT, nTB, nB2, nT2, n2B, n2T, nB1, nT1, n1B, n1T, n12, n21, pT_e, mI_at, send_at, e60, e6k, eq_self, true_and, and_true, false_and, and_false, and_self, if_true, if_false, Nat.reduceEqDiff, reduceIte, Nat.reduceAdd]; exact g2
  · simp only [cI_at, set_at, stop_t, add_at, nBT, nTB, nB2, nT2, n2B, n2T, nB1, nT1, n1B, n1T, n12, n21, pT_e, mI_at, send_at, e60, e6k, eq_self, true_and, and_true, false_and, and_false, and_self, if_true, if_false, Nat.reduceEqDiff, reduceIte, Nat.reduceAdd]; exact g3
  · simp only [cI_at, set_at, stop_t, add_at, nBT, nTB, nB2, nT2, n2B, n2T, nB1, nT1, n1B, n1T, n12, n21, pT_e, mI_at, send_at, e60, e6k, eq_self, true_and, and_true, false_and, and_false, and_self, if_true, if_false, Nat.reduceEqDiff, reduceIte, Nat.reduceAdd]; exact g4
  · simp only [cI_at, set_at, stop_t, add_at, nBT, nTB, nB2, nT2, n2B, n2T, nB1, nT1, n1B, n1T, n12, n21, pT_e, mI_at, send_at, e60, e6k, eq_self, true_and, and_true, false_and, and_false, and_self, if_true, if_false, Nat.reduceEqDiff, reduceIte, Nat.reduceAdd]
  · intro k hk
    rcases k6 hk with rfl | rfl | rfl | rfl | rfl | rfl
    · simp only [cI_at, set_at, stop_t, add_at, nBT, nTB, nB2, nT2, n2B, n2T, nB1, nT1, n1B, n1T, n12, n21, pT_e, mI_at, send_at, e60, e6k, eq_self, true_and, and_true, false_and, and_false, and_self, if_true, if_false, Nat.reduceEqDiff, reduceIte, Nat.reduceAdd, ou_r]; exact ⟨rfl, zT⟩
    · simp only [cI_at, set_at, stop_t, add_at, nBT, nTB, nB2, nT2, n2B, n2T, nB1, nT1, n1B, n1T, n12, n21, pT_e, mI_at, send_at, e60, e6k, eq_self, true_and, and_true, false_and, and_false, and_self, if_true, if_false, Nat.reduceEqDiff, reduceIte, Nat.reduceAdd, ou_r]; exact ⟨rfl, zT⟩
    · simp only [cI_at, set_at, stop_t, add_at, nBT, nTB, nB2, nT2, n2B, n2T, nB1, nT1, n1B, n1T, n12, n21, pT_e, mI_at, send_at, e60, e6k, eq_self, true_and, and_true, false_and, and_false, and_self, if_true, if_false, Nat.reduceEqDiff, reduceIte, Nat.reduceAdd, ou_r]; exact ⟨rfl, zT⟩
    · simp only [cI_at, set_at, stop_t, add_at, nBT, nTB, nB2, nT2, n2B, n2T, nB1, nT1, n1B, n1T, n12, n21, pT_e, mI_at, send_at, e60, e6k, eq_self, true_and, and_true, false_and, and_false, and_self, if_true, if_false, Nat.reduceEqDiff, reduceIte, Nat.reduceAdd, ou_r]; exact ⟨(g6 3 hk).1, (if_neg (by omega)).symm, (g6 3 hk).2.2⟩
    · simp only [cI_at, set_at, stop_t, add_at, nBT, nTB, nB2, nT2, n2B, n2T, nB1, nT1, n1B, n1T, n12, n21, pT_e, mI_at, send_at, e60, e6k, eq_self, true_and, and_true, false_and, and_false, and_self, if_true, if_false, Nat.reduceEqDiff, reduceIte, Nat.reduceAdd, ou_r]; exact ⟨rfl, zT⟩
    · simp only [cI_at, set_at, stop_t, add_at, nBT, nTB, nB2, nT2, n2B, n2T, nB1, nT1, n1B, n1T, n12, n21, pT_e, mI_at, send_at, e60, e6k, eq_self, true_and, and_true, false_and, and_false, and_self, if_true, if_false, Nat.reduceEqDiff, reduceIte, Nat.reduceAdd, ou_r]; exact ⟨rfl, zT⟩
  · simp only [cI_at, set_at, stop_t, add_at, nBT, nTB, nB2, nT2, n2B, n2T, nB1, nT1, n1B, n1T, n12, n21, pT_e, mI_at, send_at, e60, e6k, eq_self, true_and, and_true, false_and, and_false, and_self, if_true, if_false, Nat.reduceEqDiff, reduceIte, Nat.reduceAdd]; exact g7
  · simp only [cI_at, set_at, stop_t, add_at, nBT, nTB, nB2, nT2, n2B, n2T, nB1, nT1, n1B, n1T, n12, n21, pT_e, mI_at, send_at, e60, e6k, eq_self, true_and, and_true, false_and, and_false, and_self, if_true, if_false, Nat.reduceEqDiff, reduceIte, Nat.reduceAdd]; exact g8
  · refine Or.inr (Or.inr (Or.inr ⟨?_, ?_⟩))
    · simp only [cI_at, set_at, stop_t, add_at, nBT, nTB, nB2, nT2, n2B, n2T, nB1, nT1, n1B, n1T, n12, n21, pT_e, mI_at, send_at, e60, e6k, eq_self, true_and, and_true, false_and, and_false, and_self, if_true, if_false, Nat.reduceEqDiff, reduceIte, Nat.reduceAdd]
    · refine ⟨fun k hk => ?_, rfl⟩
      unfold ou_r
      split
      · next e => rw [e]; exact hv.1
      · exact Nat.zero_le _
-- a failure
def fl_r (N t : Nat) (k : Nat) : Nat := if k = 3 then N + 64 * t else 0
theorem RB_fail {τ : Nat → Nat} {t M N : Nat} {r : Nat → Nat} {sa se : Nat} {c : CM} {s : MM} {a i : Nat} {w : Int32} (hG : RG N t c s) (h : RB τ t M r sa se c s a i) (hl : c.1 (pB a i) 2 = nI a ∧ c.1 (pB a i) 3 = nI i) (hτ : ∀ k, τ k ≤ N) (hM : N + 64 * t ≤ M) (ht : 1 ≤ t) : RG N t (b_fail c a i w) (m_arr3a s a i w) ∧ RB τ t M (fl_r N t) sa se (b_fail c a i w) (m_arr3a s a i w) a i := by
  obtain ⟨⟨g1, g2, g3, g4, g5⟩, g6, ⟨g7, g8⟩, g9⟩ := h
  unfold b_fail b_ack b_mv b_mA b_mO b_mD m_arr3a m_gain m_become
  simp only [w31, w32, w34, l32, or_self, if_true, if_false]
  have q0 : RG N t (tq_stop (tq_stop (tq_stop (tq_stop (tq_stop (cI (cI c (pB a i) 14 w) (pB a i) 11 3) (pT a i 0)) (pT a i 1)) (pT a i 2)) (pT a i 4)) (pT a i 5)) (mI (mI (mI (mI (mI (mI (mI (mI (mI s 186 (4 * a + i) 3) 192 (6 * (4 * a + i)) 0) 192 (6 * (4 * a + i) + 1) 0) 192 (6 * (4 * a + i) + 2) 0) 192 (6 * (4 * a + i) + 4) 0) 192 (6 * (4 * a + i) + 5) 0) 190 (4 * a + i) w) 191 (4 * a + i) (s.1 170 28)) 170 28 (s.1 170 28 + 1)) := by
    have q := RG_m (p := 191) (j := 4 * a + i) (v := s.1 170 28) (RG_m (p := 190) (j := 4 * a + i) (v := w) (RG_m (p := 192) (j := 6 * (4 * a + i) + 5) (v := 0) (RG_m (p := 192) (j := 6 * (4 * a + i) + 4) (v := 0) (RG_m (p := 192) (j := 6 * (4 * a + i) + 2) (v := 0) (RG_m (p := 192) (j := 6 * (4 * a + i) + 1) (v := 0) (RG_m (p := 192) (j := 6 * (4 * a + i)) (v := 0) (RG_m (p := 186) (j := 4 * a + i) (v := 3) (RG_stp (p := pT a i 5) (RG_stp (p := pT a i 4) (RG_stp (p := pT a i 2) (RG_stp (p := pT a i 1) (RG_stp (p := pT a i 0) (RG_c (p := pB a i) (j := 11) (v := 3) (RG_c (p := pB a i) (j := 14) (v := w) hG g3B) g3B) g3T) g3T) g3T) g3T) g3T) (by decide)) (by decide)) (by decide)) (by decide)) (by decide)) (by decide)) (by decide)) (by decide)
    unfold RG at q ⊢
    simp only [cI_at, set_at, stop_t, add_at, nBT, nTB, nB2, nT2, n2B, n2T, nB1, nT1, n1B, n1T, n12, n21, pT_e, mI_at, send_at, e60, e6k, eq_self, true_and, and_true, false_and, and_false, and_self, if_true, if_false, Nat.reduceEqDiff, reduceIte, Nat.reduceAdd] at q ⊢
    exact q
  refine ⟨?_, ⟨?_, ?_, ?_, ?_, ?_⟩, ?_, ⟨?_, ?_⟩, ?_⟩
  · refine RG_m (RG_set ?_ g3T) (by decide)
    have := RG_add (x := nI a) (y := nI i) (w := 3) q0
    simp only [cI_at, set_at, stop_t, add_at, nBT, nTB, nB2, nT2, n2B, n2T, nB1, nT1, n1B, n1T, n12, n21, pT_e, mI_at, send_at, e60, e6k, eq_self, true_and, and_true, false_and, and_false, and_self, if_true, if_false, Nat.reduceEqDiff, reduceIte, Nat.reduceAdd, hl.1, hl.2] at this ⊢
    exact this
  · simp only [cI_at, set_at, stop_t, add_at, nBT, nTB, nB2, nT2, n2B, n2T, nB1, nT1, n1B, n1T, n12, n21, pT_e, mI_at, send_at, e60, e6k, eq_self, true_and, and_true, false_and, and_false, and_self, if_true, if_false, Nat.reduceEqDiff, reduceIte, Nat.reduceAdd]
  · simp only [cI_at, set_at, stop_t, add_at, nBT, nTB, nB2, nT2, n2B, n2T, nB1, nT1, n1B, n1T, n12, n21, pT_e, mI_at, send_at, e60, e6k, eq_self, true_and, and_true, false_and, and_false, and_self, if_true, if_false, Nat.reduceEqDiff, reduceIte, Nat.reduceAdd]; exact g2
  · simp only [cI_at, set_at, stop_t, add_at, nBT, nTB, nB2, nT2, n2B, n2T, nB1, nT1, n1B, n1T, n12, n21, pT_e, mI_at, send_at, e60, e6k, eq_self, true_and, and_true, false_and, and_false, and_self, if_true, if_false, Nat.reduceEqDiff, reduceIte, Nat.reduceAdd]; exact g3
  · simp only [cI_at, set_at, stop_t, add_at, nBT, nTB, nB2, nT2, n2B, n2T, nB1, nT1, n1B, n1T, n12, n21, pT_e, mI_at, send_at, e60, e6k, eq_self, true_and, and_true, false_and, and_false, and_self, if_true, if_false, Nat.reduceEqDiff, reduceIte, Nat.reduceAdd]; exact g4
  · simp only [cI_at, set_at, stop_t, add_at, nBT, nTB, nB2, nT2, n2B, n2T, nB1, nT1, n1B, n1T, n12, n21, pT_e, mI_at, send_at, e60, e6k, eq_self, true_and, and_true, false_and, and_false, and_self, if_true, if_false, Nat.reduceEqDiff, reduceIte, Nat.reduceAdd]
  · intro k hk
    rcases k6 hk with rfl | rfl | rfl | rfl | rfl | rfl
    · simp only [cI_at, set_at, stop_t, add_at, nBT, nTB, nB2, nT2, n2B, n2T, nB1, nT1, n1B, n1T, n12, n21, pT_e, mI_at, send_at, e60, e6k, eq_self, true_and, and_true, false_and, and_false, and_self, if_true, if_false, Nat.reduceEqDiff, reduceIte, Nat.reduceAdd, fl_r]; exact ⟨rfl, zT⟩
    · simp only [cI_at, set_at, stop_t, add_at, nBT, nTB, nB2, nT2, n2B, n2T, nB1, nT1, n1B, n1T, n12, n21, pT_e, mI_at, send_at, e60, e6k, eq_self, true_and, and_true, false_and, and_false, and_self, if_true, if_false, Nat.reduceEqDiff, reduceIte, Nat.reduceAdd, fl_r]; exact ⟨rfl, zT⟩
    · simp only [cI_at, set_at, stop_t, add_at, nBT, nTB, nB2, nT2, n2B, n2T, nB1, nT1, n1B, n1T, n12, n21, pT_e, mI_at, send_at, e60, e6k, eq_self, true_and, and_true, false_and, and_false, and_self, if_true, if_false, Nat.reduceEqDiff, reduceIte, Nat.reduceAdd, fl_r]; exact ⟨rfl, zT⟩
    · simp only [cI_at, set_at, stop_t, add_at, nBT, nTB, nB2, nT2, n2B, n2T, nB1, nT1, n1B, n1T, n12, n21, pT_e, mI_at, send_at, e60, e6k, eq_self, true_and, and_true, false_and, and_false, and_self, if_true, if_false, Nat.reduceEqDiff, reduceIte, Nat.reduceAdd, fl_r, hG.2.1.1, hG.2.1.2, hG.1.1, hG.1.2, ml64, nI_add]
      exact ⟨(if_pos (by have := hτ 3; omega)).symm, by omega⟩
    · simp only [cI_at, set_at, stop_t, add_at, nBT, nTB, nB2, nT2, n2B, n2T, nB1, nT1, n1B, n1T, n12, n21, pT_e, mI_at, send_at, e60, e6k, eq_self, true_and, and_true, false_and, and_false, and_self, if_true, if_false, Nat.reduceEqDiff, reduceIte, Nat.reduceAdd, fl_r]; exact ⟨rfl, zT⟩
    · simp only [cI_at, set_at, stop_t, add_at, nBT, nTB, nB2, nT2, n2B, n2T, nB1, nT1, n1B, n1T, n12, n21, pT_e, mI_at, send_at, e60, e6k, eq_self, true_and, and_true, false_and, and_false, and_self, if_true, if_false, Nat.reduceEqDiff, reduceIte, Nat.reduceAdd, fl_r]; exact ⟨rfl, zT⟩
  · simp only [cI_at, set_at, stop_t, add_at, nBT, nTB, nB2, nT2, n2B, n2T, nB1, nT1, n1B, n1T, n12, n21, pT_e, mI_at, send_at, e60, e6k, eq_self, true_and, and_true, false_and, and_false, and_self, if_true, if_false, Nat.reduceEqDiff, reduceIte, Nat.reduceAdd]; exact g7
  · simp only [cI_at, set_at, stop_t, add_at, nBT, nTB, nB2, nT2, n2B, n2T, nB1, nT1, n1B, n1T, n12, n21, pT_e, mI_at, send_at, e60, e6k, eq_self, true_and, and_true, false_and, and_false, and_self, if_true, if_false, Nat.reduceEqDiff, reduceIte, Nat.reduceAdd]; exact g8
  · refine Or.inr (Or.inr (Or.inl ?_))
    simp only [cI_at, set_at, stop_t, add_at, nBT, nTB, nB2, nT2, n2B, n2T, nB1, nT1, n1B, n1T, n12, n21, pT_e, mI_at, send_at, e60, e6k, eq_self, true_and, and_true, false_and, and_false, and_self, if_true, if_false, Nat.reduceEqDiff, reduceIte, Nat.reduceAdd, fl_r]
    exact ⟨Nat.zero_le _, Nat.zero_le _, Nat.zero_le _, Nat.zero_le _⟩
