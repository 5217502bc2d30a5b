theorem any_nI (x : Int32) : ∃ n, x = nI n := ⟨x.toBitVec.toNat, by
  unfold nI
  apply Int32.toBitVec_inj.mp
  rw [Int32.toBitVec_ofNat']
  exact (BitVec.ofNat_toNat _ _).symm ▸ (BitVec.setWidth_eq x.toBitVec).symm⟩
-- a branch begins
def bg_r (N t k : Nat) : Nat := if k = 0 then N + t else if k = 1 then N + 64 * t else if k = 2 then N + 200 * t else 0
theorem RB_beg {τ : Nat → Nat} {t M N : Nat} {c : CM} {s : MM} {a i : Nat} {w : Int32} (hG : RG N t c s) (hl : c.1 (pB a i) 2 = nI a ∧ c.1 (pB a i) 3 = nI i) (hn : ∀ k, k < 6 → c.1 (pT a i k) 2 = NV) (hτ : ∀ k, τ k ≤ N) (hM : N + 200 * t ≤ M) (ht : 1 ≤ t) : RG N t (b_beg c a i w) (m_begin s a i w) ∧ ∃ se, RB τ t M (bg_r N t) t se (b_beg c a i w) (m_begin s a i w) a i := by
  obtain ⟨se, hse⟩ := any_nI (s.1 194 (4 * a + i))
  unfold b_beg b_b4 b_mv b_mA b_mO b_mD m_begin m_b5 m_t6
  simp only [w14, true_or, if_true, if_false, hl.1, hl.2, hG.1.1, hG.1.2, hG.2.1.2]
  refine ⟨?_, se, ⟨?_, ?_, ?_, ?_, ?_⟩, ?_, ⟨?_, ?_⟩, ?_⟩
  · refine RG_m (RG_m (RG_m (RG_m (RG_set (RG_set (RG_set (RG_add ?_) g3T) g3T) g3T) (by decide)) (by decide)) (by decide)) (by decide)
    repeat' first | exact hG | refine RG_m ?_ (by decide) | refine RG_c ?_ g3B
  · simp only [cI_at, set_at, stop_t, add_at, nBT, nTB, nB2, nT2, n2B, n2T, nB1, nT1, n1B, n1T, n12, n21, pT_e, mI_at, send_at, e60, e6k, eq_self, true_and, and_true, false_and, and_false, and_self, if_true, if_false, Nat.reduceEqDiff, reduceIte, Nat.reduceAdd]
  · simp only [cI_at, set_at, stop_t, add_at, nBT, nTB, nB2, nT2, n2B, n2T, nB1, nT1, n1B, n1T, n12, n21, pT_e, mI_at, send_at, e60, e6k, eq_self, true_and, and_true, false_and, and_false, and_self, if_true, if_false, Nat.reduceEqDiff, reduceIte, Nat.reduceAdd]
  · simp only [cI_at, set_at, stop_t, add_at, nBT, nTB, nB2, nT2, n2B, n2T, nB1, nT1, n1B, n1T, n12, n21, pT_e, mI_at, send_at, e60, e6k, eq_self, true_and, and_true, false_and, and_false, and_self, if_true, if_false, Nat.reduceEqDiff, reduceIte, Nat.reduceAdd]
  · simp only [cI_at, set_at, stop_t, add_at, nBT, nTB, nB2, nT2, n2B, n2T, nB1, nT1, n1B, n1T, n12, n21, pT_e, mI_at, send_at, e60, e6k, eq_self, true_and, and_true, false_and, and_false, and_self, if_true, if_false, Nat.reduceEqDiff, reduceIte, Nat.reduceAdd]
  · simp only [cI_at, set_at, stop_t, add_at, nBT, nTB, nB2, nT2, n2B, n2T, nB1, nT1, n1B, n1T, n12, n21, pT_e, mI_at, send_at, e60, e6k, eq_self, true_and, and_true, false_and, and_false, and_self, if_true, if_false, Nat.reduceEqDiff, reduceIte, Nat.reduceAdd]
  · intro k hk
    rcases k6 hk with rfl | rfl | rfl | rfl | rfl | rfl
    · simp only [cI_at, set_at, stop_t, add_at, nBT, nTB, nB2, nT2, n2B, n2T, nB1, nT1, n1B, n1T, n12, n21, pT_e, mI_at, send_at, e60, e6k, eq_self, true_and, and_true, false_and, and_false, and_self, if_true, if_false, Nat.reduceEqDiff, reduceIte, Nat.reduceAdd, bg_r, hG.2.1.1, nI_add]
      exact ⟨(if_pos (by have := hτ 0; omega)).symm, by omega⟩
    · simp only [cI_at, set_at, stop_t, add_at, nBT, nTB, nB2, nT2, n2B, n2T, nB1, nT1, n1B, n1T, n12, n21, pT_e, mI_at, send_at, e60, e6k, eq_self, true_and, and_true, false_and, and_false, and_self, if_true, if_false, Nat.reduceEqDiff, reduceIte, Nat.reduceAdd, bg_r, hG.2.1.1, ml64, nI_add]
      exact ⟨(if_pos (by have := hτ 1; omega)).symm, by omega⟩
    · simp only [cI_at, set_at, stop_t, add_at, nBT, nTB, nB2, nT2, n2B, n2T, nB1, nT1, n1B, n1T, n12, n21, pT_e, mI_at, send_at, e60, e6k, eq_self, true_and, and_true, false_and, and_false, and_self, if_true, if_false, Nat.reduceEqDiff, reduceIte, Nat.reduceAdd, bg_r, hG.2.1.1, ml200, nI_add]
      exact ⟨(if_pos (by have := hτ 2; omega)).symm, by omega⟩
    · simp only [cI_at, set_at, stop_t, add_at, nBT, nTB, nB2, nT2, n2B, n2T, nB1, nT1, n1B, n1T, n12, n21, pT_e, mI_at, send_at, e60, e6k, eq_self, true_and, and_true, false_and, and_false, and_self, if_true, if_false, Nat.reduceEqDiff, reduceIte, Nat.reduceAdd, bg_r, hn 3 hk]; exact ⟨rfl, zT⟩
    · simp only [cI_at, set_at, stop_t, add_at, nBT, nTB, nB2, nT2, n2B, n2T, nB1, nT1, n1B, n1T, n12, n21, pT_e, mI_at, send_at, e60, e6k, eq_self, true_and, and_true, false_and, and_false, and_self, if_true, if_false, Nat.reduceEqDiff, reduceIte, Nat.reduceAdd, bg_r, hn 4 hk]; exact ⟨rfl, zT⟩
    · simp only [cI_at, set_at, stop_t, add_at, nBT, nTB, nB2, nT2, n2B, n2T, nB1, nT1, n1B, n1T, n12, n21, pT_e, mI_at, send_at, e60, e6k, eq_self, true_and, and_true, false_and, and_false, and_self, if_true, if_false, Nat.reduceEqDiff, reduceIte, Nat.reduceAdd, bg_r, hn 5 hk]; exact ⟨rfl, zT⟩
  · simp only [cI_at, set_at, stop_t, add_at, nBT, nTB, nB2, nT2, n2B, n2T, nB1, nT1, n1B, n1T, n12, n21, pT_e, mI_at, send_at, e60, e6k, eq_self, true_and, and_true, false_and, and_false, and_self, if_true, if_false, Nat.reduceEqDiff, reduceIte, Nat.reduceAdd]
  · simp only [cI_at, set_at, stop_t, add_at, nBT, nTB, nB2, nT2, n2B, n2T, nB1, nT1, n1B, n1T, n12, n21, pT_e, mI_at, send_at, e60, e6k, eq_self, true_and, and_true, false_and, and_false, and_self, if_true, if_false, Nat.reduceEqDiff, reduceIte, Nat.reduceAdd]; exact hse
  · refine Or.inl ?_
    simp only [cI_at, set_at, stop_t, add_at, nBT, nTB, nB2, nT2, n2B, n2T, nB1, nT1, n1B, n1T, n12, n21, pT_e, mI_at, send_at, e60, e6k, eq_self, true_and, and_true, false_and, and_false, and_self, if_true, if_false, Nat.reduceEqDiff, reduceIte, Nat.reduceAdd, bg_r]
    have h0 := hτ 0
    have h1 := hτ 1
    exact ⟨by omega, by omega, by omega, by omega, Nat.le_refl _, Nat.zero_le _, Nat.zero_le _⟩
-- other instants, the same timers off
theorem RV_mono {τ τ' : Nat → Nat} {t : Nat} {r : Nat → Nat} {sa se : Nat} {st cs x0 x4 : Int32} (h : RV τ t r sa se st cs x0 x4) (hm : ∀ k, k < 6 → (τ k < r k ↔ τ' k < r k)) : RV τ' t r sa se st cs x0 x4 := by
  have hm' : ∀ k, k < 6 → (r k ≤ τ k ↔ r k ≤ τ' k) := fun k hk => by have := hm k hk; omega
  unfold RV at h ⊢
  rw [hm 0 (by decide), hm 1 (by decide), hm 4 (by decide), hm' 0 (by decide), hm' 1 (by decide), hm' 2 (by decide), hm' 3 (by decide), hm' 5 (by decide)] at h
  rcases h with h | h | h | h
  · exact Or.inl h
  · exact Or.inr (Or.inl h)
  · exact Or.inr (Or.inr (Or.inl h))
  · exact Or.inr (Or.inr (Or.inr ⟨h.1, fun k hk => (hm' k hk).mp (h.2.1 k hk), h.2.2⟩))
theorem RB_mono {τ τ' : Nat → Nat} {t M : Nat} {r : Nat → Nat} {sa se : Nat} {c : CM} {s : MM} {a i : Nat} (h : RB τ t M r sa se c s a i) (hm : ∀ k, k < 6 → (τ k < r k ↔ τ' k < r k)) : RB τ' t M r sa se c s a i := by
  obtain ⟨g1, g6, g7, g9⟩ := h
  refine ⟨g1, fun k hk => ?_, g7, RV_mono g9 hm⟩
  have := g6 k hk
  refine ⟨this.1, ?_, this.2.2⟩
  rw [this.2.1]
  by_cases e : τ k < r k
  · rw [if_pos e, if_pos ((hm k hk).mp e)]
  · rw [if_neg e, if_neg (fun w => e ((hm k hk).mpr w))]
theorem RB_M {τ : Nat → Nat} {t M M' : Nat} {r : Nat → Nat} {sa se : Nat} {c : CM} {s : MM} {a i : Nat} (h : RB τ t M r sa se c s a i) (hM : M ≤ M') : RB τ t M' r sa se c s a i := by
  obtain ⟨g1, g6, g7, g9⟩ := h
  exact ⟨g1, fun k hk => ⟨(g6 k hk).1, (g6 k hk).2.1, Nat.le_trans (g6 k hk).2.2 hM⟩, g7, g9⟩
-- due now, on both sides
theorem du_c {τ r N : Nat} {x : Int32} (hx : x = (if τ < r then nI r else NV)) (h1 : τ + 1 = N) (hr : r < 2147483647) (hN : N < 2147483647) : x = nI N ↔ r = N := by
  rw [hx]
  by_cases e : τ < r
  · rw [if_pos e]; exact nI_eq (by omega) (by omega)
  · rw [if_neg e]
    have : NV = nI 2147483647 := by decide
    rw [this, nI_eq (by omega) (by omega)]
    omega
def up (τ : Nat → Nat) (k N : Nat) (j : Nat) : Nat := if j = k then N else τ j
theorem up_mono {τ r : Nat → Nat} {k N : Nat} (h1 : τ k + 1 = N) (h : ¬ r k = N) : ∀ j, j < 6 → (τ j < r j ↔ up τ k N j < r j) := by
  intro j _
  unfold up
  split
  · next e => subst e; omega
  · exact Iff.rfl
-- the six, one after the other
def a_r (r : Nat → Nat) (k v : Nat) (j : Nat) : Nat := if j = k then v else r j
theorem RB_d0 {τ : Nat → Nat} {t M N : Nat} {r : Nat → Nat} {sa se : Nat} {c : CM} {s : MM} {a i : Nat} (hG : RG N t c s) (h : RB τ t M r sa se c s a i) (hl : c.1 (pB a i) 2 = nI a ∧ c.1 (pB a i) 3 = nI i) (h0 : τ 0 + 1 = N) (h1 : τ 1 + 1 = N) (hM : N + 200 * t ≤ M) (hM2 : M < 2147483647) (ht : 1 ≤ t) : RG N t (b_r0 c a i) (m_d0 s a i) ∧ (∃ r' sa', RB (up τ 0 N) t M r' sa' se (b_r0 c a i) (m_d0 s a i) a i) ∧ (s.1 186 (4 * a + i) = (m_d0 s a i).1 186 (4 * a + i)) := by
  have hh := h
  obtain ⟨⟨g1, g2, g3, g4, g5⟩, g6, ⟨g7, g8⟩, g9⟩ := h
  have z := g6 0 (by decide)
  have e1 := du_c z.2.1 h0 (by omega) (by omega)
  have e2 : s.1 192 (6 * (4 * a + i)) = nI N ↔ r 0 = N := by
    have q := z.1
    rw [Nat.add_zero] at q
    rw [q]; exact nI_eq (by omega) (by omega)
  unfold b_r0 m_d0
  rw [hG.2.1.1, hG.2.1.2]
  by_cases hd : r 0 = N
  · rw [if_pos (e1.mpr hd), if_pos (e2.mpr hd)]
    rcases g9 with w | w | w | w
    · obtain ⟨w1, w2, w3, w4, w5, w6, w7, w8, w9⟩ := w
      rw [hl.1, hl.2, w8, g7]
      refine ⟨RG_m (RG_m (RG_set (RG_add hG) g3T) (by decide)) (by decide), ⟨a_r r 0 (N + 2 * sa), 2 * sa, ⟨?_, ?_, ?_, ?_, ?_⟩, ?_, ⟨?_, ?_⟩, ?_⟩, ?_⟩
      · simp only [cI_at, set_at, stop_t, add_at, nBT, nTB, nB2, nT2, n2B, n2T, nB1, nT1, n1B, n1T, n12, n21, pT_e, mI_at, send_at, e60, e6k, eq_self, true_and, and_true, false_and, and_false, and_self, if_true, if_false, Nat.reduceEqDiff, reduceIte, Nat.reduceAdd]; exact g1
      · simp only [cI_at, set_at, stop_t, add_at, nBT, nTB, nB2, nT2, n2B, n2T, nB1, nT1, n1B, n1T, n12, n21, pT_e, mI_at, send_at, e60, e6k, eq_self, true_and, and_true, false_and, and_false, and_self, if_true, if_false, Nat.reduceEqDiff, reduceIte, Nat.reduceAdd]; exact g2
      · simp only [cI_at, set_at, stop_t, add_at, nBT, nTB, nB2, nT2, n2B, n2T, nB1, nT1, n1B, n1T, n12, n21, pT_e, mI_at, send_at, e60, e6k, eq_self, true_and, and_true, false_and, and_false, and_self, if_true, if_false, Nat.reduceEqDiff, reduceIte, Nat.reduceAdd]; exact g3
      · simp only [cI_at, set_at, stop_t, add_at, nBT, nTB, nB2, nT2, n2B, n2T, nB1, nT1, n1B, n1T, n12, n21, pT_e, mI_at, send_at, e60, e6k, eq_self, true_and, and_true, false_and, and_false, and_self, if_true, if_false, Nat.reduceEqDiff, reduceIte, Nat.reduceAdd]; exact g4
      · simp only [cI_at, set_at, stop_t, add_at, nBT, nTB, nB2, nT2, n2B, n2T, nB1, nT1, n1B, n1T, n12, n21, pT_e, mI_at, send_at, e60, e6k, eq_self, true_and, and_true, false_and, and_false, and_self, if_true, if_false, Nat.reduceEqDiff, reduceIte, Nat.reduceAdd]; exact g5
      · intro k hk
        rcases k6 hk with rfl | rfl | rfl | rfl | rfl | rfl
        · simp only [cI_at, set_at, stop_t, add_at, nBT, nTB, nB2, nT2, n2B, n2T, nB1, nT1, n1B, n1T, n12, n21, pT_e, mI_at, send_at, e60, e6k, eq_self, true_and, and_true, false_and, and_false, and_self, if_true, if_false, Nat.reduceEqDiff, reduceIte, Nat.reduceAdd, a_r, up, hG.2.1.1, ml2, nI_add]
          exact ⟨(if_pos (by omega)).symm, by omega⟩
        · simp only [cI_at, set_at, stop_t, add_at, nBT, nTB, nB2, nT2, n2B, n2T, nB1, nT1, n1B, n1T, n12, n21, pT_e, mI_at, send_at, e60, e6k, eq_self, true_and, and_true, false_and, and_false, and_self, if_true, if_false, Nat.reduceEqDiff, reduceIte, Nat.reduceAdd, a_r, up]; exact g6 1 hk
        · simp only [cI_at, set_at, stop_t, add_at, nBT, nTB, nB2, nT2, n2B, n2T, nB1, nT1, n1B, n1T, n12, n21, pT_e, mI_at, send_at, e60, e6k, eq_self, true_and, and_true, false_and, and_false, and_self, if_true, if_false, Nat.reduceEqDiff, reduceIte, Nat.reduceAdd, a_r, up]; exact g6 2 hk
        · simp only [cI_at, set_at, stop_t, add_at, nBT, nTB, nB2, nT2, n2B, n2T, nB1, nT1, n1B, n1T, n12, n21, pT_e, mI_at, send_at, e60, e6k, eq_self, true_and, and_true, false_and, and_false, and_self, if_true, if_false, Nat.reduceEqDiff, reduceIte, Nat.reduceAdd, a_r, up]; exact g6 3 hk
        · simp only [cI_at, set_at, stop_t, add_at, nBT, nTB, nB2, nT2, n2B, n2T, nB1, nT1, n1B, n1T, n12, n21, pT_e, mI_at, send_at, e60, e6k, eq_self, true_and, and_true, false_and, and_false, and_self, if_true, if_false, Nat.reduceEqDiff, reduceIte, Nat.reduceAdd, a_r, up]; exact g6 4 hk
        · simp only [cI_at, set_at, stop_t, add_at, nBT, nTB, nB2, nT2, n2B, n2T, nB1, nT1, n1B, n1T, n12, n21, pT_e, mI_at, send_at, e60, e6k, eq_self, true_and, and_true, false_and, and_false, and_self, if_true, if_false, Nat.reduceEqDiff, reduceIte, Nat.reduceAdd, a_r, up]; exact g6 5 hk
      · simp only [cI_at, set_at, stop_t, add_at, nBT, nTB, nB2, nT2, n2B, n2T, nB1, nT1, n1B, n1T, n12, n21, pT_e, mI_at, send_at, e60, e6k, eq_self, true_and, and_true, false_and, and_false, and_self, if_true, if_false, Nat.reduceEqDiff, reduceIte, Nat.reduceAdd, ml2]
      · simp only [cI_at, set_at, stop_t, add_at, nBT, nTB, nB2, nT2, n2B, n2T, nB1, nT1, n1B, n1T, n12, n21, pT_e, mI_at, send_at, e60, e6k, eq_self, true_and, and_true, false_and, and_false, and_self, if_true, if_false, Nat.reduceEqDiff, reduceIte, Nat.reduceAdd]; exact g8
      · refine Or.inl ?_
        simp only [cI_at, set_at, stop_t, add_at, nBT, nTB, nB2, nT2, n2B, n2T, nB1, nT1, n1B, n1T, n12, n21, pT_e, mI_at, send_at, e60, e6k, eq_self, true_and, and_true, false_and, and_false, and_self, if_true, if_false, Nat.reduceEqDiff, reduceIte, Nat.reduceAdd, a_r, up, ml2]
        exact ⟨w1, w2, by omega, w4, w5, by omega, by omega, w9⟩
      · simp only [cI_at, set_at, stop_t, add_at, nBT, nTB, nB2, nT2, n2B, n2T, nB1, nT1, n1B, n1T, n12, n21, pT_e, mI_at, send_at, e60, e6k, eq_self, true_and, and_true, false_and, and_false, and_self, if_true, if_false, Nat.reduceEqDiff, reduceIte, Nat.reduceAdd]
    · exact absurd w.2.1 (by omega)
    · exact absurd w.2.1 (by omega)
    · exact absurd (w.2.1 0 (by decide)) (by omega)
  · rw [if_neg (fun q => hd (e1.mp q)), if_neg (fun q => hd (e2.mp q))]
    exact ⟨hG, ⟨r, sa, RB_mono hh (up_mono h0 hd)⟩, rfl⟩
theorem RB_d2 {τ : Nat → Nat} {t M N : Nat} {r : Nat → Nat} {sa se : Nat} {c : CM} {s : MM} {a i : Nat} (hG : RG N t c s) (h : RB τ t M r sa se c s a i) (hl : c.1 (pB a i) 2 = nI a ∧ c.1 (pB a i) 3 = nI i) (h0 : τ 2 + 1 = N) (h1 : N ≤ τ 1 + 1) (hτ : ∀ k, τ k ≤ N) (hM : N + 200 * t ≤ M) (hM2 : M < 2147483647) (ht : 1 ≤ t) : RG N t (b_r2 c a i) (m_d2 s a i) ∧ ∃ r' se', RB (up τ 2 N) t M r' sa se' (b_r2 c a i) (m_d2 s a i) a i := by
  have hh := h
  obtain ⟨⟨g1, g2, g3, g4, g5⟩, g6, ⟨g7, g8⟩, g9⟩ := h
  have z := g6 2 (by decide)
  have e1 := du_c z.2.1 h0 (by omega) (by omega)
  have e2 : s.1 192 (6 * (4 * a + i) + 2) = nI N ↔ r 2 = N := by
    rw [z.1]; exact nI_eq (by omega) (by omega)
  unfold b_r2 m_d2
  rw [hG.2.1.1, hG.2.1.2]
  by_cases hd : r 2 = N
  · rw [if_pos (e1.mpr hd), if_pos (e2.mpr hd)]
    have ho : s.1 186 (4 * a + i) = 2 := by
      rcases g9 with w | w | w | w
      · have := w.2.2.2.1; have := w.2.2.2.2.1; omega
      · exact w.1
      · have := w.2.2.2.1; omega
      · have := w.2.1 2 (by decide); omega
    obtain ⟨q1, r', se', q2⟩ := RB_stop hG hh hl hτ (by omega) ht (Or.inr (g1.trans ho))
    refine ⟨q1, r', se', RB_mono q2 ?_⟩
    have z2 := q2.2.1 2 (by decide)
    -- the timer is off now
    have hr2 : r' 2 = 0 := by
      have c0 : s.1 189 (4 * a + i) = 0 := by
        rcases g9 with w | w | w | w
        · exact w.2.1
        · rcases w.2.2.2.2 with v | v
          · exact v.1
          · have := v.2.1; omega
        · have := w.1; rw [ho] at this; exact absurd this (by decide)
        · have := w.1; rw [ho] at this; exact absurd this (by decide)
      have q : (m_stop s a i).1 192 (6 * (4 * a + i) + 2) = 0 := by
        unfold m_stop
        rw [if_neg (show ¬ s.1 186 (4 * a + i) = 1 by rw [ho]; decide), if_pos ho, if_pos c0]
        simp only [cI_at, set_at, stop_t, add_at, nBT, nTB, nB2, nT2, n2B, n2T, nB1, nT1, n1B, n1T, n12, n21, pT_e, mI_at, send_at, e60, e6k, eq_self, true_and, and_true, false_and, and_false, and_self, if_true, if_false, Nat.reduceEqDiff, reduceIte, Nat.reduceAdd]
      rw [z2.1] at q
      exact (nI_eq (b := 0) (by omega) (by decide)).mp q
    intro j hj
    unfold up
    split
    · next e => subst e; omega
    · exact Iff.rfl
  · rw [if_neg (fun q => hd (e1.mp q)), if_neg (fun q => hd (e2.mp q))]
    exact ⟨hG, r, se, RB_mono hh (up_mono h0 hd)⟩
theorem RB_d3 {τ : Nat → Nat} {t M N : Nat} {r : Nat → Nat} {sa se : Nat} {c : CM} {s : MM} {a i : Nat} (hG : RG N t c s) (h : RB τ t M r sa se c s a i) (h0 : τ 3 + 1 = N) (hM : N + 200 * t ≤ M) (hM2 : M < 2147483647) : RG N t (b_r3 c a i) (m_d3 s a i) ∧ ∃ r', RB (up τ 3 N) t M r' sa se (b_r3 c a i) (m_d3 s a i) a i := by
  have hh := h
  obtain ⟨⟨g1, g2, g3, g4, g5⟩, g6, ⟨g7, g8⟩, g9⟩ := h
  have z := g6 3 (by decide)
  have e1 := du_c z.2.1 h0 (by omega) (by omega)
  have e2 : s.1 192 (6 * (4 * a + i) + 3) = nI N ↔ r 3 = N := by
    rw [z.1]; exact nI_eq (by omega) (by omega)
  unfold b_r3 m_d3
  rw [hG.2.1.1, hG.2.1.2]
  by_cases hd : r 3 = N
  · rw [if_pos (e1.mpr hd), if_pos (e2.mpr hd)]
    unfold b_mv b_mA b_mO b_mD m_become
    simp only [w41, w42, l42, or_self, if_true, if_false]
    refine ⟨?_, ou_r r, ⟨?_, ?_, ?_, ?_, ?_⟩, ?_, ⟨?_, ?_⟩, ?_⟩
    · repeat' first | exact hG | refine RG_m ?_ (by decide) | refine RG_stp ?_ g3T | refine RG_c ?_ g3B
    · simp only [cI_at, set_at, stop_t, add_at, nBT, nTB, nB2, nT2, n2B, n2T, nB1, nT1, n1B, n1T, n12, n21, pT_e, mI_at, send_at, e60, e6k, eq_self, true_and, and_true, false_and, and_false, and_self, if_true, if_false, Nat.reduceEqDiff, reduceIte, Nat.reduceAdd]
    · simp only [cI_at, set_at, stop_t, add_at, nBT, nTB, nB2, nT2, n2B, n2T, nB1, nT1, n1B, n1T, n12, n21, pT_e, mI_at, send_at, e60, e6k, eq_self, true_and, and_true, false_and, and_false, and_self, if_true, if_false, Nat.reduceEqDiff, reduceIte, Nat.reduceAdd]; exact g2
    · simp only [cI_at, set_at, stop_t, add_at, nBT, nTB, nB2, nT2, n2B, n2T, nB1, nT1, n1B, n1T, n12, n21, pT_e, mI_at, send_at, e60, e6k, eq_self, true_and, and_true, false_and, and_false, and_self, if_true, if_false, Nat.reduceEqDiff, reduceIte, Nat.reduceAdd]; exact g3
    · simp only [cI_at, set_at, stop_t, add_at, nBT, nTB, nB2, nT2, n2B, n2T, nB1, nT1, n1B, n1T, n12, n21, pT_e, mI_at, send_at, e60, e6k, eq_self, true_and, and_true, false_and, and_false, and_self, if_true, if_false, Nat.reduceEqDiff, reduceIte, Nat.reduceAdd]; exact g4
    · simp only [cI_at, set_at, stop_t, add_at, nBT, nTB, nB2, nT2, n2B, n2T, nB1, nT1, n1B, n1T, n12, n21, pT_e, mI_at, send_at, e60, e6k, eq_self, true_and, and_true, false_and, and_false, and_self, if_true, if_false, Nat.reduceEqDiff, reduceIte, Nat.reduceAdd]; exact g5
    · intro k hk
      rcases k6 hk with rfl | rfl | rfl | rfl | rfl | rfl
      · simp only [cI_at, set_at, stop_t, add_at, nBT, nTB, nB2, nT2, n2B, n2T, nB1, nT1, n1B, n1T, n12, n21, pT_e, mI_at, send_at, e60, e6k, eq_self, true_and, and_true, false_and, and_false, and_self, if_true, if_false, Nat.reduceEqDiff, reduceIte, Nat.reduceAdd, ou_r]; exact ⟨rfl, zT⟩
      · simp only [cI_at, set_at, stop_t, add_at, nBT, nTB, nB2, nT2, n2B, n2T, nB1, nT1, n1B, n1T, n12, n21, pT_e, mI_at, send_at, e60, e6k, eq_self, true_and, and_true, false_and, and_false, and_self, if_true, if_false, Nat.reduceEqDiff, reduceIte, Nat.reduceAdd, ou_r]; exact ⟨rfl, zT⟩
      · simp only [cI_at, set_at, stop_t, add_at, nBT, nTB, nB2, nT2, n2B, n2T, nB1, nT1, n1B, n1T, n12, n21, pT_e, mI_at, send_at, e60, e6k, eq_self, true_and, and_true, false_and, and_false, and_self, if_true, if_false, Nat.reduceEqDiff, reduceIte, Nat.reduceAdd, ou_r]; exact ⟨rfl, zT⟩
      · simp only [cI_at, set_at, stop_t, add_at, nBT, nTB, nB2, nT2, n2B, n2T, nB1, nT1, n1B, n1T, n12, n21, pT_e, mI_at, send_at, e60, e6k, eq_self, true_and, and_true, false_and, and_false, and_self, if_true, if_false, Nat.reduceEqDiff, reduceIte, Nat.reduceAdd, ou_r, up]; exact ⟨(g6 3 hk).1, (if_neg (by omega)).symm, (g6 3 hk).2.2⟩
      · simp only [cI_at, set_at, stop_t, add_at, nBT, nTB, nB2, nT2, n2B, n2T, nB1, nT1, n1B, n1T, n12, n21, pT_e, mI_at, send_at, e60, e6k, eq_self, true_and, and_true, false_and, and_false, and_self, if_true, if_false, Nat.reduceEqDiff, reduceIte, Nat.reduceAdd, ou_r]; exact ⟨rfl, zT⟩
      · simp only [cI_at, set_at, stop_t, add_at, nBT, nTB, nB2, nT2, n2B, n2T, nB1, nT1, n1B, n1T, n12, n21, pT_e, mI_at, send_at, e60, e6k, eq_self, true_and, and_true, false_and, and_false, and_self, if_true, if_false, Nat.reduceEqDiff, reduceIte, Nat.reduceAdd, ou_r]; exact ⟨rfl, zT⟩
    · simp only [cI_at, set_at, stop_t, add_at, nBT, nTB, nB2, nT2, n2B, n2T, nB1, nT1, n1B, n1T, n12, n21, pT_e, mI_at, send_at, e60, e6k, eq_self, true_and, and_true, false_and, and_false, and_self, if_true, if_false, Nat.reduceEqDiff, reduceIte, Nat.reduceAdd]; exact g7
    · simp only [cI_at, set_at, stop_t, add_at, nBT, nTB, nB2, nT2, n2B, n2T, nB1, nT1, n1B, n1T, n12, n21, pT_e, mI_at, send_at, e60, e6k, eq_self, true_and, and_true, false_and, and_false, and_self, if_true, if_false, Nat.reduceEqDiff, reduceIte, Nat.reduceAdd]; exact g8
    · refine Or.inr (Or.inr (Or.inr ⟨?_, ?_⟩))
      · simp only [cI_at, set_at, stop_t, add_at, nBT, nTB, nB2, nT2, n2B, n2T, nB1, nT1, n1B, n1T, n12, n21, pT_e, mI_at, send_at, e60, e6k, eq_self, true_and, and_true, false_and, and_false, and_self, if_true, if_false, Nat.reduceEqDiff, reduceIte, Nat.reduceAdd]
      · refine ⟨fun k hk => ?_, rfl⟩
        unfold ou_r up
        split
        · omega
        · exact Nat.zero_le _
  · rw [if_neg (fun q => hd (e1.mp q)), if_neg (fun q => hd (e2.mp q))]
    exact ⟨hG, r, RB_mono hh (up_mono h0 hd)⟩
def tw (t se : Nat) : Nat := if 2 * se < 8 * t then 2 * se else 8 * t
theorem tw_c {t se : Nat} (h1 : se ≤ 8 * t) (h2 : t ≤ 100) : (if 8 * nI t < 2 * nI se then 8 * nI t else 2 * nI se) = nI (tw t se) := by
  rw [ml8, ml2]
  unfold tw
  by_cases e : 8 * t < 2 * se
  · rw [if_pos (nI_lt e (by omega)), if_neg (by omega)]
  · rw [if_neg (nI_nlt (by omega) (by omega))]
    by_cases e2 : 2 * se < 8 * t
    · rw [if_pos e2]
    · rw [if_neg e2, show 2 * se = 8 * t by omega]
theorem tw_m {s : MM} {t se : Nat} (h1 : se ≤ 8 * t) (h2 : t ≤ 100) (h3 : s.1 170 0 = nI t) : m_twice s (nI se) = nI (tw t se) := by
  unfold m_twice tw
  rw [h3, ml8, ml2]
  by_cases e : 2 * se < 8 * t
  · rw [if_pos (nI_lt e (by omega)), if_pos e]
  · rw [if_neg (nI_nlt (by omega) (by omega)), if_neg e]
theorem tw_b {t se : Nat} (h1 : t ≤ se) (h2 : se ≤ 8 * t) : t ≤ tw t se ∧ tw t se ≤ 8 * t := by
  unfold tw
  split <;> omega
theorem RB_d4 {τ : Nat → Nat} {t M N : Nat} {r : Nat → Nat} {sa se : Nat} {c : CM} {s : MM} {a i : Nat} (hG : RG N t c s) (h : RB τ t M r sa se c s a i) (hl : c.1 (pB a i) 2 = nI a ∧ c.1 (pB a i) 3 = nI i) (h0 : τ 4 + 1 = N) (hM : N + 200 * t ≤ M) (hM2 : M < 2147483647) (ht : 1 ≤ t) (ht2 : t ≤ 100) : RG N t (b_r4 c a i) (m_d4 s a i) ∧ ∃ r' se', RB (up τ 4 N) t M r' sa se' (b_r4 c a i) (m_d4 s a i) a i := by
  have hh := h
  obtain ⟨⟨g1, g2, g3, g4, g5⟩, g6, ⟨g7, g8⟩, g9⟩ := h
  have z := g6 4 (by decide)
  have e1 := du_c z.2.1 h0 (by omega) (by omega)
  have e2 : s.1 192 (6 * (4 * a + i) + 4) = nI N ↔ r 4 = N := by
    rw [z.1]; exact nI_eq (by omega) (by omega)
  unfold b_r4 m_d4 tq_twm
  rw [hG.2.1.1, hG.2.1.2]
  by_cases hd : r 4 = N
  · rw [if_pos (e1.mpr hd), if_pos (e2.mpr hd)]
    have hq : s.1 186 (4 * a + i) = 2 ∧ r 0 ≤ τ 0 ∧ r 1 ≤ τ 1 ∧ r 3 ≤ τ 3 ∧ s.1 189 (4 * a + i) = 1 ∧ r 2 ≤ τ 2 ∧ t ≤ se ∧ se ≤ 8 * t ∧ c.1 (pT a i 4) 1 = nI se := by
      rcases g9 with w | w | w | w
      · have := w.2.2.2.2.2.2.2.2.2.1; omega
      · rcases w.2.2.2.2 with v | v
        · have := v.2.1; omega
        · exact ⟨w.1, w.2.1, w.2.2.1, w.2.2.2.1, v.1, v.2.1, (v.2.2 (by omega)).2⟩
      · have := w.2.2.2.2.1; omega
      · have := w.2.2; omega
    obtain ⟨w1, w2, w3, w4, w5, w6, w7, w8, w9⟩ := hq
    have e9 : (l_add c (c.1 (pB a i) 2) (c.1 (pB a i) 3) 2).1 (pT a i 4) 1 = nI se := by simp only [cI_at, set_at, stop_t, add_at, nBT, nTB, nB2, nT2, n2B, n2T, nB1, nT1, n1B, n1T, n12, n21, pT_e, mI_at, send_at, e60, e6k, eq_self, true_and, and_true, false_and, and_false, and_self, if_true, if_false, Nat.reduceEqDiff, reduceIte, Nat.reduceAdd]; exact w9
    rw [e9, hl.1, hl.2, hG.1.1, g8, tw_c w8 ht2, tw_m w8 ht2 hG.1.2]
    have hb := tw_b w7 w8
    refine ⟨RG_m (RG_m (RG_set (RG_add hG) g3T) (by decide)) (by decide), a_r r 4 (N + tw t se), tw t se, ⟨?_, ?_, ?_, ?_, ?_⟩, ?_, ⟨?_, ?_⟩, ?_⟩
    · simp only [cI_at, set_at, stop_t, add_at, nBT, nTB, nB2, nT2, n2B, n2T, nB1, nT1, n1B, n1T, n12, n21, pT_e, mI_at, send_at, e60, e6k, eq_self, true_and, and_true, false_and, and_false, and_self, if_true, if_false, Nat.reduceEqDiff, reduceIte, Nat.reduceAdd]; exact g1
    · simp only [cI_at, set_at, stop_t, add_at, nBT, nTB, nB2, nT2, n2B, n2T, nB1, nT1, n1B, n1T, n12, n21, pT_e, mI_at, send_at, e60, e6k, eq_self, true_and, and_true, false_and, and_false, and_self, if_true, if_false, Nat.reduceEqDiff, reduceIte, Nat.reduceAdd]; exact g2
    · simp only [cI_at, set_at, stop_t, add_at, nBT, nTB, nB2, nT2, n2B, n2T, nB1, nT1, n1B, n1T, n12, n21, pT_e, mI_at, send_at, e60, e6k, eq_self, true_and, and_true, false_and, and_false, and_self, if_true, if_false, Nat.reduceEqDiff, reduceIte, Nat.reduceAdd]; exact g3
    · simp only [cI_at, set_at, stop_t, add_at, nBT, nTB, nB2, nT2, n2B, n2T, nB1, nT1, n1B, n1T, n12, n21, pT_e, mI_at, send_at, e60, e6k, eq_self, true_and, and_true, false_and, and_false, and_self, if_true, if_false, Nat.reduceEqDiff, reduceIte, Nat.reduceAdd]; exact g4
    · simp only [cI_at, set_at, stop_t, add_at, nBT, nTB, nB2, nT2, n2B, n2T, nB1, nT1, n1B, n1T, n12, n21, pT_e, mI_at, send_at, e60, e6k, eq_self, true_and, and_true, false_and, and_false, and_self, if_true, if_false, Nat.reduceEqDiff, reduceIte, Nat.reduceAdd]; exact g5
    · intro k hk
      rcases k6 hk with rfl | rfl | rfl | rfl | rfl | rfl
      · simp only [cI_at, set_at, stop_t, add_at, nBT, nTB, nB2, nT2, n2B, n2T, nB1, nT1, n1B, n1T, n12, n21, pT_e, mI_at, send_at, e60, e6k, eq_self, true_and, and_true, false_and, and_false, and_self, if_true, if_false, Nat.reduceEqDiff, reduceIte, Nat.reduceAdd, a_r, up]; exact g6 0 hk
      · simp only [cI_at, set_at, stop_t, add_at, nBT, nTB, nB2, nT2, n2B, n2T, nB1, nT1, n1B, n1T, n12, n21, pT_e, mI_at, send_at, e60, e6k, eq_self, true_and, and_true, false_and, and_false, and_self, if_true, if_false, Nat.reduceEqDiff, reduceIte, Nat.reduceAdd, a_r, up]; exact g6 1 hk
      · simp only [cI_at, set_at, stop_t, add_at, nBT, nTB, nB2, nT2, n2B, n2T, nB1, nT1, n1B, n1T, n12, n21, pT_e, mI_at, send_at, e60, e6k, eq_self, true_and, and_true, false_and, and_false, and_self, if_true, if_false, Nat.reduceEqDiff, reduceIte, Nat.reduceAdd, a_r, up]; exact g6 2 hk
      · simp only [cI_at, set_at, stop_t, add_at, nBT, nTB, nB2, nT2, n2B, n2T, nB1, nT1, n1B, n1T, n12, n21, pT_e, mI_at, send_at, e60, e6k, eq_self, true_and, and_true, false_and, and_false, and_self, if_true, if_false, Nat.reduceEqDiff, reduceIte, Nat.reduceAdd, a_r, up]; exact g6 3 hk
      · simp only [cI_at, set_at, stop_t, add_at, nBT, nTB, nB2, nT2, n2B, n2T, nB1, nT1, n1B, n1T, n12, n21, pT_e, mI_at, send_at, e60, e6k, eq_self, true_and, and_true, false_and, and_false, and_self, if_true, if_false, Nat.reduceEqDiff, reduceIte, Nat.reduceAdd, a_r, up, hG.2.1.1, nI_add]
        exact ⟨(if_pos (by omega)).symm, by omega⟩
      · simp only [cI_at, set_at, stop_t, add_at, nBT, nTB, nB2, nT2, n2B, n2T, nB1, nT1, n1B, n1T, n12, n21, pT_e, mI_at, send_at, e60, e6k, eq_self, true_and, and_true, false_and, and_false, and_self, if_true, if_false, Nat.reduceEqDiff, reduceIte, Nat.reduceAdd, a_r, up]; exact g6 5 hk
    · simp only [cI_at, set_at, stop_t, add_at, nBT, nTB, nB2, nT2, n2B, n2T, nB1, nT1, n1B, n1T, n12, n21, pT_e, mI_at, send_at, e60, e6k, eq_self, true_and, and_true, false_and, and_false, and_self, if_true, if_false, Nat.reduceEqDiff, reduceIte, Nat.reduceAdd]; exact g7
    · simp only [cI_at, set_at, stop_t, add_at, nBT, nTB, nB2, nT2, n2B, n2T, nB1, nT1, n1B, n1T, n12, n21, pT_e, mI_at, send_at, e60, e6k, eq_self, true_and, and_true, false_and, and_false, and_self, if_true, if_false, Nat.reduceEqDiff, reduceIte, Nat.reduceAdd]
    · refine Or.inr (Or.inl ?_)
      simp only [cI_at, set_at, stop_t, add_at, nBT, nTB, nB2, nT2, n2B, n2T, nB1, nT1, n1B, n1T, n12, n21, pT_e, mI_at, send_at, e60, e6k, eq_self, true_and, and_true, false_and, and_false, and_self, if_true, if_false, Nat.reduceEqDiff, reduceIte, Nat.reduceAdd, a_r, up, w1, w5, w10]
      exact ⟨w2, w3, w4, Or.inr ⟨w6, fun _ => ⟨by omega, hb⟩⟩⟩
  · rw [if_neg (fun q => hd (e1.mp q)), if_neg (fun q => hd (e2.mp q))]
    exact ⟨hG, r, se, RB_mono hh (up_mono h0 hd)⟩
