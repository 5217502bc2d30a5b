def ub (τb : Nat → Nat → Nat) (i : Nat) (τ : Nat → Nat) (j : Nat) : Nat → Nat := if j = i then τ else τb j
theorem ub_ub {τb : Nat → Nat → Nat} {i : Nat} {x y : Nat → Nat} : ub (ub τb i x) i y = ub τb i y := by
  funext j
  unfold ub
  split <;> rfl
theorem ub_i {τb : Nat → Nat → Nat} {i : Nat} {x : Nat → Nat} : ub τb i x i = x := if_pos rfl
theorem r0_B {c : CM} {a i j : Nat} : (b_r0 c a i).1 (pB a i) j = c.1 (pB a i) j := by
  unfold b_r0; split
  · simp only [cI_at, set_at, stop_t, add_at, nBT, nTB, nB2, nT2, n2B, n2T, nB1, nT1, n1B, n1T, n12, n21, pT_e, mI_at, send_at, e60, e6k, eq_self, true_and, and_true, false_and, and_false, and_self, if_true, if_false, Nat.reduceEqDiff, reduceIte, Nat.reduceAdd]
  · rfl
theorem r4_B {c : CM} {a i j : Nat} : (b_r4 c a i).1 (pB a i) j = c.1 (pB a i) j := by
  unfold b_r4 tq_twm; split
  · simp only [cI_at, set_at, stop_t, add_at, nBT, nTB, nB2, nT2, n2B, n2T, nB1, nT1, n1B, n1T, n12, n21, pT_e, mI_at, send_at, e60, e6k, eq_self, true_and, and_true, false_and, and_false, and_self, if_true, if_false, Nat.reduceEqDiff, reduceIte, Nat.reduceAdd]
  · rfl
theorem r2_B {c : CM} {a i : Nat} : (b_r2 c a i).1 (pB a i) 2 = c.1 (pB a i) 2 ∧ (b_r2 c a i).1 (pB a i) 3 = c.1 (pB a i) 3 ∧ (b_r2 c a i).1 (pB a i) 15 = c.1 (pB a i) 15 := by
  unfold b_r2; split
  · exact ⟨want_15.2.1, want_15.2.2, want_15.1⟩
  · exact ⟨rfl, rfl, rfl⟩
theorem r3_B {c : CM} {a i j : Nat} (h : ¬ j = 11) : (b_r3 c a i).1 (pB a i) j = c.1 (pB a i) j := by
  unfold b_r3; split
  · rw [bmv_B, if_neg h]
  · rfl
theorem d0_s {s : MM} {a i p : Nat} (h : p = 186 ∨ p = 190 ∨ p = 191) : (m_d0 s a i).1 p (4 * a + i) = s.1 p (4 * a + i) := by
  unfold m_d0; split
  · rcases h with rfl | rfl | rfl <;> simp only [cI_at, set_at, stop_t, add_at, nBT, nTB, nB2, nT2, n2B, n2T, nB1, nT1, n1B, n1T, n12, n21, pT_e, mI_at, send_at, e60, e6k, eq_self, true_and, and_true, false_and, and_false, and_self, if_true, if_false, Nat.reduceEqDiff, reduceIte, Nat.reduceAdd]
  · rfl
theorem d4_s {s : MM} {a i p : Nat} (h : p = 186 ∨ p = 190 ∨ p = 191) : (m_d4 s a i).1 p (4 * a + i) = s.1 p (4 * a + i) := by
  unfold m_d4; split
  · rcases h with rfl | rfl | rfl <;> simp only [cI_at, set_at, stop_t, add_at, nBT, nTB, nB2, nT2, n2B, n2T, nB1, nT1, n1B, n1T, n12, n21, pT_e, mI_at, send_at, e60, e6k, eq_self, true_and, and_true, false_and, and_false, and_self, if_true, if_false, Nat.reduceEqDiff, reduceIte, Nat.reduceAdd]
  · rfl
theorem d2_s {s : MM} {a i : Nat} : (m_d2 s a i).1 186 (4 * a + i) = s.1 186 (4 * a + i) ∧ (m_d2 s a i).1 190 (4 * a + i) = s.1 190 (4 * a + i) ∧ (m_d2 s a i).1 191 (4 * a + i) = s.1 191 (4 * a + i) := by
  unfold m_d2; split
  · exact stop_st
  · exact ⟨rfl, rfl, rfl⟩
theorem be_4 {s : MM} {b : Nat} : (m_become s b 4).1 186 b = 4 ∧ (m_become s b 4).1 190 b = s.1 190 b ∧ (m_become s b 4).1 191 b = s.1 191 b := by
  unfold m_become
  rw [if_neg (by decide)]
  simp only [cI_at, set_at, stop_t, add_at, nBT, nTB, nB2, nT2, n2B, n2T, nB1, nT1, n1B, n1T, n12, n21, pT_e, mI_at, send_at, e60, e6k, eq_self, true_and, and_true, false_and, and_false, and_self, if_true, if_false, Nat.reduceEqDiff, reduceIte, Nat.reduceAdd]
theorem d3_s {s : MM} {a i : Nat} : (m_d3 s a i).1 190 (4 * a + i) = s.1 190 (4 * a + i) ∧ (m_d3 s a i).1 191 (4 * a + i) = s.1 191 (4 * a + i) := by
  unfold m_d3; split
  · exact be_4.2
  · exact ⟨rfl, rfl⟩
theorem Td_d0 {s : MM} {a i : Nat} : Td (QB (4 * a + i)) s (m_d0 s a i) := by
  unfold m_d0; split
  · exact Td_t (Td_t (Td_send QB_c) (Td_I (QB_s (by omega)))) (Td_I QB_t0)
  · exact Td_r
theorem Td_d2 {s : MM} {a i : Nat} : Td (QB (4 * a + i)) s (m_d2 s a i) := by
  unfold m_d2; split
  · exact Td_stop
  · exact Td_r
theorem Td_d3 {s : MM} {a i : Nat} : Td (QB (4 * a + i)) s (m_d3 s a i) := by
  unfold m_d3; split
  · exact Td_bec
  · exact Td_r
theorem Td_d4 {s : MM} {a i : Nat} : Td (QB (4 * a + i)) s (m_d4 s a i) := by
  unfold m_d4; split
  · exact Td_t (Td_t (Td_send QB_c) (Td_I (QB_s (by omega)))) (Td_I (QB_t (by decide)))
  · exact Td_r
-- the bundle with its hope, in a tick
def SQ (τs : Nat → Nat) (τb : Nat → Nat → Nat) (N t M a n r : Nat) (c : CM) (s : MM) : Prop := SB τs τb N t M a n r c s ∧ RQ1 s a n
theorem SQ_b {τs : Nat → Nat} {τb : Nat → Nat → Nat} {τ' : Nat → Nat} {N t M a n r i : Nat} {c c' : CM} {s s' : MM} (h : SQ τs τb N t M a n r c s) (hi : i < n) (hG : RG N t c' s') (hc : Tc (PB a i) c c') (hs : Td (QB (4 * a + i)) s s') (hb : ∃ r sa se, RB τ' t M r sa se c' s' a i) (hl : c'.1 (pB a i) 2 = c.1 (pB a i) 2 ∧ c'.1 (pB a i) 3 = c.1 (pB a i) 3 ∧ c'.1 (pB a i) 15 = c.1 (pB a i) 15) (hg : (m_going s' (4 * a + i) ↔ m_going s (4 * a + i)) ∧ s'.1 190 (4 * a + i) = s.1 190 (4 * a + i) ∧ s'.1 191 (4 * a + i) = s.1 191 (4 * a + i)) : SQ τs (ub τb i τ') N t M a n r c' s' ∧ Fr a c c' ∧ Fm a s s' := by
  have := SB_b h.1 hi hG hc hs hb hl hg
  exact ⟨⟨this.1, Q1_b h.2 hs ⟨hg.1, hg.2.1⟩⟩, this.2.1, this.2.2⟩
-- a timeout
theorem SQ_to {τs : Nat → Nat} {τb : Nat → Nat → Nat} {N t M a n r i : Nat} {c : CM} {s : MM} (h : SQ τs τb N t M a n r c s) (hi : i < n) (ho : b_op c a i) (hτ : ∀ k, τb i k ≤ N) (hs : ∀ k, τs k ≤ N) (hM : N + 200 * t ≤ M) (ht : 1 ≤ t) (hr : r + 1 < 2147483647) (hN : 1 ≤ N) (hM2 : M < 2147483647) (h3 : ∀ k, τb i k + 1 = N ∨ τb i k = N) : SQ τs (ub τb i (fun _ => N)) N t M a n (r + 1) (cl_all (cl_cnt (b_out c a i 408) a i) a n) (m_timeout s a i n) ∧ Fr a c (cl_all (cl_cnt (b_out c a i 408) a i) a n) ∧ Fm a s (m_timeout s a i n) ∧ (∀ k, k < 6 → ¬ k = 3 → (m_timeout s a i n).1 192 (6 * (4 * a + i) + k) = 0) ∧ (∀ k, k < 6 → (b_out c a i 408).1 (pT a i k) 2 = NV) ∧ (m_timeout s a i n).1 192 (6 * (4 * a + i) + 3) = s.1 192 (6 * (4 * a + i) + 3) ∧ ¬ b_op (b_out c a i 408) a i := by
  obtain ⟨⟨g1, g2, g3, g4⟩, q1⟩ := h
  have hgo := (RC_op g2 hi).mp ho
  obtain ⟨r0, sa, se, hB⟩ := g2.2.2.2.2.1 i hi
  obtain ⟨hG1, hB1⟩ := RB_out (w := 408) g1 hB ho
  have hv := RV_open hB.2.2.2 hgo
  have hst := ga_4 (s := s) (b := 4 * a + i) (w := 408)
  have hTd : Td (QB8 (4 * a + i)) s (m_gain (m_become s (4 * a + i) 4) (4 * a + i) 408) := Td_gain
  have hB2 : RB (fun _ => N) t M (ou_r r0) sa se (b_out c a i 408) (m_gain (m_become s (4 * a + i) 4) (4 * a + i) 408) a i := by
    refine RB_mono hB1 (fun k hk => ?_)
    show τb i k < ou_r r0 k ↔ N < ou_r r0 k
    unfold ou_r
    split
    · next e => rw [e]; have := hτ 3; omega
    · omega
  have A := SB_gain (τ' := fun _ => N) ⟨g1, g2, g3, g4⟩ hi hgo hG1 Tb_out (QB8_s Td_gain) ⟨_, sa, se, hB2⟩ ⟨ou_B (by decide) (by decide), ou_B (by decide) (by decide)⟩ (ng_4 hst.1) (by rw [hst.2.1]; decide) hst.2.2.1 hst.2.2.2
  have Q : RQ1 (m_gain (m_become s (4 * a + i) 4) (4 * a + i) 408) a n := by
    intro v j hj hg
    have v' : s.1 181 a = 1 := by rw [hTd 181 a (by unfold QB8 QB; omega)] at v; exact v
    by_cases e : j = i
    · rw [e, hst.2.1]; decide
    · rw [hTd 190 _ (by unfold QB8 QB; omega)]
      refine q1 v' j hj (fun u => hg ?_)
      unfold m_going at u ⊢
      rw [hTd 186 _ (by unfold QB8 QB; omega)]; exact u
  have J := SB_judge A.1 Q (by omega) hr hs hM ht
  have eT : ∀ k, k < 6 → (m_timeout s a i n).1 192 (6 * (4 * a + i) + k) = nI (ou_r r0 k) := fun k hk => by
    have : (m_timeout s a i n).1 192 (6 * (4 * a + i) + k) = (m_gain (m_become s (4 * a + i) 4) (4 * a + i) 408).1 192 (6 * (4 * a + i) + k) := J.2.2.2.2.2 192 _ (by unfold QS; omega)
    rw [this]; exact (hB2.2.1 k hk).1
  refine ⟨⟨J.1, J.2.1⟩, Fr_t A.2.1 J.2.2.1, Fm_t A.2.2 J.2.2.2.1, fun k hk e => ?_, fun k hk => ?_, ?_, ?_⟩
  · rw [eT k hk]; unfold ou_r; rw [if_neg e]; rfl
  · rw [(hB2.2.1 k hk).2.1, if_neg]
    show ¬ N < ou_r r0 k
    unfold ou_r
    split
    · next e => have := hτ 3; omega
    · omega
  · rw [eT 3 (by decide), (hB.2.1 3 (by decide)).1]; rfl
  · unfold b_op
    rw [hB2.1.1, hst.1]; decide
