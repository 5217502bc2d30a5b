theorem Q1_b {s s' : MM} {a n i : Nat} (h : RQ1 s a n) (hs : Td (QB (4 * a + i)) s s') (hg : (m_going s' (4 * a + i) ↔ m_going s (4 * a + i)) ∧ s'.1 190 (4 * a + i) = s.1 190 (4 * a + i)) : RQ1 s' a n := by
  refine RQ1_eqg h (fun w => by rw [hs 181 a (by unfold QB; omega)] at w; exact w) (fun j hj => ?_)
  by_cases e : j = i
  · rw [e]; exact hg
  · refine ⟨?_, hs _ _ (by unfold QB; omega)⟩
    unfold m_going
    rw [hs 186 (4 * a + j) (by unfold QB; omega)]
theorem Q1_s {s s' : MM} {a n : Nat} (h : RQ1 s a n) (hs : Td (QS a) s s') (h0 : s'.1 181 a = 1 → s.1 181 a = 1) : RQ1 s' a n :=
  RQ1_eq h h0 (fun i _ => ⟨hs _ _ (by unfold QS; omega), hs _ _ (by unfold QS; omega)⟩)
-- everything about one call between calls of the face
def SN (N t M a n r : Nat) (c : CM) (s : MM) : Prop := SB (fun _ => N) (fun _ _ => N) N t M a n r c s ∧ RQ1 s a n
-- and what it became, the rest untouched
def SX (N t M a n r : Nat) (c : CM) (s : MM) (c' : CM) (s' : MM) : Prop := ∃ r', SN N t M a n r' c' s' ∧ r ≤ r' ∧ r' ≤ r + 1 ∧ Fr a c c' ∧ Fm a s s'
theorem SX_r {N t M a n r : Nat} {c : CM} {s : MM} (h : SN N t M a n r c s) : SX N t M a n r c s c s := ⟨r, h, Nat.le_refl _, by omega, Fr_r _ _, Fm_r⟩
theorem st_2 {s : MM} {b : Nat} : (m_become s b 2).1 186 b = 2 ∧ (m_become s b 2).1 190 b = s.1 190 b ∧ (m_become s b 2).1 191 b = s.1 191 b ∧ (m_become s b 2).1 189 b = s.1 189 b := by
  unfold m_become
  rw [if_pos (by decide)]
  simp only [cI_at, set_at, stop_t, add_at, nBT, nTB, nB2, nT2, n2B, n2T, nB1, nT1, n1B, n1T, n12, n21, pT_e, mI_at, send_at, e60, e6k, eq_self, true_and, and_true, false_and, and_false, and_self, if_true, if_false, Nat.reduceEqDiff, reduceIte, Nat.reduceAdd]
theorem an_B {c : CM} {a i j : Nat} : (b_anew c a i).1 (pB a i) j = c.1 (pB a i) j := by
  unfold b_anew
  split
  · simp only [cI_at, set_at, stop_t, add_at, nBT, nTB, nB2, nT2, n2B, n2T, nB1, nT1, n1B, n1T, n12, n21, pT_e, mI_at, send_at, e60, e6k, eq_self, true_and, and_true, false_and, and_false, and_self, if_true, if_false, Nat.reduceEqDiff, reduceIte, Nat.reduceAdd]
  · rfl
theorem Td_pvC {s : MM} {b : Nat} : Td (QB b) s (m_pvC s b) := by
  unfold m_pvC
  split
  · exact Td_I (QB_t (by decide))
  · exact Td_r
theorem pvC_s {s : MM} {b p : Nat} (h : ¬ p = 192) : (m_pvC s b).1 p b = s.1 p b := by
  unfold m_pvC
  split
  · rw [mI_at, if_neg (fun w => h w.1)]
  · rfl
theorem SN_stop {N t M a n r i : Nat} {c : CM} {s : MM} (h : SN N t M a n r c s) (hi : i < n) (hM : N + 200 * t ≤ M) (ht : 1 ≤ t) (ho : b_op c a i) : SN N t M a n r (b_want c a i) (m_stop s a i) ∧ Fr a c (b_want c a i) ∧ Fm a s (m_stop s a i) := by
  obtain ⟨⟨g1, g2, g3, g4⟩, q1⟩ := h
  obtain ⟨r0, sa, se, hB⟩ := g2.2.2.2.2.1 i hi
  have hl := g2.2.2.2.1 i (by have := g2.1.2.2.1; omega)
  obtain ⟨hG1, r', se', hB1⟩ := RB_stop g1 hB hl (fun k => Nat.le_refl _) (by omega) ht ho
  have hst := stop_st (s := s) (a := a) (i := i)
  have hg : m_going (m_stop s a i) (4 * a + i) ↔ m_going s (4 * a + i) := by unfold m_going; rw [hst.1]
  have := SB_b (τ' := fun _ => N) ⟨g1, g2, g3, g4⟩ hi hG1 Tb_want Td_stop ⟨r', sa, se', hB1⟩ ⟨want_15.2.1, want_15.2.2, want_15.1⟩ ⟨hg, hst.2.1, hst.2.2⟩
  rw [up_id (τb := fun _ _ => N)] at this
  exact ⟨⟨this.1, Q1_b q1 Td_stop ⟨hg, hst.2.1⟩⟩, this.2.1, this.2.2⟩
theorem SN_tell {N t M a n r : Nat} {c : CM} {s : MM} {w : Int32} (h : SN N t M a n r c s) (hw : (w < 200 ∨ 299 < w) ∨ w = s.1 182 a) : SN N t M a n r (sv_tell c a w) (m_tell s a w) ∧ Fr a c (sv_tell c a w) ∧ Fm a s (m_tell s a w) := by
  obtain ⟨⟨g1, g2, g3, g4⟩, q1⟩ := h
  obtain ⟨q, sg, hS⟩ := g2.2.1
  obtain ⟨hG1, hS1⟩ := RS_tell g1 hS hw
  have e : (m_tell s a w).1 181 a = s.1 181 a := by
    unfold m_tell; split
    · simp only [cI_at, set_at, stop_t, add_at, nSG, nGS, nS2, nG2, n2S, n2G, nS1, nG1, n1S, n1G, n12, n21, pG_e, mI_at, send_at, e40, e4k, eq_self, true_and, and_true, false_and, and_false, and_self, if_true, if_false, Nat.reduceEqDiff, reduceIte, Nat.reduceAdd]
    · simp only [cI_at, set_at, stop_t, add_at, nSG, nGS, nS2, nG2, n2S, n2G, nS1, nG1, n1S, n1G, n12, n21, pG_e, mI_at, send_at, e40, e4k, eq_self, true_and, and_true, false_and, and_false, and_self, if_true, if_false, Nat.reduceEqDiff, reduceIte, Nat.reduceAdd]
  have := SB_sv ⟨g1, g2, g3, g4⟩ hG1 Ts_tell Td_tell ⟨q, sg, hS1⟩ (fun v => g2.2.2.1 (e.symm.trans v))
  exact ⟨⟨this.1, Q1_s q1 Td_tell (fun v => e.symm.trans v)⟩, this.2.1, this.2.2⟩
theorem SN_prov {N t M a n r i : Nat} {c : CM} {s : MM} {w : Int32} (h : SN N t M a n r c s) (hi : i < n) (hM : N + 200 * t ≤ M) (ht : 1 ≤ t) (ho : b_op c a i) (hw : w < 200) : SX N t M a n r c s (cl_pS (if w = 100 then b_mv c a i 2 else cl_pT (b_anew (b_mv c a i 2) a i) a w) a i) (m_prov s a i w) := by
  -- it proceeds
  have A : SN N t M a n r (b_mv c a i 2) (m_become s (4 * a + i) 2) ∧ Fr a c (b_mv c a i 2) ∧ Fm a s (m_become s (4 * a + i) 2) := by
    obtain ⟨⟨g1, g2, g3, g4⟩, q1⟩ := h
    obtain ⟨r0, sa, se, hB⟩ := g2.2.2.2.2.1 i hi
    obtain ⟨hG1, hB1⟩ := RB_prov g1 hB ho
    have hst := st_2 (s := s) (b := 4 * a + i)
    have hg : m_going (m_become s (4 * a + i) 2) (4 * a + i) ↔ m_going s (4 * a + i) := ⟨fun _ => (RC_op g2 hi).mp ho, fun _ => Or.inr hst.1⟩
    have := SB_b (τ' := fun _ => N) ⟨g1, g2, g3, g4⟩ hi hG1 Tb_mv Td_bec ⟨_, sa, se, hB1⟩ ⟨by rw [bmv_B, if_neg (by decide)], by rw [bmv_B, if_neg (by decide)], by rw [bmv_B, if_neg (by decide)]⟩ ⟨hg, hst.2.1, hst.2.2.1⟩
    rw [up_id (τb := fun _ _ => N)] at this
    exact ⟨⟨this.1, Q1_b q1 Td_bec ⟨hg, hst.2.1⟩⟩, this.2.1, this.2.2⟩
  -- wanted, at the end
  have Z : ∀ (c1 : CM) (s1 : MM), SN N t M a n r c1 s1 → s1.1 186 (4 * a + i) = 2 → Fr a c c1 → Fm a s s1 → SX N t M a n r c s (cl_pS c1 a i) (m_pvS s1 a i) := by
    intro c1 s1 h1 h2 h3 h4
    obtain ⟨r0, sa, se, hB⟩ := h1.1.2.1.2.2.2.2.1 i hi
    unfold cl_pS m_pvS
    rw [hB.1.2.2.1]
    by_cases e : s1.1 188 (4 * a + i) = 0
    · rw [if_pos e, if_pos e]; exact ⟨r, h1, Nat.le_refl _, by omega, h3, h4⟩
    · rw [if_neg e, if_neg e]
      have := SN_stop h1 hi hM ht (Or.inr (hB.1.1.trans h2))
      exact ⟨r, this.1, Nat.le_refl _, by omega, Fr_t h3 this.2.1, Fm_t h4 this.2.2⟩
  obtain ⟨A1, A2, A3⟩ := A
  unfold m_prov
  by_cases e : w = 100
  · rw [if_pos e, if_pos e]
    exact Z _ _ A1 st_2.1 A2 A3
  · rw [if_neg e, if_neg e]
    have B : SN N t M a n r (b_anew (b_mv c a i 2) a i) (m_pvC (m_become s (4 * a + i) 2) (4 * a + i)) ∧ Fr a (b_mv c a i 2) (b_anew (b_mv c a i 2) a i) ∧ Fm a (m_become s (4 * a + i) 2) (m_pvC (m_become s (4 * a + i) 2) (4 * a + i)) := by
      obtain ⟨⟨g1, g2, g3, g4⟩, q1⟩ := A1
      obtain ⟨r0, sa, se, hB⟩ := g2.2.2.2.2.1 i hi
      obtain ⟨hG1, r1, hB1⟩ := RB_anew g1 hB st_2.1 (fun k => Nat.le_refl _) hM ht
      have hg : m_going (m_pvC (m_become s (4 * a + i) 2) (4 * a + i)) (4 * a + i) ↔ m_going (m_become s (4 * a + i) 2) (4 * a + i) := by unfold m_going; rw [pvC_s (by decide)]
      have := SB_b (τ' := fun _ => N) ⟨g1, g2, g3, g4⟩ hi hG1 Tb_anew Td_pvC ⟨_, sa, se, hB1⟩ ⟨an_B, an_B, an_B⟩ ⟨hg, pvC_s (by decide), pvC_s (by decide)⟩
      rw [up_id (τb := fun _ _ => N)] at this
      exact ⟨⟨this.1, Q1_b q1 Td_pvC ⟨hg, pvC_s (by decide)⟩⟩, this.2.1, this.2.2⟩
    obtain ⟨B1, B2, B3⟩ := B
    have e2 : (m_pvC (m_become s (4 * a + i) 2) (4 * a + i)).1 186 (4 * a + i) = 2 := by rw [pvC_s (by decide)]; exact st_2.1
    unfold cl_pT m_pvT
    obtain ⟨q, sg, hS⟩ := B1.1.2.1.2.1
    by_cases e3 : (m_pvC (m_become s (4 * a + i) 2) (4 * a + i)).1 181 a = 1
    · rw [if_pos ((RS_n hS (by decide) (by decide)).mpr e3), if_pos e3]
      obtain ⟨C1, C2, C3⟩ := SN_tell (w := w) B1 (Or.inl (Or.inl hw))
      refine Z _ _ C1 ?_ (Fr_t (Fr_t A2 B2) C2) (Fm_t (Fm_t A3 B3) C3)
      rw [Td_tell 186 _ (by unfold QS; omega)]; exact e2
    · rw [if_neg (fun v => e3 ((RS_n hS (by decide) (by decide)).mp v)), if_neg e3]
      exact Z _ _ B1 e2 (Fr_t A2 B2) (Fm_t A3 B3)
