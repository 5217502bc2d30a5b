theorem ou_B {c : CM} {a i j : Nat} {w : Int32} (h1 : ¬ j = 11) (h2 : ¬ j = 14) : (b_out c a i w).1 (pB a i) j = c.1 (pB a i) j := by
  unfold b_out
  rw [bmv_B, if_neg h1, cI_at, if_neg (fun v => h2 v.2)]
theorem fa_B {c : CM} {a i j : Nat} {w : Int32} (h1 : ¬ j = 11) (h2 : ¬ j = 14) : (b_fail c a i w).1 (pB a i) j = c.1 (pB a i) j := by
  unfold b_fail b_ack
  simp only [set_at, add_at, nBT, nB2, false_and, if_false]
  rw [bmv_B, if_neg h1, cI_at, if_neg (fun v => h2 v.2)]
theorem ga_4 {s : MM} {b : Nat} {w : Int32} : (m_gain (m_become s b 4) b w).1 186 b = 4 ∧ (m_gain (m_become s b 4) b w).1 190 b = w ∧ (m_gain (m_become s b 4) b w).1 191 b = s.1 170 28 ∧ (m_gain (m_become s b 4) b w).1 170 28 = s.1 170 28 + 1 := by
  unfold m_gain m_become
  rw [if_neg (by decide)]
  simp only [cI_at, set_at, stop_t, add_at, nBT, nTB, nB2, nT2, n2B, n2T, nB1, nT1, n1B, n1T, n12, n21, pT_e, mI_at, send_at, e60, e6k, eq_self, true_and, and_true, false_and, and_false, and_self, if_true, if_false, Nat.reduceEqDiff, reduceIte, Nat.reduceAdd]
theorem ga_3 {s : MM} {a i : Nat} {w : Int32} : (m_arr3a s a i w).1 186 (4 * a + i) = 3 ∧ (m_arr3a s a i w).1 190 (4 * a + i) = w ∧ (m_arr3a s a i w).1 191 (4 * a + i) = s.1 170 28 ∧ (m_arr3a s a i w).1 170 28 = s.1 170 28 + 1 := by
  unfold m_arr3a m_gain m_become
  rw [if_neg (by decide)]
  simp only [cI_at, set_at, stop_t, add_at, nBT, nTB, nB2, nT2, n2B, n2T, nB1, nT1, n1B, n1T, n12, n21, pT_e, mI_at, send_at, e60, e6k, eq_self, true_and, and_true, false_and, and_false, and_self, if_true, if_false, Nat.reduceEqDiff, reduceIte, Nat.reduceAdd]
def QB8 (b p j : Nat) : Prop := QB b p j ∨ (p = 170 ∧ j = 28)
theorem Td_gain {s : MM} {b : Nat} {v w : Int32} : Td (QB8 b) s (m_gain (m_become s b v) b w) := by
  unfold m_gain
  exact Td_t (Td_t (Td_t (Td_w Td_bec (fun _ _ => Or.inl)) (Td_I (Or.inl (QB_s (by omega))))) (Td_I (Or.inl (QB_s (by omega))))) (Td_I (Or.inr ⟨rfl, rfl⟩))
theorem Td_arr3a {s : MM} {a i : Nat} {w : Int32} : Td (QB8 (4 * a + i)) s (m_arr3a s a i w) := by
  unfold m_arr3a
  exact Td_t (Td_t Td_gain (Td_send (Or.inl QB_c))) (Td_I (Or.inl (QB_t (by decide))))
theorem QB8_s {b : Nat} {s s' : MM} (h : Td (QB8 b) s s') : ∀ p j, ¬ QB b p j → ¬ (p = 170 ∧ j = 28) → s'.1 p j = s.1 p j := fun p j h1 h2 => h p j (fun w => w.elim h1 h2)
theorem ng_4 {s : MM} {b : Nat} (h : s.1 186 b = 4) : ¬ m_going s b := by unfold m_going; rw [h]; decide
theorem ng_3 {s : MM} {b : Nat} (h : s.1 186 b = 3) : ¬ m_going s b := by unfold m_going; rw [h]; decide
theorem but_i {n i j : Nat} (hn : n ≤ 4) (hi : i < n) (hj : j < n) (h : nI j = nI i) : j = i := (nI_eq (by omega) (by omega)).mp h
-- a success
theorem SN_suc {N t M a n r i : Nat} {c : CM} {s : MM} {w : Int32} (h : SN N t M a n r c s) (hi : i < n) (hM : N + 200 * t ≤ M) (ht : 1 ≤ t) (hw1 : ¬ w < 200) (hw2 : w < 300) : SX N t M a n r c s (cl_suc c a i n w) (m_arr2b (m_tell (m_arr2a s (4 * a + i) w) a w) a i n) := by
  have hn := h.1.2.1.1.2.2.1
  have i4 : i < 4 := by omega
  have hw0 : ¬ w = 0 := fun e => by rw [e] at hw1; exact hw1 (by decide)
  have hw3 : ¬ (w < 200 ∨ 299 < w) := fun v => v.elim hw1 (fun v => by
    rw [Int32.lt_iff_toInt_lt] at v hw2
    have e1 : (299 : Int32).toInt = 299 := by decide
    have e2 : (300 : Int32).toInt = 300 := by decide
    rw [e1] at v; rw [e2] at hw2
    omega)
  -- its own result
  have A : ∃ r', SB (fun _ => N) (fun _ _ => N) N t M a n r' (cl_s1 c a i w) (m_arr2a s (4 * a + i) w) ∧ r ≤ r' ∧ r' ≤ r + 1 ∧ Fr a c (cl_s1 c a i w) ∧ Fm a s (m_arr2a s (4 * a + i) w) ∧ ¬ m_going (m_arr2a s (4 * a + i) w) (4 * a + i) ∧ (m_arr2a s (4 * a + i) w).1 181 a = s.1 181 a := by
    obtain ⟨⟨g1, g2, g3, g4⟩, q1⟩ := h
    unfold cl_s1 m_arr2a
    by_cases ho : b_op c a i
    · have hgo := (RC_op g2 hi).mp ho
      rw [@if_pos _ (b_opD c a i) ho, @if_pos _ (m_goingD s (4 * a + i)) hgo]
      obtain ⟨r0, sa, se, hB⟩ := g2.2.2.2.2.1 i hi
      obtain ⟨hG1, hB1⟩ := RB_out (w := w) g1 hB ho
      have hst := ga_4 (s := s) (b := 4 * a + i) (w := w)
      have := SB_gain (τ' := fun _ => N) ⟨g1, g2, g3, g4⟩ hi hgo hG1 Tb_out (QB8_s Td_gain) ⟨_, sa, se, hB1⟩ ⟨ou_B (by decide) (by decide), ou_B (by decide) (by decide)⟩ (ng_4 hst.1) (by rw [hst.2.1]; exact hw0) hst.2.2.1 hst.2.2.2
      rw [up_id (τb := fun _ _ => N)] at this
      exact ⟨r + 1, this.1, by omega, Nat.le_refl _, this.2.1, this.2.2, ng_4 hst.1, Td_gain 181 a (by unfold QB8 QB; omega)⟩
    · rw [@if_neg _ (b_opD c a i) ho, @if_neg _ (m_goingD s (4 * a + i)) (fun v => ho ((RC_op g2 hi).mpr v))]
      exact ⟨r, ⟨g1, g2, g3, g4⟩, Nat.le_refl _, by omega, Fr_r _ _, Fm_r, fun v => ho ((RC_op g2 hi).mpr v), rfl⟩
  obtain ⟨r', A1, A2, A3, A4, A5, A6, A7⟩ := A
  unfold cl_suc
  generalize cl_s1 c a i w = c1 at *
  generalize m_arr2a s (4 * a + i) w = s1 at *
  -- told
  have B : SB (fun _ => N) (fun _ _ => N) N t M a n r' (l_add c1 (c1.1 (pS a) 2) 7 w) (m_tell s1 a w) ∧ Fr a c1 (l_add c1 (c1.1 (pS a) 2) 7 w) ∧ Fm a s1 (m_tell s1 a w) ∧ (m_tell s1 a w).1 181 a = s1.1 181 a ∧ ¬ m_going (m_tell s1 a w) (4 * a + i) := by
    obtain ⟨g1, g2, g3, g4⟩ := A1
    obtain ⟨q, sg, hS⟩ := g2.2.1
    obtain ⟨hG1, hS1⟩ := RS_tell2 g1 hS hw3
    have e : (m_tell s1 a w).1 181 a = s1.1 181 a := by
      unfold m_tell; rw [if_neg hw3]; simp only [cI_at, set_at, stop_t, add_at, nSG, nGS, nS2, nG2, n2S, n2G, nS1, nG1, n1S, n1G, n12, n21, pG_e, mI_at, send_at, e40, e4k, eq_self, true_and, and_true, false_and, and_false, and_self, if_true, if_false, Nat.reduceEqDiff, reduceIte, Nat.reduceAdd]
    have := SB_sv (τ' := fun _ => N) ⟨g1, g2, g3, g4⟩ hG1 (Tc_add PS_2) Td_tell ⟨q, sg, hS1⟩ (fun v => g2.2.2.1 (e.symm.trans v))
    refine ⟨this.1, this.2.1, this.2.2, e, ?_⟩
    unfold m_going
    rw [Td_tell 186 _ (by unfold QS; omega)]
    exact A6
  obtain ⟨B1, B2, B3, B4, B5⟩ := B
  generalize l_add c1 (c1.1 (pS a) 2) 7 w = c2 at *
  generalize m_tell s1 a w = s2 at *
  unfold cl_s2 m_arr2b
  obtain ⟨g1, g2, g3, g4⟩ := B1
  obtain ⟨q, sg, hS⟩ := g2.2.1
  by_cases e : s2.1 181 a = 1
  · rw [if_pos ((RS_n hS (by decide) (by decide)).mpr e), if_pos e]
    have hs1 : ∀ k, k < 4 → q k ≤ N := by
      rcases hS.2.2.2 with w | w | w | w | w | w
      · exact w.2
      · exact w.2
      · exact absurd (w.1.symm.trans e) (by decide)
      · exact absurd (w.1.symm.trans e) (by decide)
      · exact absurd (w.1.symm.trans e) (by decide)
      · exact absurd (w.1.symm.trans e) (by decide)
    obtain ⟨hG1, hS1⟩ := RS_suc g1 hS (hs1 2 (by decide)) (fun k => Nat.le_refl _) (by omega) ht
    have hTd : Td (QS a) s2 (mI (m_serve s2 a 4) 183 (4 * a + 3) (s2.1 170 1 + 64 * s2.1 170 0)) := Td_t Td_serve (Td_I (QS_t (by decide)))
    have e4 : (mI (m_serve s2 a 4) 183 (4 * a + 3) (s2.1 170 1 + 64 * s2.1 170 0)).1 181 a = 4 := by
      unfold m_serve
      rw [if_neg (by decide)]
      simp only [cI_at, set_at, stop_t, add_at, nSG, nGS, nS2, nG2, n2S, n2G, nS1, nG1, n1S, n1G, n12, n21, pG_e, mI_at, send_at, e40, e4k, eq_self, true_and, and_true, false_and, and_false, and_self, if_true, if_false, Nat.reduceEqDiff, reduceIte, Nat.reduceAdd]
    have C := SB_sv (τ' := fun _ => N) ⟨g1, g2, g3, g4⟩ hG1 Ts_suc hTd ⟨_, sg, hS1⟩ (fun v => by rw [e4] at v; exact absurd v (by decide))
    have ng : ¬ m_going (mI (m_serve s2 a 4) 183 (4 * a + 3) (s2.1 170 1 + 64 * s2.1 170 0)) (4 * a + i) := by
      unfold m_going
      rw [hTd 186 _ (by unfold QS; omega)]
      exact B5
    have D := SB_co (but := nI i) C.1 (fun _ _ => Nat.le_refl _) hM ht (fun j hj v => by rw [but_i hn hi hj v]; exact ng)
    refine ⟨r', ⟨D.1, fun v => ?_⟩, A2, A3, Fr_t (Fr_t (Fr_t A4 B2) C.2.1) D.2.1, Fm_t (Fm_t (Fm_t A5 B3) C.2.2) D.2.2.1⟩
    rw [D.2.2.2.2.2.2.1, e4] at v
    exact absurd v (by decide)
  · rw [if_neg (fun v => e ((RS_n hS (by decide) (by decide)).mp v)), if_neg e]
    exact ⟨r', ⟨⟨g1, g2, g3, g4⟩, fun v => absurd v e⟩, A2, A3, Fr_t A4 B2, Fm_t A5 B3⟩
-- a failure
theorem SN_fl {N t M a n r i : Nat} {c : CM} {s : MM} {w : Int32} (h : SN N t M a n r c s) (hi : i < n) (hM : N + 200 * t ≤ M) (ht : 1 ≤ t) (hr : r + 1 < 2147483647) (hw1 : 300 ≤ w) (hw2 : w ≤ 699) : SX N t M a n r c s (cl_fl c a i n w) (@ite _ (m_going s (4 * a + i)) (m_goingD s (4 * a + i)) (m_arr3 s a i n w) (if s.1 186 (4 * a + i) = 3 then m_send s (nI a) (nI i) 3 else s)) := by
  have h0 := h
  have hn := h.1.2.1.1.2.2.1
  have i4 : i < 4 := by omega
  obtain ⟨⟨g1, g2, g3, g4⟩, q1⟩ := h
  have hst := RC_st g2 hi
  have hl := g2.2.2.2.1 i i4
  unfold cl_fl
  rw [hst]
  by_cases e3 : s.1 186 (4 * a + i) = 3
  · rw [if_pos e3, @if_neg _ (m_goingD s (4 * a + i)) (ng_3 e3), if_pos e3]
    obtain ⟨r0, sa, se, hB⟩ := g2.2.2.2.2.1 i hi
    unfold b_ack
    rw [hl.1, hl.2]
    have hTd : Td (QB (4 * a + i)) s (m_send s (nI a) (nI i) 3) := Td_send QB_c
    have hs : ∀ p, ¬ p = 170 → (m_send s (nI a) (nI i) 3).1 p (4 * a + i) = s.1 p (4 * a + i) := fun p hp => by rw [send_at, if_neg (fun v => hp v.1)]
    have eB : ∀ j, (l_add c (nI a) (nI i) 3).1 (pB a i) j = c.1 (pB a i) j := fun j => by rw [add_at, if_neg (fun v => by have := v.1; unfold pB at this; omega)]
    have hg : m_going (m_send s (nI a) (nI i) 3) (4 * a + i) ↔ m_going s (4 * a + i) := by unfold m_going; rw [hs 186 (by decide)]
    have := SB_b (τ' := fun _ => N) ⟨g1, g2, g3, g4⟩ hi (RG_add (x := nI a) (y := nI i) (w := 3) g1) (Tc_add PB_2) hTd ⟨r0, sa, se, RB_eq hB (fun p j hp => by rw [add_at, if_neg (fun v => by have := v.1; unfold pB at hp; omega)]) (fun p j hp => by rw [send_at, if_neg (fun v => by have := v.1; omega)])⟩ ⟨eB 2, eB 3, eB 15⟩ ⟨hg, hs 190 (by decide), hs 191 (by decide)⟩
    rw [up_id (τb := fun _ _ => N)] at this
    exact ⟨r, ⟨this.1, Q1_b q1 hTd ⟨hg, hs 190 (by decide)⟩⟩, Nat.le_refl _, by omega, this.2.1, this.2.2⟩
  · rw [if_neg e3]
    by_cases ho : b_op c a i
    · have hgo := (RC_op g2 hi).mp ho
      rw [@if_pos _ (b_opD c a i) ho, @if_pos _ (m_goingD s (4 * a + i)) hgo]
      obtain ⟨r0, sa, se, hB⟩ := g2.2.2.2.2.1 i hi
      obtain ⟨hG1, hB1⟩ := RB_fail (w := w) g1 hB hl (fun k => Nat.le_refl _) (by omega) ht
      have hst3 := ga_3 (s := s) (a := a) (i := i) (w := w)
      have hw0 : ¬ w = 0 := fun e => by rw [e] at hw1; exact absurd hw1 (by decide)
      have A := SB_gain (τ' := fun _ => N) ⟨g1, g2, g3, g4⟩ hi hgo hG1 Tb_fail (QB8_s Td_arr3a) ⟨_, sa, se, hB1⟩ ⟨fa_B (by decide) (by decide), fa_B (by decide) (by decide)⟩ (ng_3 hst3.1) (by rw [hst3.2.1]; exact hw0) hst3.2.2.1 hst3.2.2.2
      rw [up_id (τb := fun _ _ => N)] at A
      have hTd : Td (QB8 (4 * a + i)) s (m_arr3a s a i w) := Td_arr3a
      have Q : RQ1 (m_arr3a s a i w) a n := by
        intro v j hj hg
        have v' : s.1 181 a = 1 := by rw [hTd 181 a (by unfold QB8 QB; omega)] at v; exact v
        by_cases e : j = i
        · rw [e, hst3.2.1]; exact ⟨hw1, hw2⟩
        · rw [hTd 190 _ (by unfold QB8 QB; omega)]
          refine q1 v' j hj (fun u => hg ?_)
          unfold m_going at u ⊢
          rw [hTd 186 _ (by unfold QB8 QB; omega)]; exact u
      unfold cl_f1 m_arr3
      by_cases e6 : w < 600
      · rw [if_pos e6, if_pos e6]
        have J := SB_judge A.1 Q (by omega) hr (fun k => Nat.le_refl _) hM ht
        exact ⟨r + 1, ⟨J.1, J.2.1⟩, by omega, Nat.le_refl _, Fr_t A.2.1 J.2.2.1, Fm_t A.2.2 J.2.2.2.1⟩
      · rw [if_neg e6, if_neg e6]
        have D := SB_co (but := nI i) A.1 (fun _ _ => Nat.le_refl _) hM ht (fun j hj v => by rw [but_i hn hi hj v]; exact ng_3 hst3.1)
        have Q' : RQ1 (m_so (m_arr3a s a i w) a (nI i) n 0) a n := RQ1_eq Q (fun v => by rw [D.2.2.2.2.2.2.1] at v; exact v) (fun j hj => ⟨(D.2.2.2.2.2.1 j hj).1, (D.2.2.2.2.2.1 j hj).2.1⟩)
        have J := SB_judge D.1 Q' (by omega) hr (fun k => Nat.le_refl _) hM ht
        exact ⟨r + 1, ⟨J.1, J.2.1⟩, by omega, Nat.le_refl _, Fr_t (Fr_t A.2.1 D.2.1) J.2.2.1, Fm_t (Fm_t A.2.2 D.2.2.1) J.2.2.2.1⟩
    · rw [@if_neg _ (b_opD c a i) ho, @if_neg _ (m_goingD s (4 * a + i)) (fun v => ho ((RC_op g2 hi).mpr v)), if_neg e3]
      exact SX_r h0
-- any code
theorem SN_code {N t M a n r i : Nat} {c : CM} {s : MM} {w : Int32} (h : SN N t M a n r c s) (hi : i < n) (hM : N + 200 * t ≤ M) (ht : 1 ≤ t) (hr : r + 1 < 2147483647) (hw2 : w ≤ 699) : SX N t M a n r c s (cl_code c a i n w) (m_arr s a i n w) := by
  unfold cl_code m_arr
  by_cases h1 : w < 200
  · rw [if_pos h1, if_pos h1]
    unfold cl_prov
    by_cases ho : b_op c a i
    · rw [@if_pos _ (b_opD c a i) ho, @if_pos _ (m_goingD s (4 * a + i)) ((RC_op h.1.2.1 hi).mp ho)]
      exact SN_prov h hi hM ht ho h1
    · rw [@if_neg _ (b_opD c a i) ho, @if_neg _ (m_goingD s (4 * a + i)) (fun v => ho ((RC_op h.1.2.1 hi).mpr v))]
      exact SX_r h
  · rw [if_neg h1, if_neg h1]
    by_cases h2 : w < 300
    · rw [if_pos h2, if_pos h2]; exact SN_suc h hi hM ht h1 h2
    · rw [if_neg h2, if_neg h2]; exact SN_fl h hi hM ht hr (Int32.not_lt.mp h2) hw2
