theorem up_mono4 {τ r : Nat → Nat} {k N : Nat} (h1 : τ k + 1 = N) (h : ¬ r k = N) : ∀ j, j < 4 → (τ j < r j ↔ up τ k N j < r j) := fun j hj => up_mono h1 h j (by omega)
theorem RS_d0 {τ : Nat → Nat} {t M N : Nat} {q : Nat → Nat} {sg : Nat} {c : CM} {s : MM} {a : Nat} (hG : RG N t c s) (h : RS τ t M q sg c s a) (h0 : τ 0 + 1 = N) (hM : N + 200 * t ≤ M) (hM2 : M < 2147483647) (ht : 1 ≤ t) (ht2 : t ≤ 100) : RG N t (sv_r0 c a) (m_sd0 s a) ∧ ∃ q' sg', RS (up τ 0 N) t M q' sg' (sv_r0 c a) (m_sd0 s a) a := by
  have hh := h
  obtain ⟨⟨g1, g2, g3⟩, g6, g7, g9⟩ := h
  have z := g6 0 (by decide)
  have e1 := du_c z.2.1 h0 (by omega) (by omega)
  have e2 : s.1 183 (4 * a) = nI N ↔ q 0 = N := by
    have w := z.1
    rw [Nat.add_zero] at w
    rw [w]; exact nI_eq (by omega) (by omega)
  unfold sv_r0 m_sd0 tq_twm
  rw [hG.2.1.1, hG.2.1.2]
  by_cases hd : q 0 = N
  · rw [if_pos (e1.mpr hd), if_pos (e2.mpr hd)]
    have hq : s.1 181 a = 2 ∧ τ 1 < q 1 ∧ t ≤ sg ∧ sg ≤ 8 * t ∧ c.1 (pG a 0) 1 = nI sg ∧ q 2 ≤ τ 2 ∧ q 3 ≤ τ 3 := by
      rcases g9 with w | w | w | w | w | w
      · have := w.2 0 (by decide); omega
      · have := w.2 0 (by decide); omega
      · exact ⟨w.1, w.2.2⟩
      · have := w.2.1; omega
      · have := w.2.1; omega
      · have := w.2 0 (by decide); omega
    obtain ⟨w1, w2, w3, w4, w5, w6, w7⟩ := hq
    obtain ⟨hG1, hS1⟩ := RS_tell (w := s.1 182 a) hG hh (Or.inr rfl)
    have e9 : (sv_tell c a (s.1 182 a)).1 (pG a 0) 1 = nI sg := by unfold sv_tell; simp only [cI_at, set_at, stop_t, add_at, nSG, nGS, nS2, nG2, n2S, n2G, nS1, nG1, n1S, n1G, n12, n21, pG_e, mI_at, send_at, e40, e4k, eq_self, true_and, and_true, false_and, and_false, and_self, if_true, if_false, Nat.reduceEqDiff, reduceIte, Nat.reduceAdd]; exact w5
    rw [g2, e9, hG.1.1, g7, tw_c w4 ht2, tw_m w4 ht2 hG.1.2]
    have hb := tw_b w3 w4
    obtain ⟨⟨f1, f2, f3⟩, f6, f7, f9⟩ := hS1
    have f10 : (m_tell s a (s.1 182 a)).1 181 a = 2 := by
      unfold m_tell
      split
      · simp only [cI_at, set_at, stop_t, add_at, nSG, nGS, nS2, nG2, n2S, n2G, nS1, nG1, n1S, n1G, n12, n21, pG_e, mI_at, send_at, e40, e4k, eq_self, true_and, and_true, false_and, and_false, and_self, if_true, if_false, Nat.reduceEqDiff, reduceIte, Nat.reduceAdd]; exact w1
      · simp only [cI_at, set_at, stop_t, add_at, nSG, nGS, nS2, nG2, n2S, n2G, nS1, nG1, n1S, n1G, n12, n21, pG_e, mI_at, send_at, e40, e4k, eq_self, true_and, and_true, false_and, and_false, and_self, if_true, if_false, Nat.reduceEqDiff, reduceIte, Nat.reduceAdd]; exact w1
    refine ⟨RG_m (RG_m (RG_set hG1 g3G) (by decide)) (by decide), a_r q 0 (N + tw t sg), tw t sg, ⟨?_, ?_, ?_⟩, ?_, ?_, ?_⟩
    · simp only [cI_at, set_at, stop_t, add_at, nSG, nGS, nS2, nG2, n2S, n2G, nS1, nG1, n1S, n1G, n12, n21, pG_e, mI_at, send_at, e40, e4k, eq_self, true_and, and_true, false_and, and_false, and_self, if_true, if_false, Nat.reduceEqDiff, reduceIte, Nat.reduceAdd]; exact f1
    · simp only [cI_at, set_at, stop_t, add_at, nSG, nGS, nS2, nG2, n2S, n2G, nS1, nG1, n1S, n1G, n12, n21, pG_e, mI_at, send_at, e40, e4k, eq_self, true_and, and_true, false_and, and_false, and_self, if_true, if_false, Nat.reduceEqDiff, reduceIte, Nat.reduceAdd]; exact f2
    · simp only [cI_at, set_at, stop_t, add_at, nSG, nGS, nS2, nG2, n2S, n2G, nS1, nG1, n1S, n1G, n12, n21, pG_e, mI_at, send_at, e40, e4k, eq_self, true_and, and_true, false_and, and_false, and_self, if_true, if_false, Nat.reduceEqDiff, reduceIte, Nat.reduceAdd]; exact f3
    · intro k hk
      rcases k4 hk with rfl | rfl | rfl | rfl
      · simp only [cI_at, set_at, stop_t, add_at, nSG, nGS, nS2, nG2, n2S, n2G, nS1, nG1, n1S, n1G, n12, n21, pG_e, mI_at, send_at, e40, e4k, eq_self, true_and, and_true, false_and, and_false, and_self, if_true, if_false, Nat.reduceEqDiff, reduceIte, Nat.reduceAdd, a_r, up, hG1.2.1.1, nI_add]
        exact ⟨(if_pos (by omega)).symm, by omega⟩
      · simp only [cI_at, set_at, stop_t, add_at, nSG, nGS, nS2, nG2, n2S, n2G, nS1, nG1, n1S, n1G, n12, n21, pG_e, mI_at, send_at, e40, e4k, eq_self, true_and, and_true, false_and, and_false, and_self, if_true, if_false, Nat.reduceEqDiff, reduceIte, Nat.reduceAdd, a_r, up]; exact f6 1 hk
      · simp only [cI_at, set_at, stop_t, add_at, nSG, nGS, nS2, nG2, n2S, n2G, nS1, nG1, n1S, n1G, n12, n21, pG_e, mI_at, send_at, e40, e4k, eq_self, true_and, and_true, false_and, and_false, and_self, if_true, if_false, Nat.reduceEqDiff, reduceIte, Nat.reduceAdd, a_r, up]; exact f6 2 hk
      · simp only [cI_at, set_at, stop_t, add_at, nSG, nGS, nS2, nG2, n2S, n2G, nS1, nG1, n1S, n1G, n12, n21, pG_e, mI_at, send_at, e40, e4k, eq_self, true_and, and_true, false_and, and_false, and_self, if_true, if_false, Nat.reduceEqDiff, reduceIte, Nat.reduceAdd, a_r, up]; exact f6 3 hk
    · simp only [cI_at, set_at, stop_t, add_at, nSG, nGS, nS2, nG2, n2S, n2G, nS1, nG1, n1S, n1G, n12, n21, pG_e, mI_at, send_at, e40, e4k, eq_self, true_and, and_true, false_and, and_false, and_self, if_true, if_false, Nat.reduceEqDiff, reduceIte, Nat.reduceAdd]
    · refine Or.inr (Or.inr (Or.inl ?_))
      simp only [cI_at, set_at, stop_t, add_at, nSG, nGS, nS2, nG2, n2S, n2G, nS1, nG1, n1S, n1G, n12, n21, pG_e, mI_at, send_at, e40, e4k, eq_self, true_and, and_true, false_and, and_false, and_self, if_true, if_false, Nat.reduceEqDiff, reduceIte, Nat.reduceAdd, a_r, up, f10]
      exact ⟨by omega, w2, hb.1, hb.2, w6, w7⟩
  · rw [if_neg (fun w => hd (e1.mp w)), if_neg (fun w => hd (e2.mp w))]
    exact ⟨hG, q, sg, RS_mono hh (up_mono4 h0 hd)⟩
def ov_q (q : Nat → Nat) (k : Nat) : Nat := if k = 0 then 0 else if k = 1 then 0 else q k
theorem RS_d1 {τ : Nat → Nat} {t M N : Nat} {q : Nat → Nat} {sg : Nat} {c : CM} {s : MM} {a : Nat} (hG : RG N t c s) (h : RS τ t M q sg c s a) (h0 : τ 0 = N) (h1 : τ 1 + 1 = N) (h2 : τ 2 + 1 = N) (h3 : τ 3 + 1 = N) (hM : N + 200 * t ≤ M) (hM2 : M < 2147483647) : RG N t (sv_r1 c a) (m_sd1 s a) ∧ ∃ q', RS (fun _ => N) t M q' sg (sv_r1 c a) (m_sd1 s a) a := by
  have hh := h
  obtain ⟨⟨g1, g2, g3⟩, g6, g7, g9⟩ := h
  have z1 := g6 1 (by decide)
  have z2 := g6 2 (by decide)
  have z3 := g6 3 (by decide)
  have c1 := du_c z1.2.1 h1 (by omega) (by omega)
  have c2 := du_c z2.2.1 h2 (by omega) (by omega)
  have c3 := du_c z3.2.1 h3 (by omega) (by omega)
  have m1 : s.1 183 (4 * a + 1) = nI N ↔ q 1 = N := by rw [z1.1]; exact nI_eq (by omega) (by omega)
  have m2 : s.1 183 (4 * a + 2) = nI N ↔ q 2 = N := by rw [z2.1]; exact nI_eq (by omega) (by omega)
  have m3 : s.1 183 (4 * a + 3) = nI N ↔ q 3 = N := by rw [z3.1]; exact nI_eq (by omega) (by omega)
  have o1 : sv_over c a ↔ (q 1 = N ∨ q 2 = N ∨ q 3 = N) := by
    unfold sv_over
    rw [hG.2.1.1, c1, c2, c3]
  have o2 : m_sov s a ↔ (q 1 = N ∨ q 2 = N ∨ q 3 = N) := by
    unfold m_sov
    rw [hG.2.1.2, m1, m2, m3]
  unfold sv_r1 m_sd1
  by_cases hd : q 1 = N ∨ q 2 = N ∨ q 3 = N
  · rw [@if_pos _ (sv_overD c a) (o1.mpr hd), @if_pos _ (m_sovD s a) (o2.mpr hd)]
    have hq : q 2 ≤ N ∧ q 3 ≤ N := by
      rcases g9 with w | w | w | w | w | w
      · have := w.2 2 (by decide); have := w.2 3 (by decide); omega
      · have := w.2 2 (by decide); have := w.2 3 (by decide); omega
      · have := w.2.2.2.2.2.2; omega
      · have := w.2; omega
      · have := w.2; omega
      · have := w.2 2 (by decide); have := w.2 3 (by decide); omega
    unfold sv_mv sv_m2 sv_m5 m_serve
    simp only [v52, if_true, if_false]
    refine ⟨?_, ov_q q, ⟨?_, ?_, ?_⟩, ?_, ?_, ?_⟩
    · repeat' first | exact hG | refine RG_m ?_ (by decide) | refine RG_stp ?_ g3G | refine RG_c ?_ g3S
    · simp only [cI_at, set_at, stop_t, add_at, nSG, nGS, nS2, nG2, n2S, n2G, nS1, nG1, n1S, n1G, n12, n21, pG_e, mI_at, send_at, e40, e4k, eq_self, true_and, and_true, false_and, and_false, and_self, if_true, if_false, Nat.reduceEqDiff, reduceIte, Nat.reduceAdd, v50]
    · simp only [cI_at, set_at, stop_t, add_at, nSG, nGS, nS2, nG2, n2S, n2G, nS1, nG1, n1S, n1G, n12, n21, pG_e, mI_at, send_at, e40, e4k, eq_self, true_and, and_true, false_and, and_false, and_self, if_true, if_false, Nat.reduceEqDiff, reduceIte, Nat.reduceAdd]; exact g2
    · simp only [cI_at, set_at, stop_t, add_at, nSG, nGS, nS2, nG2, n2S, n2G, nS1, nG1, n1S, n1G, n12, n21, pG_e, mI_at, send_at, e40, e4k, eq_self, true_and, and_true, false_and, and_false, and_self, if_true, if_false, Nat.reduceEqDiff, reduceIte, Nat.reduceAdd]; exact g3
    · intro k hk
      rcases k4 hk with rfl | rfl | rfl | rfl
      · simp only [cI_at, set_at, stop_t, add_at, nSG, nGS, nS2, nG2, n2S, n2G, nS1, nG1, n1S, n1G, n12, n21, pG_e, mI_at, send_at, e40, e4k, eq_self, true_and, and_true, false_and, and_false, and_self, if_true, if_false, Nat.reduceEqDiff, reduceIte, Nat.reduceAdd, ov_q]; exact ⟨rfl, zT⟩
      · simp only [cI_at, set_at, stop_t, add_at, nSG, nGS, nS2, nG2, n2S, n2G, nS1, nG1, n1S, n1G, n12, n21, pG_e, mI_at, send_at, e40, e4k, eq_self, true_and, and_true, false_and, and_false, and_self, if_true, if_false, Nat.reduceEqDiff, reduceIte, Nat.reduceAdd, ov_q]; exact ⟨rfl, zT⟩
      · simp only [cI_at, set_at, stop_t, add_at, nSG, nGS, nS2, nG2, n2S, n2G, nS1, nG1, n1S, n1G, n12, n21, pG_e, mI_at, send_at, e40, e4k, eq_self, true_and, and_true, false_and, and_false, and_self, if_true, if_false, Nat.reduceEqDiff, reduceIte, Nat.reduceAdd, ov_q]; exact ⟨(g6 2 hk).1, (if_neg (by omega)).symm, (g6 2 hk).2.2⟩
      · simp only [cI_at, set_at, stop_t, add_at, nSG, nGS, nS2, nG2, n2S, n2G, nS1, nG1, n1S, n1G, n12, n21, pG_e, mI_at, send_at, e40, e4k, eq_self, true_and, and_true, false_and, and_false, and_self, if_true, if_false, Nat.reduceEqDiff, reduceIte, Nat.reduceAdd, ov_q]; exact ⟨(g6 3 hk).1, (if_neg (by omega)).symm, (g6 3 hk).2.2⟩
    · simp only [cI_at, set_at, stop_t, add_at, nSG, nGS, nS2, nG2, n2S, n2G, nS1, nG1, n1S, n1G, n12, n21, pG_e, mI_at, send_at, e40, e4k, eq_self, true_and, and_true, false_and, and_false, and_self, if_true, if_false, Nat.reduceEqDiff, reduceIte, Nat.reduceAdd]; exact g7
    · refine Or.inr (Or.inr (Or.inr (Or.inr (Or.inr ⟨?_, ?_⟩))))
      · simp only [cI_at, set_at, stop_t, add_at, nSG, nGS, nS2, nG2, n2S, n2G, nS1, nG1, n1S, n1G, n12, n21, pG_e, mI_at, send_at, e40, e4k, eq_self, true_and, and_true, false_and, and_false, and_self, if_true, if_false, Nat.reduceEqDiff, reduceIte, Nat.reduceAdd]
      · intro k hk
        unfold ov_q
        rcases k4 hk with rfl | rfl | rfl | rfl
        · exact Nat.zero_le _
        · exact Nat.zero_le _
        · exact hq.1
        · exact hq.2
  · rw [@if_neg _ (sv_overD c a) (fun w => hd (o1.mp w)), @if_neg _ (m_sovD s a) (fun w => hd (o2.mp w))]
    refine ⟨hG, q, RS_mono hh ?_⟩
    intro k hk
    rcases k4 hk with rfl | rfl | rfl | rfl
    · rw [h0]
    · show τ 1 < q 1 ↔ N < q 1; omega
    · show τ 2 < q 2 ↔ N < q 2; omega
    · show τ 3 < q 3 ↔ N < q 3; omega
theorem RS_due {T t M N : Nat} {q : Nat → Nat} {sg : Nat} {c : CM} {s : MM} {a : Nat} (hG : RG N t c s) (h : RS (fun _ => T) t M q sg c s a) (h0 : T + 1 = N) (hM : N + 200 * t ≤ M) (hM2 : M < 2147483647) (ht : 1 ≤ t) (ht2 : t ≤ 100) : RG N t (sv_run c a) (m_sdue s a) ∧ ∃ q' sg', RS (fun _ => N) t M q' sg' (sv_run c a) (m_sdue s a) a := by
  obtain ⟨hG1, q1, sg1, h1⟩ := RS_d0 hG h h0 hM hM2 ht ht2
  obtain ⟨hG2, q2, h2⟩ := RS_d1 hG1 h1 rfl h0 h0 h0 hM hM2
  exact ⟨hG2, q2, sg1, h2⟩
-- nothing due
theorem RS_none {T t M N : Nat} {q : Nat → Nat} {sg : Nat} {c : CM} {s : MM} {a : Nat} (h : RS (fun _ => T) t M q sg c s a) (h0 : T + 1 = N) (hM2 : M < 2147483647) (hN : N < 2147483647) (hT : s.1 170 1 = nI N) (hn : ∀ k, k < 4 → ¬ c.1 (pG a k) 2 = nI N) : m_sdue s a = s ∧ RS (fun _ => N) t M q sg c s a := by
  have g6 := h.2.1
  have hq : ∀ k, k < 4 → ¬ q k = N := fun k hk e => hn k hk ((du_c (g6 k hk).2.1 h0 (by have := (g6 k hk).2.2; omega) hN).mpr e)
  have hm : ∀ k, k < 4 → ¬ s.1 183 (4 * a + k) = nI N := fun k hk e => by
    rw [(g6 k hk).1, nI_eq (by have := (g6 k hk).2.2; omega) (by omega)] at e
    exact hq k hk e
  refine ⟨?_, RS_mono h (fun k hk => by have := hq k hk; show T < q k ↔ N < q k; omega)⟩
  have e0 : m_sd0 s a = s := by
    have h00 := hm 0 (by decide)
    rw [Nat.add_zero] at h00
    unfold m_sd0
    rw [hT, if_neg h00]
  unfold m_sdue
  rw [e0]
  unfold m_sd1
  refine @if_neg _ (m_sovD s a) ?_ _ _ _
  unfold m_sov
  rw [hT]
  exact fun w => w.elim (hm 1 (by decide)) (fun w => w.elim (hm 2 (by decide)) (hm 3 (by decide)))
-- a call not in use: its server anew
theorem RS_z4 {τ : Nat → Nat} {t M : Nat} {q : Nat → Nat} {sg : Nat} {c : CM} {s : MM} {a : Nat} (h : RS τ t M q sg c s a) (hs : s.1 181 a = 0 ∨ s.1 181 a = 5) : RS τ t M (fun _ => 0) sg c (m_z4 s a) a := by
  obtain ⟨⟨g1, g2, g3⟩, g6, g7, g9⟩ := h
  have hq : ∀ k, k < 4 → q k ≤ τ k := by
    rcases g9 with w | w | w | w | w | w
    · exact w.2
    · exact w.2
    · rw [w.1] at hs; exact absurd hs (by decide)
    · rw [w.1] at hs; exact absurd hs (by decide)
    · rw [w.1] at hs; exact absurd hs (by decide)
    · exact w.2
  unfold m_z4
  refine ⟨⟨?_, ?_, ?_⟩, ?_, ?_, ?_⟩
  · simp only [cI_at, set_at, stop_t, add_at, nSG, nGS, nS2, nG2, n2S, n2G, nS1, nG1, n1S, n1G, n12, n21, pG_e, mI_at, send_at, e40, e4k, eq_self, true_and, and_true, false_and, and_false, and_self, if_true, if_false, Nat.reduceEqDiff, reduceIte, Nat.reduceAdd]; exact g1
  · simp only [cI_at, set_at, stop_t, add_at, nSG, nGS, nS2, nG2, n2S, n2G, nS1, nG1, n1S, n1G, n12, n21, pG_e, mI_at, send_at, e40, e4k, eq_self, true_and, and_true, false_and, and_false, and_self, if_true, if_false, Nat.reduceEqDiff, reduceIte, Nat.reduceAdd]; exact g2
  · exact g3
  · intro k hk
    have e : c.1 (pG a k) 2 = NV := by rw [(g6 k hk).2.1, if_neg (by have := hq k hk; omega)]
    rw [e]
    rcases k4 hk with rfl | rfl | rfl | rfl
    · simp only [cI_at, set_at, stop_t, add_at, nSG, nGS, nS2, nG2, n2S, n2G, nS1, nG1, n1S, n1G, n12, n21, pG_e, mI_at, send_at, e40, e4k, eq_self, true_and, and_true, false_and, and_false, and_self, if_true, if_false, Nat.reduceEqDiff, reduceIte, Nat.reduceAdd]; exact ⟨rfl, zT⟩
    · simp only [cI_at, set_at, stop_t, add_at, nSG, nGS, nS2, nG2, n2S, n2G, nS1, nG1, n1S, n1G, n12, n21, pG_e, mI_at, send_at, e40, e4k, eq_self, true_and, and_true, false_and, and_false, and_self, if_true, if_false, Nat.reduceEqDiff, reduceIte, Nat.reduceAdd]; exact ⟨rfl, zT⟩
    · simp only [cI_at, set_at, stop_t, add_at, nSG, nGS, nS2, nG2, n2S, n2G, nS1, nG1, n1S, n1G, n12, n21, pG_e, mI_at, send_at, e40, e4k, eq_self, true_and, and_true, false_and, and_false, and_self, if_true, if_false, Nat.reduceEqDiff, reduceIte, Nat.reduceAdd]; exact ⟨rfl, zT⟩
    · simp only [cI_at, set_at, stop_t, add_at, nSG, nGS, nS2, nG2, n2S, n2G, nS1, nG1, n1S, n1G, n12, n21, pG_e, mI_at, send_at, e40, e4k, eq_self, true_and, and_true, false_and, and_false, and_self, if_true, if_false, Nat.reduceEqDiff, reduceIte, Nat.reduceAdd]; exact ⟨rfl, zT⟩
  · simp only [cI_at, set_at, stop_t, add_at, nSG, nGS, nS2, nG2, n2S, n2G, nS1, nG1, n1S, n1G, n12, n21, pG_e, mI_at, send_at, e40, e4k, eq_self, true_and, and_true, false_and, and_false, and_self, if_true, if_false, Nat.reduceEqDiff, reduceIte, Nat.reduceAdd]; exact g7
  · simp only [cI_at, set_at, stop_t, add_at, nSG, nGS, nS2, nG2, n2S, n2G, nS1, nG1, n1S, n1G, n12, n21, pG_e, mI_at, send_at, e40, e4k, eq_self, true_and, and_true, false_and, and_false, and_self, if_true, if_false, Nat.reduceEqDiff, reduceIte, Nat.reduceAdd]
    rcases hs with hs | hs
    · exact Or.inl ⟨hs, fun k _ => Nat.zero_le _⟩
    · exact Or.inr (Or.inr (Or.inr (Or.inr (Or.inr ⟨hs, fun k _ => Nat.zero_le _⟩))))
theorem RS_one {τ : Nat → Nat} {t M N : Nat} {sg : Nat} {c : CM} {s : MM} {a : Nat} (hG : RG N t c s) (h : RS τ t M (fun _ => 0) sg c s a) : RG N t (sv_mv c a 1) (m_serve s a 1) ∧ RS τ t M (fun _ => 0) sg (sv_mv c a 1) (m_serve s a 1) a := by
  obtain ⟨⟨g1, g2, g3⟩, g6, g7, g9⟩ := h
  unfold sv_mv sv_m2 sv_m5 m_serve
  simp only [v12, v15, if_true, if_false]
  refine ⟨?_, ⟨?_, ?_, ?_⟩, ?_, ?_, ?_⟩
  · repeat' first | exact hG | refine RG_m ?_ (by decide) | refine RG_stp ?_ g3G | refine RG_c ?_ g3S
  · simp only [cI_at, set_at, stop_t, add_at, nSG, nGS, nS2, nG2, n2S, n2G, nS1, nG1, n1S, n1G, n12, n21, pG_e, mI_at, send_at, e40, e4k, eq_self, true_and, and_true, false_and, and_false, and_self, if_true, if_false, Nat.reduceEqDiff, reduceIte, Nat.reduceAdd, v10]
  · simp only [cI_at, set_at, stop_t, add_at, nSG, nGS, nS2, nG2, n2S, n2G, nS1, nG1, n1S, n1G, n12, n21, pG_e, mI_at, send_at, e40, e4k, eq_self, true_and, and_true, false_and, and_false, and_self, if_true, if_false, Nat.reduceEqDiff, reduceIte, Nat.reduceAdd]; exact g2
  · simp only [cI_at, set_at, stop_t, add_at, nSG, nGS, nS2, nG2, n2S, n2G, nS1, nG1, n1S, n1G, n12, n21, pG_e, mI_at, send_at, e40, e4k, eq_self, true_and, and_true, false_and, and_false, and_self, if_true, if_false, Nat.reduceEqDiff, reduceIte, Nat.reduceAdd]; exact g3
  · intro k hk
    rcases k4 hk with rfl | rfl | rfl | rfl
    · simp only [cI_at, set_at, stop_t, add_at, nSG, nGS, nS2, nG2, n2S, n2G, nS1, nG1, n1S, n1G, n12, n21, pG_e, mI_at, send_at, e40, e4k, eq_self, true_and, and_true, false_and, and_false, and_self, if_true, if_false, Nat.reduceEqDiff, reduceIte, Nat.reduceAdd]; exact ⟨rfl, zT⟩
    · simp only [cI_at, set_at, stop_t, add_at, nSG, nGS, nS2, nG2, n2S, n2G, nS1, nG1, n1S, n1G, n12, n21, pG_e, mI_at, send_at, e40, e4k, eq_self, true_and, and_true, false_and, and_false, and_self, if_true, if_false, Nat.reduceEqDiff, reduceIte, Nat.reduceAdd]; exact ⟨rfl, zT⟩
    · simp only [cI_at, set_at, stop_t, add_at, nSG, nGS, nS2, nG2, n2S, n2G, nS1, nG1, n1S, n1G, n12, n21, pG_e, mI_at, send_at, e40, e4k, eq_self, true_and, and_true, false_and, and_false, and_self, if_true, if_false, Nat.reduceEqDiff, reduceIte, Nat.reduceAdd]; exact g6 2 hk
    · simp only [cI_at, set_at, stop_t, add_at, nSG, nGS, nS2, nG2, n2S, n2G, nS1, nG1, n1S, n1G, n12, n21, pG_e, mI_at, send_at, e40, e4k, eq_self, true_and, and_true, false_and, and_false, and_self, if_true, if_false, Nat.reduceEqDiff, reduceIte, Nat.reduceAdd]; exact g6 3 hk
  · simp only [cI_at, set_at, stop_t, add_at, nSG, nGS, nS2, nG2, n2S, n2G, nS1, nG1, n1S, n1G, n12, n21, pG_e, mI_at, send_at, e40, e4k, eq_self, true_and, and_true, false_and, and_false, and_self, if_true, if_false, Nat.reduceEqDiff, reduceIte, Nat.reduceAdd]; exact g7
  · refine Or.inr (Or.inl ⟨?_, fun k _ => Nat.zero_le _⟩)
    simp only [cI_at, set_at, stop_t, add_at, nSG, nGS, nS2, nG2, n2S, n2G, nS1, nG1, n1S, n1G, n12, n21, pG_e, mI_at, send_at, e40, e4k, eq_self, true_and, and_true, false_and, and_false, and_self, if_true, if_false, Nat.reduceEqDiff, reduceIte, Nat.reduceAdd]
