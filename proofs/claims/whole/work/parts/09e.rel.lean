-- a server's own places
def PS (a q : Nat) : Prop := q = 2 ∨ (pS a ≤ q ∧ q < pS a + 5)
def QS (a p j : Nat) : Prop := (p = 170 ∧ j = 30) ∨ ((p = 181 ∨ p = 182 ∨ p = 184) ∧ j = a) ∨ (p = 183 ∧ 4 * a ≤ j ∧ j < 4 * a + 4)
theorem PS_2 {a : Nat} : PS a 2 := Or.inl rfl
theorem PS_S {a : Nat} : PS a (pS a) := Or.inr ⟨Nat.le_refl _, by omega⟩
theorem PS_G {a k : Nat} (h : k < 4) : PS a (pG a k) := Or.inr (by unfold pG pS; omega)
theorem QS_c {a : Nat} : QS a 170 30 := Or.inl ⟨rfl, rfl⟩
theorem QS_s {a p : Nat} (h : p = 181 ∨ p = 182 ∨ p = 184) : QS a p a := Or.inr (Or.inl ⟨h, rfl⟩)
theorem QS_t {a k : Nat} (h : k < 4) : QS a 183 (4 * a + k) := Or.inr (Or.inr ⟨rfl, by omega, by omega⟩)
theorem QS_t0 {a : Nat} : QS a 183 (4 * a) := Or.inr (Or.inr ⟨rfl, by omega, by omega⟩)
theorem Ts_mv {c : CM} {a : Nat} {v : Int32} : Tc (PS a) c (sv_mv c a v) := by
  unfold sv_mv
  refine Tc_t (Tc_t (Tc_I PS_S) (?_ : Tc (PS a) (cI c (pS a) 7 v) _)) (?_ : Tc (PS a) (sv_m2 (cI c (pS a) 7 v) a v) _)
  · unfold sv_m2; split
    · exact Tc_r
    · exact Tc_t (Tc_stp (PS_G (by decide))) (Tc_stp (PS_G (by decide)))
  · unfold sv_m5; split
    · exact Tc_t (Tc_stp (PS_G (by decide))) (Tc_stp (PS_G (by decide)))
    · exact Tc_r
theorem Ts_tell {c : CM} {a : Nat} {w : Int32} : Tc (PS a) c (sv_tell c a w) := Tc_t (Tc_I PS_S) (Tc_add PS_2)
theorem Ts_suc {c : CM} {a : Nat} : Tc (PS a) c (sv_suc c a) := Tc_t Ts_mv (Tc_set (PS_G (by decide)))
theorem Ts_fail {c : CM} {a : Nat} {w : Int32} : Tc (PS a) c (sv_fail c a w) := Tc_t (Tc_t (Tc_t Ts_tell Ts_mv) (Tc_set (PS_G (by decide)))) (Tc_set (PS_G (by decide)))
theorem Ts_conf {c : CM} {a : Nat} : Tc (PS a) c (sv_conf c a) := Tc_t Ts_mv (Tc_set (PS_G (by decide)))
theorem Ts_again {c : CM} {a : Nat} : Tc (PS a) c (sv_again c a) := by
  unfold sv_again; split
  · exact Ts_tell
  · exact Tc_r
theorem Ts_run {c : CM} {a : Nat} : Tc (PS a) c (sv_run c a) := by
  unfold sv_run
  refine Tc_t (?_ : Tc (PS a) c (sv_r0 c a)) ?_
  · unfold sv_r0 tq_twm; split
    · exact Tc_t Ts_tell (Tc_set (PS_G (by decide)))
    · exact Tc_r
  · unfold sv_r1; split
    · exact Ts_mv
    · exact Tc_r
theorem Td_tell {s : MM} {a : Nat} {w : Int32} : Td (QS a) s (m_tell s a w) := by
  unfold m_tell; split
  · exact Td_t (Td_send QS_c) (Td_I (QS_s (by omega)))
  · exact Td_send QS_c
theorem Td_serve {s : MM} {a : Nat} {v : Int32} : Td (QS a) s (m_serve s a v) := by
  unfold m_serve; split
  · exact Td_I (QS_s (by omega))
  · exact Td_t (Td_t (Td_I (QS_s (by omega))) (Td_I QS_t0)) (Td_I (QS_t (by decide)))
theorem Td_answer {s : MM} {a : Nat} {w : Int32} : Td (QS a) s (m_answer s a w) := by
  unfold m_answer
  exact Td_t (Td_t (Td_t (Td_t Td_tell Td_serve) (Td_I QS_t0)) (Td_I (QS_t (by decide)))) (Td_I (QS_s (by omega)))
theorem Td_sdue {s : MM} {a : Nat} : Td (QS a) s (m_sdue s a) := by
  unfold m_sdue
  refine Td_t (?_ : Td (QS a) s (m_sd0 s a)) ?_
  · unfold m_sd0; split
    · exact Td_t (Td_t Td_tell (Td_I (QS_s (by omega)))) (Td_I QS_t0)
    · exact Td_r
  · unfold m_sd1; split
    · exact Td_serve
    · exact Td_r
def RSV (τ : Nat → Nat) (t : Nat) (q : Nat → Nat) (sg : Nat) (st x0 : Int32) : Prop :=
  (st = 0 ∧ ∀ k, k < 4 → q k ≤ τ k) ∨ (st = 1 ∧ ∀ k, k < 4 → q k ≤ τ k)
    ∨ (st = 2 ∧ τ 0 < q 0 ∧ τ 1 < q 1 ∧ t ≤ sg ∧ sg ≤ 8 * t ∧ x0 = nI sg ∧ q 2 ≤ τ 2 ∧ q 3 ≤ τ 3)
    ∨ (st = 3 ∧ q 0 ≤ τ 0 ∧ q 1 ≤ τ 1 ∧ q 3 ≤ τ 3) ∨ (st = 4 ∧ q 0 ≤ τ 0 ∧ q 1 ≤ τ 1 ∧ q 2 ≤ τ 2) ∨ (st = 5 ∧ ∀ k, k < 4 → q k ≤ τ k)
def RS (τ : Nat → Nat) (t M : Nat) (q : Nat → Nat) (sg : Nat) (c : CM) (s : MM) (a : Nat) : Prop :=
  (c.1 (pS a) 7 = (if s.1 181 a = 0 then 5 else s.1 181 a) ∧ c.1 (pS a) 8 = s.1 182 a ∧ c.1 (pS a) 2 = nI a)
  ∧ (∀ k, k < 4 → s.1 183 (4 * a + k) = nI (q k) ∧ c.1 (pG a k) 2 = (if τ k < q k then nI (q k) else NV) ∧ q k ≤ M)
  ∧ s.1 184 a = nI sg ∧ RSV τ t q sg (s.1 181 a) (c.1 (pG a 0) 1)
theorem RS_eq {τ : Nat → Nat} {t M : Nat} {q : Nat → Nat} {sg : Nat} {c c' : CM} {s s' : MM} {a : Nat} (h : RS τ t M q sg c s a) (h1 : ∀ p j, (pS a ≤ p ∧ p < pS a + 5) → c'.1 p j = c.1 p j) (h2 : ∀ p j, ((p = 181 ∨ p = 182 ∨ p = 184) ∧ j = a) ∨ (p = 183 ∧ 4 * a ≤ j ∧ j < 4 * a + 4) → s'.1 p j = s.1 p j) : RS τ t M q sg c' s' a := by
  have eS : ∀ j, c'.1 (pS a) j = c.1 (pS a) j := fun j => h1 _ j (by omega)
  have eG : ∀ k j, k < 4 → c'.1 (pG a k) j = c.1 (pG a k) j := fun k j hk => h1 _ j (by unfold pG pS; omega)
  have m : ∀ p, (p = 181 ∨ p = 182 ∨ p = 184) → s'.1 p a = s.1 p a := fun p hp => h2 p _ (Or.inl ⟨hp, rfl⟩)
  have mT : ∀ k, k < 4 → s'.1 183 (4 * a + k) = s.1 183 (4 * a + k) := fun k hk => h2 _ _ (Or.inr ⟨rfl, by omega, by omega⟩)
  obtain ⟨⟨g1, g2, g3⟩, g6, g7, g9⟩ := h
  refine ⟨⟨?_, ?_, ?_⟩, ?_, ?_, ?_⟩
  · rw [eS, m 181 (by omega)]; exact g1
  · rw [eS, m 182 (by omega)]; exact g2
  · rw [eS]; exact g3
  · intro k hk; rw [mT k hk, eG k 2 hk]; exact g6 k hk
  · rw [m 184 (by omega)]; exact g7
  · rw [m 181 (by omega), eG 0 1 (by decide)]; exact g9
theorem RSV_mono {τ τ' : Nat → Nat} {t : Nat} {q : Nat → Nat} {sg : Nat} {st x0 : Int32} (h : RSV τ t q sg st x0) (hm : ∀ k, k < 4 → (τ k < q k ↔ τ' k < q k)) : RSV τ' t q sg st x0 := by
  have hm' : ∀ k, k < 4 → (q k ≤ τ k ↔ q k ≤ τ' k) := fun k hk => by have := hm k hk; omega
  unfold RSV at h ⊢
  rw [hm 0 (by decide), hm 1 (by decide), hm' 0 (by decide), hm' 1 (by decide), hm' 2 (by decide), hm' 3 (by decide)] at h
  rcases h with h | h | h | h | h | h
  · exact Or.inl ⟨h.1, fun k hk => (hm' k hk).mp (h.2 k hk)⟩
  · exact Or.inr (Or.inl ⟨h.1, fun k hk => (hm' k hk).mp (h.2 k hk)⟩)
  · exact Or.inr (Or.inr (Or.inl h))
  · exact Or.inr (Or.inr (Or.inr (Or.inl h)))
  · exact Or.inr (Or.inr (Or.inr (Or.inr (Or.inl h))))
  · exact Or.inr (Or.inr (Or.inr (Or.inr (Or.inr ⟨h.1, fun k hk => (hm' k hk).mp (h.2 k hk)⟩))))
theorem RS_mono {τ τ' : Nat → Nat} {t M : Nat} {q : Nat → Nat} {sg : Nat} {c : CM} {s : MM} {a : Nat} (h : RS τ t M q sg c s a) (hm : ∀ k, k < 4 → (τ k < q k ↔ τ' k < q k)) : RS τ' t M q sg c s a := by
  obtain ⟨g1, g6, g7, g9⟩ := h
  refine ⟨g1, fun k hk => ?_, g7, RSV_mono g9 hm⟩
  have := g6 k hk
  refine ⟨this.1, ?_, this.2.2⟩
  rw [this.2.1]
  by_cases e : τ k < q k
  · rw [if_pos e, if_pos ((hm k hk).mp e)]
  · rw [if_neg e, if_neg (fun w => e ((hm k hk).mpr w))]
theorem RS_M {τ : Nat → Nat} {t M M' : Nat} {q : Nat → Nat} {sg : Nat} {c : CM} {s : MM} {a : Nat} (h : RS τ t M q sg c s a) (hM : M ≤ M') : RS τ t M' q sg c s a := by
  obtain ⟨g1, g6, g7, g9⟩ := h
  exact ⟨g1, fun k hk => ⟨(g6 k hk).1, (g6 k hk).2.1, Nat.le_trans (g6 k hk).2.2 hM⟩, g7, g9⟩
-- telling
theorem RS_tell {τ : Nat → Nat} {t M N : Nat} {q : Nat → Nat} {sg : Nat} {c : CM} {s : MM} {a : Nat} {w : Int32} (hG : RG N t c s) (h : RS τ t M q sg c s a) (hw : (w < 200 ∨ 299 < w) ∨ w = s.1 182 a) : RG N t (sv_tell c a w) (m_tell s a w) ∧ RS τ t M q sg (sv_tell c a w) (m_tell s a w) a := by
  obtain ⟨⟨g1, g2, g3⟩, g6, g7, g9⟩ := h
  unfold sv_tell m_tell
  rw [g3]
  by_cases e : w < 200 ∨ 299 < w
  · rw [if_pos e]
    refine ⟨RG_m (RG_add (RG_c hG g3S)) (by decide), ⟨?_, ?_, ?_⟩, ?_, ?_, ?_⟩
    · simp only [cI_at, set_at, stop_t, add_at, nSG, nGS, nS2, nG2, n2S, n2G, nS1, nG1, n1S, n1G, n12, n21, pG_e, mI_at, send_at, e40, e4k, eq_self, true_and, and_true, false_and, and_false, and_self, if_true, if_false, Nat.reduceEqDiff, reduceIte, Nat.reduceAdd]; exact g1
    · simp only [cI_at, set_at, stop_t, add_at, nSG, nGS, nS2, nG2, n2S, n2G, nS1, nG1, n1S, n1G, n12, n21, pG_e, mI_at, send_at, e40, e4k, eq_self, true_and, and_true, false_and, and_false, and_self, if_true, if_false, Nat.reduceEqDiff, reduceIte, Nat.reduceAdd]
    · simp only [cI_at, set_at, stop_t, add_at, nSG, nGS, nS2, nG2, n2S, n2G, nS1, nG1, n1S, n1G, n12, n21, pG_e, mI_at, send_at, e40, e4k, eq_self, true_and, and_true, false_and, and_false, and_self, if_true, if_false, Nat.reduceEqDiff, reduceIte, Nat.reduceAdd]; exact g3
    · intro k hk; simp only [cI_at, set_at, stop_t, add_at, nSG, nGS, nS2, nG2, n2S, n2G, nS1, nG1, n1S, n1G, n12, n21, pG_e, mI_at, send_at, e40, e4k, eq_self, true_and, and_true, false_and, and_false, and_self, if_true, if_false, Nat.reduceEqDiff, reduceIte, Nat.reduceAdd]; exact g6 k hk
    · simp only [cI_at, set_at, stop_t, add_at, nSG, nGS, nS2, nG2, n2S, n2G, nS1, nG1, n1S, n1G, n12, n21, pG_e, mI_at, send_at, e40, e4k, eq_self, true_and, and_true, false_and, and_false, and_self, if_true, if_false, Nat.reduceEqDiff, reduceIte, Nat.reduceAdd]; exact g7
    · simp only [cI_at, set_at, stop_t, add_at, nSG, nGS, nS2, nG2, n2S, n2G, nS1, nG1, n1S, n1G, n12, n21, pG_e, mI_at, send_at, e40, e4k, eq_self, true_and, and_true, false_and, and_false, and_self, if_true, if_false, Nat.reduceEqDiff, reduceIte, Nat.reduceAdd]; exact g9
  · rw [if_neg e]
    have e2 := hw.resolve_left e
    refine ⟨RG_add (RG_c hG g3S), ⟨?_, ?_, ?_⟩, ?_, ?_, ?_⟩
    · simp only [cI_at, set_at, stop_t, add_at, nSG, nGS, nS2, nG2, n2S, n2G, nS1, nG1, n1S, n1G, n12, n21, pG_e, mI_at, send_at, e40, e4k, eq_self, true_and, and_true, false_and, and_false, and_self, if_true, if_false, Nat.reduceEqDiff, reduceIte, Nat.reduceAdd]; exact g1
    · simp only [cI_at, set_at, stop_t, add_at, nSG, nGS, nS2, nG2, n2S, n2G, nS1, nG1, n1S, n1G, n12, n21, pG_e, mI_at, send_at, e40, e4k, eq_self, true_and, and_true, false_and, and_false, and_self, if_true, if_false, Nat.reduceEqDiff, reduceIte, Nat.reduceAdd]; exact e2
    · simp only [cI_at, set_at, stop_t, add_at, nSG, nGS, nS2, nG2, n2S, n2G, nS1, nG1, n1S, n1G, n12, n21, pG_e, mI_at, send_at, e40, e4k, eq_self, true_and, and_true, false_and, and_false, and_self, if_true, if_false, Nat.reduceEqDiff, reduceIte, Nat.reduceAdd]; exact g3
    · intro k hk; simp only [cI_at, set_at, stop_t, add_at, nSG, nGS, nS2, nG2, n2S, n2G, nS1, nG1, n1S, n1G, n12, n21, pG_e, mI_at, send_at, e40, e4k, eq_self, true_and, and_true, false_and, and_false, and_self, if_true, if_false, Nat.reduceEqDiff, reduceIte, Nat.reduceAdd]; exact g6 k hk
    · simp only [cI_at, set_at, stop_t, add_at, nSG, nGS, nS2, nG2, n2S, n2G, nS1, nG1, n1S, n1G, n12, n21, pG_e, mI_at, send_at, e40, e4k, eq_self, true_and, and_true, false_and, and_false, and_self, if_true, if_false, Nat.reduceEqDiff, reduceIte, Nat.reduceAdd]; exact g7
    · simp only [cI_at, set_at, stop_t, add_at, nSG, nGS, nS2, nG2, n2S, n2G, nS1, nG1, n1S, n1G, n12, n21, pG_e, mI_at, send_at, e40, e4k, eq_self, true_and, and_true, false_and, and_false, and_self, if_true, if_false, Nat.reduceEqDiff, reduceIte, Nat.reduceAdd]; exact g9
theorem RS_tell2 {τ : Nat → Nat} {t M N : Nat} {q : Nat → Nat} {sg : Nat} {c : CM} {s : MM} {a : Nat} {w : Int32} (hG : RG N t c s) (h : RS τ t M q sg c s a) (hw : ¬ (w < 200 ∨ 299 < w)) : RG N t (l_add c (c.1 (pS a) 2) 7 w) (m_tell s a w) ∧ RS τ t M q sg (l_add c (c.1 (pS a) 2) 7 w) (m_tell s a w) a := by
  have hh := h
  obtain ⟨⟨g1, g2, g3⟩, g6, g7, g9⟩ := h
  unfold m_tell
  rw [g3, if_neg hw]
  refine ⟨RG_add hG, RS_eq hh (fun p j hp => ?_) (fun p j hp => ?_)⟩
  · rw [add_at, if_neg (fun w => by have := w.1; unfold pS at hp; omega)]
  · rw [send_at, if_neg (fun w => by have := w.1; omega)]
theorem k4 {k : Nat} (h : k < 4) : k = 0 ∨ k = 1 ∨ k = 2 ∨ k = 3 := by omega
theorem v20 : ((2 : Int32) = 0) = False := eq_false (by decide)
theorem v10 : ((1 : Int32) = 0) = False := eq_false (by decide)
theorem v30 : ((3 : Int32) = 0) = False := eq_false (by decide)
theorem v40 : ((4 : Int32) = 0) = False := eq_false (by decide)
theorem v50 : ((5 : Int32) = 0) = False := eq_false (by decide)
theorem v12 : ((1 : Int32) = 2) = False := eq_false (by decide)
theorem v32 : ((3 : Int32) = 2) = False := eq_false (by decide)
theorem v42 : ((4 : Int32) = 2) = False := eq_false (by decide)
theorem v52 : ((5 : Int32) = 2) = False := eq_false (by decide)
theorem v15 : ((1 : Int32) = 5) = False := eq_false (by decide)
theorem v25 : ((2 : Int32) = 5) = False := eq_false (by decide)
theorem v35 : ((3 : Int32) = 5) = False := eq_false (by decide)
theorem v45 : ((4 : Int32) = 5) = False := eq_false (by decide)
-- answering with a failure
def an_q (q : Nat → Nat) (N t k : Nat) : Nat := if k = 0 then N + t else if k = 1 then N + 64 * t else q k
theorem RS_answer {τ : Nat → Nat} {t M N : Nat} {q : Nat → Nat} {sg : Nat} {c : CM} {s : MM} {a : Nat} {w : Int32} (hG : RG N t c s) (h : RS τ t M q sg c s a) (hw : w < 200 ∨ 299 < w) (h2 : q 2 ≤ τ 2) (h3 : q 3 ≤ τ 3) (hτ : ∀ k, τ k ≤ N) (hM : N + 64 * t ≤ M) (ht : 1 ≤ t) : RG N t (sv_fail c a w) (m_answer s a w) ∧ RS τ t M (an_q q N t) t (sv_fail c a w) (m_answer s a w) a := by
  obtain ⟨⟨g1, g2, g3⟩, g6, g7, g9⟩ := h
  unfold sv_fail sv_mv sv_m2 sv_m5 sv_tell m_answer m_serve m_tell
  rw [g3]
  simp only [v25, if_true, if_false, eq_true hw, hG.1.1, hG.1.2, hG.2.1.2]
  refine ⟨RG_m (RG_m (RG_m (RG_m (RG_set (RG_set (RG_c (RG_m (RG_add (RG_c hG g3S)) (by decide)) g3S) g3G) g3G) (by decide)) (by decide)) (by decide)) (by decide), ⟨?_, ?_, ?_⟩, ?_, ?_, ?_⟩
  · simp only [cI_at, set_at, stop_t, add_at, nSG, nGS, nS2, nG2, n2S, n2G, nS1, nG1, n1S, n1G, n12, n21, pG_e, mI_at, send_at, e40, e4k, eq_self, true_and, and_true, false_and, and_false, and_self, if_true, if_false, Nat.reduceEqDiff, reduceIte, Nat.reduceAdd, v20]
  · simp only [cI_at, set_at, stop_t, add_at, nSG, nGS, nS2, nG2, n2S, n2G, nS1, nG1, n1S, n1G, n12, n21, pG_e, mI_at, send_at, e40, e4k, eq_self, true_and, and_true, false_and, and_false, and_self, if_true, if_false, Nat.reduceEqDiff, reduceIte, Nat.reduceAdd]
  · simp only [cI_at, set_at, stop_t, add_at, nSG, nGS, nS2, nG2, n2S, n2G, nS1, nG1, n1S, n1G, n12, n21, pG_e, mI_at, send_at, e40, e4k, eq_self, true_and, and_true, false_and, and_false, and_self, if_true, if_false, Nat.reduceEqDiff, reduceIte, Nat.reduceAdd]; exact g3
  · intro k hk
    rcases k4 hk with rfl | rfl | rfl | rfl
    · simp only [cI_at, set_at, stop_t, add_at, nSG, nGS, nS2, nG2, n2S, n2G, nS1, nG1, n1S, n1G, n12, n21, pG_e, mI_at, send_at, e40, e4k, eq_self, true_and, and_true, false_and, and_false, and_self, if_true, if_false, Nat.reduceEqDiff, reduceIte, Nat.reduceAdd, an_q, hG.2.1.1, nI_add]
      exact ⟨(if_pos (by have := hτ 0; omega)).symm, by omega⟩
    · simp only [cI_at, set_at, stop_t, add_at, nSG, nGS, nS2, nG2, n2S, n2G, nS1, nG1, n1S, n1G, n12, n21, pG_e, mI_at, send_at, e40, e4k, eq_self, true_and, and_true, false_and, and_false, and_self, if_true, if_false, Nat.reduceEqDiff, reduceIte, Nat.reduceAdd, an_q, hG.2.1.1, ml64, nI_add]
      exact ⟨(if_pos (by have := hτ 1; omega)).symm, by omega⟩
    · simp only [cI_at, set_at, stop_t, add_at, nSG, nGS, nS2, nG2, n2S, n2G, nS1, nG1, n1S, n1G, n12, n21, pG_e, mI_at, send_at, e40, e4k, eq_self, true_and, and_true, false_and, and_false, and_self, if_true, if_false, Nat.reduceEqDiff, reduceIte, Nat.reduceAdd, an_q]; exact g6 2 hk
    · simp only [cI_at, set_at, stop_t, add_at, nSG, nGS, nS2, nG2, n2S, n2G, nS1, nG1, n1S, n1G, n12, n21, pG_e, mI_at, send_at, e40, e4k, eq_self, true_and, and_true, false_and, and_false, and_self, if_true, if_false, Nat.reduceEqDiff, reduceIte, Nat.reduceAdd, an_q]; exact g6 3 hk
  · simp only [cI_at, set_at, stop_t, add_at, nSG, nGS, nS2, nG2, n2S, n2G, nS1, nG1, n1S, n1G, n12, n21, pG_e, mI_at, send_at, e40, e4k, eq_self, true_and, and_true, false_and, and_false, and_self, if_true, if_false, Nat.reduceEqDiff, reduceIte, Nat.reduceAdd]
  · refine Or.inr (Or.inr (Or.inl ?_))
    simp only [cI_at, set_at, stop_t, add_at, nSG, nGS, nS2, nG2, n2S, n2G, nS1, nG1, n1S, n1G, n12, n21, pG_e, mI_at, send_at, e40, e4k, eq_self, true_and, and_true, false_and, and_false, and_self, if_true, if_false, Nat.reduceEqDiff, reduceIte, Nat.reduceAdd, an_q]
    have e0 := hτ 0
    have e1 := hτ 1
    exact ⟨by omega, by omega, Nat.le_refl _, by omega, h2, h3⟩
-- a success answered
def su_q (q : Nat → Nat) (N t k : Nat) : Nat := if k = 0 then 0 else if k = 1 then 0 else if k = 3 then N + 64 * t else q k
theorem RS_suc {τ : Nat → Nat} {t M N : Nat} {q : Nat → Nat} {sg : Nat} {c : CM} {s : MM} {a : Nat} (hG : RG N t c s) (h : RS τ t M q sg c s a) (h2 : q 2 ≤ τ 2) (hτ : ∀ k, τ k ≤ N) (hM : N + 64 * t ≤ M) (ht : 1 ≤ t) : RG N t (sv_suc c a) (mI (m_serve s a 4) 183 (4 * a + 3) (s.1 170 1 + 64 * s.1 170 0)) ∧ RS τ t M (su_q q N t) sg (sv_suc c a) (mI (m_serve s a 4) 183 (4 * a + 3) (s.1 170 1 + 64 * s.1 170 0)) a := by
  obtain ⟨⟨g1, g2, g3⟩, g6, g7, g9⟩ := h
  unfold sv_suc sv_mv sv_m2 sv_m5 m_serve
  simp only [v42, v45, if_true, if_false, hG.1.1, hG.1.2, hG.2.1.2]
  refine ⟨RG_m (RG_m (RG_m (RG_m (RG_set (RG_stp (RG_stp (RG_c hG g3S) g3G) g3G) g3G) (by decide)) (by decide)) (by decide)) (by decide), ⟨?_, ?_, ?_⟩, ?_, ?_, ?_⟩
  · simp only [cI_at, set_at, stop_t, add_at, nSG, nGS, nS2, nG2, n2S, n2G, nS1, nG1, n1S, n1G, n12, n21, pG_e, mI_at, send_at, e40, e4k, eq_self, true_and, and_true, false_and, and_false, and_self, if_true, if_false, Nat.reduceEqDiff, reduceIte, Nat.reduceAdd, v40]
  · simp only [cI_at, set_at, stop_t, add_at, nSG, nGS, nS2, nG2, n2S, n2G, nS1, nG1, n1S, n1G, n12, n21, pG_e, mI_at, send_at, e40, e4k, eq_self, true_and, and_true, false_and, and_false, and_self, if_true, if_false, Nat.reduceEqDiff, reduceIte, Nat.reduceAdd]; exact g2
  · simp only [cI_at, set_at, stop_t, add_at, nSG, nGS, nS2, nG2, n2S, n2G, nS1, nG1, n1S, n1G, n12, n21, pG_e, mI_at, send_at, e40, e4k, eq_self, true_and, and_true, false_and, and_false, and_self, if_true, if_false, Nat.reduceEqDiff, reduceIte, Nat.reduceAdd]; exact g3
  · intro k hk
    rcases k4 hk with rfl | rfl | rfl | rfl
    · simp only [cI_at, set_at, stop_t, add_at, nSG, nGS, nS2, nG2, n2S, n2G, nS1, nG1, n1S, n1G, n12, n21, pG_e, mI_at, send_at, e40, e4k, eq_self, true_and, and_true, false_and, and_false, and_self, if_true, if_false, Nat.reduceEqDiff, reduceIte, Nat.reduceAdd, su_q]; exact ⟨rfl, zT⟩
    · simp only [cI_at, set_at, stop_t, add_at, nSG, nGS, nS2, nG2, n2S, n2G, nS1, nG1, n1S, n1G, n12, n21, pG_e, mI_at, send_at, e40, e4k, eq_self, true_and, and_true, false_and, and_false, and_self, if_true, if_false, Nat.reduceEqDiff, reduceIte, Nat.reduceAdd, su_q]; exact ⟨rfl, zT⟩
    · simp only [cI_at, set_at, stop_t, add_at, nSG, nGS, nS2, nG2, n2S, n2G, nS1, nG1, n1S, n1G, n12, n21, pG_e, mI_at, send_at, e40, e4k, eq_self, true_and, and_true, false_and, and_false, and_self, if_true, if_false, Nat.reduceEqDiff, reduceIte, Nat.reduceAdd, su_q]; exact g6 2 hk
    · simp only [cI_at, set_at, stop_t, add_at, nSG, nGS, nS2, nG2, n2S, n2G, nS1, nG1, n1S, n1G, n12, n21, pG_e, mI_at, send_at, e40, e4k, eq_self, true_and, and_true, false_and, and_false, and_self, if_true, if_false, Nat.reduceEqDiff, reduceIte, Nat.reduceAdd, su_q, hG.2.1.1, ml64, nI_add]
      exact ⟨(if_pos (by have := hτ 3; omega)).symm, by omega⟩
  · simp only [cI_at, set_at, stop_t, add_at, nSG, nGS, nS2, nG2, n2S, n2G, nS1, nG1, n1S, n1G, n12, n21, pG_e, mI_at, send_at, e40, e4k, eq_self, true_and, and_true, false_and, and_false, and_self, if_true, if_false, Nat.reduceEqDiff, reduceIte, Nat.reduceAdd]; exact g7
  · refine Or.inr (Or.inr (Or.inr (Or.inr (Or.inl ?_))))
    simp only [cI_at, set_at, stop_t, add_at, nSG, nGS, nS2, nG2, n2S, n2G, nS1, nG1, n1S, n1G, n12, n21, pG_e, mI_at, send_at, e40, e4k, eq_self, true_and, and_true, false_and, and_false, and_self, if_true, if_false, Nat.reduceEqDiff, reduceIte, Nat.reduceAdd, su_q]
    exact ⟨Nat.zero_le _, Nat.zero_le _, h2⟩
-- acknowledged
def co_q (q : Nat → Nat) (N t k : Nat) : Nat := if k = 0 then 0 else if k = 1 then 0 else if k = 2 then N + 8 * t else q k
theorem RS_conf {τ : Nat → Nat} {t M N : Nat} {q : Nat → Nat} {sg : Nat} {c : CM} {s : MM} {a : Nat} (hG : RG N t c s) (h : RS τ t M q sg c s a) (h3 : q 3 ≤ τ 3) (hτ : ∀ k, τ k ≤ N) (hM : N + 64 * t ≤ M) (ht : 1 ≤ t) : RG N t (sv_conf c a) (mI (m_serve s a 3) 183 (4 * a + 2) (s.1 170 1 + 8 * s.1 170 0)) ∧ RS τ t M (co_q q N t) sg (sv_conf c a) (mI (m_serve s a 3) 183 (4 * a + 2) (s.1 170 1 + 8 * s.1 170 0)) a := by
  obtain ⟨⟨g1, g2, g3⟩, g6, g7, g9⟩ := h
  unfold sv_conf sv_mv sv_m2 sv_m5 m_serve
  simp only [v32, v35, if_true, if_false, hG.1.1, hG.1.2, hG.2.1.2]
  refine ⟨RG_m (RG_m (RG_m (RG_m (RG_set (RG_stp (RG_stp (RG_c hG g3S) g3G) g3G) g3G) (by decide)) (by decide)) (by decide)) (by decide), ⟨?_, ?_, ?_⟩, ?_, ?_, ?_⟩
  · simp only [cI_at, set_at, stop_t, add_at, nSG, nGS, nS2, nG2, n2S, n2G, nS1, nG1, n1S, n1G, n12, n21, pG_e, mI_at, send_at, e40, e4k, eq_self, true_and, and_true, false_and, and_false, and_self, if_true, if_false, Nat.reduceEqDiff, reduceIte, Nat.reduceAdd, v30]
  · simp only [cI_at, set_at, stop_t, add_at, nSG, nGS, nS2, nG2, n2S, n2G, nS1, nG1, n1S, n1G, n12, n21, pG_e, mI_at, send_at, e40, e4k, eq_self, true_and, and_true, false_and, and_false, and_self, if_true, if_false, Nat.reduceEqDiff, reduceIte, Nat.reduceAdd]; exact g2
  · simp only [cI_at, set_at, stop_t, add_at, nSG, nGS, nS2, nG2, n2S, n2G, nS1, nG1, n1S, n1G, n12, n21, pG_e, mI_at, send_at, e40, e4k, eq_self, true_and, and_true, false_and, and_false, and_self, if_true, if_false, Nat.reduceEqDiff, reduceIte, Nat.reduceAdd]; exact g3
  · intro k hk
    rcases k4 hk with rfl | rfl | rfl | rfl
    · simp only [cI_at, set_at, stop_t, add_at, nSG, nGS, nS2, nG2, n2S, n2G, nS1, nG1, n1S, n1G, n12, n21, pG_e, mI_at, send_at, e40, e4k, eq_self, true_and, and_true, false_and, and_false, and_self, if_true, if_false, Nat.reduceEqDiff, reduceIte, Nat.reduceAdd, co_q]; exact ⟨rfl, zT⟩
    · simp only [cI_at, set_at, stop_t, add_at, nSG, nGS, nS2, nG2, n2S, n2G, nS1, nG1, n1S, n1G, n12, n21, pG_e, mI_at, send_at, e40, e4k, eq_self, true_and, and_true, false_and, and_false, and_self, if_true, if_false, Nat.reduceEqDiff, reduceIte, Nat.reduceAdd, co_q]; exact ⟨rfl, zT⟩
    · simp only [cI_at, set_at, stop_t, add_at, nSG, nGS, nS2, nG2, n2S, n2G, nS1, nG1, n1S, n1G, n12, n21, pG_e, mI_at, send_at, e40, e4k, eq_self, true_and, and_true, false_and, and_false, and_self, if_true, if_false, Nat.reduceEqDiff, reduceIte, Nat.reduceAdd, co_q, hG.2.1.1, ml8, nI_add]
      exact ⟨(if_pos (by have := hτ 2; omega)).symm, by omega⟩
    · simp only [cI_at, set_at, stop_t, add_at, nSG, nGS, nS2, nG2, n2S, n2G, nS1, nG1, n1S, n1G, n12, n21, pG_e, mI_at, send_at, e40, e4k, eq_self, true_and, and_true, false_and, and_false, and_self, if_true, if_false, Nat.reduceEqDiff, reduceIte, Nat.reduceAdd, co_q]; exact g6 3 hk
  · simp only [cI_at, set_at, stop_t, add_at, nSG, nGS, nS2, nG2, n2S, n2G, nS1, nG1, n1S, n1G, n12, n21, pG_e, mI_at, send_at, e40, e4k, eq_self, true_and, and_true, false_and, and_false, and_self, if_true, if_false, Nat.reduceEqDiff, reduceIte, Nat.reduceAdd]; exact g7
  · refine Or.inr (Or.inr (Or.inr (Or.inl ?_)))
    simp only [cI_at, set_at, stop_t, add_at, nSG, nGS, nS2, nG2, n2S, n2G, nS1, nG1, n1S, n1G, n12, n21, pG_e, mI_at, send_at, e40, e4k, eq_self, true_and, and_true, false_and, and_false, and_self, if_true, if_false, Nat.reduceEqDiff, reduceIte, Nat.reduceAdd, co_q]
    exact ⟨Nat.zero_le _, Nat.zero_le _, h3⟩
