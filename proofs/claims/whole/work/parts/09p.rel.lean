def tb (T N i : Nat) (j : Nat) : Nat → Nat := if j < i then fun _ => N else fun _ => T
theorem tb_s {T N i : Nat} : ub (tb T N i) i (fun _ => N) = tb T N (i + 1) := by
  funext j
  unfold ub tb
  by_cases e : j = i
  · rw [if_pos e, if_pos (by omega)]
  · rw [if_neg e]
    by_cases e2 : j < i
    · rw [if_pos e2, if_pos (by omega)]
    · rw [if_neg e2, if_neg (by omega)]
theorem RC_tb {τs : Nat → Nat} {τb τb' : Nat → Nat → Nat} {t M : Nat} {c : CM} {s : MM} {a n : Nat} (h : RC τs τb t M c s a n) (e : ∀ i, i < n → τb i = τb' i) : RC τs τb' t M c s a n := by
  obtain ⟨f1, f5, f6, f7, f8, f9⟩ := h
  refine ⟨f1, f5, f6, f7, fun i hi => ?_, f9⟩
  rw [← e i hi]
  exact f8 i hi
theorem SQ_tb {τs : Nat → Nat} {τb τb' : Nat → Nat → Nat} {N t M a n r : Nat} {c : CM} {s : MM} (h : SQ τs τb N t M a n r c s) (e : ∀ i, i < n → τb i = τb' i) : SQ τs τb' N t M a n r c s := ⟨⟨h.1.1, RC_tb h.1.2.1 e, h.1.2.2⟩, h.2⟩
-- nothing due in a branch
theorem bdue_id {s : MM} {a j n N : Nat} (hT : s.1 170 1 = nI N) (h : ∀ k, k < 6 → ¬ s.1 192 (6 * (4 * a + j) + k) = nI N) : m_bdue s a j n = s := by
  have h' : ∀ k, k < 6 → ¬ s.1 192 (6 * (4 * a + j) + k) = s.1 170 1 := fun k hk => by rw [hT]; exact h k hk
  have d0 : m_d0 s a j = s := if_neg (by have := h' 0 (by decide); rw [Nat.add_zero] at this; exact this)
  unfold m_bdue
  rw [d0, di_1 (h' 1 (by decide)), di_2 (h' 2 (by decide)), di_3 (h' 3 (by decide)), di_4 (h' 4 (by decide)), di_5 (h' 5 (by decide))]
theorem RB_off {τ : Nat → Nat} {t M T N : Nat} {r : Nat → Nat} {sa se : Nat} {c : CM} {s : MM} {a i : Nat} (h : RB (fun _ => T) t M r sa se c s a i) (h4 : s.1 186 (4 * a + i) = 4) (hN : T + 1 = N) (hM : M < 2147483647) (hN2 : N < 2147483647) (k : Nat) (hk : k < 6) : ¬ s.1 192 (6 * (4 * a + i) + k) = nI N ∧ r k ≤ T := by
  have hr : r k ≤ T := by
    rcases h.2.2.2 with w | w | w | w
    · exact absurd (w.1.symm.trans h4) (by decide)
    · exact absurd (w.1.symm.trans h4) (by decide)
    · exact absurd (w.1.symm.trans h4) (by decide)
    · exact w.2.1 k hk
  refine ⟨fun e => ?_, hr⟩
  rw [(h.2.1 k hk).1, nI_eq (by have := (h.2.1 k hk).2.2; omega) (by omega)] at e
  omega
theorem live_4 {c : CM} {a n : Nat} (h : cl_live c a n = 0) : (∀ i, i < n → c.1 (pB a i) 11 = 4) ∧ c.1 (pS a) 7 = 5 := by
  unfold cl_live at h
  rw [lv_c] at h
  refine ⟨fun i hi => h.2 i (Nat.zero_le _) (by omega), ?_⟩
  by_cases e : c.1 (pS a) 7 = 5
  · exact e
  · rw [if_neg e] at h; exact absurd h.1 (by decide)
-- the branches, one after the other
theorem SQ_tbl {T N t M a n : Nat} (hN : T + 1 = N) (hM : N + 200 * t ≤ M) (hM2 : M < 2147483647) (ht : 1 ≤ t) (ht2 : t ≤ 100) : ∀ (d i r : Nat) (c : CM) (s : MM), i + d = n → r + d < 2147483647 → SQ (fun _ => N) (tb T N i) N t M a n r c s → ∃ r', SQ (fun _ => N) (tb T N n) N t M a n r' (cl_rl a n d i c) (m_tb a n d i s) ∧ r ≤ r' ∧ r' ≤ r + d ∧ Fr a c (cl_rl a n d i c) ∧ Fm a s (m_tb a n d i s) := by
  intro d
  induction d with
  | zero =>
    intro i r c s hi _ h
    obtain rfl : i = n := by omega
    exact ⟨r, h, Nat.le_refl _, Nat.le_refl _, Fr_r _ _, Fm_r⟩
  | succ d ih =>
    intro i r c s hi hr h
    have hin : i < n := by omega
    have hti : tb T N i i = fun _ => T := if_neg (by omega)
    obtain ⟨r1, A1, A2, A3, A4, A5⟩ := SQ_bdue h hin hti hN (fun _ => Nat.le_refl _) hM hM2 ht ht2 (by omega)
    rw [tb_s] at A1
    simp only [cl_rl, m_tb]
    have e : (if m_on s a n = 0 then s else m_bdue s a i n) = m_bdue s a i n := by
      by_cases ho : m_on s a n = 0
      · rw [if_pos ho]
        have h4 := (live_4 ((RC_use h.1.2.1).mp ho)).1 i hin
        rw [RC_st h.1.2.1 hin] at h4
        obtain ⟨r0, sa, se, hB⟩ := h.1.2.1.2.2.2.2.1 i hin
        rw [hti] at hB
        exact (bdue_id h.1.1.2.1.2 (fun k hk => (RB_off (τ := fun _ => T) hB h4 hN hM2 (by omega) k hk).1)).symm
      · rw [if_neg ho]
    rw [e]
    obtain ⟨r2, B1, B2, B3, B4, B5⟩ := ih (i + 1) r1 _ _ (by omega) (by omega) A1
    exact ⟨r2, B1, by omega, by omega, Fr_t A4 B4, Fm_t A5 B5⟩
theorem sd_n {s : MM} {a : Nat} : (m_sdue s a).1 181 a = s.1 181 a ∨ (m_sdue s a).1 181 a = 5 := by
  have e0 : (m_sd0 s a).1 181 a = s.1 181 a := by
    unfold m_sd0; split
    · simp only [cI_at, set_at, stop_t, add_at, nSG, nGS, nS2, nG2, n2S, n2G, nS1, nG1, n1S, n1G, n12, n21, pG_e, mI_at, send_at, e40, e4k, eq_self, true_and, and_true, false_and, and_false, and_self, if_true, if_false, Nat.reduceEqDiff, reduceIte, Nat.reduceAdd]
      unfold m_tell; split
      · simp only [cI_at, set_at, stop_t, add_at, nSG, nGS, nS2, nG2, n2S, n2G, nS1, nG1, n1S, n1G, n12, n21, pG_e, mI_at, send_at, e40, e4k, eq_self, true_and, and_true, false_and, and_false, and_self, if_true, if_false, Nat.reduceEqDiff, reduceIte, Nat.reduceAdd]
      · simp only [cI_at, set_at, stop_t, add_at, nSG, nGS, nS2, nG2, n2S, n2G, nS1, nG1, n1S, n1G, n12, n21, pG_e, mI_at, send_at, e40, e4k, eq_self, true_and, and_true, false_and, and_false, and_self, if_true, if_false, Nat.reduceEqDiff, reduceIte, Nat.reduceAdd]
    · rfl
  unfold m_sdue m_sd1; split
  · right
    unfold m_serve
    rw [if_neg (by decide)]
    simp only [cI_at, set_at, stop_t, add_at, nSG, nGS, nS2, nG2, n2S, n2G, nS1, nG1, n1S, n1G, n12, n21, pG_e, mI_at, send_at, e40, e4k, eq_self, true_and, and_true, false_and, and_false, and_self, if_true, if_false, Nat.reduceEqDiff, reduceIte, Nat.reduceAdd]
  · left; exact e0
-- the timers of one call
theorem SQ_run {T N t M a n r : Nat} {c : CM} {s : MM} (hN : T + 1 = N) (hM : N + 200 * t ≤ M) (hM2 : M < 2147483647) (ht : 1 ≤ t) (ht2 : t ≤ 100) (hr : r + 4 < 2147483647) (h : SQ (fun _ => T) (fun _ _ => T) N t M a n r c s) : ∃ r', SQ (fun _ => N) (fun _ _ => N) N t M a n r' (if cl_live c a n = 0 then c else cl_run c a n) (m_tc s a n) ∧ r ≤ r' ∧ r' ≤ r + 4 ∧ Fr a c (if cl_live c a n = 0 then c else cl_run c a n) ∧ Fm a s (m_tc s a n) := by
  have hn := h.1.2.1.1.2.2.1
  by_cases hl : cl_live c a n = 0
  · -- not in use
    rw [if_pos hl]
    have ho := (RC_use h.1.2.1).mpr hl
    have tbid : ∀ d j, m_tb a n d j s = s := by
      intro d
      induction d with
      | zero => intro j; rfl
      | succ d ih => intro j; simp only [m_tb]; rw [if_pos ho]; exact ih _
    have e : m_tc s a n = s := by
      unfold m_tc
      rw [if_pos ho]; exact tbid _ _
    rw [e]
    obtain ⟨⟨g1, g2, g3, g4⟩, q1⟩ := h
    obtain ⟨f1, ⟨q, sg, hS⟩, f6, f7, f8, f9⟩ := g2
    have l4 := live_4 hl
    refine ⟨r, ⟨⟨g1, ⟨f1, ⟨q, sg, ?_⟩, f6, f7, fun i hi => ?_, f9⟩, g3, g4⟩, q1⟩, Nat.le_refl _, by omega, Fr_r _ _, Fm_r⟩
    · refine RS_mono hS (fun k hk => ?_)
      show T < q k ↔ N < q k
      have : q k ≤ T := by
        rcases (RS_5 hS).mp l4.2 with e | e
        · rcases hS.2.2.2 with w | w | w | w | w | w
          · exact w.2 k hk
          · exact w.2 k hk
          · exact absurd (w.1.symm.trans e) (by decide)
          · exact absurd (w.1.symm.trans e) (by decide)
          · exact absurd (w.1.symm.trans e) (by decide)
          · exact w.2 k hk
        · rcases hS.2.2.2 with w | w | w | w | w | w
          · exact w.2 k hk
          · exact w.2 k hk
          · exact absurd (w.1.symm.trans e) (by decide)
          · exact absurd (w.1.symm.trans e) (by decide)
          · exact absurd (w.1.symm.trans e) (by decide)
          · exact w.2 k hk
      omega
    · obtain ⟨r0, sa, se, hB⟩ := f8 i hi
      refine ⟨r0, sa, se, RB_mono hB (fun k hk => ?_)⟩
      show T < r0 k ↔ N < r0 k
      have h4 : s.1 186 (4 * a + i) = 4 := hB.1.1.symm.trans (l4.1 i hi)
      have := (RB_off (τ := fun _ => T) hB h4 hN hM2 (by omega) k hk).2
      omega
  · rw [if_neg hl]
    have ho : ¬ m_on s a n = 0 := fun w => hl ((RC_use h.1.2.1).mp w)
    unfold cl_run m_tc
    rw [if_neg ho]
    -- its server
    have A : SQ (fun _ => N) (fun _ _ => T) N t M a n r (sv_run c a) (m_sdue s a) ∧ Fr a c (sv_run c a) ∧ Fm a s (m_sdue s a) := by
      obtain ⟨⟨g1, g2, g3, g4⟩, q1⟩ := h
      obtain ⟨q, sg, hS⟩ := g2.2.1
      obtain ⟨hG1, q', sg', hS1⟩ := RS_due g1 hS hN hM hM2 ht ht2
      have s0 : ¬ s.1 181 a = 0 := fun w => ho (by unfold m_on; rw [if_pos w])
      have := SB_sv (τ' := fun _ => N) ⟨g1, g2, g3, g4⟩ hG1 Ts_run Td_sdue ⟨q', sg', hS1⟩ (fun v => by
        rcases sd_n (s := s) (a := a) with e | e
        · rw [e] at v; exact absurd v s0
        · rw [e] at v; exact absurd v (by decide))
      refine ⟨⟨this.1, Q1_s q1 Td_sdue (fun v => ?_)⟩, this.2.1, this.2.2⟩
      rcases sd_n (s := s) (a := a) with e | e
      · rw [e] at v; exact v
      · rw [e] at v; exact absurd v (by decide)
    obtain ⟨A1, A2, A3⟩ := A
    have A4 := SQ_tb (τb' := tb T N 0) A1 (fun i _ => (if_neg (Nat.not_lt_zero _)).symm)
    obtain ⟨r', B1, B2, B3, B4, B5⟩ := SQ_tbl hN hM hM2 ht ht2 n 0 r _ _ (by omega) (by omega) A4
    exact ⟨r', SQ_tb B1 (fun i hi => if_pos hi), B2, by omega, Fr_t A2 B4, Fm_t A3 B5⟩
-- nothing due in the call: only the instant passes
theorem SQ_none {T N t M a n r : Nat} {c : CM} {s : MM} (hN : T + 1 = N) (hM2 : M < 2147483647) (hN2 : N < 2147483647) (h : SQ (fun _ => T) (fun _ _ => T) N t M a n r c s) (hg : ∀ k, k < 4 → ¬ c.1 (pG a k) 2 = nI N) (hb : ∀ i k, i < n → k < 6 → ¬ c.1 (pT a i k) 2 = nI N) : SQ (fun _ => N) (fun _ _ => N) N t M a n r c s ∧ m_tc s a n = s := by
  obtain ⟨⟨g1, g2, g3, g4⟩, q1⟩ := h
  have g2' := g2
  obtain ⟨f1, ⟨q, sg, hS⟩, f6, f7, f8, f9⟩ := g2
  obtain ⟨e1, hS1⟩ := RS_none hS hN hM2 hN2 g1.2.1.2 hg
  have hB : ∀ i, i < n → (∃ r sa se, RB (fun _ => N) t M r sa se c s a i) ∧ m_bdue s a i n = s := fun i hi => by
    obtain ⟨r0, sa, se, hB⟩ := f8 i hi
    have hr : ∀ k, k < 6 → ¬ r0 k = N := fun k hk e => hb i k hi hk ((du_c (hB.2.1 k hk).2.1 hN (by have := (hB.2.1 k hk).2.2; omega) hN2).mpr e)
    refine ⟨⟨r0, sa, se, RB_mono hB (fun k hk => ?_)⟩, bdue_id g1.2.1.2 (fun k hk e => ?_)⟩
    · show T < r0 k ↔ N < r0 k
      have := hr k hk
      omega
    · rw [(hB.2.1 k hk).1, nI_eq (by have := (hB.2.1 k hk).2.2; omega) (by omega)] at e
      exact hr k hk e
  refine ⟨⟨⟨g1, ⟨f1, ⟨q, sg, hS1⟩, f6, f7, fun i hi => (hB i hi).1, f9⟩, g3, g4⟩, q1⟩, ?_⟩
  have tbid : ∀ d j, j + d ≤ n → m_tb a n d j s = s := by
    intro d
    induction d with
    | zero => intro j _; rfl
    | succ d ih =>
      intro j hj
      simp only [m_tb]
      rw [(hB j (by omega)).2]
      have : (if m_on s a n = 0 then s else s) = s := by split <;> rfl
      rw [this]; exact ih _ (by omega)
  unfold m_tc
  rw [e1]
  have : (if m_on s a n = 0 then s else s) = s := by split <;> rfl
  rw [this]
  exact tbid n 0 (by omega)
