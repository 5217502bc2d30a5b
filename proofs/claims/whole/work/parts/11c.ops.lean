theorem RS_C {τ : Nat → Nat} {t M : Nat} {q : Nat → Nat} {sg : Nat} {c : CM} {s : MM} {a j : Nat} {v : Int32} (h : RS τ t M q sg c s a) : RS τ t M q sg (cI c (pC a) j v) s a := RS_eq h (fun p i hp => by rw [cI_at, if_neg (by unfold pS pC at *; omega)]) (fun _ _ _ => rfl)
theorem RS_85 {τ : Nat → Nat} {t M : Nat} {q : Nat → Nat} {sg : Nat} {c : CM} {s : MM} {a : Nat} {v : Int32} (h : RS τ t M q sg c s a) : RS τ t M q sg c (mI s 185 a v) a := RS_eq h (fun _ _ _ => rfl) (fun p i hp => by rw [mI_at, if_neg (by omega)])
theorem RG_z4 {N t a : Nat} {c : CM} {s : MM} (h : RG N t c s) : RG N t c (m_z4 s a) := RG_m (RG_m (RG_m (RG_m h (by decide)) (by decide)) (by decide)) (by decide)
theorem Td_z4 {a : Nat} {s : MM} : Td (QS a) s (m_z4 s a) := Td_t (Td_t (Td_t (Td_I QS_t0) (Td_I (QS_t (by decide)))) (Td_I (QS_t (by decide)))) (Td_I (QS_t (by decide)))
theorem Fm_I {a p j : Nat} {s : MM} {v : Int32} (h : MA a p j) : Fm a s (mI s p j v) := fun q i h1 _ => by rw [mI_at, if_neg (fun w => h1 (by rw [w.1, w.2]; exact h))]
-- a call that is not in use
theorem idle {N t M a n r : Nat} {c : CM} {s : MM} (h : SN N t M a n r c s) (hl : cl_live c a n = 0) : (∀ i, i < 4 → c.1 (pB a i) 11 = 4 ∧ ∀ k, k < 6 → c.1 (pT a i k) 2 = NV) ∧ (s.1 181 a = 0 ∨ s.1 181 a = 5) := by
  obtain ⟨l1, l2⟩ := live_4 hl
  obtain ⟨f1, ⟨q, sg, hS⟩, f6, f7, f8, f9⟩ := h.1.2.1
  refine ⟨fun i hi => ?_, (RS_5 hS).mp l2⟩
  by_cases e : i < n
  · refine ⟨l1 i e, fun k hk => ?_⟩
    obtain ⟨r0, sa, se, hB⟩ := f8 i e
    have s4 : s.1 186 (4 * a + i) = 4 := hB.1.1.symm.trans (l1 i e)
    have w := hB.2.2.2
    rw [s4] at w
    rw [(hB.2.1 k hk).2.1, if_neg]
    rcases w with w | w | w | w
    · exact absurd w.1 (by decide)
    · exact absurd w.1 (by decide)
    · exact absurd w.1 (by decide)
    · have := w.2.1 k hk; omega
  · exact f9 i (by omega) hi
theorem SN_ref {N t M a n r : Nat} {c : CM} {s : MM} {w : Int32} (h : SN N t M a n r c s) (hl : cl_live c a n = 0) (hM : N + 200 * t ≤ M) (ht : 1 ≤ t) (hw : w < 200 ∨ 299 < w) : SN N t M a 0 r (cl_ref c a w) (m_answer (m_ivA s a) a w) ∧ Fr a c (cl_ref c a w) ∧ Fm a s (m_answer (m_ivA s a) a w) := by
  obtain ⟨i1, i2⟩ := idle h hl
  obtain ⟨⟨g1, g2, g3, g4⟩, q1⟩ := h
  obtain ⟨f1, ⟨q, sg, hS⟩, f6, f7, f8, f9⟩ := g2
  have h1 := RS_85 (v := 0) (RS_C (j := 3) (v := 0) (RS_z4 hS i2))
  have hG : RG N t (cI c (pC a) 3 0) (m_ivA s a) := RG_m (RG_z4 (RG_c g1 g3C)) (by decide)
  obtain ⟨a1, a2⟩ := RS_answer hG h1 hw (Nat.zero_le _) (Nat.zero_le _) (fun _ => Nat.le_refl _) (by omega) ht
  have tc := Ts_fail (c := cI c (pC a) 3 0) (a := a) (w := w)
  have td := Td_answer (s := m_ivA s a) (a := a) (w := w)
  have eB : ∀ p j, pB a 0 ≤ p ∧ p < pB a 0 + 28 → (cl_ref c a w).1 p j = c.1 p j := fun p j hp => by
    unfold cl_ref
    rw [tc.1 p j (by unfold PS pS pB at *; omega), cI_at, if_neg (by unfold pB pC at *; omega)]
  have e28 : (m_answer (m_ivA s a) a w).1 170 28 = s.1 170 28 := by
    rw [td 170 28 (by unfold QS; omega)]
    unfold m_ivA
    rw [mI_at, if_neg (by omega), Td_z4 170 28 (by unfold QS; omega)]
  refine ⟨⟨⟨a1, ⟨⟨?_, ?_, by omega, ?_⟩, ⟨_, _, a2⟩, fun _ => rfl, ?_, fun i hi => by omega, ?_⟩, ⟨fun _ => 0, fun _ => 0, ?_⟩, ?_⟩, ?_⟩, ?_, ?_⟩
  · unfold cl_ref
    rw [tc.1 (pC a) 3 (by unfold PS pS pC; omega), cI_at, if_pos ⟨rfl, rfl⟩]; rfl
  · rw [td 185 a (by unfold QS; omega)]
    unfold m_ivA
    rw [mI_at, if_pos ⟨rfl, rfl⟩]; rfl
  · unfold cl_ref
    rw [tc.1 (pC a) 0 (by unfold PS pS pC; omega), cI_at, if_neg (by omega)]; exact f1.2.2.2
  · intro i hi
    rw [eB _ _ (by unfold pB; omega), eB _ _ (by unfold pB; omega)]; exact f7 i hi
  · intro i _ hi
    rw [eB _ _ (by unfold pB; omega)]
    refine ⟨(i1 i hi).1, fun k hk => ?_⟩
    rw [eB _ _ (by unfold pT pB; omega)]; exact (i1 i hi).2 k hk
  · exact ⟨Or.inl rfl, fun i hi => by omega, fun i hi => by omega, fun i j hi => by omega⟩
  · rw [e28]; exact g4
  · exact fun _ i hi => by omega
  · exact Fr_t (Fr_I (in_C a)) Fr_sfail
  · exact Fm_t (Fm_t (Fm_S Td_z4) (Fm_I (by unfold MA; omega))) (Fm_S td)
-- forking, branch by branch
def FK (N t M a u m j r A : Nat) (k f : Nat → Nat) (c : CM) (s : MM) : Prop :=
  RG N t c s ∧ (c.1 (pC a) 3 = nI j ∧ c.1 (pC a) 4 = 0 ∧ c.1 (pC a) 0 = nI a ∧ s.1 185 a = nI m ∧ s.1 181 a = 1 ∧ s.1 170 28 = nI r) ∧ (∃ q sg, RS (fun _ => N) t M q sg c s a)
  ∧ (∀ i, i < 4 → c.1 (pB a i) 2 = nI a ∧ c.1 (pB a i) 3 = nI i)
  ∧ (∀ i, i < j → s.1 186 (4 * a + i) = 1 ∧ s.1 190 (4 * a + i) = 0 ∧ ∃ r sa se, RB (fun _ => N) t M r sa se c s a i)
  ∧ (∀ i, j ≤ i → i < 4 → c.1 (pB a i) 11 = 4 ∧ ∀ k, k < 6 → c.1 (pT a i k) 2 = NV) ∧ UF N A c s u m k f
theorem UF_eq {T A u m : Nat} {k f : Nat → Nat} {c c' : CM} {s s' : MM} (h : UF T A c s u m k f) (hu : u < 4) (hT : T < 2147483647) (hc : ∀ q j, 5 ≤ q → q < 30 → c'.1 q j = c.1 q j) (hp : c'.2.1 = c.2.1) (hs : ∀ p j, 177 ≤ p → p ≤ 180 → s'.1 p j = s.1 p j) : UF T A c' s' u m k f := by
  refine ⟨UB_eq h.1 (Nat.le_refl _) hT (Nat.le_refl _) (hc _ _ (by unfold pU; omega) (by unfold pU; omega)) (fun b j hb => hc _ _ (by unfold pN; omega) (by unfold pN; omega)) (fun j => by rw [hp]) (fun p x h1 h2 _ => hs p _ h1 h2), fun j hj => ?_⟩
  have e : bn c' u j 2 = bn c u j 2 := by
    unfold bn
    have := h.1.1.2.2.1 j (by have := h.1.1.2.1; omega)
    rw [hp, hc _ _ (by unfold pN; omega) (by unfold pN; omega)]
  rw [e]; exact h.2 j hj
theorem beg_B {c : CM} {a i : Nat} {w : Int32} : (b_beg c a i w).1 (pB a i) 2 = c.1 (pB a i) 2 ∧ (b_beg c a i w).1 (pB a i) 3 = c.1 (pB a i) 3 := by
  unfold b_beg b_b4 b_mv b_mA b_mO b_mD
  simp only [w14, true_or, if_true, if_false, cI_at, set_at, stop_t, add_at, nBT, nTB, nB2, nT2, n2B, n2T, nB1, nT1, n1B, n1T, n12, n21, pT_e, mI_at, send_at, e60, e6k, eq_self, true_and, and_true, false_and, and_false, and_self, if_true, if_false, Nat.reduceEqDiff, reduceIte, Nat.reduceAdd]
theorem beg_s {s : MM} {a i : Nat} {w : Int32} : (m_begin s a i w).1 186 (4 * a + i) = 1 ∧ (m_begin s a i w).1 190 (4 * a + i) = 0 := by
  unfold m_begin m_b5 m_t6
  simp only [cI_at, set_at, stop_t, add_at, nBT, nTB, nB2, nT2, n2B, n2T, nB1, nT1, n1B, n1T, n12, n21, pT_e, mI_at, send_at, e60, e6k, eq_self, true_and, and_true, false_and, and_false, and_self, if_true, if_false, Nat.reduceEqDiff, reduceIte, Nat.reduceAdd]
theorem FK_s {N t M a u m j r A : Nat} {k f : Nat → Nat} {c : CM} {s : MM} {w : Int32} (hu : u < 4) (hT : N < 2147483647) (hj : j < 4) (hM : N + 200 * t ≤ M) (ht : 1 ≤ t) (h : FK N t M a u m j r A k f c s) : FK N t M a u m (j + 1) r A k f (cl_fs c a j w) (m_begin s a j w) := by
  obtain ⟨g1, ⟨g2, g3, g4, g5, g6, g7⟩, ⟨q, sg, g8⟩, g9, g10, g11, g12⟩ := h
  obtain ⟨b1, se, b2⟩ := RB_beg (w := w) (τ := fun _ => N) g1 (g9 j hj) (g11 j (Nat.le_refl _) hj).2 (fun _ => Nat.le_refl _) hM ht
  have tb := Tb_beg (c := c) (a := a) (i := j) (w := w)
  have td := Td_beg (s := s) (a := a) (i := j) (w := w)
  have eC : ∀ p i, ¬ (p = pC a ∧ i = 3) → (cl_fs c a j w).1 p i = (b_beg c a j w).1 p i := fun p i hp => by
    unfold cl_fs; rw [cI_at, if_neg hp]
  have e1 : ∀ p i, ¬ PB a j p → ¬ (p = pC a ∧ i = 3) → (cl_fs c a j w).1 p i = c.1 p i := fun p i h1 h2 => by
    rw [eC p i h2, tb.1 p i h1]
  refine ⟨RG_c b1 g3C, ⟨?_, ?_, ?_, ?_, ?_, ?_⟩, ⟨q, sg, RS_eq g8 (fun p i hp => e1 p i (by unfold PB pB pS at *; omega) (by unfold pS pC at *; omega)) (fun p i hp => td p i (by unfold QB; omega))⟩, ?_, ?_, ?_, UF_eq g12 hu hT (fun p i h1 h2 => e1 p i (by unfold PB pB; omega) (by unfold pC; omega)) tb.2 (fun p i h1 h2 => td p i (by unfold QB; omega))⟩
  · unfold cl_fs
    rw [cI_at, if_pos ⟨rfl, rfl⟩, tb.1 (pC a) 3 (by unfold PB pB pC; omega), g2, ad1]
  · rw [e1 _ _ (by unfold PB pB pC; omega) (by omega)]; exact g3
  · rw [e1 _ _ (by unfold PB pB pC; omega) (by omega)]; exact g4
  · rw [td 185 a (by unfold QB; omega)]; exact g5
  · rw [td 181 a (by unfold QB; omega)]; exact g6
  · rw [td 170 28 (by unfold QB; omega)]; exact g7
  · intro i hi
    rw [eC _ _ (by unfold pB pC; omega), eC _ _ (by unfold pB pC; omega)]
    by_cases e : i = j
    · rw [e, beg_B.1, beg_B.2]; exact g9 j hj
    · rw [tb.1 _ _ (by unfold PB pB; omega), tb.1 _ _ (by unfold PB pB; omega)]; exact g9 i hi
  · intro i hi
    by_cases e : i = j
    · rw [e]
      exact ⟨beg_s.1, beg_s.2, _, _, _, RB_eq b2 (fun p l hp => eC p l (by unfold pB pC at *; omega)) (fun _ _ _ => rfl)⟩
    · obtain ⟨x1, x2, r0, sa, se0, x3⟩ := g10 i (by omega)
      rw [td 186 _ (by unfold QB; omega), td 190 _ (by unfold QB; omega)]
      exact ⟨x1, x2, r0, sa, se0, RB_eq x3 (fun p l hp => e1 p l (by unfold PB pB at *; omega) (by unfold pB pC at *; omega)) (fun p l hp => td p l (by unfold QB; omega))⟩
  · intro i h1 h2
    rw [e1 _ _ (by unfold PB pB; omega) (by unfold pB pC; omega)]
    refine ⟨(g11 i (by omega) h2).1, fun k hk => ?_⟩
    rw [e1 _ _ (by unfold PB pB pT; omega) (by unfold pT pC; omega)]
    exact (g11 i (by omega) h2).2 k hk
theorem fk_tail {a u m : Nat} (hm : m ≤ 4) : ∀ (d j : Nat) (c : CM), m ≤ j → j + d ≤ 4 → cl_fk a u m d j c = c := by
  intro d
  induction d with
  | zero => intro j c _ _; rw [cl_fk]
  | succ d ih =>
    intro j c h1 h2
    rw [cl_fk, urd_none hm h1 (by omega)]
    exact ih (j + 1) c (by omega) (by omega)
theorem FK_l {N t M a u m r A : Nat} {k f : Nat → Nat} (hu : u < 4) (hT : N < 2147483647) (hA : A < 2147483647) (hm : m ≤ 4) (hM : N + 200 * t ≤ M) (ht : 1 ≤ t) : ∀ (d e j : Nat) (c : CM) (s : MM), j + d = m → m + e = 4 → FK N t M a u m j r A k f c s → FK N t M a u m m r A k f (cl_fk a u m (d + e) j c) (m_fk a u d j s) ∧ Fr a c (cl_fk a u m (d + e) j c) ∧ Fm a s (m_fk a u d j s) := by
  intro d
  induction d with
  | zero =>
    intro e j c s h1 h2 h
    have e1 : j = m := by omega
    rw [Nat.zero_add, fk_tail hm e j c (by omega) (by omega), m_fk]
    rw [e1] at h
    exact ⟨h, Fr_r _ _, Fm_r⟩
  | succ d ih =>
    intro e j c s h1 h2 h
    have hj : j < m := by omega
    obtain ⟨t0, e0⟩ := urd_some (c := c) (u := u) hm hj
    have g := h.2.2.2.2.2.2
    obtain ⟨x1, x2⟩ := UF_rd g h.1.2.1.2 hA e0
    rw [show d + 1 + e = (d + e) + 1 by omega, cl_fk, m_fk, e0, x1, ← (g.1.2.1 t0 x2).2.1]
    have s1 := FK_s (w := bn c u t0 0) hu hT (show j < 4 by omega) hM ht h
    obtain ⟨y1, y2, y3⟩ := ih e (j + 1) _ _ (by omega) h2 s1
    exact ⟨y1, Fr_t (Fr_fs (by omega)) y2, Fm_t (Fm_B (i := j) (by omega) (fun p l h1 _ => Td_beg p l h1)) y3⟩
theorem nc_0 {s : MM} {a : Nat} : ∀ n, (∀ i, i < n → m_going s (4 * a + i)) → nc s a n = 0 := by
  intro n
  induction n with
  | zero => intro _; rfl
  | succ n ih =>
    intro h
    rw [nc, ih (fun i hi => h i (by omega)), @if_pos _ (m_goingD s (4 * a + n)) (h n (by omega))]
theorem FK_e {N t M a u m r A : Nat} {k f : Nat → Nat} {c : CM} {s : MM} (hm : m ≤ 4) (h : FK N t M a u m m r A k f c s) : SN N t M a m r c s := by
  obtain ⟨g1, ⟨g2, g3, g4, g5, g6, g7⟩, g8, g9, g10, g11, g12⟩ := h
  have go : ∀ i, i < m → m_going s (4 * a + i) := fun i hi => Or.inl (g10 i hi).1
  refine ⟨⟨g1, ⟨⟨g2, g5, hm, g4⟩, g8, fun w => by rw [g6] at w; exact absurd w (by decide), g9, fun i hi => (g10 i hi).2.2, g11⟩, ⟨fun _ => 0, fun _ => 0, ?_⟩, g7⟩, ?_⟩
  · refine ⟨Or.inr ?_, fun i hi _ => (g10 i hi).2.1, fun i hi w => absurd (go i hi) w, fun i j hi _ w => absurd (go i hi) w⟩
    rw [nc_0 m go]; exact g3
  · exact fun _ i hi w => absurd (go i hi) w
theorem SN_fork {N t M a n r A u m : Nat} {k f : Nat → Nat} {c : CM} {s : MM} (h : SN N t M a n r c s) (hl : cl_live c a n = 0) (hF : UF N A c s u m k f) (hu : u < 4) (hT : N < 2147483647) (hA : A < 2147483647) (hM : N + 200 * t ≤ M) (ht : 1 ≤ t) : SN N t M a m r (cl_fork c a u m) (m_ivF s a u m) ∧ Fr a c (cl_fork c a u m) ∧ Fm a s (m_ivF s a u m) := by
  have hm : m ≤ 4 := hF.1.1.2.1
  obtain ⟨i1, i2⟩ := idle h hl
  obtain ⟨⟨g1, g2, g3, g4⟩, q1⟩ := h
  obtain ⟨f1, ⟨q, sg, hS⟩, f6, f7, f8, f9⟩ := g2
  have h1 := RS_85 (v := 0) (RS_C (j := 4) (v := 0) (RS_C (j := 3) (v := 0) (RS_z4 hS i2)))
  have hG : RG N t (cI (cI c (pC a) 3 0) (pC a) 4 0) (m_ivA s a) := RG_m (RG_z4 (RG_c (RG_c g1 g3C) g3C)) (by decide)
  obtain ⟨a1, a2⟩ := RS_one hG h1
  obtain ⟨a3, a4⟩ := RS_tell (w := 100) a1 a2 (Or.inl (Or.inl (by decide)))
  have tc : Tc (PS a) (cI (cI c (pC a) 3 0) (pC a) 4 0) (cl_f0 c a) := Tc_t Ts_mv Ts_tell
  have td : Td (QS a) (m_ivA s a) (m_tell (m_serve (m_ivA s a) a 1) a 100) := Td_t Td_serve Td_tell
  have ec : ∀ p j, ¬ PS a p → ¬ p = pC a → (cl_f0 c a).1 p j = c.1 p j := fun p j h1 h2 => by
    rw [tc.1 p j h1, cI_at, if_neg (by omega), cI_at, if_neg (by omega)]
  have es : ∀ p j, ¬ QS a p j → ¬ p = 185 → (mI (m_tell (m_serve (m_ivA s a) a 1) a 100) 185 a (nI m)).1 p j = s.1 p j := fun p j h1 h2 => by
    rw [mI_at, if_neg (by omega), td p j h1]
    unfold m_ivA
    rw [mI_at, if_neg (by omega), Td_z4 p j h1]
  have s1 : (m_tell (m_serve (m_ivA s a) a 1) a 100).1 181 a = 1 := by
    unfold m_tell m_serve
    rw [if_pos (Or.inl (by decide)), if_neg (by decide)]
    simp only [mI_at, send_at, Nat.reduceEqDiff, false_and, and_self, if_true, if_false]
  have k0 : FK N t M a u m 0 r A k f (cl_f0 c a) (mI (m_tell (m_serve (m_ivA s a) a 1) a 100) 185 a (nI m)) := by
    refine ⟨RG_m a3 (by decide), ⟨?_, ?_, ?_, ?_, ?_, ?_⟩, ⟨_, _, RS_85 a4⟩, ?_, fun i hi => by omega, ?_, UF_eq hF hu hT (fun p j h1 h2 => ec p j (by unfold PS pS; omega) (by unfold pC; omega)) tc.2 (fun p j h1 h2 => es p j (by unfold QS; omega) (by omega))⟩
    · rw [tc.1 (pC a) 3 (by unfold PS pS pC; omega), cI_at, if_neg (by omega), cI_at, if_pos ⟨rfl, rfl⟩]; rfl
    · rw [tc.1 (pC a) 4 (by unfold PS pS pC; omega), cI_at, if_pos ⟨rfl, rfl⟩]
    · rw [tc.1 (pC a) 0 (by unfold PS pS pC; omega), cI_at, if_neg (by omega), cI_at, if_neg (by omega)]; exact f1.2.2.2
    · rw [mI_at, if_pos ⟨rfl, rfl⟩]
    · rw [mI_at, if_neg (by omega)]; exact s1
    · rw [es 170 28 (by unfold QS; omega) (by omega)]; exact g4
    · intro i hi
      rw [ec _ _ (by unfold PS pS pB; omega) (by unfold pB pC; omega), ec _ _ (by unfold PS pS pB; omega) (by unfold pB pC; omega)]; exact f7 i hi
    · intro i _ hi
      rw [ec _ _ (by unfold PS pS pB; omega) (by unfold pB pC; omega)]
      refine ⟨(i1 i hi).1, fun k hk => ?_⟩
      rw [ec _ _ (by unfold PS pS pT; omega) (by unfold pT pC; omega)]; exact (i1 i hi).2 k hk
  obtain ⟨y1, y2, y3⟩ := FK_l hu hT hA hm hM ht m (4 - m) 0 _ _ (by omega) (by omega) k0
  rw [show m + (4 - m) = 4 by omega] at y1 y2
  exact ⟨FK_e hm y1, Fr_t Fr_f0 y2, Fm_t (Fm_t (Fm_t (Fm_t (Fm_S Td_z4) (Fm_I (by unfold MA; omega))) (Fm_S td)) (Fm_I (by unfold MA; omega))) y3⟩
