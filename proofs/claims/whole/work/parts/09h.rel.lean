-- in use, on both sides
theorem lv_m {s : MM} {a : Nat} : ∀ (d j : Nat) (w : Int32), (w = 0 ∨ w = 1) → (m_lv s a d j w = 0 ↔ (w = 0 ∧ ∀ i, j ≤ i → i < j + d → s.1 186 (4 * a + i) = 4)) := by
  intro d
  induction d with
  | zero => intro j w _; exact ⟨fun h => ⟨h, fun i h1 h2 => by omega⟩, fun h => h.1⟩
  | succ d ih =>
    intro j w hw
    simp only [m_lv]
    rcases hw with rfl | rfl
    · rw [if_pos rfl]
      by_cases e : s.1 186 (4 * a + j) = 4
      · rw [if_pos e, ih (j + 1) 0 (Or.inl rfl)]
        refine ⟨fun h => ⟨rfl, fun i h1 h2 => ?_⟩, fun h => ⟨rfl, fun i h1 h2 => h.2 i (by omega) (by omega)⟩⟩
        by_cases q : i = j
        · rw [q]; exact e
        · exact h.2 i (by omega) (by omega)
      · rw [if_neg e, ih (j + 1) 1 (Or.inr rfl)]
        exact ⟨fun h => absurd h.1 (by decide), fun h => absurd (h.2 j (by omega) (by omega)) e⟩
    · rw [if_neg (by decide), ih (j + 1) 1 (Or.inr rfl)]
      exact ⟨fun h => absurd h.1 (by decide), fun h => absurd h.1 (by decide)⟩
theorem lv_c {c : CM} {a : Nat} : ∀ (d i z : Nat), cl_lv c a d i z = 0 ↔ (z = 0 ∧ ∀ k, i ≤ k → k < i + d → c.1 (pB a k) 11 = 4) := by
  intro d
  induction d with
  | zero => intro i z; exact ⟨fun h => ⟨h, fun k h1 h2 => by omega⟩, fun h => h.1⟩
  | succ d ih =>
    intro i z
    simp only [cl_lv]
    rw [ih]
    by_cases e : c.1 (pB a i) 11 = 4
    · rw [if_pos e]
      refine ⟨fun h => ⟨h.1, fun k h1 h2 => ?_⟩, fun h => ⟨h.1, fun k h1 h2 => h.2 k (by omega) (by omega)⟩⟩
      by_cases q : k = i
      · rw [q]; exact e
      · exact h.2 k (by omega) (by omega)
    · rw [if_neg e]
      exact ⟨fun h => absurd h.1 (by omega), fun h => absurd (h.2 i (by omega) (by omega)) e⟩
theorem cl_lv_add {c : CM} {a : Nat} : ∀ (d i z x : Nat), cl_lv c a d i (z + x) = z + cl_lv c a d i x := by
  intro d
  induction d with
  | zero => intro i z x; rfl
  | succ d ih =>
    intro i z x
    simp only [cl_lv]
    by_cases e : c.1 (pB a i) 11 = 4
    · rw [if_pos e, if_pos e]; exact ih _ _ _
    · rw [if_neg e, if_neg e, Nat.add_assoc]; exact ih _ _ _
theorem RS_5 {τ : Nat → Nat} {t M : Nat} {q : Nat → Nat} {sg : Nat} {c : CM} {s : MM} {a : Nat} (h : RS τ t M q sg c s a) : c.1 (pS a) 7 = 5 ↔ (s.1 181 a = 0 ∨ s.1 181 a = 5) := by
  rw [h.1.1]
  by_cases e : s.1 181 a = 0
  · rw [if_pos e]; exact ⟨fun _ => Or.inl e, fun _ => rfl⟩
  · rw [if_neg e]; exact ⟨Or.inr, fun w => w.resolve_left e⟩
theorem RS_n {τ : Nat → Nat} {t M : Nat} {q : Nat → Nat} {sg : Nat} {c : CM} {s : MM} {a : Nat} {v : Int32} (h : RS τ t M q sg c s a) (h1 : ¬ v = 0) (h2 : ¬ v = 5) : c.1 (pS a) 7 = v ↔ s.1 181 a = v := by
  rw [h.1.1]
  by_cases e : s.1 181 a = 0
  · rw [if_pos e, e]; exact ⟨fun w => absurd w.symm h2, fun w => absurd w.symm h1⟩
  · rw [if_neg e]
theorem RC_st {τs : Nat → Nat} {τb : Nat → Nat → Nat} {t M : Nat} {c : CM} {s : MM} {a n : Nat} (h : RC τs τb t M c s a n) {i : Nat} (hi : i < n) : c.1 (pB a i) 11 = s.1 186 (4 * a + i) := by
  obtain ⟨r, sa, se, w⟩ := h.2.2.2.2.1 i hi
  exact w.1.1
theorem RC_use {τs : Nat → Nat} {τb : Nat → Nat → Nat} {t M : Nat} {c : CM} {s : MM} {a n : Nat} (h : RC τs τb t M c s a n) : m_on s a n = 0 ↔ cl_live c a n = 0 := by
  obtain ⟨q, sg, hS⟩ := h.2.1
  have h5 := RS_5 hS
  unfold m_on cl_live
  by_cases e : s.1 181 a = 0
  · rw [if_pos e, if_pos (h5.mpr (Or.inl e)), h.2.2.1 e]
    exact ⟨fun _ => rfl, fun _ => rfl⟩
  · rw [if_neg e]
    have hst : (∀ i, 0 ≤ i → i < 0 + n → s.1 186 (4 * a + i) = 4) ↔ (∀ i, 0 ≤ i → i < 0 + n → c.1 (pB a i) 11 = 4) := by
      refine ⟨fun w i h1 h2 => ?_, fun w i h1 h2 => ?_⟩
      · rw [RC_st h (by omega)]; exact w i h1 h2
      · rw [← RC_st h (by omega)]; exact w i h1 h2
    by_cases e2 : s.1 181 a = 5
    · rw [if_pos e2, if_pos (h5.mpr (Or.inr e2)), lv_m n 0 0 (Or.inl rfl), lv_c, hst]
      exact ⟨fun w => ⟨rfl, w.2⟩, fun w => ⟨rfl, w.2⟩⟩
    · rw [if_neg e2, if_neg (fun w => (h5.mp w).elim e e2), lv_m n 0 1 (Or.inr rfl), lv_c]
      exact ⟨fun w => absurd w.1 (by decide), fun w => absurd w.1 (by decide)⟩
theorem lb_c {c : CM} {s : MM} {a : Nat} {on : Int32} (ho : ¬ on = 0) : ∀ (d j z : Nat), (∀ i, j ≤ i → i < j + d → c.1 (pB a i) 11 = s.1 186 (4 * a + i)) → m_lb s a on d j (nI z) = nI (cl_lv c a d j z) := by
  intro d
  induction d with
  | zero => intro j z _; rfl
  | succ d ih =>
    intro j z hs
    simp only [m_lb, cl_lv]
    rw [if_neg ho, hs j (by omega) (by omega)]
    by_cases e : s.1 186 (4 * a + j) = 4
    · rw [if_pos e, if_pos e]; exact ih _ _ (fun i h1 h2 => hs i (by omega) (by omega))
    · rw [if_neg e, if_neg e, ad1]; exact ih _ _ (fun i h1 h2 => hs i (by omega) (by omega))
theorem lb_0 {s : MM} {a : Nat} : ∀ (d j : Nat) (z : Int32), m_lb s a 0 d j z = z := by
  intro d
  induction d with
  | zero => intro j z; rfl
  | succ d ih => intro j z; simp only [m_lb, if_true]; exact ih _ _
theorem RC_lc {τs : Nat → Nat} {τb : Nat → Nat → Nat} {t M : Nat} {c : CM} {s : MM} {a n : Nat} (h : RC τs τb t M c s a n) (z : Nat) : m_lc s a n (nI z) = nI (z + cl_live c a n) := by
  unfold m_lc
  by_cases e : m_on s a n = 0
  · rw [(RC_use h).mp e, e, if_pos rfl, lb_0]; rfl
  · obtain ⟨q, sg, hS⟩ := h.2.1
    have h5 := RS_5 hS
    have h0 : ¬ s.1 181 a = 0 := fun w => e (by unfold m_on; rw [if_pos w])
    rw [if_neg e]
    unfold cl_live
    by_cases e2 : s.1 181 a = 5
    · rw [if_pos e2, if_pos (h5.mpr (Or.inr e2)), lb_c e n 0 z (fun i _ h2 => RC_st h (by omega)), ← cl_lv_add]; rfl
    · rw [if_neg e2, if_neg (fun w => (h5.mp w).elim h0 e2), ad1, lb_c e n 0 (z + 1) (fun i _ h2 => RC_st h (by omega)), ← cl_lv_add]
-- wanted to end: all open ones
theorem stop_id {s : MM} {a j : Nat} (h : ¬ m_going s (4 * a + j)) : m_stop s a j = s := by
  unfold m_stop
  rw [if_neg (fun w => h (Or.inl w)), if_neg (fun w => h (Or.inr w))]
theorem want_15 {c : CM} {a i : Nat} : (b_want c a i).1 (pB a i) 15 = c.1 (pB a i) 15 ∧ (b_want c a i).1 (pB a i) 2 = c.1 (pB a i) 2 ∧ (b_want c a i).1 (pB a i) 3 = c.1 (pB a i) 3 := by
  unfold b_want
  split
  · split
    · simp only [cI_at, set_at, stop_t, add_at, nBT, nTB, nB2, nT2, n2B, n2T, nB1, nT1, n1B, n1T, n12, n21, pT_e, mI_at, send_at, e60, e6k, eq_self, true_and, and_true, false_and, and_false, and_self, if_true, if_false, Nat.reduceEqDiff, reduceIte, Nat.reduceAdd]
    · simp only [cI_at, set_at, stop_t, add_at, nBT, nTB, nB2, nT2, n2B, n2T, nB1, nT1, n1B, n1T, n12, n21, pT_e, mI_at, send_at, e60, e6k, eq_self, true_and, and_true, false_and, and_false, and_self, if_true, if_false, Nat.reduceEqDiff, reduceIte, Nat.reduceAdd]
  · simp only [cI_at, set_at, stop_t, add_at, nBT, nTB, nB2, nT2, n2B, n2T, nB1, nT1, n1B, n1T, n12, n21, pT_e, mI_at, send_at, e60, e6k, eq_self, true_and, and_true, false_and, and_false, and_self, if_true, if_false, Nat.reduceEqDiff, reduceIte, Nat.reduceAdd]
theorem stop_st {s : MM} {a i : Nat} : (m_stop s a i).1 186 (4 * a + i) = s.1 186 (4 * a + i) ∧ (m_stop s a i).1 190 (4 * a + i) = s.1 190 (4 * a + i) ∧ (m_stop s a i).1 191 (4 * a + i) = s.1 191 (4 * a + i) := by
  unfold m_stop
  split
  · simp only [cI_at, set_at, stop_t, add_at, nBT, nTB, nB2, nT2, n2B, n2T, nB1, nT1, n1B, n1T, n12, n21, pT_e, mI_at, send_at, e60, e6k, eq_self, true_and, and_true, false_and, and_false, and_self, if_true, if_false, Nat.reduceEqDiff, reduceIte, Nat.reduceAdd]
  · split
    · split
      · simp only [cI_at, set_at, stop_t, add_at, nBT, nTB, nB2, nT2, n2B, n2T, nB1, nT1, n1B, n1T, n12, n21, pT_e, mI_at, send_at, e60, e6k, eq_self, true_and, and_true, false_and, and_false, and_self, if_true, if_false, Nat.reduceEqDiff, reduceIte, Nat.reduceAdd]
      · simp only [cI_at, set_at, stop_t, add_at, nBT, nTB, nB2, nT2, n2B, n2T, nB1, nT1, n1B, n1T, n12, n21, pT_e, mI_at, send_at, e60, e6k, eq_self, true_and, and_true, false_and, and_false, and_self, if_true, if_false, Nat.reduceEqDiff, reduceIte, Nat.reduceAdd]
    · exact ⟨rfl, rfl, rfl⟩
-- what the stopping of branches leaves
def Sk (a n : Nat) (c c' : CM) (s s' : MM) : Prop := (∀ i, i < n → c'.1 (pB a i) 15 = c.1 (pB a i) 15) ∧ (∀ j, c'.1 (pC a) j = c.1 (pC a) j) ∧ (∀ i, i < n → s'.1 186 (4 * a + i) = s.1 186 (4 * a + i) ∧ s'.1 190 (4 * a + i) = s.1 190 (4 * a + i) ∧ s'.1 191 (4 * a + i) = s.1 191 (4 * a + i)) ∧ s'.1 181 a = s.1 181 a ∧ s'.1 170 28 = s.1 170 28 ∧ Fr a c c' ∧ (∀ p j, ¬ MA a p j → ¬ (p = 170 ∧ j = 30) → s'.1 p j = s.1 p j)
theorem Sk_r {a n : Nat} {c : CM} {s : MM} : Sk a n c c s s := ⟨fun _ _ => rfl, fun _ => rfl, fun _ _ => ⟨rfl, rfl, rfl⟩, rfl, rfl, Fr_r _ _, fun _ _ _ _ => rfl⟩
theorem Sk_t {a n : Nat} {c d e : CM} {s u v : MM} (h : Sk a n c d s u) (g : Sk a n d e u v) : Sk a n c e s v :=
  ⟨fun i hi => (g.1 i hi).trans (h.1 i hi), fun j => (g.2.1 j).trans (h.2.1 j), fun i hi => ⟨(g.2.2.1 i hi).1.trans (h.2.2.1 i hi).1, (g.2.2.1 i hi).2.1.trans (h.2.2.1 i hi).2.1, (g.2.2.1 i hi).2.2.trans (h.2.2.1 i hi).2.2⟩, g.2.2.2.1.trans h.2.2.2.1, g.2.2.2.2.1.trans h.2.2.2.2.1, Fr_t h.2.2.2.2.2.1 g.2.2.2.2.2.1, fun p j h1 h2 => (g.2.2.2.2.2.2 p j h1 h2).trans (h.2.2.2.2.2.2 p j h1 h2)⟩
theorem QB_MA {a i p j : Nat} (hi : i < 4) (h : QB (4 * a + i) p j) : MA a p j ∨ (p = 170 ∧ j = 30) := by
  unfold QB at h
  unfold MA
  omega
theorem Sk_stop {a n i : Nat} {c : CM} {s : MM} (hi : i < n) (hn : n ≤ 4) : Sk a n c (b_want c a i) s (m_stop s a i) := by
  have hc : Tc (PB a i) c (b_want c a i) := Tb_want
  have hs : Td (QB (4 * a + i)) s (m_stop s a i) := Td_stop
  refine ⟨fun j hj => ?_, fun j => hc.1 _ _ (by unfold PB pC pB; omega), fun j hj => ?_, hs 181 a (by unfold QB; omega), hs 170 28 (by unfold QB; omega), Fr_want (by omega), fun p j h1 h2 => hs p j (fun w => (QB_MA (by omega) w).elim h1 h2)⟩
  · by_cases e : j = i
    · rw [e]; exact want_15.1
    · exact hc.1 _ _ (by unfold PB pB; omega)
  · by_cases e : j = i
    · rw [e]; exact stop_st
    · exact ⟨hs 186 _ (by unfold QB; omega), hs 190 _ (by unfold QB; omega), hs 191 _ (by unfold QB; omega)⟩
