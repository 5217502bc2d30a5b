theorem wr_at {c : CM} {p q j : Nat} {ct wt en mk : Int32} : (us_wr c p ct wt en mk).1 q j = if q = p then (if j = 4 then mk &&& 255 else if j = 3 then sh8 mk else if j = 2 then c.1 1 1 + en else if j = 1 then wt else if j = 0 then ct else c.1 q j) else c.1 q j := by
  unfold us_wr
  simp only [cI_at]
  by_cases e : q = p
  · simp only [e, true_and, if_true]
  · simp only [e, false_and, if_false]
theorem wr_p {c : CM} {p : Nat} {ct wt en mk : Int32} : (us_wr c p ct wt en mk).2 = c.2 := rfl
theorem UB_set {T A A' u m m' t x ft : Nat} {k f : Nat → Nat} {c c' : CM} {s s' : MM} (h : UB T A c s u m k f) (ht : t < 4) (hm' : m' ≤ 4) (hx : x < 16) (h8 : c'.1 (pU u) 8 = nI m') (hp : c'.2.1 = c.2.1) (hb : ∀ i l, i < 4 → ¬ i = t → bn c' u i l = bn c u i l) (hu : UL A' c' s' u x ft t) (hs : ∀ p y, 177 ≤ p → p ≤ 180 → y < 16 → ¬ y = x → s'.1 p (16 * u + y) = s.1 p (16 * u + y)) (hA : A ≤ A') (hc : (t < m ∧ m' = m ∧ k t = x ∧ f t = ft) ∨ (t = m ∧ m' = m + 1 ∧ (∀ i, i < m → ¬ k i = x) ∧ A ≤ ft)) : UB T A' c' s' u m' (ug k t x) (ug f t ft) := by
  obtain ⟨⟨h1, h2, h3, h4⟩, h5, h6, h7⟩ := h
  have ne : ∀ i, i < m' → ¬ i = t → i < m ∧ ¬ k i = x := fun i hi e => by
    rcases hc with ⟨c1, c2, c3, c4⟩ | ⟨c1, c2, c3, c4⟩
    · refine ⟨by omega, fun w => ?_⟩
      rw [← c3] at w
      rcases Nat.lt_or_gt_of_ne e with q | q
      · exact (h6 i t q c1).1 w
      · exact (h6 t i q (by omega)).1 w.symm
    · exact ⟨by omega, c3 i (by omega)⟩
  refine ⟨⟨h8, hm', ?_, ?_⟩, ?_, ?_, ?_⟩
  · unfold Pok; rw [hp]; exact h3
  · rw [hp]; exact h4
  · intro i hi
    unfold ug
    by_cases e : i = t
    · rw [if_pos e, if_pos e, e]; exact hu
    · rw [if_neg e, if_neg e]
      obtain ⟨q1, q2⟩ := ne i hi e
      have w := h5 i q1
      unfold UL at w ⊢
      rw [hb i 0 (by omega) e, hb i 1 (by omega) e, hb i 2 (by omega) e, hb i 3 (by omega) e, hb i 4 (by omega) e, hs 178 _ (by omega) (by omega) w.1 q2, hs 177 _ (by omega) (by omega) w.1 q2, hs 180 _ (by omega) (by omega) w.1 q2, hs 179 _ (by omega) (by omega) w.1 q2]
      exact ⟨w.1, w.2.1, w.2.2.1, w.2.2.2.1, w.2.2.2.2.1, w.2.2.2.2.2.1, w.2.2.2.2.2.2.1, by omega⟩
  · intro i j hi hj
    unfold ug
    by_cases e : i = t
    · rw [if_pos e, if_pos e, if_neg (by omega), if_neg (by omega)]
      obtain ⟨q1, q2⟩ := ne j hj (by omega)
      refine ⟨fun w => q2 w.symm, ?_⟩
      rcases hc with ⟨c1, c2, c3, c4⟩ | ⟨c1, c2, c3, c4⟩
      · rw [← c4, ← e]; exact (h6 i j hi q1).2
      · omega
    · rw [if_neg e, if_neg e]
      obtain ⟨q1, q2⟩ := ne i (by omega) e
      by_cases e2 : j = t
      · rw [if_pos e2, if_pos e2]
        refine ⟨q2, ?_⟩
        rcases hc with ⟨c1, c2, c3, c4⟩ | ⟨c1, c2, c3, c4⟩
        · rw [← c4, ← e2]; exact (h6 i j hi (by omega)).2
        · have := (h5 i q1).2.2.2.2.2.2.2; omega
      · rw [if_neg e2, if_neg e2]
        obtain ⟨q3, q4⟩ := ne j hj e2
        exact h6 i j hi q3
  · intro y hy w
    have yx : ¬ y = x := fun e => w t (by rcases hc with ⟨c1, c2, c3, c4⟩ | ⟨c1, c2, c3, c4⟩ <;> omega) (by unfold ug; rw [if_pos rfl, e])
    rw [hs 177 y (by omega) (by omega) hy yx]
    refine h7 y hy (fun i hi e => ?_)
    by_cases e2 : i = t
    · rcases hc with ⟨c1, c2, c3, c4⟩ | ⟨c1, c2, c3, c4⟩
      · rw [e2, c3] at e; exact yx e.symm
      · omega
    · exact w i (by rcases hc with ⟨c1, c2, c3, c4⟩ | ⟨c1, c2, c3, c4⟩ <;> omega) (by unfold ug; rw [if_neg e2]; exact e)
theorem UB_eq {T T' A A' u m : Nat} {k f : Nat → Nat} {c c' : CM} {s s' : MM} (h : UB T A c s u m k f) (hT : T ≤ T') (hT2 : T' < 2147483647) (hA : A ≤ A') (h8 : c'.1 (pU u) 8 = c.1 (pU u) 8) (hc : ∀ b j, b < 4 → c'.1 (pN u b) j = c.1 (pN u b) j) (hp : ∀ j, c'.2.1 (pW u) j = c.2.1 (pW u) j) (hs : ∀ p x, 177 ≤ p → p ≤ 180 → x < 16 → s'.1 p (16 * u + x) = s.1 p (16 * u + x)) : UB T' A' c' s' u m k f := by
  obtain ⟨⟨h1, h2, h3, h4⟩, h5, h6, h7⟩ := h
  have hb : ∀ i l, i < 4 → bn c' u i l = bn c u i l := fun i l hi => by
    unfold bn; rw [hp, hc _ _ (h3 i hi)]
  refine ⟨⟨h8.trans h1, h2, fun j hj => by rw [hp]; exact h3 j hj, fun i j hi hj e => h4 i j hi hj (by rw [hp, hp] at e; exact e)⟩, ?_, h6, ?_⟩
  · intro i hi
    have w := h5 i hi
    unfold UL at w ⊢
    rw [hb i 0 (by omega), hb i 1 (by omega), hb i 2 (by omega), hb i 3 (by omega), hb i 4 (by omega), hs 178 _ (by omega) (by omega) w.1, hs 177 _ (by omega) (by omega) w.1, hs 180 _ (by omega) (by omega) w.1, hs 179 _ (by omega) (by omega) w.1]
    exact ⟨w.1, w.2.1, w.2.2.1, w.2.2.2.1, w.2.2.2.2.1, w.2.2.2.2.2.1, w.2.2.2.2.2.2.1, by omega⟩
  · intro x hx w
    rw [hs 177 x (by omega) (by omega) hx]
    intro q
    refine h7 x hx w ?_
    rw [Int32.lt_iff_toInt_lt, nI_toInt (by omega)] at q ⊢
    omega
theorem z16_at {u : Nat} : ∀ (d k : Nat) (s : MM) (p j : Nat), (m_z16 u d k s).1 p j = if p = 177 ∧ 16 * u + k ≤ j ∧ j < 16 * u + k + d then 0 else s.1 p j := by
  intro d
  induction d with
  | zero => intro k s p j; rw [m_z16, if_neg (by omega)]
  | succ d ih =>
    intro k s p j
    rw [m_z16, ih]
    by_cases e : p = 177 ∧ 16 * u + (k + 1) ≤ j ∧ j < 16 * u + (k + 1) + d
    · rw [if_pos e, if_pos (by omega)]
    · rw [if_neg e, mI_at]
      by_cases e2 : p = 177 ∧ j = 16 * u + k
      · rw [if_pos e2, if_pos (by omega)]
      · rw [if_neg e2, if_neg (by omega)]
theorem z16_l {u : Nat} : ∀ (d k : Nat) (s : MM), (m_z16 u d k s).2 = s.2 := by
  intro d
  induction d with
  | zero => intro k s; rw [m_z16]
  | succ d ih => intro k s; rw [m_z16, ih]; rfl
theorem nn0 {T : Nat} (h : T < 2147483647) : ¬ nI T < 0 := nI_nlt (a := T) (b := 0) (by omega) (by omega)
theorem UB_clear {T A u m : Nat} {k f : Nat → Nat} {c : CM} {s : MM} (h : UB T A c s u m k f) (hT : T < 2147483647) : UB T A (cI c (pU u) 8 0) (m_z16 u 16 0 s) u 0 k f := by
  obtain ⟨⟨h1, h2, h3, h4⟩, h5, h6, h7⟩ := h
  refine ⟨⟨by rw [cI_at, if_pos ⟨rfl, rfl⟩]; rfl, by omega, h3, h4⟩, fun i hi => by omega, fun i j hi hj => by omega, fun x hx _ => ?_⟩
  rw [z16_at, if_pos (by omega)]
  exact nn0 hT
