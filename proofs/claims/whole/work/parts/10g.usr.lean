theorem US_f {u : Nat} {c c' : CM} {s s' : MM} (h : US c s u) (h1 : ∀ j, j < 7 → c'.1 (pU u) j = c.1 (pU u) j) (h2 : ∀ p, 171 ≤ p → p ≤ 176 → s'.1 p u = s.1 p u) : US c' s' u := by
  unfold US at h ⊢
  rw [h1 1 (by omega), h1 2 (by omega), h1 3 (by omega), h1 4 (by omega), h1 5 (by omega), h1 6 (by omega), h2 171 (by omega) (by omega), h2 172 (by omega) (by omega), h2 173 (by omega) (by omega), h2 174 (by omega) (by omega), h2 175 (by omega) (by omega), h2 176 (by omega) (by omega)]
  exact h
def G2 (N A A' u : Nat) (c c' : CM) (s s' : MM) : Prop := A ≤ A' ∧ A' ≤ A + 1 ∧ UR N A' c' s' u ∧ Gu u c c' s s' ∧ s'.1 170 13 = nI A' ∧ c'.1 0 4 = c.1 0 4 ∧ s'.1 170 2 = s.1 170 2
theorem G2_zero {N A u m x : Nat} {k f : Nat → Nat} {c : CM} {s : MM} (hF : UF N A c s u m k f) (hS : US c s u) (hAd : s.1 170 13 = nI A) (hN : N < 2147483647) (hx : x < 16) : G2 N A A u c (us_rt u (nI x) m c m).1 s (mI s 177 (16 * u + x) 0) := by
  have hB := hF.1
  have ks : ∀ i, i < m → bn c u i 0 = nI (k i) ∧ k i < 16 := fun i hi => ⟨(hB.2.1 i hi).2.1, (hB.2.1 i hi).1⟩
  have s13 : (mI s 177 (16 * u + x) 0).1 170 13 = nI A := by rw [mI_at, if_neg (by omega)]; exact hAd
  have s2 : (mI s 177 (16 * u + x) 0).1 170 2 = s.1 170 2 := by rw [mI_at, if_neg (by omega)]
  have gs : ∀ p j, ¬ ((171 ≤ p ∧ p ≤ 176 ∧ j = u) ∨ (177 ≤ p ∧ p ≤ 180 ∧ 16 * u ≤ j ∧ j < 16 * u + 16) ∨ (p = 170 ∧ (j = 13 ∨ j = 2))) → (mI s 177 (16 * u + x) 0).1 p j = s.1 p j := fun p j hp => by rw [mI_at, if_neg (by omega)]
  have us2 : ∀ p, 171 ≤ p → p ≤ 176 → (mI s 177 (16 * u + x) 0).1 p u = s.1 p u := fun p h1 h2 => by rw [mI_at, if_neg (by omega)]
  have oth : ∀ p y, 177 ≤ p → p ≤ 180 → y < 16 → ¬ y = x → (mI s 177 (16 * u + x) 0).1 p (16 * u + y) = s.1 p (16 * u + y) := fun p y _ _ _ e => by rw [mI_at, if_neg (by omega)]
  have ez : ¬ nI N < (mI s 177 (16 * u + x) 0).1 177 (16 * u + x) := by rw [mI_at, if_pos ⟨rfl, rfl⟩]; exact nn0 hN
  by_cases hj : ∃ j, j < m ∧ k j = x
  · obtain ⟨j, hj, rfl⟩ := hj
    have e := rt_one (c := c) (u := u) (j := j) (m := m) (w := nI (k j)) m (Nat.le_refl _) hj (ks j hj).1 (fun l hl ne e => by
      rw [(ks l hl).1, nI_eq (by have := (ks l hl).2; omega) (by have := (ks j hj).2; omega)] at e
      exact ne (UB_ne hB hl hj e))
    rw [e]
    have F := Fud_rm (u := u) (c := c) hj
    exact ⟨Nat.le_refl _, by omega, ⟨US_f hS (fun j hj => F.1 _ _ (by omega)) us2, _, _, _, UB_rm hB hj oth ez⟩, ⟨fun q j h1 _ => F.1 q j (by omega), F.2.1, F.2.2, gs, rfl⟩, s13, F.1 0 4 (by unfold pU; omega), s2⟩
  · have no : ∀ i, i < m → ¬ k i = x := fun i hi e => hj ⟨i, hi, e⟩
    rw [rt_id m c m (fun l hl e => by
      rw [(ks l hl).1, nI_eq (by have := (ks l hl).2; omega) (by omega)] at e
      exact no l hl e)]
    refine ⟨Nat.le_refl _, by omega, ⟨US_f hS (fun _ _ => rfl) us2, m, k, f, hB.1, fun i hi => ?_, hB.2.2.1, fun y hy w => ?_⟩, ⟨fun _ _ _ _ => rfl, fun _ _ _ => rfl, rfl, gs, rfl⟩, s13, rfl, s2⟩
    · have w := hB.2.1 i hi
      have e := no i hi
      unfold UL at w ⊢
      rw [oth 178 _ (by omega) (by omega) w.1 e, oth 177 _ (by omega) (by omega) w.1 e, oth 180 _ (by omega) (by omega) w.1 e, oth 179 _ (by omega) (by omega) w.1 e]
      exact w
    · by_cases e : y = x
      · rw [e]; exact ez
      · rw [oth 177 y (by omega) (by omega) hy e]; exact hB.2.2.2 y hy w
theorem bn_wr {c : CM} {u b i l : Nat} {ct wt en mk : Int32} (h : ¬ c.2.1 (pW u) i = b) : bn (us_wr c (pN u b) ct wt en mk) u i l = bn c u i l := by
  unfold bn
  rw [wr_at, wr_p, if_neg (by unfold pN; omega)]
theorem UL_wr {A u t x ft : Nat} {c : CM} {s' : MM} {wt en mk : Int32} (hx : x < 16) (h7 : s'.1 177 (16 * u + x) = c.1 1 1 + en) (h8 : s'.1 178 (16 * u + x) = wt) (h9 : s'.1 179 (16 * u + x) = nI ft) (h0 : s'.1 180 (16 * u + x) = mk) (hf : ft < A) : UL A (us_wr c (pN u (c.2.1 (pW u) t)) (nI x) wt en mk) s' u x ft t := by
  unfold UL bn
  rw [wr_p, h7, h8, h9, h0]
  simp only [wr_at, if_true, Nat.reduceEqDiff, if_false]
  exact ⟨hx, trivial, trivial, trivial, trivial, trivial, trivial, hf⟩
theorem G2_bind {N A u m x : Nat} {k f : Nat → Nat} {c : CM} {s : MM} {wt en mk : Int32} (hF : UF N A c s u m k f) (hS : US c s u) (hT : c.1 1 1 = nI N ∧ s.1 170 1 = nI N) (hAd : s.1 170 13 = nI A) (hN : N < 2147483647) (hx : x < 16) (he : ¬ en = 0) : ∃ A', G2 N A A' u c (us_bd c u m (nI x) wt en mk).1 s (m_reg2 s u x wt en mk).2 ∧ (if (us_bd c u m (nI x) wt en mk).2 = 0 then 503 else 200) = (m_reg2 s u x wt en mk).1 := by
  have hB := hF.1
  have m4 := hB.1.2.1
  have ks : ∀ i, i < m → bn c u i 0 = nI (k i) ∧ k i < 16 := fun i hi => ⟨(hB.2.1 i hi).2.1, (hB.2.1 i hi).1⟩
  unfold us_bd m_reg2
  rw [if_neg he]
  cases e : us_fd c u (nI x) m 0 with
  | some t =>
    obtain ⟨_, b2, b3⟩ := us_fd_lt c u (nI x) m 0 t e
    have ht : t < m := by omega
    have kt : k t = x := by
      rw [(ks t ht).1, nI_eq (by have := (ks t ht).2; omega) (by omega)] at b3; exact b3
    have bd : s.1 170 1 < s.1 177 (16 * u + x) := by rw [hT.2]; exact (UF_bd hF hx).mpr ⟨t, ht, kt⟩
    have ft := hB.2.1 t ht
    rw [kt] at ft
    rw [if_pos bd]
    refine ⟨A, ⟨Nat.le_refl _, by omega, ⟨US_f hS (fun j hj => ?_) (fun p h1 h2 => ?_), m, _, _, UB_set (ft := f t) hB (t := t) (by omega) m4 hx ?_ rfl (fun i l hi ne => bn_wr (fun q => ne (hB.1.2.2.2 i t hi (by omega) q))) (UL_wr hx ?_ ?_ ?_ ?_ ft.2.2.2.2.2.2.2) (fun p y h1 h2 hy ne => ?_) (Nat.le_refl _) (Or.inl ⟨ht, rfl, kt, rfl⟩)⟩, ⟨fun q j h1 _ => ?_, fun _ _ _ => rfl, rfl, fun p j hp => ?_, rfl⟩, ?_, ?_, ?_⟩, ?_⟩
    · rw [wr_at, if_neg (by unfold pU pN; omega)]
    · rw [mI_at, if_neg (by omega), mI_at, if_neg (by omega), mI_at, if_neg (by omega)]
    · rw [wr_at, if_neg (by unfold pU pN; omega)]; exact hB.1.1
    · rw [mI_at, if_neg (by omega), mI_at, if_neg (by omega), mI_at, if_pos ⟨rfl, rfl⟩, hT.1, hT.2]
    · rw [mI_at, if_neg (by omega), mI_at, if_pos ⟨rfl, rfl⟩]
    · rw [mI_at, if_neg (by omega), mI_at, if_neg (by omega), mI_at, if_neg (by omega)]; exact ft.2.2.2.2.2.2.1
    · rw [mI_at, if_pos ⟨rfl, rfl⟩]
    · rw [mI_at, if_neg (by omega), mI_at, if_neg (by omega), mI_at, if_neg (by omega)]
    · have := hB.1.2.2.1 t (by omega)
      rw [wr_at, if_neg (by unfold pU at h1; unfold pN; omega)]
    · rw [mI_at, if_neg (by omega), mI_at, if_neg (by omega), mI_at, if_neg (by omega)]
    · rw [mI_at, if_neg (by omega), mI_at, if_neg (by omega), mI_at, if_neg (by omega)]; exact hAd
    · rw [wr_at, if_neg (by unfold pN; omega)]
    · rw [mI_at, if_neg (by omega), mI_at, if_neg (by omega), mI_at, if_neg (by omega)]
    · exact if_neg (show ¬ (1 : Int32) = 0 by decide)
  | none =>
    have no : ∀ i, i < m → ¬ k i = x := fun i hi q => fd_none m 0 e i (by omega) (by omega) (by rw [(ks i hi).1, q])
    have bd : ¬ s.1 170 1 < s.1 177 (16 * u + x) := by
      rw [hT.2]
      intro w
      obtain ⟨i, hi, q⟩ := (UF_bd hF hx).mp w
      exact no i hi q
    rw [if_neg bd, UF_bc hF hT.2]
    have e4 : nI m = 4 ↔ m = 4 := nI_eq (a := m) (b := 4) (by omega) (by omega)
    by_cases hm : m < 4
    · show ∃ A', G2 N A A' u c (if m < 4 then (us_wr (cI c (pU u) 8 (nI (m + 1))) (pN u (c.2.1 (pW u) m)) (nI x) wt en mk, 1) else (c, 0)).1 s _ ∧ (if (if m < 4 then (us_wr (cI c (pU u) 8 (nI (m + 1))) (pN u (c.2.1 (pW u) m)) (nI x) wt en mk, 1) else (c, 0)).2 = 0 then 503 else 200) = _
      rw [if_pos hm, if_neg (show ¬ nI m = 4 from fun w => by have := e4.mp w; omega)]
      refine ⟨A + 1, ⟨by omega, Nat.le_refl _, ⟨US_f hS (fun j hj => ?_) (fun p h1 h2 => ?_), m + 1, _, _, UB_set (ft := A) hB (t := m) (by omega) (by omega) hx ?_ rfl (fun i l hi ne => ?_) (UL_wr hx ?_ ?_ ?_ ?_ (by omega)) (fun p y h1 h2 hy ne => ?_) (by omega) (Or.inr ⟨rfl, rfl, no, Nat.le_refl _⟩)⟩, ⟨fun q j h1 _ => ?_, fun _ _ _ => rfl, rfl, fun p j hp => ?_, rfl⟩, ?_, ?_, ?_⟩, ?_⟩
      · rw [wr_at, if_neg (by unfold pU pN; omega), cI_at, if_neg (by omega)]
      · rw [mI_at, if_neg (by omega), mI_at, if_neg (by omega), mI_at, if_neg (by omega), mI_at, if_neg (by omega), mI_at, if_neg (by omega)]
      · rw [wr_at, if_neg (by unfold pU pN; omega), cI_at, if_pos ⟨rfl, rfl⟩]
      · refine (bn_wr (c := cI c (pU u) 8 (nI (m + 1))) (fun q => ne (hB.1.2.2.2 i m hi (by omega) q))).trans ?_
        unfold bn
        rw [cI_p, cI_at, if_neg (by unfold pN pU; omega)]
      · rw [mI_at, if_neg (by omega), mI_at, if_neg (by omega), mI_at, if_neg (by omega), mI_at, if_neg (by omega), mI_at, if_pos ⟨rfl, rfl⟩, cI_at, if_neg (by unfold pU; omega), hT.1, hT.2]
      · rw [mI_at, if_neg (by omega), mI_at, if_neg (by omega), mI_at, if_neg (by omega), mI_at, if_pos ⟨rfl, rfl⟩]
      · rw [mI_at, if_neg (by omega), mI_at, if_pos ⟨rfl, rfl⟩]; exact hAd
      · rw [mI_at, if_neg (by omega), mI_at, if_neg (by omega), mI_at, if_pos ⟨rfl, rfl⟩]
      · rw [mI_at, if_neg (by omega), mI_at, if_neg (by omega), mI_at, if_neg (by omega), mI_at, if_neg (by omega), mI_at, if_neg (by omega)]
      · have := hB.1.2.2.1 m (by omega)
        rw [wr_at, if_neg (by unfold pU at h1; unfold pN; omega), cI_at, if_neg (by omega)]
      · rw [mI_at, if_neg (by omega), mI_at, if_neg (by omega), mI_at, if_neg (by omega), mI_at, if_neg (by omega), mI_at, if_neg (by omega)]
      · rw [mI_at, if_pos ⟨rfl, rfl⟩, hAd, ad1]
      · rw [wr_at, if_neg (by unfold pN; omega), cI_at, if_neg (by unfold pU; omega)]
      · rw [mI_at, if_neg (by omega), mI_at, if_neg (by omega), mI_at, if_neg (by omega), mI_at, if_neg (by omega), mI_at, if_neg (by omega)]
      · exact if_neg (show ¬ (1 : Int32) = 0 by decide)
    · show ∃ A', G2 N A A' u c (if m < 4 then (us_wr (cI c (pU u) 8 (nI (m + 1))) (pN u (c.2.1 (pW u) m)) (nI x) wt en mk, 1) else (c, 0)).1 s _ ∧ (if (if m < 4 then (us_wr (cI c (pU u) 8 (nI (m + 1))) (pN u (c.2.1 (pW u) m)) (nI x) wt en mk, 1) else (c, 0)).2 = 0 then 503 else 200) = _
      rw [if_pos (e4.mpr (by omega)), if_neg hm]
      exact ⟨A, ⟨Nat.le_refl _, by omega, ⟨hS, m, k, f, hB⟩, ⟨fun _ _ _ _ => rfl, fun _ _ _ => rfl, rfl, fun _ _ _ => rfl, rfl⟩, hAd, rfl, rfl⟩, rfl⟩
