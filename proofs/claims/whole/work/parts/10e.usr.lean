def US (c : CM) (s : MM) (u : Nat) : Prop := c.1 (pU u) 1 = s.1 171 u ∧ c.1 (pU u) 2 = s.1 172 u ∧ c.1 (pU u) 3 = s.1 173 u ∧ c.1 (pU u) 4 = s.1 174 u ∧ c.1 (pU u) 5 = s.1 175 u ∧ c.1 (pU u) 6 = s.1 176 u
def UR (T A : Nat) (c : CM) (s : MM) (u : Nat) : Prop := US c s u ∧ ∃ m k f, UB T A c s u m k f
theorem UR_eq {T T' A A' u : Nat} {c c' : CM} {s s' : MM} (h : UR T A c s u) (hT : T ≤ T') (hT2 : T' < 2147483647) (hA : A ≤ A') (hc : ∀ q j, pU u ≤ q → q < pU u + 6 → c'.1 q j = c.1 q j) (hp : ∀ j, c'.2.1 (pW u) j = c.2.1 (pW u) j) (h1 : ∀ p, 171 ≤ p → p ≤ 176 → s'.1 p u = s.1 p u) (h2 : ∀ p x, 177 ≤ p → p ≤ 180 → x < 16 → s'.1 p (16 * u + x) = s.1 p (16 * u + x)) : UR T' A' c' s' u := by
  obtain ⟨hS, m, k, f, hB⟩ := h
  refine ⟨?_, m, k, f, UB_eq hB hT hT2 hA (hc _ _ (by omega) (by omega)) (fun b j hb => hc _ _ (by unfold pN pU; omega) (by unfold pN pU; omega)) hp h2⟩
  unfold US at hS ⊢
  rw [hc (pU u) 1 (by omega) (by omega), hc (pU u) 2 (by omega) (by omega), hc (pU u) 3 (by omega) (by omega), hc (pU u) 4 (by omega) (by omega), hc (pU u) 5 (by omega) (by omega), hc (pU u) 6 (by omega) (by omega), h1 171 (by omega) (by omega), h1 172 (by omega) (by omega), h1 173 (by omega) (by omega), h1 174 (by omega) (by omega), h1 175 (by omega) (by omega), h1 176 (by omega) (by omega)]
  exact hS
-- everything
def RE (C N t r A : Nat) (c : CM) (s : MM) : Prop := (1 ≤ t ∧ t ≤ 100 ∧ N ≤ 2000 * C ∧ r ≤ 16 * N + C ∧ A ≤ C ∧ C ≤ 512) ∧ QA (fun _ => N) N t (Mx N) r c s ∧ s.1 170 13 = nI A ∧ ∀ u, u < 4 → UR N A c s u
def Rel (C : Nat) (c : CM) (s : MM) : Prop := ∃ N t r A, RE C N t r A c s
theorem RE_up {C N t r A : Nat} {c : CM} {s : MM} (h : RE C N t r A c s) (hC : C < 512) : RE (C + 1) N t r A c s := by
  obtain ⟨⟨b1, b2, b3, b4, b5, b6⟩, h1, h2, h3⟩ := h
  exact ⟨⟨b1, b2, by omega, by omega, by omega, by omega⟩, h1, h2, h3⟩
def Gu (u : Nat) (c c' : CM) (s s' : MM) : Prop := (∀ q j, ¬ (pU u ≤ q ∧ q < pU u + 6) → ¬ (q = 0 ∧ j = 4) → c'.1 q j = c.1 q j) ∧ (∀ q j, ¬ q = pW u → c'.2.1 q j = c.2.1 q j) ∧ c'.2.2 = c.2.2 ∧ (∀ p j, ¬ ((171 ≤ p ∧ p ≤ 176 ∧ j = u) ∨ (177 ≤ p ∧ p ≤ 180 ∧ 16 * u ≤ j ∧ j < 16 * u + 16) ∨ (p = 170 ∧ (j = 13 ∨ j = 2))) → s'.1 p j = s.1 p j) ∧ s'.2 = s.2
theorem QA_user {N t M r u : Nat} {τ : Nat → Nat} {c c' : CM} {s s' : MM} (h : QA τ N t M r c s) (hu : u < 4) (g : Gu u c c' s s') (h0 : c'.1 0 4 = s'.1 170 2) : QA τ N t M r c' s' := by
  obtain ⟨⟨a1, a2, a3, a4⟩, h2, h3⟩ := h
  obtain ⟨g1, g2, g3, g4, g5⟩ := g
  have e : ∀ q j, q = 1 ∨ q = 2 ∨ 30 ≤ q → c'.1 q j = c.1 q j := fun q j hq => g1 q j (by unfold pU; omega) (by omega)
  have es : ∀ p j, (181 ≤ p) ∨ (p = 170 ∧ ¬ j = 13 ∧ ¬ j = 2) → s'.1 p j = s.1 p j := fun p j hp => g4 p j (by omega)
  refine ⟨⟨?_, ?_, ?_, h0⟩, ?_, fun a ha => CQ_eq (h3 a ha) (Nat.le_refl _) (fun q j hq => e q j (by omega)) (fun p j hp => es p j (by unfold MA at hp; omega))⟩
  · rw [e 1 0 (by omega), es 170 0 (by omega)]; exact a1
  · rw [e 1 1 (by omega), es 170 1 (by omega)]; exact a2
  · rw [e 2 2 (by omega), es 170 30 (by omega), g3, g5]; exact a3
  · rw [es 170 28 (by omega)]; exact h2
theorem RE_user {C N t r A A' u : Nat} {c c' : CM} {s s' : MM} (h : RE C N t r A c s) (hC : C < 512) (hu : u < 4) (g : Gu u c c' s s') (h0 : c'.1 0 4 = s'.1 170 2) (hA : s'.1 170 13 = nI A') (hA1 : A ≤ A') (hA2 : A' ≤ A + 1) (hU : UR N A' c' s' u) : RE (C + 1) N t r A' c' s' := by
  obtain ⟨⟨b1, b2, b3, b4, b5, b6⟩, h1, h2, h3⟩ := h
  refine ⟨⟨b1, b2, by omega, by omega, by omega, by omega⟩, QA_user h1 hu g h0, hA, fun v hv => ?_⟩
  by_cases e : v = u
  · rw [e]; exact hU
  · obtain ⟨g1, g2, g3, g4, g5⟩ := g
    exact UR_eq (h3 v hv) (Nat.le_refl _) (by omega) hA1 (fun q j q1 q2 => g1 q j (by unfold pU at *; omega) (by unfold pU at *; omega)) (fun j => g2 _ j (by unfold pW; omega)) (fun p p1 p2 => g4 p v (by omega)) (fun p x p1 p2 hx => g4 p _ (by omega))
theorem RE_call {C N t r r' A a n : Nat} {c c' : CM} {s s' : MM} (h : RE C N t r A c s) (hC : C < 512) (ha : a < 4) (hr : r ≤ r') (hr2 : r' ≤ r + 1) (hq : SN N t (Mx N) a n r' c' s') (hF : Fr a c c') (hm : Fm a s s') : RE (C + 1) N t r' A c' s' := by
  obtain ⟨⟨b1, b2, b3, b4, b5, b6⟩, h1, h2, h3⟩ := h
  have q := QA_put h1 ha hr hq hF hm
  rw [show (fun b => if b = a then N else N) = fun _ => N by funext b; split <;> rfl] at q
  have z := Fz_a hF hm
  refine ⟨⟨b1, b2, by omega, by omega, by omega, by omega⟩, q, z.2.2.2.trans h2, fun v hv => ?_⟩
  exact UR_eq (h3 v hv) (Nat.le_refl _) (by omega) (Nat.le_refl _) (fun q j q1 q2 => z.1 q j (by unfold pU at *; omega) (by unfold pU at *; omega)) (fun j => by rw [z.2.1]) (fun p p1 p2 => z.2.2.1 p v (by omega) (by omega)) (fun p x p1 p2 hx => z.2.2.1 p _ (by omega) (by omega))
-- one call of the law
def St (xs : Nat → Int32) (L kc km : Nat) (as : List Value) (C : Nat) (c : CM) (s : MM) : Prop := ∃ x c' s', Ex xs L kc (.ref 0 :: as) (hh c s) (some (.int x), hh c' s) ∧ Ex xs L km (.ref 170 :: as) (hh c' s) (some (.int x), hh c' s') ∧ Rel (C + 1) c' s'
theorem in_n {x : Int32} {b : Nat} (hb : b ≤ 2147483648) (h0 : 0 ≤ x.toInt) (h1 : x.toInt < b) : ∃ i, i < b ∧ x = nI i := by
  refine ⟨x.toInt.toNat, by omega, ?_⟩
  apply Int32.toInt_inj.mp
  rw [nI_toInt (by omega)]
  omega
theorem u4 (x : Int32) : no4 x ∨ ∃ i, i < 4 ∧ x = nI i := by
  by_cases h : no4 x
  · exact Or.inl h
  · refine Or.inr (in_n (by omega) ?_ ?_)
    · have : ¬ x < 0 := fun w => h (Or.inl w)
      rw [Int32.lt_iff_toInt_lt] at this
      have e : (0 : Int32).toInt = 0 := by decide
      omega
    · have : ¬ 3 < x := fun w => h (Or.inr w)
      rw [Int32.lt_iff_toInt_lt] at this
      have e : (3 : Int32).toInt = 3 := by decide
      omega
theorem Gu_e {u : Nat} {c c' : CM} {s s' : MM} (h1 : ∀ q j, ¬ (pU u ≤ q ∧ q < pU u + 6) → ¬ (q = 0 ∧ j = 4) → c'.1 q j = c.1 q j) (h2 : c'.2 = c.2) (h3 : ∀ p j, ¬ ((171 ≤ p ∧ p ≤ 176 ∧ j = u) ∨ (p = 170 ∧ (j = 13 ∨ j = 2))) → s'.1 p j = s.1 p j) (h4 : s'.2 = s.2) : Gu u c c' s s' := ⟨h1, fun q j _ => by rw [h2], by rw [h2], fun p j hp => h3 p j (by omega), h4⟩
section US
variable {xs : Nat → Int32} {L C : Nat} {c : CM} {s : MM}
theorem st_pw {u w : Int32} (h : Rel C c s) (hC : C < 512) : St xs L 1 96 [.int u, .int w] C c s := by
  obtain ⟨N, t, r, A, h⟩ := h
  rcases u4 u with hu | ⟨i, hi, rfl⟩
  · exact ⟨0, c, s, x_fpwN hu, x_pwN hu, N, t, r, A, RE_up h hC⟩
  · refine ⟨1, _, _, x_fpw hi, x_pw hi, N, t, r, A, RE_user h hC hi (Gu_e (fun q j h1 h2 => ?_) rfl (fun p j h1 => ?_) rfl) ?_ ?_ (Nat.le_refl _) (by omega) ?_⟩
    · rw [cI_at, if_neg (by unfold pU at *; omega)]
    · rw [mI_at, if_neg (by omega)]
    · rw [cI_at, if_neg (by unfold pU at *; omega), mI_at, if_neg (by omega)]; exact h.2.1.1.2.2.2
    · rw [mI_at, if_neg (by omega)]; exact h.2.2.1
    · obtain ⟨hS, m, k, f, hB⟩ := h.2.2.2 i hi
      have hb := h.1
      refine ⟨?_, m, k, f, UB_eq hB (Nat.le_refl _) (by omega) (Nat.le_refl _) ?_ (fun b j hb => ?_) (fun j => rfl) (fun p x p1 p2 hx => ?_)⟩
      · unfold US at hS ⊢
        simp only [cI_at, mI_at, Nat.reduceEqDiff, true_and, and_true, false_and, and_false, if_true, if_false, eq_self]
        exact hS.2
      · rw [cI_at, if_neg (by omega)]
      · rw [cI_at, if_neg (by unfold pN pU; omega)]
      · rw [mI_at, if_neg (by omega)]
theorem st_ch {u : Int32} (h : Rel C c s) (hC : C < 512) : St xs L 2 97 [.int u] C c s := by
  obtain ⟨N, t, r, A, h⟩ := h
  rcases u4 u with hu | ⟨i, hi, rfl⟩
  · exact ⟨0, c, s, x_fchN hu, x_chN hu, N, t, r, A, RE_up h hC⟩
  · have e0 := h.2.1.1.2.2.2
    have eT := h.2.1.1.2.1
    have y := x_ch (xs := xs) (L := L) (c := us_nonce (cI c 0 4 (c.1 0 4 * 69069 + 1)) i (c.1 0 4 * 69069 + 1)) (s := s) hi
    rw [← e0] at y
    have at1 : ∀ q j, (us_nonce (cI c 0 4 (c.1 0 4 * 69069 + 1)) i (c.1 0 4 * 69069 + 1)).1 q j = if q = pU i ∧ j = 6 then 0 else if q = pU i ∧ j = 5 then c.1 1 1 else if q = pU i ∧ j = 4 then c.1 0 4 * 69069 + 1 else if q = pU i ∧ j = 3 then 1 else if q = 0 ∧ j = 4 then c.1 0 4 * 69069 + 1 else c.1 q j := fun q j => by
      unfold us_nonce
      simp only [cI_at, Nat.reduceEqDiff, false_and, if_false]
    have at2 : ∀ p j, (m_ch s i).1 p j = if p = 176 ∧ j = i then 0 else if p = 175 ∧ j = i then s.1 170 1 else if p = 173 ∧ j = i then 1 else if p = 174 ∧ j = i then s.1 170 2 * 69069 + 1 else if p = 170 ∧ j = 2 then s.1 170 2 * 69069 + 1 else s.1 p j := fun p j => by
      unfold m_ch
      simp only [mI_at]
    refine ⟨_, _, _, x_fch hi, y, N, t, r, A, RE_user h hC hi (Gu_e (fun q j h1 h2 => ?_) rfl (fun p j h1 => ?_) rfl) ?_ ?_ (Nat.le_refl _) (by omega) ?_⟩
    · rw [at1, if_neg (by omega), if_neg (by omega), if_neg (by omega), if_neg (by omega), if_neg (by omega)]
    · rw [at2, if_neg (by omega), if_neg (by omega), if_neg (by omega), if_neg (by omega), if_neg (by omega)]
    · rw [at1, at2, if_neg (by unfold pU; omega), if_neg (by unfold pU; omega), if_neg (by unfold pU; omega), if_neg (by unfold pU; omega), if_pos (by omega), if_neg (by omega), if_neg (by omega), if_neg (by omega), if_neg (by omega), if_pos (by omega), e0]
    · rw [at2, if_neg (by omega), if_neg (by omega), if_neg (by omega), if_neg (by omega), if_neg (by omega)]; exact h.2.2.1
    · obtain ⟨hS, m, k, f, hB⟩ := h.2.2.2 i hi
      have hb := h.1
      refine ⟨?_, m, k, f, UB_eq hB (Nat.le_refl _) (by omega) (Nat.le_refl _) ?_ (fun b j hb => ?_) (fun j => rfl) (fun p x p1 p2 hx => ?_)⟩
      · unfold US at hS ⊢
        have n0 : (pU i = 0) = False := eq_false (by unfold pU; omega)
        simp only [at1, at2, n0, Nat.reduceEqDiff, true_and, and_true, false_and, and_false, if_true, if_false, eq_self]
        exact ⟨hS.1, hS.2.1, by rw [e0], by rw [eT.1, eT.2]⟩
      · rw [at1, if_neg (by omega), if_neg (by omega), if_neg (by omega), if_neg (by omega), if_neg (by omega)]
      · rw [at1, if_neg (by unfold pN pU; omega), if_neg (by unfold pN pU; omega), if_neg (by unfold pN pU; omega), if_neg (by unfold pN pU; omega), if_neg (by unfold pN; omega)]
      · rw [at2, if_neg (by omega), if_neg (by omega), if_neg (by omega), if_neg (by omega), if_neg (by omega)]
theorem ok_lok {N t i : Nat} {w a : Int32} (hG : RG N t c s) (hS : US c s i) : us_ok c i w a ↔ m_lok s i w a := by
  unfold us_ok m_lok
  rw [hS.1, hS.2.2.1, hS.2.2.2.1, hS.2.2.2.2.1, hS.2.2.2.2.2, hG.1.1, hG.1.2, hG.2.1.1, hG.2.1.2]
  simp only [Int32.not_le]
theorem st_lo {u w a : Int32} (h : Rel C c s) (hC : C < 512) : St xs L 3 99 [.int u, .int w, .int a] C c s := by
  obtain ⟨N, t, r, A, h⟩ := h
  rcases u4 u with hu | ⟨i, hi, rfl⟩
  · exact ⟨0, c, s, x_floN hu, x_loN hu, N, t, r, A, RE_up h hC⟩
  · obtain ⟨hS, m, k, f, hB⟩ := h.2.2.2 i hi
    have hb := h.1
    by_cases hk : us_ok c i w a
    · refine ⟨1, _, _, x_flo1 hi hk, x_lo1 hi ((ok_lok h.2.1.1 hS).mp hk), N, t, r, A, RE_user h hC hi (Gu_e (fun q j h1 h2 => ?_) rfl (fun p j h1 => ?_) rfl) ?_ ?_ (Nat.le_refl _) (by omega) ?_⟩
      · rw [cI_at, if_neg (by unfold pU at *; omega), cI_at, if_neg (by unfold pU at *; omega)]
      · rw [mI_at, if_neg (by omega), mI_at, if_neg (by omega)]
      · rw [cI_at, if_neg (by unfold pU at *; omega), cI_at, if_neg (by unfold pU at *; omega), mI_at, if_neg (by omega), mI_at, if_neg (by omega)]; exact h.2.1.1.2.2.2
      · rw [mI_at, if_neg (by omega), mI_at, if_neg (by omega)]; exact h.2.2.1
      · refine ⟨?_, m, k, f, UB_eq hB (Nat.le_refl _) (by omega) (Nat.le_refl _) ?_ (fun b j hb => ?_) (fun j => rfl) (fun p x p1 p2 hx => ?_)⟩
        · unfold US at hS ⊢
          simp only [cI_at, mI_at, Nat.reduceEqDiff, true_and, and_true, false_and, and_false, if_true, if_false, eq_self]
          exact ⟨hS.1, hS.2.2.1, hS.2.2.2.1, hS.2.2.2.2.1⟩
        · rw [cI_at, if_neg (by omega), cI_at, if_neg (by omega)]
        · rw [cI_at, if_neg (by unfold pN pU; omega), cI_at, if_neg (by unfold pN pU; omega)]
        · rw [mI_at, if_neg (by omega), mI_at, if_neg (by omega)]
    · exact ⟨0, c, s, x_flo0 hi hk, x_lo0 hi (fun w => hk ((ok_lok h.2.1.1 hS).mpr w)), N, t, r, A, RE_up h hC⟩
end US
