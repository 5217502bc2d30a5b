theorem sh_p {u : Nat} : ∀ (d i : Nat) (c : CM) (q j : Nat), (us_sh u d i c).2.1 q j = if q = pW u ∧ i ≤ j ∧ j < i + d then c.2.1 (pW u) (j + 1) else c.2.1 q j := by
  intro d
  induction d with
  | zero => intro i c q j; rw [us_sh, if_neg (by omega)]
  | succ d ih =>
    intro i c q j
    rw [us_sh, ih]
    by_cases e : q = pW u ∧ i + 1 ≤ j ∧ j < i + 1 + d
    · rw [if_pos e, if_pos (by omega), cP_at, if_neg (by omega)]
    · rw [if_neg e, cP_at]
      by_cases e2 : q = pW u ∧ j = i
      · rw [if_pos e2, if_pos (by omega), e2.2]
      · rw [if_neg e2, if_neg (by omega)]
theorem sh_l {u : Nat} : ∀ (d i : Nat) (c : CM), (us_sh u d i c).2.2 = c.2.2 := by
  intro d
  induction d with
  | zero => intro i c; rw [us_sh]
  | succ d ih => intro i c; rw [us_sh, ih]; rfl
theorem rm_p {c : CM} {u k m q j : Nat} (hk : k < m) : (us_rm c u k m).2.1 q j = if q = pW u ∧ j = m - 1 then c.2.1 (pW u) k else if q = pW u ∧ k ≤ j ∧ j < m - 1 then c.2.1 (pW u) (j + 1) else c.2.1 q j := by
  unfold us_rm
  rw [cP_at, sh_p, show k + (m - 1 - k) = m - 1 by omega]
  rfl
theorem rm_l {c : CM} {u k m : Nat} : (us_rm c u k m).2.2 = c.2.2 := by
  unfold us_rm
  show (us_sh u (m - 1 - k) k (cI c (pU u) 8 (nI (m - 1)))).2.2 = c.2.2
  rw [sh_l]; rfl
theorem rm_c {c : CM} {u k m q j : Nat} (h : ¬ (q = pU u ∧ j = 8)) : (us_rm c u k m).1 q j = c.1 q j := by
  rw [us_rm_1, cI_at, if_neg h]
def sk (g : Nat → Nat) (i j : Nat) : Nat := if j < i then g j else g (j + 1)
def si (i j : Nat) : Nat := if j < i then j else j + 1
theorem sk_si {g : Nat → Nat} {i j : Nat} : sk g i j = g (si i j) := by
  unfold sk si; split <;> rfl
theorem rm_bn {c : CM} {u k m j l : Nat} (hk : k < m) (hj : j < m - 1) : bn (us_rm c u k m) u j l = bn c u (si k j) l := by
  unfold bn si
  rw [rm_c (by unfold pN pU; omega), rm_p hk, if_neg (by omega)]
  by_cases e : j < k
  · rw [if_neg (by omega), if_pos e]
  · rw [if_pos (by omega), if_neg e]
def UL (A : Nat) (c : CM) (s : MM) (u x f i : Nat) : Prop := x < 16 ∧ bn c u i 0 = nI x ∧ bn c u i 1 = s.1 178 (16 * u + x) ∧ bn c u i 2 = s.1 177 (16 * u + x) ∧ bn c u i 3 = sh8 (s.1 180 (16 * u + x)) ∧ bn c u i 4 = (s.1 180 (16 * u + x) &&& 255) ∧ s.1 179 (16 * u + x) = nI f ∧ f < A
def UB (T A : Nat) (c : CM) (s : MM) (u m : Nat) (k f : Nat → Nat) : Prop :=
  (c.1 (pU u) 8 = nI m ∧ m ≤ 4 ∧ Pok c u ∧ ∀ i j, i < 4 → j < 4 → c.2.1 (pW u) i = c.2.1 (pW u) j → i = j)
  ∧ (∀ i, i < m → UL A c s u (k i) (f i) i)
  ∧ (∀ i j, i < j → j < m → ¬ k i = k j ∧ f i < f j)
  ∧ (∀ x, x < 16 → (∀ i, i < m → ¬ k i = x) → ¬ nI T < s.1 177 (16 * u + x))
def Fud (u : Nat) (c c' : CM) : Prop := (∀ q j, ¬ (q = pU u ∧ j = 8) → c'.1 q j = c.1 q j) ∧ (∀ q j, ¬ q = pW u → c'.2.1 q j = c.2.1 q j) ∧ c'.2.2 = c.2.2
theorem Fud_r {u : Nat} {c : CM} : Fud u c c := ⟨fun _ _ _ => rfl, fun _ _ _ => rfl, rfl⟩
theorem Fud_t {u : Nat} {c d e : CM} (h : Fud u c d) (g : Fud u d e) : Fud u c e := ⟨fun q j x => (g.1 q j x).trans (h.1 q j x), fun q j x => (g.2.1 q j x).trans (h.2.1 q j x), g.2.2.trans h.2.2⟩
theorem Fud_rm {u k m : Nat} {c : CM} (hk : k < m) : Fud u c (us_rm c u k m) := ⟨fun _ _ x => rm_c x, fun q j x => by rw [rm_p hk, if_neg (fun y => x y.1), if_neg (fun y => x y.1)], rm_l⟩
theorem UB_rm {T A u m i : Nat} {k f : Nat → Nat} {c : CM} {s s' : MM} (h : UB T A c s u m k f) (hi : i < m) (hs : ∀ p y, 177 ≤ p → p ≤ 180 → y < 16 → ¬ y = k i → s'.1 p (16 * u + y) = s.1 p (16 * u + y)) (he : ¬ nI T < s'.1 177 (16 * u + k i)) : UB T A (us_rm c u i m) s' u (m - 1) (sk k i) (sk f i) := by
  obtain ⟨⟨h1, h2, h3, h4⟩, h5, h6, h7⟩ := h
  have sm : ∀ j, j < m - 1 → si i j < m ∧ ¬ si i j = i := fun j hj => by unfold si; split <;> omega
  have ne : ∀ j, j < m → ¬ j = i → ¬ k j = k i := fun j hj e => by
    rcases Nat.lt_or_gt_of_ne e with w | w
    · exact (h6 j i w hi).1
    · exact fun q => (h6 i j w hj).1 q.symm
  refine ⟨⟨us_rm_8 c u i m, by omega, Pok_rm h3 hi h2, ?_⟩, ?_, ?_, ?_⟩
  · intro x y hx hy e
    have g : ∀ j, j < 4 → (us_rm c u i m).2.1 (pW u) j = c.2.1 (pW u) (if j = m - 1 then i else if i ≤ j ∧ j < m - 1 then j + 1 else j) := fun j hj => by
      rw [rm_p hi]
      by_cases e1 : j = m - 1
      · rw [if_pos ⟨rfl, e1⟩, if_pos e1]
      · rw [if_neg (fun w => e1 w.2), if_neg e1]
        by_cases e2 : i ≤ j ∧ j < m - 1
        · rw [if_pos ⟨rfl, e2⟩, if_pos e2]
        · rw [if_neg (fun w => e2 w.2), if_neg e2]
    rw [g x hx, g y hy] at e
    have := h4 _ _ (by split <;> (try split) <;> omega) (by split <;> (try split) <;> omega) e
    revert this
    split <;> split <;> (try split) <;> (try split) <;> omega
  · intro j hj
    obtain ⟨q1, q2⟩ := sm j hj
    have w := h5 _ q1
    have e := ne _ q1 q2
    rw [sk_si, sk_si]
    unfold UL at w ⊢
    rw [rm_bn hi hj, rm_bn hi hj, rm_bn hi hj, rm_bn hi hj, rm_bn hi hj, hs 178 _ (by omega) (by omega) w.1 e, hs 177 _ (by omega) (by omega) w.1 e, hs 180 _ (by omega) (by omega) w.1 e, hs 179 _ (by omega) (by omega) w.1 e]
    exact w
  · intro x y hx hy
    rw [sk_si, sk_si, sk_si, sk_si]
    exact h6 _ _ (by unfold si; split <;> split <;> omega) (sm y hy).1
  · intro x hx w
    by_cases e : x = k i
    · rw [e]; exact he
    · rw [hs 177 x (by omega) (by omega) hx e]
      refine h7 x hx (fun j hj => ?_)
      by_cases e2 : j = i
      · rw [e2]; exact fun q => e q.symm
      · intro q
        by_cases e3 : j < i
        · have := w j (by omega)
          rw [sk_si, show si i j = j by unfold si; rw [if_pos e3]] at this
          exact this q
        · have := w (j - 1) (by omega)
          rw [sk_si, show si i (j - 1) = j by unfold si; rw [if_neg (by omega)]; omega] at this
          exact this q
theorem UB_de {T A u : Nat} {s : MM} : ∀ (i : Nat) (c : CM) (m : Nat) (k f : Nat → Nat), i ≤ m → c.1 1 1 = nI T → UB T A c s u m k f → (∀ j, i ≤ j → j < m → nI T < bn c u j 2) → ∃ k' f', UB T A (us_de u i c m).1 s u (us_de u i c m).2 k' f' ∧ (∀ j, j < (us_de u i c m).2 → nI T < bn (us_de u i c m).1 u j 2) ∧ Fud u c (us_de u i c m).1 := by
  intro i
  induction i with
  | zero => intro c m k f _ _ h hb; rw [us_de]; exact ⟨k, f, h, fun j hj => hb j (by omega) hj, Fud_r⟩
  | succ i ih =>
    intro c m k f hi hT h hb
    rw [us_de]
    by_cases e : c.1 1 1 < c.1 (pN u (c.2.1 (pW u) i)) 2
    · rw [if_pos e]
      refine ih c m k f (by omega) hT h (fun j h1 h2 => ?_)
      by_cases e2 : j = i
      · rw [e2, ← hT]; exact e
      · exact hb j (by omega) h2
    · rw [if_neg e]
      have hi2 : i < m := by omega
      have q := UB_rm (s' := s) h hi2 (fun _ _ _ _ _ _ => rfl) (by rw [← (h.2.1 i hi2).2.2.2.1, ← hT]; exact e)
      obtain ⟨k', f', a1, a2, a3⟩ := ih (us_rm c u i m) (m - 1) _ _ (by omega) (by rw [rm_c (by unfold pU; omega)]; exact hT) q (fun j h1 h2 => by
        rw [rm_bn hi2 h2]; exact hb _ (by unfold si; split <;> omega) (by unfold si; split <;> omega))
      exact ⟨k', f', a1, a2, Fud_t (Fud_rm hi2) a3⟩
theorem rt_id {u : Nat} {w : Int32} : ∀ (i : Nat) (c : CM) (m : Nat), (∀ j, j < i → ¬ bn c u j 0 = w) → us_rt u w i c m = (c, m) := by
  intro i
  induction i with
  | zero => intro c m _; rw [us_rt]
  | succ i ih =>
    intro c m h
    rw [us_rt, if_neg (show ¬ c.1 (pN u (c.2.1 (pW u) i)) 0 = w from h i (by omega))]
    exact ih c m (fun j hj => h j (by omega))
theorem rt_one {u j m : Nat} {w : Int32} {c : CM} : ∀ (i : Nat), i ≤ m → j < i → bn c u j 0 = w → (∀ l, l < i → ¬ l = j → ¬ bn c u l 0 = w) → us_rt u w i c m = (us_rm c u j m, m - 1) := by
  intro i
  induction i with
  | zero => intro _ h _ _; omega
  | succ i ih =>
    intro hi hj hb hl
    rw [us_rt]
    by_cases e : i = j
    · rw [if_pos (show c.1 (pN u (c.2.1 (pW u) i)) 0 = w by rw [e]; exact hb), e]
      refine rt_id j _ _ (fun l h => ?_)
      rw [rm_bn (by omega) (by omega), show si j l = l by unfold si; rw [if_pos h]]
      exact hl l (by omega) (by omega)
    · rw [if_neg (show ¬ c.1 (pN u (c.2.1 (pW u) i)) 0 = w from hl i (by omega) e)]
      exact ih (by omega) (by omega) hb (fun l h1 h2 => hl l (by omega) h2)
