-- all four calls
def CQ (T t M r : Nat) (c : CM) (s : MM) (a : Nat) : Prop := RC (fun _ => T) (fun _ _ => T) t M c s a (nb c a) ∧ (∃ g o, RQ c s a (nb c a) r g o) ∧ RQ1 s a (nb c a)
def QA (τ : Nat → Nat) (N t M r : Nat) (c : CM) (s : MM) : Prop := RG N t c s ∧ s.1 170 28 = nI r ∧ ∀ a, a < 4 → CQ (τ a) t M r c s a
theorem nb_of {c : CM} {a n : Nat} (h : c.1 (pC a) 3 = nI n) (hn : n ≤ 4) : nb c a = n := by
  unfold nb
  rw [h]; exact nI_clamp (by omega)
theorem CQ_eq {T t M r r' : Nat} {c c' : CM} {s s' : MM} {a : Nat} (h : CQ T t M r c s a) (hr : r ≤ r') (h1 : ∀ q j, (30 + 35 * a ≤ q ∧ q < 65 + 35 * a) → c'.1 q j = c.1 q j) (h2 : ∀ p j, MA a p j → s'.1 p j = s.1 p j) : CQ T t M r' c' s' a := by
  obtain ⟨g1, ⟨g, o, g2⟩, g3⟩ := h
  have e : nb c' a = nb c a := by unfold nb; rw [h1 _ _ (in_C a)]
  unfold CQ
  rw [e]
  have hn := g1.1.2.2.1
  have h3 : ∀ i, i < nb c a → s'.1 186 (4 * a + i) = s.1 186 (4 * a + i) ∧ s'.1 190 (4 * a + i) = s.1 190 (4 * a + i) ∧ s'.1 191 (4 * a + i) = s.1 191 (4 * a + i) := fun i hi => ⟨h2 _ _ (by unfold MA; omega), h2 _ _ (by unfold MA; omega), h2 _ _ (by unfold MA; omega)⟩
  refine ⟨RC_eq g1 h1 h2, ⟨g, o, RQ_eq g2 hr (h1 _ _ (in_C a)) (fun i hi => h1 _ _ (in_B (by omega))) h3⟩, RQ1_eq g3 (fun w => by rw [← h2 181 a (by unfold MA; omega)]; exact w) (fun i hi => ⟨(h3 i hi).1, (h3 i hi).2.1⟩)⟩
theorem RC_M {τs : Nat → Nat} {τb : Nat → Nat → Nat} {t M M' : Nat} {c : CM} {s : MM} {a n : Nat} (h : RC τs τb t M c s a n) (hM : M ≤ M') : RC τs τb t M' c s a n := by
  obtain ⟨f1, ⟨q, sg, f5⟩, f6, f7, f8, f9⟩ := h
  exact ⟨f1, ⟨q, sg, RS_M f5 hM⟩, f6, f7, fun i hi => (by obtain ⟨r, sa, se, w⟩ := f8 i hi; exact ⟨r, sa, se, RB_M w hM⟩), f9⟩
theorem QA_M {τ : Nat → Nat} {N t M M' r : Nat} {c : CM} {s : MM} (h : QA τ N t M r c s) (hM : M ≤ M') : QA τ N t M' r c s := ⟨h.1, h.2.1, fun a ha => ⟨RC_M (h.2.2 a ha).1 hM, (h.2.2 a ha).2⟩⟩
theorem QA_get {τ : Nat → Nat} {N t M r a : Nat} {c : CM} {s : MM} (h : QA τ N t M r c s) (ha : a < 4) : SQ (fun _ => τ a) (fun _ _ => τ a) N t M a (nb c a) r c s := ⟨⟨h.1, (h.2.2 a ha).1, (h.2.2 a ha).2.1, h.2.1⟩, (h.2.2 a ha).2.2⟩
theorem MA_ne {a b p j : Nat} (h : MA b p j) (ne : ¬ b = a) : ¬ MA a p j ∧ ¬ (p = 170 ∧ (j = 30 ∨ j = 28)) := by
  unfold MA at *; omega
theorem QA_put {τ : Nat → Nat} {N t M r r' a n T : Nat} {c c' : CM} {s s' : MM} (h : QA τ N t M r c s) (ha : a < 4) (hr : r ≤ r') (hq : SQ (fun _ => T) (fun _ _ => T) N t M a n r' c' s') (hF : Fr a c c') (hm : Fm a s s') : QA (fun b => if b = a then T else τ b) N t M r' c' s' := by
  obtain ⟨⟨g1, g2, g3, g4⟩, g5⟩ := hq
  refine ⟨g1, g4, fun b hb => ?_⟩
  show CQ (if b = a then T else τ b) t M r' c' s' b
  by_cases e : b = a
  · rw [e, if_pos rfl]
    unfold CQ
    rw [nb_of g2.1.1 g2.1.2.2.1]
    exact ⟨g2, g3, g5⟩
  · rw [if_neg e]
    exact CQ_eq (h.2.2 b hb) hr (fun q j hq => hF.1 q j (by omega) (by omega)) (fun p j hp => hm p j (MA_ne hp e).1 (MA_ne hp e).2)
theorem QA_nb {τ : Nat → Nat} {N t M r a : Nat} {c : CM} {s : MM} (h : QA τ N t M r c s) (ha : a < 4) : c.1 (pC a) 3 = nI (nb c a) ∧ nb c a ≤ 4 ∧ s.1 185 a = nI (nb c a) := ⟨(h.2.2 a ha).1.1.1, (h.2.2 a ha).1.1.2.2.1, (h.2.2 a ha).1.1.2.1⟩
theorem QA_Nok {τ : Nat → Nat} {N t M r : Nat} {c : CM} {s : MM} (h : QA τ N t M r c s) : Nok c := fun _ ha => ⟨(QA_nb h ha).1, (QA_nb h ha).2.1⟩
theorem QA_Mok {τ : Nat → Nat} {N t M r : Nat} {c : CM} {s : MM} (h : QA τ N t M r c s) : Mok s (nb c) := fun _ ha => ⟨(QA_nb h ha).2.2, (QA_nb h ha).2.1⟩
-- what only time changes
theorem QA_time {T N t M r : Nat} {c : CM} {s : MM} (h : QA (fun _ => T) T t M r c s) (hN : T + 1 = N) : QA (fun _ => T) N t M r (cI c 1 1 (c.1 1 1 + 1)) (mI s 170 1 (s.1 170 1 + 1)) := by
  obtain ⟨⟨g1, g2, g3, g4⟩, h2, h3⟩ := h
  refine ⟨?_, ?_, fun a ha => CQ_eq (h3 a ha) (Nat.le_refl _) (fun q j hq => ?_) (fun p j hp => ?_)⟩
  · unfold RG
    simp only [cI_at, mI_at, Nat.reduceEqDiff, and_true, true_and, and_false, false_and, if_true, if_false, and_self]
    refine ⟨g1, ⟨?_, ?_⟩, g3, g4⟩
    · rw [g2.1, ad1, hN]
    · rw [g2.2, ad1, hN]
  · rw [mI_at, if_neg (by omega)]; exact h2
  · rw [cI_at, if_neg (by omega)]
  · rw [mI_at, if_neg (by unfold MA at hp; omega)]
-- one instant's due timers of the four calls
def ta (T N k a : Nat) : Nat := if a < k then N else T
theorem ta_s {T N k : Nat} : (fun b => if b = k then N else ta T N k b) = ta T N (k + 1) := by
  funext b
  unfold ta
  by_cases e : b = k
  · rw [if_pos e, if_pos (by omega)]
  · rw [if_neg e]
    by_cases e2 : b < k
    · rw [if_pos e2, if_pos (by omega)]
    · rw [if_neg e2, if_neg (by omega)]
theorem ta_0 {T N : Nat} : ta T N 0 = fun _ => T := by
  funext b; unfold ta; rw [if_neg (by omega)]
-- what the calls leave alone
def Fz (c c' : CM) (s s' : MM) : Prop := (∀ q j, 5 ≤ q → q < 30 → c'.1 q j = c.1 q j) ∧ c'.2.1 = c.2.1 ∧ (∀ p j, 171 ≤ p → p ≤ 180 → s'.1 p j = s.1 p j) ∧ s'.1 170 13 = s.1 170 13
theorem Fz_r {c : CM} {s : MM} : Fz c c s s := ⟨fun _ _ _ _ => rfl, rfl, fun _ _ _ _ => rfl, rfl⟩
theorem Fz_t {c d e : CM} {s u v : MM} (h : Fz c d s u) (g : Fz d e u v) : Fz c e s v := ⟨fun q j x y => (g.1 q j x y).trans (h.1 q j x y), g.2.1.trans h.2.1, fun p j x y => (g.2.2.1 p j x y).trans (h.2.2.1 p j x y), g.2.2.2.trans h.2.2.2⟩
theorem Fz_a {a : Nat} {c c' : CM} {s s' : MM} (h : Fr a c c') (g : Fm a s s') : Fz c c' s s' := ⟨fun q j x y => h.1 q j (by omega) (by omega), h.2, fun p j x y => g p j (by unfold MA; omega) (by omega), g 170 13 (by unfold MA; omega) (by omega)⟩
theorem Fz_1 {c : CM} {s : MM} {v w : Int32} : Fz c (cI c 1 1 v) s (mI s 170 1 w) := ⟨fun q j x y => by rw [cI_at, if_neg (by omega)], rfl, fun p j x y => by rw [mI_at, if_neg (by omega)], by rw [mI_at, if_neg (by omega)]⟩
theorem QA_one {T N t M r k : Nat} {c : CM} {s : MM} {f : Nat → Nat} (hN : T + 1 = N) (hM : N + 200 * t ≤ M) (hM2 : M < 2147483647) (ht : 1 ≤ t) (ht2 : t ≤ 100) (hr : r + 4 < 2147483647) (hk : k < 4) (h : QA (ta T N k) N t M r c s) (hf : ∀ a, a < 4 → nb c a = f a) : ∃ r', QA (ta T N (k + 1)) N t M r' (if cl_live c k (nb c k) = 0 then c else cl_run c k (nb c k)) (m_tc s k (f k)) ∧ r ≤ r' ∧ r' ≤ r + 4 ∧ (∀ a, a < 4 → nb (if cl_live c k (nb c k) = 0 then c else cl_run c k (nb c k)) a = f a) ∧ Fz c (if cl_live c k (nb c k) = 0 then c else cl_run c k (nb c k)) s (m_tc s k (f k)) := by
  have q := QA_get h hk
  rw [show ta T N k k = T by unfold ta; rw [if_neg (by omega)]] at q
  obtain ⟨r', q1, q2, q3, q4, q5⟩ := SQ_run hN hM hM2 ht ht2 hr q
  rw [← hf k hk]
  refine ⟨r', ?_, q2, q3, fun a ha => ?_, Fz_a q4 q5⟩
  · rw [← ta_s]; exact QA_put h hk q2 q1 q4 q5
  · by_cases e : a = k
    · rw [e, nb_of q1.1.2.1.1.1 q1.1.2.1.1.2.2.1]; exact hf k hk
    · rw [← hf a ha]
      show Int32.toNatClampNeg _ = Int32.toNatClampNeg _
      rw [q4.1 (pC a) 3 (by unfold pC; omega) (by unfold pC; omega)]
theorem QA_four {T N t M r : Nat} {c : CM} {s : MM} {f : Nat → Nat} (hN : T + 1 = N) (hM : N + 200 * t ≤ M) (hM2 : M < 2147483647) (ht : 1 ≤ t) (ht2 : t ≤ 100) (hr : r + 16 < 2147483647) (h : QA (fun _ => T) N t M r c s) (hf : ∀ a, a < 4 → nb c a = f a) : ∃ r', QA (fun _ => N) N t M r' (fi_rd 4 0 c) (m_t4 s f) ∧ r' ≤ r + 16 ∧ (∀ a, a < 4 → nb (fi_rd 4 0 c) a = f a) ∧ Fz c (fi_rd 4 0 c) s (m_t4 s f) := by
  rw [← ta_0 (T := T) (N := N)] at h
  obtain ⟨r1, h1, a1, b1, f1, z1⟩ := QA_one hN hM hM2 ht ht2 (by omega) (show 0 < 4 by decide) h hf
  obtain ⟨r2, h2, a2, b2, f2, z2⟩ := QA_one hN hM hM2 ht ht2 (by omega) (show 1 < 4 by decide) h1 f1
  obtain ⟨r3, h3, a3, b3, f3, z3⟩ := QA_one hN hM hM2 ht ht2 (by omega) (show 2 < 4 by decide) h2 f2
  obtain ⟨r4, h4, a4, b4, f4, z4⟩ := QA_one hN hM hM2 ht ht2 (by omega) (show 3 < 4 by decide) h3 f3
  refine ⟨r4, ?_, by omega, f4, Fz_t (Fz_t (Fz_t z1 z2) z3) z4⟩
  refine ⟨h4.1, h4.2.1, fun a ha => ?_⟩
  have := h4.2.2 a ha
  rw [show ta T N (3 + 1) a = N by unfold ta; rw [if_pos (by omega)]] at this
  exact this
-- the earliest due instant
theorem mn_gt {w x y : Int32} (h1 : w < x) (h2 : w < y) : w < mn x y := by
  unfold mn; split <;> assumption
theorem mn_l {x y : Int32} : mn x y ≤ x := by
  unfold mn; split
  · next h => rw [Int32.le_iff_toInt_le]; rw [Int32.lt_iff_toInt_lt] at h; omega
  · exact Int32.le_refl _
theorem mn_r {x y : Int32} : mn x y ≤ y := by
  unfold mn; split
  · exact Int32.le_refl _
  · next h => exact Int32.not_lt.mp h
theorem sv_due_gt {c : CM} {a : Nat} {w : Int32} (h : ∀ k, k < 4 → w < c.1 (pG a k) 2) : w < sv_due c a := mn_gt (mn_gt (h 0 (by decide)) (h 1 (by decide))) (mn_gt (h 2 (by decide)) (h 3 (by decide)))
theorem sv_due_le {c : CM} {a k : Nat} (h : k < 4) : sv_due c a ≤ c.1 (pG a k) 2 := by
  unfold sv_due
  rcases k4 h with rfl | rfl | rfl | rfl
  · exact Int32.le_trans mn_l mn_l
  · exact Int32.le_trans mn_l mn_r
  · exact Int32.le_trans mn_r mn_l
  · exact Int32.le_trans mn_r mn_r
theorem b_due_gt {c : CM} {a i : Nat} {w : Int32} (h : ∀ k, k < 6 → w < c.1 (pT a i k) 2) : w < b_due c a i := mn_gt (mn_gt (h 0 (by decide)) (mn_gt (h 1 (by decide)) (h 2 (by decide)))) (mn_gt (h 3 (by decide)) (mn_gt (h 4 (by decide)) (h 5 (by decide))))
theorem b_due_le {c : CM} {a i k : Nat} (h : k < 6) : b_due c a i ≤ c.1 (pT a i k) 2 := by
  unfold b_due
  rcases k6 h with rfl | rfl | rfl | rfl | rfl | rfl
  · exact Int32.le_trans mn_l mn_l
  · exact Int32.le_trans mn_l (Int32.le_trans mn_r mn_l)
  · exact Int32.le_trans mn_l (Int32.le_trans mn_r mn_r)
  · exact Int32.le_trans mn_r mn_l
  · exact Int32.le_trans mn_r (Int32.le_trans mn_r mn_l)
  · exact Int32.le_trans mn_r (Int32.le_trans mn_r mn_r)
theorem cl_dl_gt {c : CM} {a : Nat} {w : Int32} : ∀ (d i : Nat) (z : Int32), w < z → (∀ j, i ≤ j → j < i + d → w < b_due c a j) → w < cl_dl c a d i z := by
  intro d
  induction d with
  | zero => intro i z h _; exact h
  | succ d ih => intro i z h g; exact ih (i + 1) _ (mn_gt h (g i (by omega) (by omega))) (fun j h1 h2 => g j (by omega) (by omega))
theorem cl_dl_le {c : CM} {a : Nat} : ∀ (d i : Nat) (z : Int32), cl_dl c a d i z ≤ z ∧ ∀ j, i ≤ j → j < i + d → cl_dl c a d i z ≤ b_due c a j := by
  intro d
  induction d with
  | zero => intro i z; exact ⟨Int32.le_refl _, fun j h1 h2 => absurd h2 (by omega)⟩
  | succ d ih =>
    intro i z
    obtain ⟨h1, h2⟩ := ih (i + 1) (mn z (b_due c a i))
    refine ⟨Int32.le_trans h1 mn_l, fun j g1 g2 => ?_⟩
    by_cases e : j = i
    · rw [e]; exact Int32.le_trans h1 mn_r
    · exact h2 j (by omega) (by omega)
theorem fi_dl_gt {c : CM} {w : Int32} : ∀ (d a : Nat) (z : Int32), w < z → (∀ b, a ≤ b → b < a + d → w < cl_due c b (nb c b)) → w < fi_dl c d a z := by
  intro d
  induction d with
  | zero => intro i z h _; exact h
  | succ d ih => intro i z h g; exact ih (i + 1) _ (mn_gt h (g i (by omega) (by omega))) (fun j h1 h2 => g j (by omega) (by omega))
theorem fi_dl_le {c : CM} : ∀ (d i : Nat) (z : Int32), fi_dl c d i z ≤ z ∧ ∀ j, i ≤ j → j < i + d → fi_dl c d i z ≤ cl_due c j (nb c j) := by
  intro d
  induction d with
  | zero => intro i z; exact ⟨Int32.le_refl _, fun j h1 h2 => absurd h2 (by omega)⟩
  | succ d ih =>
    intro i z
    obtain ⟨h1, h2⟩ := ih (i + 1) (mn z (cl_due c i (nb c i)))
    refine ⟨Int32.le_trans h1 mn_l, fun j g1 g2 => ?_⟩
    by_cases e : j = i
    · rw [e]; exact Int32.le_trans h1 mn_r
    · exact h2 j (by omega) (by omega)
