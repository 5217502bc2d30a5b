-- nothing ended is in the list
def UF (T A : Nat) (c : CM) (s : MM) (u m : Nat) (k f : Nat → Nat) : Prop := UB T A c s u m k f ∧ ∀ j, j < m → nI T < bn c u j 2
theorem UF_bd {T A u m : Nat} {k f : Nat → Nat} {c : CM} {s : MM} (h : UF T A c s u m k f) {x : Nat} (hx : x < 16) : nI T < s.1 177 (16 * u + x) ↔ ∃ i, i < m ∧ k i = x := by
  constructor
  · intro w
    apply Classical.byContradiction
    intro n
    exact h.1.2.2.2 x hx (fun i hi e => n ⟨i, hi, e⟩) w
  · rintro ⟨i, hi, rfl⟩
    rw [← (h.1.2.1 i hi).2.2.2.1]; exact h.2 i hi
theorem UB_ne {T A u m : Nat} {k f : Nat → Nat} {c : CM} {s : MM} (h : UB T A c s u m k f) {i j : Nat} (hi : i < m) (hj : j < m) (e : k i = k j) : i = j := by
  apply Classical.byContradiction
  intro n
  rcases Nat.lt_or_gt_of_ne n with w | w
  · exact (h.2.2.1 i j w hj).1 e
  · exact (h.2.2.1 j i w hi).1 e.symm
theorem UF_bc {T A u m : Nat} {k f : Nat → Nat} {c : CM} {s : MM} (h : UF T A c s u m k f) (hT : s.1 170 1 = nI T) : m_bc s u 16 0 0 = m := by
  have e := bc_ctn (s := s) (u := u) 16 0
  rw [ctn] at e
  rw [e, ctn_card (n := 0 + 16) (k := k) (p := fun _ => true) m _ (fun i hi => (h.1.2.1 i hi).1) (fun i j hi hj => (h.1.2.2.1 i j hi hj).1) (fun x hx => ?_)]
  · exact ctn_all m (fun _ _ => rfl)
  · rw [hT]
    constructor
    · intro w; obtain ⟨i, hi, e⟩ := (UF_bd h hx).mp (of_decide_eq_true w); exact ⟨i, hi, e, rfl⟩
    · rintro ⟨i, hi, e, _⟩; exact decide_eq_true ((UF_bd h hx).mpr ⟨i, hi, e⟩)
theorem UF_bef {T A u m : Nat} {k f : Nat → Nat} {c : CM} {s : MM} (h : UF T A c s u m k f) (hA : A < 2147483647) {i j : Nat} (hi : i < m) (hj : j < m) : m_bef s u (k j) (k i) ↔ us_bf c u i j := by
  have a := h.1.2.1 i hi
  have b := h.1.2.1 j hj
  unfold m_bef us_bf
  rw [a.2.2.1, b.2.2.1, a.2.2.2.2.2.2.1, b.2.2.2.2.2.2.1]
  have e : nI (f j) < nI (f i) ↔ j < i := by
    have fa := a.2.2.2.2.2.2.2
    have fb := b.2.2.2.2.2.2.2
    constructor
    · intro w
      apply Classical.byContradiction
      intro n
      rcases Nat.lt_or_eq_of_le (Nat.le_of_not_lt n) with q | q
      · have := (h.1.2.2.1 i j q hj).2
        exact nI_nlt (by omega) (by omega) w
      · rw [q] at w; exact nI_nlt (Nat.le_refl _) (by omega) w
    · intro w
      exact nI_lt (h.1.2.2.1 j i w hi).2 (by omega)
  rw [e]
theorem UF_rk {T A u m : Nat} {k f : Nat → Nat} {c : CM} {s : MM} (h : UF T A c s u m k f) (hT : s.1 170 1 = nI T) (hA : A < 2147483647) {i : Nat} (hi : i < m) : m_rk s u (k i) 16 0 0 = us_rk c u i m 0 0 := by
  have e := rk_ctn (s := s) (u := u) (k := k i) 16 0
  have e2 := urk_ctn (c := c) (u := u) (k := i) m 0
  rw [ctn] at e e2
  rw [e, e2, Nat.zero_add m, ctn_card (n := 0 + 16) (k := k) (p := cB c u i) m _ (fun i hi => (h.1.2.1 i hi).1) (fun i j hi hj => (h.1.2.2.1 i j hi hj).1) (fun x hx => ?_)]
  unfold rB cB
  rw [hT, Bool.and_eq_true]
  constructor
  · rintro ⟨w1, w2⟩
    obtain ⟨j, hj, e⟩ := (UF_bd h hx).mp (of_decide_eq_true w1)
    have w3 := @of_decide_eq_true _ (m_befD s u x (k i)) w2
    rw [← e] at w3
    exact ⟨j, hj, e, @decide_eq_true _ (us_bfD c u i j) ((UF_bef h hA hi hj).mp w3)⟩
  · rintro ⟨j, hj, e, w⟩
    have w3 := (UF_bef h hA hi hj).mpr (@of_decide_eq_true _ (us_bfD c u i j) w)
    rw [e] at w3
    exact ⟨decide_eq_true ((UF_bd h hx).mpr ⟨j, hj, e⟩), @decide_eq_true _ (m_befD s u x (k i)) w3⟩
-- ranks in the list
theorem bf_i {c : CM} {u i j : Nat} : us_bf c u i j ↔ ((bn c u i 1).toInt < (bn c u j 1).toInt ∨ ((bn c u j 1).toInt = (bn c u i 1).toInt ∧ j < i)) := by
  unfold us_bf
  rw [Int32.lt_iff_toInt_lt, ← Int32.toInt_inj]
theorem urk_e {c : CM} {u i m : Nat} : us_rk c u i m 0 0 = ctn (cB c u i) m := by
  have e2 := urk_ctn (c := c) (u := u) (k := i) m 0
  rw [ctn, Nat.zero_add] at e2
  exact e2
theorem cB_t {c : CM} {u i j : Nat} : cB c u i j = true ↔ us_bf c u i j := by
  unfold cB
  exact ⟨fun w => @of_decide_eq_true _ (us_bfD c u i j) w, fun w => @decide_eq_true _ (us_bfD c u i j) w⟩
theorem urk_lt {c : CM} {u i m : Nat} (hi : i < m) : us_rk c u i m 0 0 < m := by
  rw [urk_e]
  have : ctn (cB c u i) m < ctn (fun _ => true) m := ctn_lt (a := i) rfl (fun w => by
    rw [cB_t, bf_i] at w; omega) m hi (fun _ _ _ => rfl)
  rw [ctn_all (p := fun _ => true) m (fun _ _ => rfl)] at this
  exact this
theorem urk_bf {c : CM} {u i j m : Nat} (hj : j < m) (h : us_bf c u i j) : us_rk c u j m 0 0 < us_rk c u i m 0 0 := by
  rw [urk_e, urk_e]
  refine ctn_lt (a := j) (cB_t.mpr h) (fun w => ?_) m hj (fun l _ w => ?_)
  · rw [cB_t, bf_i] at w; omega
  · rw [cB_t, bf_i] at *; omega
theorem urk_ne {c : CM} {u i j m : Nat} (hj : j < m) (hi : i < m) (h : us_rk c u j m 0 0 = us_rk c u i m 0 0) : i = j := by
  apply Classical.byContradiction
  intro n
  have : us_bf c u i j ∨ us_bf c u j i := by rw [bf_i, bf_i]; omega
  rcases this with w | w
  · have := urk_bf hj w; omega
  · have := urk_bf hi w; omega
theorem urk_on {c : CM} {u m : Nat} : ∀ x, x < m → ∃ i, i < m ∧ us_rk c u i m 0 0 = x := onto_m (g := fun i => us_rk c u i m 0 0) (fun _ hi => urk_lt hi) (fun i j h1 h2 e => by have := urk_ne (by omega) h2 e; omega)
theorem urd_no {c : CM} {u m : Nat} {w : Int32} : ∀ (d i : Nat), us_rd c u m w d i = none → ∀ j, i ≤ j → j < i + d → ¬ nI (us_rk c u j m 0 0) = w := by
  intro d
  induction d with
  | zero => intro i _ j h1 h2; omega
  | succ d ih =>
    intro i h j h1 h2
    rw [us_rd] at h
    by_cases e : nI (us_rk c u i m 0 0) = w
    · rw [if_pos e] at h; exact absurd h (by simp)
    · rw [if_neg e] at h
      by_cases e2 : j = i
      · rw [e2]; exact e
      · exact ih (i + 1) h j (by omega) (by omega)
theorem mrd_c {s : MM} {u : Nat} {w : Int32} : ∀ (n k : Nat), (m_rd s u w n k = -1 ∧ ∀ x, k ≤ x → x < k + n → ¬ (s.1 170 1 < s.1 177 (16 * u + x) ∧ nI (m_rk s u x 16 0 0) = w)) ∨ ∃ x, k ≤ x ∧ x < k + n ∧ m_rd s u w n k = nI x ∧ s.1 170 1 < s.1 177 (16 * u + x) ∧ nI (m_rk s u x 16 0 0) = w := by
  intro n
  induction n with
  | zero => intro k; exact Or.inl ⟨rfl, fun x h1 h2 => by omega⟩
  | succ n ih =>
    intro k
    rw [m_rd]
    by_cases e : s.1 170 1 < s.1 177 (16 * u + k) ∧ nI (m_rk s u k 16 0 0) = w
    · rw [if_pos e]; exact Or.inr ⟨k, by omega, by omega, rfl, e.1, e.2⟩
    · rw [if_neg e]
      rcases ih (k + 1) with ⟨a, b⟩ | ⟨x, a1, a2, a3, a4, a5⟩
      · refine Or.inl ⟨a, fun x h1 h2 => ?_⟩
        by_cases e2 : x = k
        · rw [e2]; exact e
        · exact b x (by omega) (by omega)
      · exact Or.inr ⟨x, by omega, by omega, a3, a4, a5⟩
theorem UF_rdN {T A u m : Nat} {k f : Nat → Nat} {c : CM} {s : MM} {w : Int32} (h : UF T A c s u m k f) (hT : s.1 170 1 = nI T) (hA : A < 2147483647) (hr : us_rd c u m w m 0 = none) : m_rd s u w 16 0 = -1 := by
  rcases mrd_c (s := s) (u := u) (w := w) 16 0 with ⟨a, _⟩ | ⟨x, a1, a2, a3, a4, a5⟩
  · exact a
  · rw [hT] at a4
    obtain ⟨i, hi, e⟩ := (UF_bd h (by omega)).mp a4
    rw [← e, UF_rk h hT hA hi] at a5
    exact absurd a5 (urd_no m 0 hr i (by omega) (by omega))
theorem UF_rd {T A u m t : Nat} {k f : Nat → Nat} {c : CM} {s : MM} {w : Int32} (h : UF T A c s u m k f) (hT : s.1 170 1 = nI T) (hA : A < 2147483647) (hr : us_rd c u m w m 0 = some t) : m_rd s u w 16 0 = nI (k t) ∧ t < m := by
  obtain ⟨_, b2, b3⟩ := us_rd_lt c u m w m 0 t hr
  have ht : t < m := by omega
  have m4 := h.1.1.2.1
  refine ⟨?_, ht⟩
  have bt : nI T < s.1 177 (16 * u + k t) := (UF_bd h (h.1.2.1 t ht).1).mpr ⟨t, ht, rfl⟩
  rcases mrd_c (s := s) (u := u) (w := w) 16 0 with ⟨_, b⟩ | ⟨x, a1, a2, a3, a4, a5⟩
  · have k16 := (h.1.2.1 t ht).1
    refine absurd ⟨?_, ?_⟩ (b (k t) (by omega) (by omega))
    · rw [hT]; exact bt
    · rw [UF_rk h hT hA ht]; exact b3
  · rw [hT] at a4
    obtain ⟨i, hi, e⟩ := (UF_bd h (by omega)).mp a4
    rw [← e, UF_rk h hT hA hi, ← b3] at a5
    have l1 := urk_lt (c := c) (u := u) hi
    have l2 := urk_lt (c := c) (u := u) ht
    have : us_rk c u i m 0 0 = us_rk c u t m 0 0 := (nI_eq (by omega) (by omega)).mp a5
    have := urk_ne hi ht this
    rw [a3, ← e, this]
theorem urd_some {c : CM} {u m j : Nat} (hm : m ≤ 4) (hj : j < m) : ∃ t, us_rd c u m (nI j) m 0 = some t := by
  cases e : us_rd c u m (nI j) m 0 with
  | some t => exact ⟨t, rfl⟩
  | none =>
    obtain ⟨i, hi, e2⟩ := urk_on (c := c) (u := u) j hj
    exact absurd (by rw [e2]) (urd_no m 0 e i (by omega) (by omega))
theorem urd_none {c : CM} {u m j : Nat} (hm : m ≤ 4) (hj : m ≤ j) (hj4 : j < 4) : us_rd c u m (nI j) m 0 = none := by
  cases e : us_rd c u m (nI j) m 0 with
  | none => rfl
  | some t =>
    obtain ⟨_, b2, b3⟩ := us_rd_lt c u m (nI j) m 0 t e
    have l := urk_lt (c := c) (u := u) (i := t) (m := m) (by omega)
    have := (nI_eq (by omega) (by omega)).mp b3
    omega
-- stale marks
theorem od_ex {c : CM} {u : Nat} {ct mk : Int32} : ∀ (d i : Nat), us_od c u ct mk d i ↔ ∃ j, i ≤ j ∧ j < i + d ∧ us_od1 c u ct mk j := by
  intro d
  induction d with
  | zero => intro i; rw [us_od]; exact ⟨fun w => w.elim, fun ⟨j, h1, h2, _⟩ => by omega⟩
  | succ d ih =>
    intro i
    rw [us_od, ih]
    constructor
    · rintro (w | ⟨j, h1, h2, h3⟩)
      · exact ⟨i, by omega, by omega, w⟩
      · exact ⟨j, by omega, by omega, h3⟩
    · rintro ⟨j, h1, h2, h3⟩
      by_cases e : j = i
      · rw [e] at h3; exact Or.inl h3
      · exact Or.inr ⟨j, by omega, by omega, h3⟩
theorem rs_ex {s : MM} {u : Nat} {ct mk : Int32} : ∀ (d i : Nat), m_rs s u ct mk d i ↔ ∃ j, i ≤ j ∧ j < i + d ∧ ((ct = nI j ∨ ct = -1) ∧ m_st s u j mk) := by
  intro d
  induction d with
  | zero => intro i; rw [m_rs]; exact ⟨fun w => w.elim, fun ⟨j, h1, h2, _⟩ => by omega⟩
  | succ d ih =>
    intro i
    rw [m_rs, ih]
    constructor
    · rintro (w | ⟨j, h1, h2, h3⟩)
      · exact ⟨i, by omega, by omega, w⟩
      · exact ⟨j, by omega, by omega, h3⟩
    · rintro ⟨j, h1, h2, h3⟩
      by_cases e : j = i
      · rw [e] at h3; exact Or.inl h3
      · exact Or.inr ⟨j, by omega, by omega, h3⟩
theorem UF_od {T A u m : Nat} {k f : Nat → Nat} {c : CM} {s : MM} {ct mk : Int32} (h : UF T A c s u m k f) (hT : s.1 170 1 = nI T) : us_od c u ct mk m 0 ↔ m_rs s u ct mk 16 0 := by
  rw [od_ex, rs_ex]
  constructor
  · rintro ⟨i, _, hi, ⟨q1, q2⟩, q3⟩
    have a := h.1.2.1 i (by omega)
    have a1 := a.1
    refine ⟨k i, by omega, by omega, ?_, ⟨?_, ?_⟩, ?_⟩
    · rcases q1 with q1 | q1
      · exact Or.inr q1
      · exact Or.inl (q1.trans a.2.1)
    · rw [hT, ← a.2.2.2.1]; exact h.2 i (by omega)
    · rw [← a.2.2.2.2.1]; exact q2
    · rw [← a.2.2.2.2.2.1]; exact q3
  · rintro ⟨x, _, hx, q1, ⟨q2, q3⟩, q4⟩
    rw [hT] at q2
    obtain ⟨i, hi, e⟩ := (UF_bd h (by omega)).mp q2
    have a := h.1.2.1 i hi
    rw [e] at a
    refine ⟨i, by omega, by omega, ⟨?_, ?_⟩, ?_⟩
    · rcases q1 with q1 | q1
      · exact Or.inr (q1.trans a.2.1.symm)
      · exact Or.inl q1
    · rw [a.2.2.2.2.1]; exact q3
    · rw [a.2.2.2.2.2.1]; exact q4
