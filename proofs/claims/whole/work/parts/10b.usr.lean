-- counting
def ctn (p : Nat → Bool) : Nat → Nat
  | 0 => 0
  | n + 1 => ctn p n + (if p n = true then 1 else 0)
theorem ctn_eq {p q : Nat → Bool} : ∀ n, (∀ i, i < n → p i = q i) → ctn p n = ctn q n := by
  intro n
  induction n with
  | zero => intro _; rfl
  | succ n ih => intro h; rw [ctn, ctn, ih (fun i hi => h i (by omega)), h n (by omega)]
theorem ctn_none {p : Nat → Bool} : ∀ n, (∀ i, i < n → ¬ p i = true) → ctn p n = 0 := by
  intro n
  induction n with
  | zero => intro _; rfl
  | succ n ih => intro h; rw [ctn, ih (fun i hi => h i (by omega)), if_neg (h n (by omega))]
theorem ctn_all {p : Nat → Bool} : ∀ n, (∀ i, i < n → p i = true) → ctn p n = n := by
  intro n
  induction n with
  | zero => intro _; rfl
  | succ n ih => intro h; rw [ctn, ih (fun i hi => h i (by omega)), if_pos (h n (by omega))]
theorem ctn_le {p : Nat → Bool} : ∀ n, ctn p n ≤ n := by
  intro n
  induction n with
  | zero => exact Nat.le_refl _
  | succ n ih => rw [ctn]; split <;> omega
theorem ctn_full {p : Nat → Bool} : ∀ n, ctn p n = n → ∀ i, i < n → p i = true := by
  intro n
  induction n with
  | zero => intro _ i hi; omega
  | succ n ih =>
    intro h i hi
    rw [ctn] at h
    have := ctn_le (p := p) n
    by_cases e : p n = true
    · rw [if_pos e] at h
      by_cases e2 : i = n
      · rw [e2]; exact e
      · exact ih (by omega) i (by omega)
    · rw [if_neg e] at h; omega
theorem ctn_mono {p q : Nat → Bool} : ∀ n, (∀ i, i < n → p i = true → q i = true) → ctn p n ≤ ctn q n := by
  intro n
  induction n with
  | zero => intro _; exact Nat.le_refl _
  | succ n ih =>
    intro h
    have g := ih (fun i hi => h i (by omega))
    rw [ctn, ctn]
    by_cases e : p n = true
    · rw [if_pos e, if_pos (h n (by omega) e)]; omega
    · rw [if_neg e]; omega
theorem ctn_lt {p q : Nat → Bool} {a : Nat} (hq : q a = true) (hp : ¬ p a = true) : ∀ n, a < n → (∀ i, i < n → p i = true → q i = true) → ctn p n < ctn q n := by
  intro n
  induction n with
  | zero => intro h _; omega
  | succ n ih =>
    intro h g
    rw [ctn, ctn]
    by_cases e : a = n
    · have := ctn_mono n (fun i hi => g i (by omega))
      rw [← e, if_neg hp, if_pos hq, e]; omega
    · have := ih (by omega) (fun i hi => g i (by omega))
      by_cases e2 : p n = true
      · rw [if_pos e2, if_pos (g n (by omega) e2)]; omega
      · rw [if_neg e2]; omega
def del (p : Nat → Bool) (a i : Nat) : Bool := if i = a then false else p i
theorem ctn_del {p : Nat → Bool} {a : Nat} : ∀ n, a < n → ctn p n = ctn (del p a) n + (if p a = true then 1 else 0) := by
  intro n
  induction n with
  | zero => intro h; omega
  | succ n ih =>
    intro h
    rw [ctn, ctn]
    by_cases e : a = n
    · rw [e, show del p n n = false by unfold del; rw [if_pos rfl], if_neg (show ¬ false = true by decide)]
      rw [ctn_eq (p := del p n) (q := p) n (fun i hi => by unfold del; rw [if_neg (by omega)])]
      omega
    · rw [ih (by omega), show del p a n = p n by unfold del; rw [if_neg (by omega)]]
      omega
theorem ctn_card {n : Nat} {k : Nat → Nat} {p : Nat → Bool} : ∀ (m : Nat) (q : Nat → Bool), (∀ i, i < m → k i < n) → (∀ i j, i < j → j < m → ¬ k i = k j) → (∀ x, x < n → (q x = true ↔ ∃ i, i < m ∧ k i = x ∧ p i = true)) → ctn q n = ctn p m := by
  intro m
  induction m with
  | zero =>
    intro q _ _ h
    rw [ctn]
    exact ctn_none n (fun x hx w => by obtain ⟨i, hi, _⟩ := (h x hx).mp w; omega)
  | succ m ih =>
    intro q h1 h2 h3
    rw [ctn, ctn_del n (h1 m (by omega))]
    rw [ih (del q (k m)) (fun i hi => h1 i (by omega)) (fun i j hi hj => h2 i j hi (by omega)) (fun x hx => ?_)]
    · congr 1
      by_cases e : p m = true
      · rw [if_pos e, if_pos ((h3 _ (h1 m (by omega))).mpr ⟨m, by omega, rfl, e⟩)]
      · rw [if_neg e, if_neg (fun w => ?_)]
        obtain ⟨i, hi, e1, e2⟩ := (h3 _ (h1 m (by omega))).mp w
        by_cases e3 : i = m
        · rw [e3] at e2; exact e e2
        · exact h2 i m (by omega) (by omega) e1
    · unfold del
      by_cases e : x = k m
      · rw [if_pos e]
        refine ⟨fun w => absurd w (by decide), fun w => ?_⟩
        obtain ⟨i, hi, e1, e2⟩ := w
        exact absurd (e1.trans e) (h2 i m hi (by omega))
      · rw [if_neg e, h3 x hx]
        refine ⟨fun w => ?_, fun w => ?_⟩
        · obtain ⟨i, hi, e1, e2⟩ := w
          refine ⟨i, ?_, e1, e2⟩
          by_cases e3 : i = m
          · rw [e3] at e1; exact absurd e1.symm e
          · omega
        · obtain ⟨i, hi, e1, e2⟩ := w
          exact ⟨i, by omega, e1, e2⟩
-- a one-to-one map of a finite set into itself takes every value
theorem onto_m {m : Nat} {g : Nat → Nat} (h1 : ∀ i, i < m → g i < m) (h2 : ∀ i j, i < j → j < m → ¬ g i = g j) : ∀ x, x < m → ∃ i, i < m ∧ g i = x := by
  intro x hx
  have w : ctn (fun x => @decide (∃ i, i < m ∧ g i = x) (Classical.propDecidable _)) m = ctn (fun _ => true) m := ctn_card m _ h1 h2 (fun y _ => by
    constructor
    · intro w; obtain ⟨i, hi, e⟩ := @of_decide_eq_true _ (Classical.propDecidable _) w; exact ⟨i, hi, e, rfl⟩
    · rintro ⟨i, hi, e, _⟩; exact @decide_eq_true _ (Classical.propDecidable _) ⟨i, hi, e⟩)
  rw [ctn_all (p := fun _ => true) m (fun _ _ => rfl)] at w
  exact @of_decide_eq_true _ (Classical.propDecidable _) (ctn_full m w x hx)
-- the loops as counts
theorem bc_ctn {s : MM} {u : Nat} : ∀ (d k : Nat), m_bc s u d k (ctn (fun x => decide (s.1 170 1 < s.1 177 (16 * u + x))) k) = ctn (fun x => decide (s.1 170 1 < s.1 177 (16 * u + x))) (k + d) := by
  intro d
  induction d with
  | zero => intro k; rw [m_bc]; rfl
  | succ d ih =>
    intro k
    rw [m_bc, show k + (d + 1) = k + 1 + d by omega, ← ih (k + 1)]
    congr 1
    rw [ctn]
    by_cases e : s.1 170 1 < s.1 177 (16 * u + k)
    · rw [if_pos e, if_pos (decide_eq_true e)]
    · rw [if_neg e, if_neg (fun w => e (of_decide_eq_true w))]; rfl
def rB (s : MM) (u k x : Nat) : Bool := decide (s.1 170 1 < s.1 177 (16 * u + x)) && @decide _ (m_befD s u x k)
theorem rk_ctn {s : MM} {u k : Nat} : ∀ (n d : Nat), m_rk s u k n d (ctn (rB s u k) d) = ctn (rB s u k) (d + n) := by
  intro n
  induction n with
  | zero => intro d; rw [m_rk]; rfl
  | succ n ih =>
    intro d
    rw [m_rk, show d + (n + 1) = d + 1 + n by omega, ← ih (d + 1)]
    congr 1
    rw [ctn]
    unfold rB
    by_cases e : s.1 170 1 < s.1 177 (16 * u + d)
    · rw [if_pos e, decide_eq_true e, Bool.true_and]
      by_cases e2 : m_bef s u d k
      · rw [@if_pos _ (m_befD s u d k) e2, if_pos (@decide_eq_true _ (m_befD s u d k) e2)]
      · rw [@if_neg _ (m_befD s u d k) e2, if_neg (fun w => e2 (@of_decide_eq_true _ (m_befD s u d k) w))]; rfl
    · rw [if_neg e, decide_eq_false e, Bool.false_and, if_neg (by decide)]; rfl
def cB (c : CM) (u k i : Nat) : Bool := @decide _ (us_bfD c u k i)
theorem urk_ctn {c : CM} {u k : Nat} : ∀ (d i : Nat), us_rk c u k d i (ctn (cB c u k) i) = ctn (cB c u k) (i + d) := by
  intro d
  induction d with
  | zero => intro i; rw [us_rk]; rfl
  | succ d ih =>
    intro i
    rw [us_rk, show i + (d + 1) = i + 1 + d by omega, ← ih (i + 1)]
    congr 1
    rw [ctn]
    unfold cB
    by_cases e2 : us_bf c u k i
    · rw [@if_pos _ (us_bfD c u k i) e2, if_pos (@decide_eq_true _ (us_bfD c u k i) e2)]
    · rw [@if_neg _ (us_bfD c u k i) e2, if_neg (fun w => e2 (@of_decide_eq_true _ (us_bfD c u k i) w))]; rfl
