-- grades as numbers
def kn (x : Nat) : Prop := x = 401 ∨ x = 407 ∨ x = 415 ∨ x = 420 ∨ x = 484
def knD (x : Nat) : Decidable (kn x) := inferInstanceAs (Decidable (_ ∨ _))
def gC (x : Nat) : Nat := if x < 600 then @ite _ (kn x) (knD x) 8 (2 * (x / 100) + 1) else 0
def gM (x l : Nat) : Nat := if x < 600 then (if x / 100 = l then (if l = 4 then @ite _ (kn x) (knD x) 1 2 else 2) else 3) else 0
theorem kn_m {x : Nat} (h : x ≤ 699) : m_known (nI x) ↔ kn x := by
  unfold m_known kn
  have e : ∀ y, y < 1000 → (nI x = nI y ↔ x = y) := fun y hy => nI_eq (by omega) (by omega)
  exact or_congr (e 401 (by decide)) (or_congr (e 407 (by decide)) (or_congr (e 415 (by decide)) (or_congr (e 420 (by decide)) (e 484 (by decide)))))
theorem d100 {x : Nat} (h : x ≤ 699) : nI x / 100 = nI (x / 100) := pk_div (d := 100) (by omega) (by decide) (by decide)
theorem gC_c {x : Nat} (h : x ≤ 699) : cl_gr (nI x) = nI (gC x) := by
  unfold cl_gr gC
  by_cases h1 : x < 600
  · rw [if_pos (show nI x < 600 from nI_lt (a := x) (b := 600) h1 (by decide)), if_pos h1]
    by_cases h2 : kn x
    · rw [@if_pos _ (m_knownD (nI x)) ((kn_m h).mpr h2), @if_pos _ (knD x) h2]; rfl
    · rw [@if_neg _ (m_knownD (nI x)) (fun w => h2 ((kn_m h).mp w)), @if_neg _ (knD x) h2, d100 h, ml2, ad1]
  · rw [if_neg (show ¬ nI x < 600 from nI_nlt (a := x) (b := 600) (by omega) (by omega)), if_neg h1]; rfl
theorem gM_m {x l : Nat} (h : x ≤ 699) (hl : l ≤ 9) : m_grade (nI x) (nI l) = nI (gM x l) := by
  unfold m_grade gM
  by_cases h1 : x < 600
  · rw [if_pos (show nI x < 600 from nI_lt (a := x) (b := 600) h1 (by decide)), if_pos h1, d100 h]
    by_cases h2 : x / 100 = l
    · rw [if_pos (by rw [h2]), if_pos h2]
      by_cases h3 : l = 4
      · rw [if_pos (by rw [h3]; rfl), if_pos h3]
        by_cases h4 : kn x
        · rw [@if_pos _ (m_knownD (nI x)) ((kn_m h).mpr h4), @if_pos _ (knD x) h4]; rfl
        · rw [@if_neg _ (m_knownD (nI x)) (fun w => h4 ((kn_m h).mp w)), @if_neg _ (knD x) h4]; rfl
      · rw [if_neg (show ¬ nI l = 4 from fun w => h3 ((nI_eq (a := l) (b := 4) (by omega) (by decide)).mp w)), if_neg h3]; rfl
    · rw [if_neg (fun w => h2 ((nI_eq (by omega) (by omega)).mp w)), if_neg h2]; rfl
  · rw [if_neg (show ¬ nI x < 600 from nI_nlt (a := x) (b := 600) (by omega) (by omega)), if_neg h1]; rfl
theorem gC_le {x : Nat} (h : x ≤ 699) : gC x ≤ 20 := by
  unfold gC
  split
  · split <;> omega
  · omega
theorem gM_le {x l : Nat} : gM x l ≤ 3 := by
  unfold gM
  split
  · split
    · split
      · split <;> omega
      · omega
    · omega
  · omega
-- better, as numbers
def lx (k o : Nat → Nat) (i j : Nat) : Prop := k i < k j ∨ (k i = k j ∧ o i < o j)
theorem lx_t {k o : Nat → Nat} {i j l : Nat} (h : lx k o i j) (g : lx k o j l) : lx k o i l := by
  unfold lx at h g ⊢
  omega
theorem bt_c {c : CM} {a i j : Nat} {x o : Nat → Nat} (hx : ∀ i, i < 4 → x i ≤ 699) (hi : i < 4) (hj : j < 4) (ei : c.1 (pB a i) 14 = nI (x i)) (ej : c.1 (pB a j) 14 = nI (x j)) (oi : c.1 (pB a i) 15 = nI (o i)) (oj : c.1 (pB a j) 15 = nI (o j)) (bi : o i < 1000) (bj : o j < 1000) : cl_bt c a i j ↔ lx (fun i => gC (x i)) o i j := by
  unfold cl_bt lx
  have h1 := gC_le (hx i hi)
  have h2 := gC_le (hx j hj)
  rw [ei, ej, oi, oj, gC_c (hx i hi), gC_c (hx j hj)]
  have e0 : (nI (gC (x i)) - nI (gC (x j)) < 0) ↔ gC (x i) < gC (x j) := by
    rw [Int32.lt_iff_toInt_lt, pk_sub_toInt (by omega) (by omega)]
    have : (0 : Int32).toInt = 0 := by decide
    rw [this]
    omega
  have e1 : (nI (gC (x i)) - nI (gC (x j)) = 0) ↔ gC (x i) = gC (x j) := by
    constructor
    · intro w
      have := congrArg Int32.toInt w
      rw [pk_sub_toInt (by omega) (by omega)] at this
      have z : (0 : Int32).toInt = 0 := by decide
      rw [z] at this
      omega
    · intro w
      rw [w, Int32.sub_self]
  rw [e0, e1, nI_leI (by omega) (by omega)]
  constructor
  · intro w; rcases w with w | w
    · exact Or.inl w
    · exact Or.inr ⟨w.1, by omega⟩
  · intro w; rcases w with w | w
    · exact Or.inl w
    · exact Or.inr ⟨w.1, by omega⟩
theorem bt_m {s : MM} {A B l xa xb ga gb : Nat} (ha : xa ≤ 699) (hb : xb ≤ 699) (hl : l ≤ 9) (ea : s.1 190 A = nI xa) (eb : s.1 190 B = nI xb) (ca : s.1 191 A = nI ga) (cb : s.1 191 B = nI gb) (ba : ga < 2147483647) (bb : gb < 2147483647) : m_better s (nI l) A B ↔ (gM xa l < gM xb l ∨ (gM xa l = gM xb l ∧ ga < gb)) := by
  unfold m_better
  have h1 := gM_le (x := xa) (l := l)
  have h2 := gM_le (x := xb) (l := l)
  rw [ea, eb, ca, cb, gM_m ha hl, gM_m hb hl, nI_ltI (by omega) (by omega), nI_eq (by omega) (by omega), nI_ltI (by omega) (by omega)]
-- the best so far is the best
theorem best_c {c : CM} {a n : Nat} {x o : Nat → Nat} (hn : n ≤ 4) (hx : ∀ i, i < 4 → x i ≤ 699) (e14 : ∀ i, i < n → c.1 (pB a i) 14 = nI (x i)) (e15 : ∀ i, i < n → c.1 (pB a i) 15 = nI (o i) ∧ o i < 1000) : ∀ (d i b : Nat), i + d = n → b < i → (∀ j, j < i → ¬ lx (fun i => gC (x i)) o j b) → cl_bst c a d i b < n ∧ ∀ j, j < n → ¬ lx (fun i => gC (x i)) o j (cl_bst c a d i b) := by
  intro d
  induction d with
  | zero =>
    intro i b hi hb h
    obtain rfl : i = n := by omega
    exact ⟨hb, h⟩
  | succ d ih =>
    intro i b hi hb h
    simp only [cl_bst]
    have hb' := bt_c (c := c) (a := a) (i := i) (j := b) (x := x) (o := o) hx (by omega) (by omega) (e14 i (by omega)) (e14 b (by omega)) (e15 i (by omega)).1 (e15 b (by omega)).1 (e15 i (by omega)).2 (e15 b (by omega)).2
    by_cases e : cl_bt c a i b
    · rw [@if_pos _ (cl_btD c a i b) e]
      refine ih (i + 1) i (by omega) (by omega) (fun j hj w => ?_)
      by_cases q : j = i
      · rw [q] at w; unfold lx at w; omega
      · exact h j (by omega) (lx_t w (hb'.mp e))
    · rw [@if_neg _ (cl_btD c a i b) e]
      refine ih (i + 1) b (by omega) (by omega) (fun j hj w => ?_)
      by_cases q : j = i
      · rw [q] at w; exact e (hb'.mpr w)
      · exact h j (by omega) w
theorem best_m {s : MM} {a n l : Nat} {x g : Nat → Nat} (hn : n ≤ 4) (hl : l ≤ 9) (hx : ∀ i, i < 4 → x i ≤ 699) (e14 : ∀ i, i < n → s.1 190 (4 * a + i) = nI (x i)) (e15 : ∀ i, i < n → s.1 191 (4 * a + i) = nI (g i) ∧ g i < 2147483647) : ∀ (d i b : Nat), i + d = n → b < i → (∀ j, j < i → ¬ lx (fun i => gM (x i) l) g j b) → ∃ b', m_best s a (nI l) d i (4 * a + b) = 4 * a + b' ∧ b' < n ∧ ∀ j, j < n → ¬ lx (fun i => gM (x i) l) g j b' := by
  intro d
  induction d with
  | zero =>
    intro i b hi hb h
    obtain rfl : i = n := by omega
    exact ⟨b, rfl, hb, h⟩
  | succ d ih =>
    intro i b hi hb h
    simp only [m_best]
    have hb' : m_better s (nI l) (4 * a + i) (4 * a + b) ↔ lx (fun i => gM (x i) l) g i b := bt_m (hx i (by omega)) (hx b (by omega)) hl (e14 i (by omega)) (e14 b (by omega)) (e15 i (by omega)).1 (e15 b (by omega)).1 (e15 i (by omega)).2 (e15 b (by omega)).2
    by_cases e : m_better s (nI l) (4 * a + i) (4 * a + b)
    · rw [@if_pos _ (m_betterD s (nI l) (4 * a + i) (4 * a + b)) e]
      refine ih (i + 1) i (by omega) (by omega) (fun j hj w => ?_)
      by_cases q : j = i
      · rw [q] at w; unfold lx at w; omega
      · exact h j (by omega) (lx_t w (hb'.mp e))
    · rw [@if_neg _ (m_betterD s (nI l) (4 * a + i) (4 * a + b)) e]
      refine ih (i + 1) b (by omega) (by omega) (fun j hj w => ?_)
      by_cases q : j = i
      · rw [q] at w; exact e (hb'.mpr w)
      · exact h j (by omega) w
-- the least hundred
theorem least_m {s : MM} {a n : Nat} {x : Nat → Nat} (hx : ∀ i, i < n → s.1 190 (4 * a + i) = nI (x i) ∧ 300 ≤ x i ∧ x i ≤ 699) : ∀ (d j l : Nat), j + d = n → l ≤ 9 → ∃ l', m_least s a d j (nI l) = some (nI l') ∧ l' ≤ l ∧ (∀ i, j ≤ i → i < n → l' ≤ x i / 100) ∧ (l' = l ∨ ∃ i, j ≤ i ∧ i < n ∧ x i / 100 = l') := by
  intro d
  induction d with
  | zero => intro j l hj hl; exact ⟨l, rfl, Nat.le_refl _, fun i h1 h2 => by omega, Or.inl rfl⟩
  | succ d ih =>
    intro j l hj hl
    have hj' := hx j (by omega)
    simp only [m_least]
    rw [hj'.1, if_neg (nI_ne0 (by omega) (by omega)), d100 hj'.2.2]
    by_cases e : x j / 100 < l
    · rw [if_pos (nI_lt e (by omega))]
      obtain ⟨l', p1, p2, p3, p4⟩ := ih (j + 1) (x j / 100) (by omega) (by omega)
      refine ⟨l', p1, by omega, fun i h1 h2 => ?_, Or.inr ?_⟩
      · by_cases q : i = j
        · rw [q]; exact p2
        · exact p3 i (by omega) h2
      · rcases p4 with p4 | ⟨i, p5, p6, p7⟩
        · exact ⟨j, Nat.le_refl _, by omega, p4.symm⟩
        · exact ⟨i, by omega, p6, p7⟩
    · rw [if_neg (nI_nlt (by omega) (by omega))]
      obtain ⟨l', p1, p2, p3, p4⟩ := ih (j + 1) l (by omega) hl
      refine ⟨l', p1, p2, fun i h1 h2 => ?_, ?_⟩
      · by_cases q : i = j
        · rw [q]; omega
        · exact p3 i (by omega) h2
      · rcases p4 with p4 | ⟨i, p5, p6, p7⟩
        · exact Or.inl p4
        · exact Or.inr ⟨i, by omega, p6, p7⟩
theorem least_n {s : MM} {a : Nat} : ∀ (d j : Nat) (l : Int32), (∃ i, j ≤ i ∧ i < j + d ∧ s.1 190 (4 * a + i) = 0) → m_least s a d j l = none := by
  intro d
  induction d with
  | zero => intro j l ⟨i, h1, h2, _⟩; omega
  | succ d ih =>
    intro j l ⟨i, h1, h2, h3⟩
    simp only [m_least]
    by_cases e : s.1 190 (4 * a + j) = 0
    · rw [if_pos e]
    · rw [if_neg e]
      refine ih (j + 1) _ ⟨i, ?_, by omega, h3⟩
      by_cases q : i = j
      · rw [q] at h3; exact absurd h3 e
      · omega
theorem kn_4 {x : Nat} (h : kn x) : 400 ≤ x ∧ x ≤ 499 := by unfold kn at h; omega
theorem gC_k {x : Nat} (h : kn x) : gC x = 8 := by
  have := kn_4 h
  unfold gC
  rw [if_pos (by omega), @if_pos _ (knD x) h]
theorem gC_n {x : Nat} (h : ¬ kn x) : (x < 600 → gC x = 2 * (x / 100) + 1) ∧ (600 ≤ x → gC x = 0) := by
  unfold gC
  refine ⟨fun w => ?_, fun w => ?_⟩
  · rw [if_pos w, @if_neg _ (knD x) h]
  · rw [if_neg (by omega)]
theorem gM_k {x l : Nat} (h : kn x) : (l = 4 → gM x l = 1) ∧ (¬ l = 4 → gM x l = 3) := by
  have h4 := kn_4 h
  have e : x / 100 = 4 := by omega
  unfold gM
  refine ⟨fun w => ?_, fun w => ?_⟩
  · rw [if_pos (by omega), if_pos (by omega), if_pos w, @if_pos _ (knD x) h]
  · rw [if_pos (by omega), if_neg (by omega)]
theorem gM_n {x l : Nat} (h : ¬ kn x) : (600 ≤ x → gM x l = 0) ∧ (x < 600 → x / 100 = l → gM x l = 2) ∧ (x < 600 → ¬ x / 100 = l → gM x l = 3) := by
  unfold gM
  refine ⟨fun w => ?_, fun w v => ?_, fun w v => ?_⟩
  · rw [if_neg (by omega)]
  · rw [if_pos w, if_pos v, @if_neg _ (knD x) h]
    split <;> rfl
  · rw [if_pos w, if_neg v]
theorem g_one {x y e l : Nat} (hx : 300 ≤ x ∧ x ≤ 699) (hy : 300 ≤ y ∧ y ≤ 699) (he : e / 100 = l) (hex : 300 ≤ e) (lx' : l ≤ x / 100) (ly : l ≤ y / 100) (h1 : gC x ≤ gC y) (h2 : gM y l ≤ gM x l) (h3 : gM y l ≤ gM e l) : gC x = gC y ∧ gM x l = gM y l := by
  have d1 : 100 * (x / 100) ≤ x ∧ x < 100 * (x / 100) + 100 := by omega
  have d2 : 100 * (y / 100) ≤ y ∧ y < 100 * (y / 100) + 100 := by omega
  have d3 : 100 * (e / 100) ≤ e ∧ e < 100 * (e / 100) + 100 := by omega
  generalize x / 100 = X at *
  generalize y / 100 = Y at *
  generalize e / 100 = Z at *
  have A : ∀ (z Zz : Nat), (100 * Zz ≤ z ∧ z < 100 * Zz + 100) → z / 100 = Zz := fun z Zz h => by omega
  by_cases b3 : kn e
  · have m3 := gM_k (l := l) b3
    have r3 := kn_4 b3
    by_cases b1 : kn x
    · have c1 := gC_k b1; have m1 := gM_k (l := l) b1; have r1 := kn_4 b1
      by_cases b2 : kn y
      · have c2 := gC_k b2; have m2 := gM_k (l := l) b2; have r2 := kn_4 b2
        omega
      · have c2 := gC_n b2; have m2 := gM_n (l := l) b2
        rw [A y Y d2] at c2 m2
        omega
    · have c1 := gC_n b1; have m1 := gM_n (l := l) b1
      rw [A x X d1] at c1 m1
      by_cases b2 : kn y
      · have c2 := gC_k b2; have m2 := gM_k (l := l) b2; have r2 := kn_4 b2
        omega
      · have c2 := gC_n b2; have m2 := gM_n (l := l) b2
        rw [A y Y d2] at c2 m2
        omega
  · have m3 := gM_n (l := l) b3
    rw [A e Z d3] at m3
    by_cases b1 : kn x
    · have c1 := gC_k b1; have m1 := gM_k (l := l) b1; have r1 := kn_4 b1
      by_cases b2 : kn y
      · have c2 := gC_k b2; have m2 := gM_k (l := l) b2; have r2 := kn_4 b2
        omega
      · have c2 := gC_n b2; have m2 := gM_n (l := l) b2
        rw [A y Y d2] at c2 m2
        omega
    · have c1 := gC_n b1; have m1 := gM_n (l := l) b1
      rw [A x X d1] at c1 m1
      by_cases b2 : kn y
      · have c2 := gC_k b2; have m2 := gM_k (l := l) b2; have r2 := kn_4 b2
        omega
      · have c2 := gC_n b2; have m2 := gM_n (l := l) b2
        rw [A y Y d2] at c2 m2
        omega
-- the answer, once all have failed
theorem RC_judge {τs : Nat → Nat} {τb : Nat → Nat → Nat} {t M N : Nat} {c : CM} {s : MM} {a n r : Nat} {g o : Nat → Nat} (hG : RG N t c s) (h : RC τs τb t M c s a n) (hQ : RQ c s a n r g o) (hQ1 : RQ1 s a n) (hn : 0 < n) (hr : r < 2147483647) (hτ : ∀ k, τs k ≤ N) (hM : N + 200 * t ≤ M) (ht : 1 ≤ t) : RG N t (cl_all c a n) (m_judge s a n) ∧ RC τs τb t M (cl_all c a n) (m_judge s a n) a n ∧ RQ (cl_all c a n) (m_judge s a n) a n r g o ∧ RQ1 (m_judge s a n) a n ∧ Tc (PS a) c (cl_all c a n) ∧ Td (QS a) s (m_judge s a n) := by
  obtain ⟨q, sg, hS⟩ := h.2.1
  have hn4 := h.1.2.2.1
  unfold cl_all m_judge
  by_cases h1 : s.1 181 a = 1
  · rw [if_pos ((RS_n hS (by decide) (by decide)).mpr h1), if_pos h1, (hQ.1.resolve_left (by omega)), h.1.1]
    have hl := nc_le (s := s) (a := a) n
    by_cases h2 : nc s a n = n
    · rw [if_pos (by rw [h2])]
      have hno := (nc_all n).mp h2
      have hall : ∀ i, i < n → ∃ x, s.1 190 (4 * a + i) = nI x ∧ 300 ≤ x ∧ x ≤ 699 := fun i hi => by
        have w := hQ1 h1 i hi (hno i hi)
        obtain ⟨x, hx1, hx2⟩ := nI_of2 (x := s.1 190 (4 * a + i)) (M := 699) (n := 699) (by decide) (fun v => by
          have := Int32.lt_of_le_of_lt w.1 v
          exact absurd this (by decide)) w.2
        refine ⟨x, hx2, ?_, hx1⟩
        have w1 := w.1
        rw [hx2] at w1
        exact (nI_leI (a := 300) (b := x) (by decide) (by omega)).mp w1
      -- the codes as numbers
      have hcho : ∃ x : Nat → Nat, ∀ i, (i < n → s.1 190 (4 * a + i) = nI (x i) ∧ 300 ≤ x i ∧ x i ≤ 699) ∧ x i ≤ 699 := by
        refine ⟨fun i => if hi : i < n then Classical.choose (hall i hi) else 0, fun i => ?_⟩
        by_cases hi : i < n
        · simp only [hi, dite_true]
          have := Classical.choose_spec (hall i hi)
          exact ⟨fun _ => this, this.2.2⟩
        · simp only [hi, dite_false]
          exact ⟨fun w => w.elim, Nat.zero_le _⟩
      obtain ⟨x, hx⟩ := hcho
      have hx1 : ∀ i, i < n → s.1 190 (4 * a + i) = nI (x i) ∧ 300 ≤ x i ∧ x i ≤ 699 := fun i hi => (hx i).1 hi
      have hx2 : ∀ i, i < 4 → x i ≤ 699 := fun i _ => (hx i).2
      obtain ⟨l, l1, l2, l3, l4⟩ := least_m hx1 n 0 9 (by omega) (by decide)
      have l1' : m_least s a n 0 9 = some (nI l) := l1
      have ex : ∃ e, e < n ∧ x e / 100 = l := by
        rcases l4 with l4 | ⟨i, _, p6, p7⟩
        · have := l3 0 (Nat.le_refl _) hn; have := (hx 0).2; omega
        · exact ⟨i, p6, p7⟩
      have e14 : ∀ i, i < n → c.1 (pB a i) 14 = nI (x i) := fun i hi => by
        obtain ⟨r', sa, se, w⟩ := h.2.2.2.2.1 i hi
        rw [w.1.2.2.2.2]; exact (hx1 i hi).1
      have e15 : ∀ i, i < n → c.1 (pB a i) 15 = nI (o i) ∧ o i < 1000 := fun i hi => by
        have := hQ.2.2.1 i hi (hno i hi)
        exact ⟨this.2.2.1, by omega⟩
      have e16 : ∀ i, i < n → s.1 191 (4 * a + i) = nI (g i) ∧ g i < 2147483647 := fun i hi => by
        have := hQ.2.2.1 i hi (hno i hi)
        exact ⟨this.2.1, by omega⟩
      have B := best_c (c := c) (a := a) hn4 hx2 e14 e15 (n - 1) 1 0 (by omega) (by decide) (fun j hj w => by
        obtain rfl : j = 0 := by omega
        unfold lx at w; omega)
      obtain ⟨b', m1, m2, m3⟩ := best_m (s := s) (a := a) (l := l) hn4 (by omega) hx2 (fun i hi => (hx1 i hi).1) e16 (n - 1) 1 0 (by omega) (by decide) (fun j hj w => by
        obtain rfl : j = 0 := by omega
        unfold lx at w; omega)
      generalize hb : cl_bst c a (n - 1) 1 0 = b at B
      obtain ⟨e, he1, he2⟩ := ex
      have y1 := B.2 b' m2
      have y2 := m3 b B.1
      have y3 := m3 e he1
      simp only [lx] at y1 y2 y3
      have hbb : b = b' := by
        have G := g_one (x := x b) (y := x b') (e := x e) (l := l) (hx1 b B.1).2 (hx1 b' m2).2 he2 (hx1 e he1).2.1 (l3 b (Nat.zero_le _) B.1) (l3 b' (Nat.zero_le _) m2) (by omega) (by omega) (by omega)
        have D := hQ.2.2.2 b b' B.1 m2 (hno b B.1) (hno b' m2)
        have D' := hQ.2.2.2 b' b m2 B.1 (hno b' m2) (hno b B.1)
        refine D.2 ?_
        omega
      have eb : cl_best c a n = nI (x b) := by
        unfold cl_best
        rw [hb]; exact e14 b B.1
      have em : s.1 190 (m_best s a (nI l) (n - 1) 1 (4 * a)) = nI (x b) := by
        have m1' : m_best s a (nI l) (n - 1) 1 (4 * a) = 4 * a + b' := m1
        rw [m1', ← hbb]; exact (hx1 b B.1).1
      rw [l1']
      simp only []
      rw [eb, em]
      have hs1 : ∀ k, k < 4 → q k ≤ τs k := by
        rcases hS.2.2.2 with w | w | w | w | w | w
        · exact w.2
        · exact w.2
        · exact absurd (w.1.symm.trans h1) (by decide)
        · exact absurd (w.1.symm.trans h1) (by decide)
        · exact absurd (w.1.symm.trans h1) (by decide)
        · exact absurd (w.1.symm.trans h1) (by decide)
      have hw : (if nI (x b) = 503 then 500 else nI (x b)) < 200 ∨ 299 < (if nI (x b) = 503 then (500 : Int32) else nI (x b)) := by
        right
        split
        · decide
        · exact nI_lt (a := 299) (b := x b) (by have := (hx1 b B.1).2; omega) (by have := (hx1 b B.1).2; omega)
      generalize hv : (if nI (x b) = 503 then (500 : Int32) else nI (x b)) = v at hw
      obtain ⟨hG1, hS1⟩ := RS_answer hG hS hw (hs1 2 (by decide)) (hs1 3 (by decide)) hτ (by omega) ht
      have hTc : Tc (PS a) c (sv_fail c a v) := Ts_fail
      have hTd : Td (QS a) s (m_answer s a v) := Td_answer
      have s2 : (m_answer s a v).1 181 a = 2 := by
        rcases hS1.2.2.2 with w | w | w | w | w | w
        all_goals first | exact w.1 | skip
        all_goals exact (by
          unfold m_answer m_serve
          simp only [cI_at, set_at, stop_t, add_at, nSG, nGS, nS2, nG2, n2S, n2G, nS1, nG1, n1S, n1G, n12, n21, pG_e, mI_at, send_at, e40, e4k, eq_self, true_and, and_true, false_and, and_false, and_self, if_true, if_false, Nat.reduceEqDiff, reduceIte, Nat.reduceAdd])
      refine ⟨hG1, RC_sv h hTc hTd ⟨_, _, hS1⟩ (fun w => by rw [s2] at w; exact absurd w (by decide)), ?_, ?_, hTc, hTd⟩
      · exact RQ_eq hQ (Nat.le_refl _) (hTc.1 _ _ (by unfold PS pC pS; omega)) (fun i hi => hTc.1 _ _ (by unfold PS pB pS; omega)) (fun i hi => ⟨hTd _ _ (by unfold QS; omega), hTd _ _ (by unfold QS; omega), hTd _ _ (by unfold QS; omega)⟩)
      · intro w; rw [s2] at w; exact absurd w (by decide)
    · rw [if_neg (fun w => h2 ((nI_eq (by omega) (by omega)).mp w))]
      have : m_least s a n 0 9 = none := by
        refine least_n n 0 9 ?_
        -- one is still open
        have : ∃ i, i < n ∧ m_going s (4 * a + i) := by
          refine Classical.byContradiction (fun w => h2 ((nc_all n).mpr (fun i hi v => w ⟨i, hi, v⟩)))
        obtain ⟨i, hi, hg⟩ := this
        exact ⟨i, Nat.zero_le _, by omega, hQ.2.1 i hi hg⟩
      rw [this]
      exact ⟨hG, h, hQ, hQ1, Tc_r, Td_r⟩
  · rw [if_neg (fun w => h1 ((RS_n hS (by decide) (by decide)).mp w)), if_neg h1]
    exact ⟨hG, h, hQ, hQ1, Tc_r, Td_r⟩
