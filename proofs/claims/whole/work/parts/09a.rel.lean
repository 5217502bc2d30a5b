-- places of one call apart
theorem pT_e {a i k l : Nat} : (pT a i k = pT a i l) = (k = l) := propext (by unfold pT; omega)
theorem pG_e {a k l : Nat} : (pG a k = pG a l) = (k = l) := propext (by unfold pG; omega)
theorem e60 {b k : Nat} : (6 * b + k = 6 * b) = (k = 0) := propext (by omega)
theorem e6k {b k l : Nat} : (6 * b + k = 6 * b + l) = (k = l) := propext (by omega)
theorem e40 {b k : Nat} : (4 * b + k = 4 * b) = (k = 0) := propext (by omega)
theorem e4k {b k l : Nat} : (4 * b + k = 4 * b + l) = (k = l) := propext (by omega)
def NV : Int32 := 2147483647
-- what a step touches
def Tc (P : Nat → Prop) (c c' : CM) : Prop := (∀ q j, ¬ P q → c'.1 q j = c.1 q j) ∧ c'.2.1 = c.2.1
theorem Tc_r {P : Nat → Prop} {c : CM} : Tc P c c := ⟨fun _ _ _ => rfl, rfl⟩
theorem Tc_t {P : Nat → Prop} {c d e : CM} (h : Tc P c d) (g : Tc P d e) : Tc P c e := ⟨fun q j h1 => (g.1 q j h1).trans (h.1 q j h1), g.2.trans h.2⟩
theorem Tc_I {P : Nat → Prop} {c : CM} {p j : Nat} {v : Int32} (h : P p) : Tc P c (cI c p j v) := ⟨fun q i h1 => by rw [cI_at, if_neg (fun w => h1 (by rw [w.1]; exact h))], rfl⟩
theorem Tc_add {P : Nat → Prop} {c : CM} {x y w : Int32} (h : P 2) : Tc P c (l_add c x y w) := ⟨fun q i h1 => by rw [add_at, if_neg (fun w => h1 (by rw [w.1]; exact h))], rfl⟩
theorem Tc_set {P : Nat → Prop} {c : CM} {p : Nat} {x : Int32} (h : P p) : Tc P c (tq_set c p x) := Tc_t (Tc_I h) (Tc_I h)
theorem Tc_stp {P : Nat → Prop} {c : CM} {p : Nat} (h : P p) : Tc P c (tq_stop c p) := Tc_I h
theorem Tc_w {P Q : Nat → Prop} {c d : CM} (h : Tc P c d) (g : ∀ q, P q → Q q) : Tc Q c d := ⟨fun q j h1 => h.1 q j (fun w => h1 (g q w)), h.2⟩
def Td (P : Nat → Nat → Prop) (s s' : MM) : Prop := ∀ p j, ¬ P p j → s'.1 p j = s.1 p j
theorem Td_r {P : Nat → Nat → Prop} {s : MM} : Td P s s := fun _ _ _ => rfl
theorem Td_t {P : Nat → Nat → Prop} {s d e : MM} (h : Td P s d) (g : Td P d e) : Td P s e := fun p j h1 => (g p j h1).trans (h p j h1)
theorem Td_I {P : Nat → Nat → Prop} {s : MM} {p j : Nat} {v : Int32} (h : P p j) : Td P s (mI s p j v) := fun q i h1 => by rw [mI_at, if_neg (fun w => h1 (by rw [w.1, w.2]; exact h))]
theorem Td_send {P : Nat → Nat → Prop} {s : MM} {x y w : Int32} (h : P 170 30) : Td P s (m_send s x y w) := fun q i h1 => by rw [send_at, if_neg (fun w => h1 (by rw [w.1, w.2]; exact h))]
theorem Td_w {P Q : Nat → Nat → Prop} {s d : MM} (h : Td P s d) (g : ∀ p j, P p j → Q p j) : Td Q s d := fun p j h1 => h p j (fun w => h1 (g p j w))
-- a branch's own places
def PB (a i q : Nat) : Prop := q = 2 ∨ (pB a i ≤ q ∧ q < pB a i + 7)
def QB (b p j : Nat) : Prop := (p = 170 ∧ j = 30) ∨ (((186 ≤ p ∧ p ≤ 191) ∨ p = 193 ∨ p = 194) ∧ j = b) ∨ (p = 192 ∧ 6 * b ≤ j ∧ j < 6 * b + 6)
theorem PB_2 {a i : Nat} : PB a i 2 := Or.inl rfl
theorem PB_B {a i : Nat} : PB a i (pB a i) := Or.inr ⟨Nat.le_refl _, by omega⟩
theorem PB_T {a i k : Nat} (h : k < 6) : PB a i (pT a i k) := Or.inr (by unfold pT pB; omega)
theorem QB_c {b : Nat} : QB b 170 30 := Or.inl ⟨rfl, rfl⟩
theorem QB_s {b p : Nat} (h : (186 ≤ p ∧ p ≤ 191) ∨ p = 193 ∨ p = 194) : QB b p b := Or.inr (Or.inl ⟨h, rfl⟩)
theorem QB_t {b k : Nat} (h : k < 6) : QB b 192 (6 * b + k) := Or.inr (Or.inr ⟨rfl, by omega, by omega⟩)
theorem QB_t0 {b : Nat} : QB b 192 (6 * b) := Or.inr (Or.inr ⟨rfl, by omega, by omega⟩)
theorem Tb_mv {c : CM} {a i : Nat} {v : Int32} : Tc (PB a i) c (b_mv c a i v) := by
  unfold b_mv
  refine Tc_t (Tc_t (Tc_t (Tc_I PB_B) (?_ : Tc (PB a i) (cI c (pB a i) 11 v) _)) (?_ : Tc (PB a i) (b_mA (cI c (pB a i) 11 v) a i v) _)) (?_ : Tc (PB a i) (b_mO (b_mA (cI c (pB a i) 11 v) a i v) a i v) _)
  · unfold b_mA; split
    · exact Tc_r
    · exact Tc_t (Tc_stp (PB_T (by decide))) (Tc_stp (PB_T (by decide)))
  · unfold b_mO; split
    · exact Tc_r
    · exact Tc_t (Tc_t (Tc_stp (PB_T (by decide))) (Tc_stp (PB_T (by decide)))) (Tc_stp (PB_T (by decide)))
  · unfold b_mD; split
    · exact Tc_stp (PB_T (by decide))
    · exact Tc_r
theorem Tb_out {c : CM} {a i : Nat} {w : Int32} : Tc (PB a i) c (b_out c a i w) := Tc_t (Tc_I PB_B) Tb_mv
theorem Tb_fail {c : CM} {a i : Nat} {w : Int32} : Tc (PB a i) c (b_fail c a i w) := Tc_t (Tc_t (Tc_t (Tc_I PB_B) Tb_mv) (Tc_add PB_2)) (Tc_set (PB_T (by decide)))
theorem Tb_anew {c : CM} {a i : Nat} : Tc (PB a i) c (b_anew c a i) := by
  unfold b_anew; split
  · exact Tc_set (PB_T (by decide))
  · exact Tc_r
theorem Tb_want {c : CM} {a i : Nat} : Tc (PB a i) c (b_want c a i) := by
  unfold b_want; split
  · split
    · exact Tc_t (Tc_t (Tc_t (Tc_t (Tc_t (Tc_I PB_B) (Tc_I PB_B)) (Tc_add PB_2)) (Tc_stp (PB_T (by decide)))) (Tc_set (PB_T (by decide)))) (Tc_set (PB_T (by decide)))
    · exact Tc_I PB_B
  · exact Tc_I PB_B
theorem Tb_beg {c : CM} {a i : Nat} {w : Int32} : Tc (PB a i) c (b_beg c a i w) := by
  unfold b_beg b_b4
  exact Tc_t (Tc_t (Tc_t (Tc_t (Tc_t (Tc_t (Tc_t (Tc_t (Tc_I PB_B) (Tc_I PB_B)) (Tc_I PB_B)) (Tc_I PB_B)) Tb_mv) (Tc_add PB_2)) (Tc_set (PB_T (by decide)))) (Tc_set (PB_T (by decide)))) (Tc_set (PB_T (by decide)))
theorem Tb_r0 {c : CM} {a i : Nat} : Tc (PB a i) c (b_r0 c a i) := by
  unfold b_r0; split
  · exact Tc_t (Tc_add PB_2) (Tc_set (PB_T (by decide)))
  · exact Tc_r
theorem Tb_r1 {c : CM} {a i : Nat} : Tc (PB a i) c (b_r1 c a i) := by
  unfold b_r1; split
  · exact Tb_out
  · exact Tc_r
theorem Tb_r2 {c : CM} {a i : Nat} : Tc (PB a i) c (b_r2 c a i) := by
  unfold b_r2; split
  · exact Tb_want
  · exact Tc_r
theorem Tb_r3 {c : CM} {a i : Nat} : Tc (PB a i) c (b_r3 c a i) := by
  unfold b_r3; split
  · exact Tb_mv
  · exact Tc_r
theorem Tb_r4 {c : CM} {a i : Nat} : Tc (PB a i) c (b_r4 c a i) := by
  unfold b_r4 tq_twm; split
  · exact Tc_t (Tc_add PB_2) (Tc_set (PB_T (by decide)))
  · exact Tc_r
theorem Tb_r5 {c : CM} {a i : Nat} : Tc (PB a i) c (b_r5 c a i) := by
  unfold b_r5; split
  · exact Tb_out
  · exact Tc_r
theorem Td_bec {s : MM} {b : Nat} {v : Int32} : Td (QB b) s (m_become s b v) := by
  unfold m_become; split
  · exact Td_t (Td_t (Td_I (QB_s (by omega))) (Td_I QB_t0)) (Td_I (QB_t (by decide)))
  · exact Td_t (Td_t (Td_t (Td_t (Td_t (Td_I (QB_s (by omega))) (Td_I QB_t0)) (Td_I (QB_t (by decide)))) (Td_I (QB_t (by decide)))) (Td_I (QB_t (by decide)))) (Td_I (QB_t (by decide)))
theorem Td_stop {s : MM} {a i : Nat} : Td (QB (4 * a + i)) s (m_stop s a i) := by
  unfold m_stop; split
  · exact Td_I (QB_s (by omega))
  · split
    · split
      · exact Td_t (Td_t (Td_t (Td_t (Td_t (Td_t (Td_I (QB_s (by omega))) (Td_I (QB_s (by omega)))) (Td_send QB_c)) (Td_I (QB_t (by decide)))) (Td_I (QB_t (by decide)))) (Td_I (QB_t (by decide)))) (Td_I (QB_s (by omega)))
      · exact Td_I (QB_s (by omega))
    · exact Td_r
theorem Td_beg {s : MM} {a i : Nat} {w : Int32} : Td (QB (4 * a + i)) s (m_begin s a i w) := by
  unfold m_begin m_b5 m_t6
  repeat' first | exact Td_r | refine Td_t ?_ (Td_I (QB_s (by omega))) | refine Td_t ?_ (Td_I (QB_t (by decide))) | refine Td_t ?_ (Td_I QB_t0) | refine Td_t ?_ (Td_send QB_c)
-- one branch, both sides: timers up to their instants are off
def RV (τ : Nat → Nat) (t : Nat) (r : Nat → Nat) (sa se : Nat) (st cs x0 x4 : Int32) : Prop :=
  (st = 1 ∧ cs = 0 ∧ τ 0 < r 0 ∧ τ 1 < r 1 ∧ r 2 = r 1 + 136 * t ∧ r 0 + 65 * t = r 1 + 2 * sa ∧ t ≤ sa ∧ x0 = nI sa ∧ r 3 ≤ τ 3 ∧ r 4 = 0 ∧ r 5 ≤ τ 5)
    ∨ (st = 2 ∧ r 0 ≤ τ 0 ∧ r 1 ≤ τ 1 ∧ r 3 ≤ τ 3 ∧ ((cs = 0 ∧ r 4 = 0 ∧ r 5 ≤ τ 5) ∨ (cs = 1 ∧ r 2 ≤ τ 2 ∧ (¬ r 4 = 0 → τ 4 < r 4 ∧ t ≤ se ∧ se ≤ 8 * t ∧ x4 = nI se))))
    ∨ (st = 3 ∧ r 0 ≤ τ 0 ∧ r 1 ≤ τ 1 ∧ r 2 ≤ τ 2 ∧ r 4 = 0 ∧ r 5 ≤ τ 5)
    ∨ (st = 4 ∧ (∀ k, k < 6 → r k ≤ τ k) ∧ r 4 = 0)
def RB (τ : Nat → Nat) (t M : Nat) (r : Nat → Nat) (sa se : Nat) (c : CM) (s : MM) (a i : Nat) : Prop :=
  (c.1 (pB a i) 11 = s.1 186 (4 * a + i) ∧ c.1 (pB a i) 10 = s.1 187 (4 * a + i) ∧ c.1 (pB a i) 12 = s.1 188 (4 * a + i) ∧ c.1 (pB a i) 13 = s.1 189 (4 * a + i) ∧ c.1 (pB a i) 14 = s.1 190 (4 * a + i))
  ∧ (∀ k, k < 6 → s.1 192 (6 * (4 * a + i) + k) = nI (r k) ∧ c.1 (pT a i k) 2 = (if τ k < r k then nI (r k) else NV) ∧ r k ≤ M)
  ∧ (s.1 193 (4 * a + i) = nI sa ∧ s.1 194 (4 * a + i) = nI se)
  ∧ RV τ t r sa se (s.1 186 (4 * a + i)) (s.1 189 (4 * a + i)) (c.1 (pT a i 0) 1) (c.1 (pT a i 4) 1)
-- the same cells, the same relation
theorem RB_eq {τ : Nat → Nat} {t M : Nat} {r : Nat → Nat} {sa se : Nat} {c c' : CM} {s s' : MM} {a i : Nat} (h : RB τ t M r sa se c s a i) (h1 : ∀ q j, (pB a i ≤ q ∧ q < pB a i + 7) → c'.1 q j = c.1 q j) (h2 : ∀ p j, (((186 ≤ p ∧ p ≤ 191) ∨ p = 193 ∨ p = 194) ∧ j = 4 * a + i) ∨ (p = 192 ∧ 6 * (4 * a + i) ≤ j ∧ j < 6 * (4 * a + i) + 6) → s'.1 p j = s.1 p j) : RB τ t M r sa se c' s' a i := by
  have eB : ∀ j, c'.1 (pB a i) j = c.1 (pB a i) j := fun j => h1 _ j (by omega)
  have eT : ∀ k j, k < 6 → c'.1 (pT a i k) j = c.1 (pT a i k) j := fun k j hk => h1 _ j (by unfold pT pB; omega)
  have m : ∀ p, ((186 ≤ p ∧ p ≤ 191) ∨ p = 193 ∨ p = 194) → s'.1 p (4 * a + i) = s.1 p (4 * a + i) := fun p hp => h2 p _ (Or.inl ⟨hp, rfl⟩)
  have mT : ∀ k, k < 6 → s'.1 192 (6 * (4 * a + i) + k) = s.1 192 (6 * (4 * a + i) + k) := fun k hk => h2 _ _ (Or.inr ⟨rfl, by omega, by omega⟩)
  have m6 := m 186 (by omega)
  have m9 := m 189 (by omega)
  obtain ⟨⟨g1, g2, g3, g4, g5⟩, g6, ⟨g7, g8⟩, g9⟩ := h
  refine ⟨⟨?_, ?_, ?_, ?_, ?_⟩, ?_, ⟨?_, ?_⟩, ?_⟩
  · rw [eB, m6]; exact g1
  · rw [eB, m 187 (by omega)]; exact g2
  · rw [eB, m 188 (by omega)]; exact g3
  · rw [eB, m9]; exact g4
  · rw [eB, m 190 (by omega)]; exact g5
  · intro k hk; rw [mT k hk, eT k 2 hk]; exact g6 k hk
  · rw [m 193 (by omega)]; exact g7
  · rw [m 194 (by omega)]; exact g8
  · rw [m6, m9, eT 0 1 (by decide), eT 4 1 (by decide)]; exact g9
