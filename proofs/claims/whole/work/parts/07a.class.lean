def pC (a : Nat) : Nat := 30 + 35 * a
def pA (a : Nat) : Nat := 31 + 35 * a
def pS (a : Nat) : Nat := 32 + 35 * a
def pG (a k : Nat) : Nat := 33 + 35 * a + k
def pB (a i : Nat) : Nat := 37 + 35 * a + 7 * i
def pT (a i k : Nat) : Nat := 38 + 35 * a + 7 * i + k
def pU (u : Nat) : Nat := 5 + 6 * u
def pW (u : Nat) : Nat := 6 + 6 * u
def pN (u b : Nat) : Nat := 7 + 6 * u + b
theorem lt_C {a : Nat} (h : a < 4) : pC a < 170 := by unfold pC; omega
theorem lt_S {a : Nat} (h : a < 4) : pS a < 170 := by unfold pS; omega
theorem lt_G {a k : Nat} (h : a < 4) (hk : k < 4) : pG a k < 170 := by unfold pG; omega
theorem lt_B {a i : Nat} (h : a < 4) (hi : i < 4) : pB a i < 170 := by unfold pB; omega
theorem lt_T {a i k : Nat} (h : a < 4) (hi : i < 4) (hk : k < 6) : pT a i k < 170 := by unfold pT; omega
theorem lt_U {u : Nat} (h : u < 4) : pU u < 170 := by unfold pU; omega
theorem lt_N {u b : Nat} (h : u < 4) (hb : b < 4) : pN u b < 170 := by unfold pN; omega
-- all numbers below four, below six
theorem all4 {P : Nat → Prop} (h0 : P 0) (h1 : P 1) (h2 : P 2) (h3 : P 3) {a : Nat} (h : a < 4) : P a := by
  rcases (show a = 0 ∨ a = 1 ∨ a = 2 ∨ a = 3 by omega) with rfl | rfl | rfl | rfl
  · exact h0
  · exact h1
  · exact h2
  · exact h3
theorem all6 {P : Nat → Prop} (h0 : P 0) (h1 : P 1) (h2 : P 2) (h3 : P 3) (h4 : P 4) (h5 : P 5) {a : Nat} (h : a < 6) : P a := by
  rcases (show a = 0 ∨ a = 1 ∨ a = 2 ∨ a = 3 ∨ a = 4 ∨ a = 5 by omega) with rfl | rfl | rfl | rfl | rfl | rfl
  · exact h0
  · exact h1
  · exact h2
  · exact h3
  · exact h4
  · exact h5
theorem tt_C : ∀ a, a < 4 → TT (pC a) = 3 ∧ TT (pA a) = 106 ∧ LL (pA a) = 4 ∧ TT (pS a) = 6 ∧ ua (pC a) = false ∧ ua (pA a) = false ∧ ua (pS a) = false ∧ RR 29 a = some (pC a) ∧ RR (pC a) 1 = some (pS a) ∧ RR (pC a) 2 = some (pA a) ∧ RR (pS a) 0 = some 1 ∧ RR (pS a) 1 = some 2 := by decide +kernel
theorem tt_G : ∀ a, a < 4 → ∀ k, k < 4 → TT (pG a k) = 7 ∧ ua (pG a k) = false ∧ RR (pG a k) 0 = some 1 ∧ RR (pS a) (3 + k) = some (pG a k) := by decide +kernel
theorem tt_B : ∀ a, a < 4 → ∀ i, i < 4 → TT (pB a i) = 2 ∧ ua (pB a i) = false ∧ RR (pA a) i = some (pB a i) ∧ RR (pB a i) 0 = some 1 ∧ RR (pB a i) 1 = some 2 := by decide +kernel
theorem tt_T : ∀ a, a < 4 → ∀ i, i < 4 → ∀ k, k < 6 → TT (pT a i k) = 7 ∧ ua (pT a i k) = false ∧ RR (pT a i k) 0 = some 1 ∧ RR (pB a i) (4 + k) = some (pT a i k) := by decide +kernel
theorem tt_U : ∀ u, u < 4 → TT (pU u) = 8 ∧ TT (pW u) = 105 ∧ LL (pW u) = 4 ∧ ua (pU u) = false ∧ ua (pW u) = true ∧ RR 4 u = some (pU u) ∧ RR (pU u) 0 = some 1 ∧ RR (pU u) 7 = some (pW u) := by decide +kernel
theorem tt_N : ∀ u, u < 4 → ∀ b, b < 4 → TT (pN u b) = 1 := by decide +kernel
section CL
variable {xs : Nat → Int32} {L : Nat} {h : ix_H} {c : CM} {s : MM}
theorem T0 (c : CM) (s : MM) : ha_T (hh c s) 0 = 0 := Eq.trans rfl rfl
theorem T1 (c : CM) (s : MM) : ha_T (hh c s) 1 = 4 := Eq.trans rfl rfl
theorem T2 (c : CM) (s : MM) : ha_T (hh c s) 2 = 5 := Eq.trans rfl rfl
theorem T3 (c : CM) (s : MM) : ha_T (hh c s) 3 = 102 := Eq.trans rfl rfl
theorem T4 (c : CM) (s : MM) : ha_T (hh c s) 4 = 103 := Eq.trans rfl rfl
theorem T29 (c : CM) (s : MM) : ha_T (hh c s) 29 = 104 := Eq.trans rfl rfl
theorem L3 (c : CM) (s : MM) : ha_L (hh c s) 3 = 64 := Eq.trans rfl rfl
theorem L4 (c : CM) (s : MM) : ha_L (hh c s) 4 = 4 := Eq.trans rfl rfl
theorem L29 (c : CM) (s : MM) : ha_L (hh c s) 29 = 4 := Eq.trans rfl rfl
theorem R0c (c : CM) (s : MM) : ha_R (hh c s) 0 0 = some 1 := Eq.trans rfl rfl
theorem R0l (c : CM) (s : MM) : ha_R (hh c s) 0 1 = some 2 := Eq.trans rfl rfl
theorem R0u (c : CM) (s : MM) : ha_R (hh c s) 0 2 = some 4 := Eq.trans rfl rfl
theorem R0k (c : CM) (s : MM) : ha_R (hh c s) 0 3 = some 29 := Eq.trans rfl rfl
theorem R2c (c : CM) (s : MM) : ha_R (hh c s) 2 0 = some 1 := Eq.trans rfl rfl
theorem R2k (c : CM) (s : MM) : ha_R (hh c s) 2 1 = some 3 := Eq.trans rfl rfl
theorem TC {a : Nat} (h : a < 4) (c : CM) (s : MM) : ha_T (hh c s) (pC a) = 3 := (tt_C a h).1
theorem TA {a : Nat} (h : a < 4) (c : CM) (s : MM) : ha_T (hh c s) (pA a) = 106 := (tt_C a h).2.1
theorem LA {a : Nat} (h : a < 4) (c : CM) (s : MM) : ha_L (hh c s) (pA a) = 4 := (tt_C a h).2.2.1
theorem TS {a : Nat} (h : a < 4) (c : CM) (s : MM) : ha_T (hh c s) (pS a) = 6 := (tt_C a h).2.2.2.1
theorem R29 {a : Nat} (h : a < 4) (c : CM) (s : MM) : ha_R (hh c s) 29 a = some (pC a) := (R_hh (by decide)).trans (tt_C a h).2.2.2.2.2.2.2.1
theorem RCs {a : Nat} (h : a < 4) (c : CM) (s : MM) : ha_R (hh c s) (pC a) 1 = some (pS a) := (R_hh (tt_C a h).2.2.2.2.1).trans (tt_C a h).2.2.2.2.2.2.2.2.1
theorem RCa {a : Nat} (h : a < 4) (c : CM) (s : MM) : ha_R (hh c s) (pC a) 2 = some (pA a) := (R_hh (tt_C a h).2.2.2.2.1).trans (tt_C a h).2.2.2.2.2.2.2.2.2.1
theorem RSc {a : Nat} (h : a < 4) (c : CM) (s : MM) : ha_R (hh c s) (pS a) 0 = some 1 := (R_hh (tt_C a h).2.2.2.2.2.2.1).trans (tt_C a h).2.2.2.2.2.2.2.2.2.2.1
theorem RSl {a : Nat} (h : a < 4) (c : CM) (s : MM) : ha_R (hh c s) (pS a) 1 = some 2 := (R_hh (tt_C a h).2.2.2.2.2.2.1).trans (tt_C a h).2.2.2.2.2.2.2.2.2.2.2
theorem RSg {a : Nat} (h : a < 4) (c : CM) (s : MM) : ha_R (hh c s) (pS a) 3 = some (pG a 0) := (R_hh (tt_C a h).2.2.2.2.2.2.1).trans (tt_G a h 0 (by decide)).2.2.2
theorem RSh {a : Nat} (h : a < 4) (c : CM) (s : MM) : ha_R (hh c s) (pS a) 4 = some (pG a 1) := (R_hh (tt_C a h).2.2.2.2.2.2.1).trans (tt_G a h 1 (by decide)).2.2.2
theorem RSi {a : Nat} (h : a < 4) (c : CM) (s : MM) : ha_R (hh c s) (pS a) 5 = some (pG a 2) := (R_hh (tt_C a h).2.2.2.2.2.2.1).trans (tt_G a h 2 (by decide)).2.2.2
theorem RSL {a : Nat} (h : a < 4) (c : CM) (s : MM) : ha_R (hh c s) (pS a) 6 = some (pG a 3) := (R_hh (tt_C a h).2.2.2.2.2.2.1).trans (tt_G a h 3 (by decide)).2.2.2
theorem RA {a i : Nat} (h : a < 4) (hi : i < 4) (c : CM) (s : MM) : ha_R (hh c s) (pA a) i = some (pB a i) := (R_hh (tt_C a h).2.2.2.2.2.1).trans (tt_B a h i hi).2.2.1
theorem TB {a i : Nat} (h : a < 4) (hi : i < 4) (c : CM) (s : MM) : ha_T (hh c s) (pB a i) = 2 := (tt_B a h i hi).1
theorem RBc {a i : Nat} (h : a < 4) (hi : i < 4) (c : CM) (s : MM) : ha_R (hh c s) (pB a i) 0 = some 1 := (R_hh (tt_B a h i hi).2.1).trans (tt_B a h i hi).2.2.2.1
theorem RBl {a i : Nat} (h : a < 4) (hi : i < 4) (c : CM) (s : MM) : ha_R (hh c s) (pB a i) 1 = some 2 := (R_hh (tt_B a h i hi).2.1).trans (tt_B a h i hi).2.2.2.2
theorem RB0 {a i : Nat} (h : a < 4) (hi : i < 4) (c : CM) (s : MM) : ha_R (hh c s) (pB a i) 4 = some (pT a i 0) := (R_hh (tt_B a h i hi).2.1).trans (tt_T a h i hi 0 (by decide)).2.2.2
theorem RB1 {a i : Nat} (h : a < 4) (hi : i < 4) (c : CM) (s : MM) : ha_R (hh c s) (pB a i) 5 = some (pT a i 1) := (R_hh (tt_B a h i hi).2.1).trans (tt_T a h i hi 1 (by decide)).2.2.2
theorem RB2 {a i : Nat} (h : a < 4) (hi : i < 4) (c : CM) (s : MM) : ha_R (hh c s) (pB a i) 6 = some (pT a i 2) := (R_hh (tt_B a h i hi).2.1).trans (tt_T a h i hi 2 (by decide)).2.2.2
theorem RB3 {a i : Nat} (h : a < 4) (hi : i < 4) (c : CM) (s : MM) : ha_R (hh c s) (pB a i) 7 = some (pT a i 3) := (R_hh (tt_B a h i hi).2.1).trans (tt_T a h i hi 3 (by decide)).2.2.2
theorem RB4 {a i : Nat} (h : a < 4) (hi : i < 4) (c : CM) (s : MM) : ha_R (hh c s) (pB a i) 8 = some (pT a i 4) := (R_hh (tt_B a h i hi).2.1).trans (tt_T a h i hi 4 (by decide)).2.2.2
theorem RB5 {a i : Nat} (h : a < 4) (hi : i < 4) (c : CM) (s : MM) : ha_R (hh c s) (pB a i) 9 = some (pT a i 5) := (R_hh (tt_B a h i hi).2.1).trans (tt_T a h i hi 5 (by decide)).2.2.2
-- timers
def isTm (p : Nat) : Prop := p < 170 ∧ ¬ 1 = p ∧ ¬ 2 = p ∧ (∀ c s, ha_T (hh c s) p = 7) ∧ ∀ c s, ha_R (hh c s) p 0 = some 1
theorem tmG {a k : Nat} (h : a < 4) (hk : k < 4) : isTm (pG a k) := ⟨lt_G h hk, by unfold pG; omega, by unfold pG; omega, fun c s => (tt_G a h k hk).1, fun c s => (R_hh (tt_G a h k hk).2.1).trans (tt_G a h k hk).2.2.1⟩
theorem tmT {a i k : Nat} (h : a < 4) (hi : i < 4) (hk : k < 6) : isTm (pT a i k) := ⟨lt_T h hi hk, by unfold pT; omega, by unfold pT; omega, fun c s => (tt_T a h i hi k hk).1, fun c s => (R_hh (tt_T a h i hi k hk).2.1).trans (tt_T a h i hi k hk).2.2.1⟩
theorem lt1 : (1 : Nat) < 170 := by decide
theorem lt2 : (2 : Nat) < 170 := by decide
theorem lt0 : (0 : Nat) < 170 := by decide
def tq_set (c : CM) (p : Nat) (x : Int32) : CM := cI (cI c p 1 x) p 2 (c.1 1 1 + x)
def tq_stop (c : CM) (p : Nat) : CM := cI c p 2 2147483647
def tq_twm (c : CM) (p : Nat) (m : Int32) : CM := tq_set c p (if m < 2 * c.1 p 1 then m else 2 * c.1 p 1)
set_option maxRecDepth 20000 in
set_option maxHeartbeats 2000000 in
theorem x_set {p : Nat} {x : Int32} (hp : isTm p) : Ex xs L 75 [.ref p, .int x] (hh c s) (none, hh (tq_set c p x) s) := by
  refine Ex_of xs L rfl ?_
  show Ev xs L _ (0, [.ref p, .int x], [], hh c s) _
  simp only [e_75_0, e_75_1, e_75_2, e_75_5, e_75_6, e_75_7, e_75_10, e_75_13, e_75_14, e_75_15, e_75_18, tl_s, tl_n, rf_s, rf_n, cs_nil, cs_cons, cat_r, cat_i, cat_l, cat_n, cat_a, Nat.reduceAdd, Nat.reduceMul, Nat.reduceLeDiff, Nat.reduceEqDiff, Nat.reduceLT, and_self, and_true, true_and, and_false, false_and, or_true, true_or, or_false, false_or, if_true, if_false, not_true_eq_false, not_false_eq_true, reduceCtorEq, reduceIte, hp.2.2.2.1, hp.2.2.2.2, T1, I_lo hp.1, I_lo lt1, sI_lo hp.1, cI_at, hp.2.1, tq_set]
theorem k_set {p : Nat} {x : Int32} {K : Option Value → ix_H → Prop} (hp : isTm p) : Cl xs L 75 [.ref p, .int x] (hh c s) K ↔ K none (hh (tq_set c p x) s) := Cl_of xs L (x_set hp)
set_option maxRecDepth 20000 in
set_option maxHeartbeats 2000000 in
theorem x_stp {p : Nat} (hp : isTm p) : Ex xs L 78 [.ref p] (hh c s) (none, hh (tq_stop c p) s) := by
  refine Ex_of xs L rfl ?_
  show Ev xs L _ (0, [.ref p], [], hh c s) _
  simp only [e_78_0, e_78_1, e_78_3, e_78_6, tl_s, tl_n, rf_s, rf_n, cs_nil, cs_cons, cat_r, cat_i, cat_l, cat_n, cat_a, Nat.reduceAdd, Nat.reduceMul, Nat.reduceLeDiff, Nat.reduceEqDiff, Nat.reduceLT, and_self, and_true, true_and, and_false, false_and, or_true, true_or, or_false, false_or, if_true, if_false, not_true_eq_false, not_false_eq_true, reduceCtorEq, reduceIte, hp.2.2.2.1, sI_lo hp.1, tq_stop]
theorem k_stp {p : Nat} {K : Option Value → ix_H → Prop} (hp : isTm p) : Cl xs L 78 [.ref p] (hh c s) K ↔ K none (hh (tq_stop c p) s) := Cl_of xs L (x_stp hp)
set_option maxRecDepth 20000 in
set_option maxHeartbeats 2000000 in
theorem x_tw {p : Nat} (hp : isTm p) : Ex xs L 76 [.ref p] (hh c s) (none, hh (tq_set c p (2 * c.1 p 1)) s) := by
  refine Ex_of xs L rfl ?_
  show Ev xs L _ (0, [.ref p], [], hh c s) _
  simp only [e_76_0, e_76_1, e_76_2, e_76_3, e_76_6, e_76_7, e_76_10, k_set hp, tl_s, tl_n, rf_s, rf_n, cs_nil, cs_cons, cat_r, cat_i, cat_l, cat_n, cat_a, Nat.reduceAdd, Nat.reduceMul, Nat.reduceLeDiff, Nat.reduceEqDiff, Nat.reduceLT, and_self, and_true, true_and, and_false, false_and, or_true, true_or, or_false, false_or, if_true, if_false, not_true_eq_false, not_false_eq_true, reduceCtorEq, reduceIte, hp.2.2.2.1, I_lo hp.1]
theorem k_tw {p : Nat} {K : Option Value → ix_H → Prop} (hp : isTm p) : Cl xs L 76 [.ref p] (hh c s) K ↔ K none (hh (tq_set c p (2 * c.1 p 1)) s) := Cl_of xs L (x_tw hp)
set_option maxRecDepth 20000 in
set_option maxHeartbeats 2000000 in
theorem x_twm {p : Nat} {m : Int32} (hp : isTm p) : Ex xs L 77 [.ref p, .int m] (hh c s) (none, hh (tq_twm c p m) s) := by
  refine Ex_of xs L rfl ?_
  show Ev xs L _ (0, [.ref p, .int m], [], hh c s) _
  simp only [e_77_0, e_77_1, e_77_2, e_77_3, e_77_6, e_77_7, e_77_8, e_77_11, e_77_14, k_set hp, tl_s, tl_n, rf_s, rf_n, cs_nil, cs_cons, cat_r, cat_i, cat_l, cat_n, cat_a, Nat.reduceAdd, Nat.reduceMul, Nat.reduceLeDiff, Nat.reduceEqDiff, Nat.reduceLT, and_self, and_true, true_and, and_false, false_and, or_true, true_or, or_false, false_or, if_true, if_false, not_true_eq_false, not_false_eq_true, reduceCtorEq, reduceIte, hp.2.2.2.1, I_lo hp.1, tq_twm]
theorem k_twm {p : Nat} {m : Int32} {K : Option Value → ix_H → Prop} (hp : isTm p) : Cl xs L 77 [.ref p, .int m] (hh c s) K ↔ K none (hh (tq_twm c p m) s) := Cl_of xs L (x_twm hp)
set_option maxRecDepth 20000 in
set_option maxHeartbeats 2000000 in
theorem x_isOn {p : Nat} (hp : isTm p) : Ex xs L 79 [.ref p] (hh c s) (some (.int (if c.1 p 2 = 2147483647 then 0 else 1)), hh c s) := by
  refine Ex_of xs L rfl ?_
  show Ev xs L _ (0, [.ref p], [], hh c s) _
  by_cases h1 : c.1 p 2 = 2147483647
  · simp only [e_79_0, e_79_1, e_79_4, e_79_6, e_79_9, e_79_10, e_79_13, e_79_14, tl_s, tl_n, rf_s, rf_n, cs_nil, cs_cons, cat_r, cat_i, cat_l, cat_n, cat_a, Nat.reduceAdd, Nat.reduceMul, Nat.reduceLeDiff, Nat.reduceEqDiff, Nat.reduceLT, and_self, and_true, true_and, and_false, false_and, or_true, true_or, or_false, false_or, if_true, if_false, not_true_eq_false, not_false_eq_true, reduceCtorEq, reduceIte, hp.2.2.2.1, I_lo hp.1, eq_true h1]
  · simp only [e_79_0, e_79_1, e_79_4, e_79_6, e_79_9, e_79_10, e_79_13, e_79_14, tl_s, tl_n, rf_s, rf_n, cs_nil, cs_cons, cat_r, cat_i, cat_l, cat_n, cat_a, Nat.reduceAdd, Nat.reduceMul, Nat.reduceLeDiff, Nat.reduceEqDiff, Nat.reduceLT, and_self, and_true, true_and, and_false, false_and, or_true, true_or, or_false, false_or, if_true, if_false, not_true_eq_false, not_false_eq_true, reduceCtorEq, reduceIte, hp.2.2.2.1, I_lo hp.1, h1]
theorem k_isOn {p : Nat} {K : Option Value → ix_H → Prop} (hp : isTm p) : Cl xs L 79 [.ref p] (hh c s) K ↔ K (some (.int (if c.1 p 2 = 2147483647 then 0 else 1))) (hh c s) := Cl_of xs L (x_isOn hp)
set_option maxRecDepth 20000 in
set_option maxHeartbeats 2000000 in
theorem x_isDue {p : Nat} (hp : isTm p) : Ex xs L 80 [.ref p] (hh c s) (some (.int (if c.1 p 2 = c.1 1 1 then 1 else 0)), hh c s) := by
  refine Ex_of xs L rfl ?_
  show Ev xs L _ (0, [.ref p], [], hh c s) _
  by_cases h1 : c.1 p 2 = c.1 1 1
  · simp only [e_80_0, e_80_1, e_80_4, e_80_5, e_80_8, e_80_11, e_80_14, e_80_15, e_80_18, e_80_19, tl_s, tl_n, rf_s, rf_n, cs_nil, cs_cons, cat_r, cat_i, cat_l, cat_n, cat_a, Nat.reduceAdd, Nat.reduceMul, Nat.reduceLeDiff, Nat.reduceEqDiff, Nat.reduceLT, and_self, and_true, true_and, and_false, false_and, or_true, true_or, or_false, false_or, if_true, if_false, not_true_eq_false, not_false_eq_true, reduceCtorEq, reduceIte, hp.2.2.2.1, hp.2.2.2.2, T1, I_lo lt1, I_lo hp.1, eq_true h1]
  · simp only [e_80_0, e_80_1, e_80_4, e_80_5, e_80_8, e_80_11, e_80_14, e_80_15, e_80_18, e_80_19, tl_s, tl_n, rf_s, rf_n, cs_nil, cs_cons, cat_r, cat_i, cat_l, cat_n, cat_a, Nat.reduceAdd, Nat.reduceMul, Nat.reduceLeDiff, Nat.reduceEqDiff, Nat.reduceLT, and_self, and_true, true_and, and_false, false_and, or_true, true_or, or_false, false_or, if_true, if_false, not_true_eq_false, not_false_eq_true, reduceCtorEq, reduceIte, hp.2.2.2.1, hp.2.2.2.2, T1, I_lo lt1, I_lo hp.1, h1]
theorem k_isDue {p : Nat} {K : Option Value → ix_H → Prop} (hp : isTm p) : Cl xs L 80 [.ref p] (hh c s) K ↔ K (some (.int (if c.1 p 2 = c.1 1 1 then 1 else 0))) (hh c s) := Cl_of xs L (x_isDue hp)
-- the log
def l_add (c : CM) (a b w : Int32) : CM := cI (cJ c (c.1 2 2 &&& 63).toNatClampNeg ((((c.1 1 1).toInt64 * 4 + a.toInt64) * 8 + b.toInt64) * 1024 + w.toInt64)) 2 2 (c.1 2 2 + 1)
set_option maxRecDepth 20000 in
set_option maxHeartbeats 2000000 in
theorem x_add {a b w : Int32} : Ex xs L 61 [.ref 2, .int a, .int b, .int w] (hh c s) (none, hh (l_add c a b w) s) := by
  refine Ex_of xs L rfl ?_
  show Ev xs L _ (0, [.ref 2, .int a, .int b, .int w, .retAddr 1, .retAddr 1], [], hh c s) _
  simp only [e_61_0, e_61_1, e_61_4, e_61_7, e_61_8, e_61_11, e_61_12, e_61_13, e_61_14, e_61_15, e_61_18, e_61_19, e_61_20, e_61_21, e_61_22, e_61_24, e_61_25, e_61_28, e_61_29, e_61_32, e_61_34, e_61_35, e_61_37, e_61_40, e_61_41, e_61_42, e_61_43, e_61_44, e_61_45, e_61_46, e_61_47, e_61_50, e_61_51, e_61_52, e_61_55, tl_s, tl_n, rf_s, rf_n, cs_nil, cs_cons, cat_r, cat_i, cat_l, cat_n, cat_a, Nat.reduceAdd, Nat.reduceMul, Nat.reduceLeDiff, Nat.reduceEqDiff, Nat.reduceLT, and_self, and_true, true_and, and_false, false_and, or_true, true_or, or_false, false_or, if_true, if_false, not_true_eq_false, not_false_eq_true, reduceCtorEq, reduceIte, T1, T2, T3, L3, R2c, R2k, I_lo lt1, I_lo lt2, sI_lo lt2, sJ_3, cJ_1, in63, l_add]
theorem k_add {a b w : Int32} {K : Option Value → ix_H → Prop} : Cl xs L 61 [.ref 2, .int a, .int b, .int w] (hh c s) K ↔ K none (hh (l_add c a b w) s) := Cl_of xs L x_add
def l_lat (c : CM) (u : Int32) : Int64 := if (u < 0 ∨ 64 ≤ u) ∨ c.1 2 2 ≤ u then -1 else c.2.2 ((c.1 2 2 - 1 - u) &&& 63).toNatClampNeg
set_option maxRecDepth 20000 in
set_option maxHeartbeats 2000000 in
theorem x_lat {u : Int32} : Ex xs L 62 [.ref 2, .int u] (hh c s) (some (.long (l_lat c u)), hh c s) := by
  refine Ex_of xs L rfl ?_
  show Ev xs L _ (0, [.ref 2, .int u], [], hh c s) _
  unfold l_lat
  by_cases h1 : u < 0
  · simp only [e_62_0, e_62_1, e_62_4, e_62_5, e_62_7, e_62_10, e_62_11, e_62_12, e_62_15, e_62_18, e_62_21, e_62_22, e_62_23, e_62_26, e_62_27, e_62_30, e_62_31, e_62_32, e_62_33, e_62_34, e_62_36, e_62_37, e_62_38, tl_s, tl_n, rf_s, rf_n, cs_nil, cs_cons, cat_r, cat_i, cat_l, cat_n, cat_a, Nat.reduceAdd, Nat.reduceMul, Nat.reduceLeDiff, Nat.reduceEqDiff, Nat.reduceLT, and_self, and_true, true_and, and_false, false_and, or_true, true_or, or_false, false_or, if_true, if_false, not_true_eq_false, not_false_eq_true, reduceCtorEq, reduceIte, eq_true h1]
  · by_cases h2 : 64 ≤ u
    · simp only [e_62_0, e_62_1, e_62_4, e_62_5, e_62_7, e_62_10, e_62_11, e_62_12, e_62_15, e_62_18, e_62_21, e_62_22, e_62_23, e_62_26, e_62_27, e_62_30, e_62_31, e_62_32, e_62_33, e_62_34, e_62_36, e_62_37, e_62_38, tl_s, tl_n, rf_s, rf_n, cs_nil, cs_cons, cat_r, cat_i, cat_l, cat_n, cat_a, Nat.reduceAdd, Nat.reduceMul, Nat.reduceLeDiff, Nat.reduceEqDiff, Nat.reduceLT, and_self, and_true, true_and, and_false, false_and, or_true, true_or, or_false, false_or, if_true, if_false, not_true_eq_false, not_false_eq_true, reduceCtorEq, reduceIte, h1, eq_true h2]
    · by_cases h3 : c.1 2 2 ≤ u
      · have h4 : ¬ u < c.1 2 2 := Int32.not_lt.mpr h3
        simp only [e_62_0, e_62_1, e_62_4, e_62_5, e_62_7, e_62_10, e_62_11, e_62_12, e_62_15, e_62_18, e_62_21, e_62_22, e_62_23, e_62_26, e_62_27, e_62_30, e_62_31, e_62_32, e_62_33, e_62_34, e_62_36, e_62_37, e_62_38, tl_s, tl_n, rf_s, rf_n, cs_nil, cs_cons, cat_r, cat_i, cat_l, cat_n, cat_a, Nat.reduceAdd, Nat.reduceMul, Nat.reduceLeDiff, Nat.reduceEqDiff, Nat.reduceLT, and_self, and_true, true_and, and_false, false_and, or_true, true_or, or_false, false_or, if_true, if_false, not_true_eq_false, not_false_eq_true, reduceCtorEq, reduceIte, T2, I_lo lt2, h1, h2, eq_true h3, h4]
      · have h4 : u < c.1 2 2 := Int32.not_le.mp h3
        simp only [e_62_0, e_62_1, e_62_4, e_62_5, e_62_7, e_62_10, e_62_11, e_62_12, e_62_15, e_62_18, e_62_21, e_62_22, e_62_23, e_62_26, e_62_27, e_62_30, e_62_31, e_62_32, e_62_33, e_62_34, e_62_36, e_62_37, e_62_38, tl_s, tl_n, rf_s, rf_n, cs_nil, cs_cons, cat_r, cat_i, cat_l, cat_n, cat_a, Nat.reduceAdd, Nat.reduceMul, Nat.reduceLeDiff, Nat.reduceEqDiff, Nat.reduceLT, and_self, and_true, true_and, and_false, false_and, or_true, true_or, or_false, false_or, if_true, if_false, not_true_eq_false, not_false_eq_true, reduceCtorEq, reduceIte, T2, T3, L3, R2k, I_lo lt2, J_3, in63, h1, h2, h3, eq_true h4]
theorem k_lat {u : Int32} {K : Option Value → ix_H → Prop} : Cl xs L 62 [.ref 2, .int u] (hh c s) K ↔ K (some (.long (l_lat c u))) (hh c s) := Cl_of xs L x_lat
end CL
