abbrev HI : Type := Nat → Nat → Int32
abbrev HR : Type := Nat → Nat → Option Nat
def TcN (N p : Nat) : Nat := if p < N then TT p else 9999
def LcN (N p : Nat) : Nat := if p < N then LL p else 0
def hc (N S : Nat) (I : HI) (R : HR) : ix_H := (N, S, TcN N, LcN N, I, R, fun _ _ => 0)
theorem TcN_up {N t : Nat} (h : TT N = t) : va_up (TcN N) N t = TcN (N + 1) := by
  funext q
  rw [up_at]
  unfold TcN
  by_cases e : q = N
  · rw [if_pos e, if_pos (by omega), e, h]
  · rw [if_neg e]
    by_cases g : q < N
    · rw [if_pos g, if_pos (by omega)]
    · rw [if_neg g, if_neg (by omega)]
theorem LcN_up {N t : Nat} (h : LL N = t) : va_up (LcN N) N t = LcN (N + 1) := by
  funext q
  rw [up_at]
  unfold LcN
  by_cases e : q = N
  · rw [if_pos e, if_pos (by omega), e, h]
  · rw [if_neg e]
    by_cases g : q < N
    · rw [if_pos g, if_pos (by omega)]
    · rw [if_neg g, if_neg (by omega)]
def wI (I : HI) (p j : Nat) (v : Int32) : HI := va_up I p (va_up (I p) j v)
def wR (R : HR) (p j q : Nat) : HR := va_up R p (va_up (R p) j (some q))
theorem wR_at (R : HR) (p j b q i : Nat) : wR R p j b q i = if q = p ∧ i = j then some b else R q i := by
  unfold wR
  rw [up_at]
  by_cases h1 : q = p
  · subst h1
    rw [if_pos rfl, up_at]
    by_cases h2 : i = j <;> simp [h2]
  · rw [if_neg h1, if_neg (fun w => h1 w.1)]
def FI (N : Nat) (I : HI) : Prop := ∀ q, N ≤ q → I q = fun _ => 0
def FR (N : Nat) (R : HR) : Prop := ∀ q, N ≤ q → R q = fun _ => none
theorem FI_w {N p j : Nat} {I : HI} {v : Int32} (h : FI N I) (hp : p < N) : FI N (wI I p j v) := by
  intro q hq
  unfold wI
  rw [up_at, if_neg (by omega)]
  exact h q hq
theorem FR_w {N p j b : Nat} {R : HR} (h : FR N R) (hp : p < N) : FR N (wR R p j b) := by
  intro q hq
  unfold wR
  rw [up_at, if_neg (by omega)]
  exact h q hq
theorem FI_s {N M : Nat} {I : HI} (h : FI N I) (hM : N ≤ M) : FI M I := fun q hq => h q (Nat.le_trans hM hq)
theorem FR_s {N M : Nat} {R : HR} (h : FR N R) (hM : N ≤ M) : FR M R := fun q hq => h q (Nat.le_trans hM hq)
theorem up_self {α : Type} (f : Nat → α) (p : Nat) (v : α) (h : f p = v) : va_up f p v = f := by
  funext q
  rw [up_at]
  by_cases e : q = p
  · rw [if_pos e, e, h]
  · rw [if_neg e]
theorem hc_new {N S t len sl : Nat} {I : HI} {R : HR} (ht : TT N = t) (hl : LL N = len) (hI : FI N I) (hR : FR N R) : hs_new (hc N S I R) t len sl = hc (N + 1) (S + sl) I R := by
  show (N + 1, S + sl, va_up (TcN N) N t, va_up (LcN N) N len, va_up I N (fun _ => 0), va_up R N (fun _ => none), va_up (fun _ _ => 0) N (fun _ => 0)) = hc (N + 1) (S + sl) I R
  rw [TcN_up ht, LcN_up hl, up_self I N _ (hI N (Nat.le_refl _)), up_self R N _ (hR N (Nat.le_refl _)), up_self (fun _ _ => (0 : Int64)) N _ rfl]
  rfl
theorem hc_I {N S p j : Nat} {v : Int32} {I : HI} {R : HR} : hs_I (hc N S I R) p j v = hc N S (wI I p j v) R := Eq.trans rfl rfl
theorem hc_R {N S p j q : Nat} {I : HI} {R : HR} : hs_R (hc N S I R) p j (some q) = hc N S I (wR R p j q) := Eq.trans rfl rfl
theorem hc_N {N S : Nat} {I : HI} {R : HR} : ha_N (hc N S I R) = N := Eq.trans rfl rfl
theorem hc_T {N S p : Nat} {I : HI} {R : HR} (h : p < N) : ha_T (hc N S I R) p = TT p := if_pos h
theorem hc_L {N S p : Nat} {I : HI} {R : HR} (h : p < N) : ha_L (hc N S I R) p = LL p := if_pos h
theorem hc_g {N S p j : Nat} {I : HI} {R : HR} : ha_R (hc N S I R) p j = R p j := Eq.trans rfl rfl
section CT
variable {xs : Nat → Int32} {L : Nat} {N S : Nat} {I : HI} {R : HR}
-- a timer
def tmI (I : HI) (p : Nat) : HI := wI I p 2 2147483647
def tmR (R : HR) (p : Nat) : HR := wR R p 0 1
set_option maxRecDepth 20000 in
set_option maxHeartbeats 2000000 in
theorem x_tmi {p : Nat} (hp : TT p = 7) (hq : p < N) : Ex xs L 74 [.ref p, .ref 1] (hc N S I R) (none, hc N S (tmI I p) (tmR R p)) := by
  refine Ex_of xs L rfl ?_
  show Ev xs L _ (0, [.ref p, .ref 1], [], hc N S I R) _
  simp only [e_74_0, e_74_1, e_74_4, e_74_5, e_74_7, e_74_10, e_74_11, e_74_11n, e_74_12, e_74_15, hc_I, hc_R, hc_T, hp, hq, tl_s, tl_n, rf_s, rf_n, cs_nil, cs_cons, cat_r, cat_i, cat_l, cat_n, cat_a, Nat.reduceAdd, Nat.reduceMul, Nat.reduceLeDiff, Nat.reduceEqDiff, Nat.reduceLT, and_self, and_true, true_and, and_false, false_and, or_true, true_or, or_false, false_or, if_true, if_false, not_true_eq_false, not_false_eq_true, reduceCtorEq, reduceIte, tmI, tmR]
theorem k_tmi {p : Nat} {K : Option Value → ix_H → Prop} (hp : TT p = 7) (hq : p < N) : Cl xs L 74 [.ref p, .ref 1] (hc N S I R) K ↔ K none (hc N S (tmI I p) (tmR R p)) := Cl_of xs L (x_tmi hp hq)
theorem FI_tm {p : Nat} (h : FI N I) (hp : p < N) : FI N (tmI I p) := FI_w h hp
theorem FR_tm {p b j : Nat} (h : FR N R) (hp : p < N) (hb : b < N) : FR N (wR (tmR R p) b j p) := FR_w (FR_w h hp) hb
-- Server
theorem server_0 {o : ix_O} {p n : Nat} {x y : Int32} (hp : TT p = 6) (hq : p < n) (hn : TT n = 7) (hl : LL n = 0) (hI : FI n I) (hR : FR n R) : Ev xs L 63 (24, [.ref p, .ref 1, .ref 2, .int x], [], hc n S I R) o ↔ Ev xs L 63 (36, [.ref p, .ref 1, .ref 2, .int x], [], hc (n + 1) (S + 3) (tmI I n) (wR (tmR R n) p 3 n)) o := by
  simp only [e_63_24, e_63_25, e_63_28, e_63_29, e_63_29n, e_63_30, e_63_33, hc_N, hc_new hn hl hI hR, k_tmi hn (show n < n + 1 by omega), hc_R, hc_T, hp, hn, hq, show p < n + 1 by omega, show n < n + 1 by omega, tl_s, tl_n, rf_s, rf_n, cs_nil, cs_cons, cat_r, cat_i, cat_l, cat_n, cat_a, Nat.reduceAdd, Nat.reduceMul, Nat.reduceLeDiff, Nat.reduceEqDiff, Nat.reduceLT, and_self, and_true, true_and, and_false, false_and, or_true, true_or, or_false, false_or, if_true, if_false, not_true_eq_false, not_false_eq_true, reduceCtorEq, reduceIte]
theorem server_1 {o : ix_O} {p n : Nat} {x y : Int32} (hp : TT p = 6) (hq : p < n) (hn : TT n = 7) (hl : LL n = 0) (hI : FI n I) (hR : FR n R) : Ev xs L 63 (36, [.ref p, .ref 1, .ref 2, .int x], [], hc n S I R) o ↔ Ev xs L 63 (48, [.ref p, .ref 1, .ref 2, .int x], [], hc (n + 1) (S + 3) (tmI I n) (wR (tmR R n) p 4 n)) o := by
  simp only [e_63_36, e_63_37, e_63_40, e_63_41, e_63_41n, e_63_42, e_63_45, hc_N, hc_new hn hl hI hR, k_tmi hn (show n < n + 1 by omega), hc_R, hc_T, hp, hn, hq, show p < n + 1 by omega, show n < n + 1 by omega, tl_s, tl_n, rf_s, rf_n, cs_nil, cs_cons, cat_r, cat_i, cat_l, cat_n, cat_a, Nat.reduceAdd, Nat.reduceMul, Nat.reduceLeDiff, Nat.reduceEqDiff, Nat.reduceLT, and_self, and_true, true_and, and_false, false_and, or_true, true_or, or_false, false_or, if_true, if_false, not_true_eq_false, not_false_eq_true, reduceCtorEq, reduceIte]
theorem server_2 {o : ix_O} {p n : Nat} {x y : Int32} (hp : TT p = 6) (hq : p < n) (hn : TT n = 7) (hl : LL n = 0) (hI : FI n I) (hR : FR n R) : Ev xs L 63 (48, [.ref p, .ref 1, .ref 2, .int x], [], hc n S I R) o ↔ Ev xs L 63 (60, [.ref p, .ref 1, .ref 2, .int x], [], hc (n + 1) (S + 3) (tmI I n) (wR (tmR R n) p 5 n)) o := by
  simp only [e_63_48, e_63_49, e_63_52, e_63_53, e_63_53n, e_63_54, e_63_57, hc_N, hc_new hn hl hI hR, k_tmi hn (show n < n + 1 by omega), hc_R, hc_T, hp, hn, hq, show p < n + 1 by omega, show n < n + 1 by omega, tl_s, tl_n, rf_s, rf_n, cs_nil, cs_cons, cat_r, cat_i, cat_l, cat_n, cat_a, Nat.reduceAdd, Nat.reduceMul, Nat.reduceLeDiff, Nat.reduceEqDiff, Nat.reduceLT, and_self, and_true, true_and, and_false, false_and, or_true, true_or, or_false, false_or, if_true, if_false, not_true_eq_false, not_false_eq_true, reduceCtorEq, reduceIte]
theorem server_3 {o : ix_O} {p n : Nat} {x y : Int32} (hp : TT p = 6) (hq : p < n) (hn : TT n = 7) (hl : LL n = 0) (hI : FI n I) (hR : FR n R) : Ev xs L 63 (60, [.ref p, .ref 1, .ref 2, .int x], [], hc n S I R) o ↔ Ev xs L 63 (72, [.ref p, .ref 1, .ref 2, .int x], [], hc (n + 1) (S + 3) (tmI I n) (wR (tmR R n) p 6 n)) o := by
  simp only [e_63_60, e_63_61, e_63_64, e_63_65, e_63_65n, e_63_66, e_63_69, hc_N, hc_new hn hl hI hR, k_tmi hn (show n < n + 1 by omega), hc_R, hc_T, hp, hn, hq, show p < n + 1 by omega, show n < n + 1 by omega, tl_s, tl_n, rf_s, rf_n, cs_nil, cs_cons, cat_r, cat_i, cat_l, cat_n, cat_a, Nat.reduceAdd, Nat.reduceMul, Nat.reduceLeDiff, Nat.reduceEqDiff, Nat.reduceLT, and_self, and_true, true_and, and_false, false_and, or_true, true_or, or_false, false_or, if_true, if_false, not_true_eq_false, not_false_eq_true, reduceCtorEq, reduceIte]
def serverI (I : HI) (p : Nat) (x y : Int32) : HI := tmI (tmI (tmI (tmI (wI (wI I p 7 5) p 2 x) (p + 1)) (p + 2)) (p + 3)) (p + 4)
def serverR (R : HR) (p : Nat) : HR := wR (tmR (wR (tmR (wR (tmR (wR (tmR (wR (wR R p 0 1) p 1 2) (p + 1)) p 3 (p + 1)) (p + 2)) p 4 (p + 2)) (p + 3)) p 5 (p + 3)) (p + 4)) p 6 (p + 4)
set_option maxRecDepth 20000 in
set_option maxHeartbeats 2000000 in
theorem x_serveri {p : Nat} {x y : Int32} (hp : TT p = 6) (hn : ∀ k, k < 4 → TT (p + 1 + k) = 7 ∧ LL (p + 1 + k) = 0) (hI : FI (p + 1) I) (hR : FR (p + 1) R) : Ex xs L 63 [.ref p, .ref 1, .ref 2, .int x] (hc (p + 1) S I R) (none, hc (p + 5) (S + 12) (serverI I p x y) (serverR R p)) := by
  refine Ex_of xs L rfl ?_
  show Ev xs L _ (0, [.ref p, .ref 1, .ref 2, .int x], [], hc (p + 1) S I R) _
  simp only [e_63_0, e_63_1, e_63_4, e_63_5, e_63_6, e_63_9, e_63_10, e_63_10n, e_63_11, e_63_14, e_63_15, e_63_15n, e_63_16, e_63_19, e_63_20, e_63_21, hc_I, hc_R, hc_T, hp, show p < p + 1 by omega, tl_s, tl_n, rf_s, rf_n, cs_nil, cs_cons, cat_r, cat_i, cat_l, cat_n, cat_a, Nat.reduceAdd, Nat.reduceMul, Nat.reduceLeDiff, Nat.reduceEqDiff, Nat.reduceLT, and_self, and_true, true_and, and_false, false_and, or_true, true_or, or_false, false_or, if_true, if_false, not_true_eq_false, not_false_eq_true, reduceCtorEq, reduceIte]
  have f0 : FI (p + 1) (wI (wI I p 7 5) p 2 x) := FI_w (FI_w (hI) (by omega)) (by omega)
  have g0 : FR (p + 1) (wR (wR R p 0 1) p 1 2) := FR_w (FR_w (hR) (by omega)) (by omega)
  rw [server_0 (n := p + 1) (x := x) (y := y) hp (by omega) (hn 0 (by decide)).1 (hn 0 (by decide)).2 f0 g0]
  have f1 := FI_tm (p := p + 1) (FI_s f0 (show p + 1 ≤ p + 2 by omega)) (by omega)
  have g1 := FR_tm (p := p + 1) (b := p) (j := 3) (FR_s g0 (show p + 1 ≤ p + 2 by omega)) (by omega) (by omega)
  rw [server_1 (n := p + 2) (x := x) (y := y) hp (by omega) (hn 1 (by decide)).1 (hn 1 (by decide)).2 f1 g1]
  have f2 := FI_tm (p := p + 2) (FI_s f1 (show p + 2 ≤ p + 3 by omega)) (by omega)
  have g2 := FR_tm (p := p + 2) (b := p) (j := 4) (FR_s g1 (show p + 2 ≤ p + 3 by omega)) (by omega) (by omega)
  rw [server_2 (n := p + 3) (x := x) (y := y) hp (by omega) (hn 2 (by decide)).1 (hn 2 (by decide)).2 f2 g2]
  have f3 := FI_tm (p := p + 3) (FI_s f2 (show p + 3 ≤ p + 4 by omega)) (by omega)
  have g3 := FR_tm (p := p + 3) (b := p) (j := 5) (FR_s g2 (show p + 3 ≤ p + 4 by omega)) (by omega) (by omega)
  rw [server_3 (n := p + 4) (x := x) (y := y) hp (by omega) (hn 3 (by decide)).1 (hn 3 (by decide)).2 f3 g3]
  simp only [e_63_72, Nat.add_assoc, Nat.reduceAdd, serverI, serverR]
theorem F_server {p : Nat} {x y : Int32} (hI : FI (p + 1) I) (hR : FR (p + 1) R) : FI (p + 5) (serverI I p x y) ∧ FR (p + 5) (serverR R p) := by
  unfold serverI serverR tmI tmR
  refine ⟨?_, ?_⟩
  · repeat' first | exact FI_s hI (by omega) | refine FI_w ?_ (by omega)
  · repeat' first | exact FR_s hR (by omega) | refine FR_w ?_ (by omega)
-- Branch
theorem branch_0 {o : ix_O} {p n : Nat} {x y : Int32} (hp : TT p = 2) (hq : p < n) (hn : TT n = 7) (hl : LL n = 0) (hI : FI n I) (hR : FR n R) : Ev xs L 29 (30, [.ref p, .ref 1, .ref 2, .int x, .int y], [], hc n S I R) o ↔ Ev xs L 29 (42, [.ref p, .ref 1, .ref 2, .int x, .int y], [], hc (n + 1) (S + 3) (tmI I n) (wR (tmR R n) p 4 n)) o := by
  simp only [e_29_30, e_29_31, e_29_34, e_29_35, e_29_35n, e_29_36, e_29_39, hc_N, hc_new hn hl hI hR, k_tmi hn (show n < n + 1 by omega), hc_R, hc_T, hp, hn, hq, show p < n + 1 by omega, show n < n + 1 by omega, tl_s, tl_n, rf_s, rf_n, cs_nil, cs_cons, cat_r, cat_i, cat_l, cat_n, cat_a, Nat.reduceAdd, Nat.reduceMul, Nat.reduceLeDiff, Nat.reduceEqDiff, Nat.reduceLT, and_self, and_true, true_and, and_false, false_and, or_true, true_or, or_false, false_or, if_true, if_false, not_true_eq_false, not_false_eq_true, reduceCtorEq, reduceIte]
theorem branch_1 {o : ix_O} {p n : Nat} {x y : Int32} (hp : TT p = 2) (hq : p < n) (hn : TT n = 7) (hl : LL n = 0) (hI : FI n I) (hR : FR n R) : Ev xs L 29 (42, [.ref p, .ref 1, .ref 2, .int x, .int y], [], hc n S I R) o ↔ Ev xs L 29 (54, [.ref p, .ref 1, .ref 2, .int x, .int y], [], hc (n + 1) (S + 3) (tmI I n) (wR (tmR R n) p 5 n)) o := by
  simp only [e_29_42, e_29_43, e_29_46, e_29_47, e_29_47n, e_29_48, e_29_51, hc_N, hc_new hn hl hI hR, k_tmi hn (show n < n + 1 by omega), hc_R, hc_T, hp, hn, hq, show p < n + 1 by omega, show n < n + 1 by omega, tl_s, tl_n, rf_s, rf_n, cs_nil, cs_cons, cat_r, cat_i, cat_l, cat_n, cat_a, Nat.reduceAdd, Nat.reduceMul, Nat.reduceLeDiff, Nat.reduceEqDiff, Nat.reduceLT, and_self, and_true, true_and, and_false, false_and, or_true, true_or, or_false, false_or, if_true, if_false, not_true_eq_false, not_false_eq_true, reduceCtorEq, reduceIte]
theorem branch_2 {o : ix_O} {p n : Nat} {x y : Int32} (hp : TT p = 2) (hq : p < n) (hn : TT n = 7) (hl : LL n = 0) (hI : FI n I) (hR : FR n R) : Ev xs L 29 (54, [.ref p, .ref 1, .ref 2, .int x, .int y], [], hc n S I R) o ↔ Ev xs L 29 (66, [.ref p, .ref 1, .ref 2, .int x, .int y], [], hc (n + 1) (S + 3) (tmI I n) (wR (tmR R n) p 6 n)) o := by
  simp only [e_29_54, e_29_55, e_29_58, e_29_59, e_29_59n, e_29_60, e_29_63, hc_N, hc_new hn hl hI hR, k_tmi hn (show n < n + 1 by omega), hc_R, hc_T, hp, hn, hq, show p < n + 1 by omega, show n < n + 1 by omega, tl_s, tl_n, rf_s, rf_n, cs_nil, cs_cons, cat_r, cat_i, cat_l, cat_n, cat_a, Nat.reduceAdd, Nat.reduceMul, Nat.reduceLeDiff, Nat.reduceEqDiff, Nat.reduceLT, and_self, and_true, true_and, and_false, false_and, or_true, true_or, or_false, false_or, if_true, if_false, not_true_eq_false, not_false_eq_true, reduceCtorEq, reduceIte]
theorem branch_3 {o : ix_O} {p n : Nat} {x y : Int32} (hp : TT p = 2) (hq : p < n) (hn : TT n = 7) (hl : LL n = 0) (hI : FI n I) (hR : FR n R) : Ev xs L 29 (66, [.ref p, .ref 1, .ref 2, .int x, .int y], [], hc n S I R) o ↔ Ev xs L 29 (78, [.ref p, .ref 1, .ref 2, .int x, .int y], [], hc (n + 1) (S + 3) (tmI I n) (wR (tmR R n) p 7 n)) o := by
  simp only [e_29_66, e_29_67, e_29_70, e_29_71, e_29_71n, e_29_72, e_29_75, hc_N, hc_new hn hl hI hR, k_tmi hn (show n < n + 1 by omega), hc_R, hc_T, hp, hn, hq, show p < n + 1 by omega, show n < n + 1 by omega, tl_s, tl_n, rf_s, rf_n, cs_nil, cs_cons, cat_r, cat_i, cat_l, cat_n, cat_a, Nat.reduceAdd, Nat.reduceMul, Nat.reduceLeDiff, Nat.reduceEqDiff, Nat.reduceLT, and_self, and_true, true_and, and_false, false_and, or_true, true_or, or_false, false_or, if_true, if_false, not_true_eq_false, not_false_eq_true, reduceCtorEq, reduceIte]
theorem branch_4 {o : ix_O} {p n : Nat} {x y : Int32} (hp : TT p = 2) (hq : p < n) (hn : TT n = 7) (hl : LL n = 0) (hI : FI n I) (hR : FR n R) : Ev xs L 29 (78, [.ref p, .ref 1, .ref 2, .int x, .int y], [], hc n S I R) o ↔ Ev xs L 29 (90, [.ref p, .ref 1, .ref 2, .int x, .int y], [], hc (n + 1) (S + 3) (tmI I n) (wR (tmR R n) p 8 n)) o := by
  simp only [e_29_78, e_29_79, e_29_82, e_29_83, e_29_83n, e_29_84, e_29_87, hc_N, hc_new hn hl hI hR, k_tmi hn (show n < n + 1 by omega), hc_R, hc_T, hp, hn, hq, show p < n + 1 by omega, show n < n + 1 by omega, tl_s, tl_n, rf_s, rf_n, cs_nil, cs_cons, cat_r, cat_i, cat_l, cat_n, cat_a, Nat.reduceAdd, Nat.reduceMul, Nat.reduceLeDiff, Nat.reduceEqDiff, Nat.reduceLT, and_self, and_true, true_and, and_false, false_and, or_true, true_or, or_false, false_or, if_true, if_false, not_true_eq_false, not_false_eq_true, reduceCtorEq, reduceIte]
theorem branch_5 {o : ix_O} {p n : Nat} {x y : Int32} (hp : TT p = 2) (hq : p < n) (hn : TT n = 7) (hl : LL n = 0) (hI : FI n I) (hR : FR n R) : Ev xs L 29 (90, [.ref p, .ref 1, .ref 2, .int x, .int y], [], hc n S I R) o ↔ Ev xs L 29 (102, [.ref p, .ref 1, .ref 2, .int x, .int y], [], hc (n + 1) (S + 3) (tmI I n) (wR (tmR R n) p 9 n)) o := by
  simp only [e_29_90, e_29_91, e_29_94, e_29_95, e_29_95n, e_29_96, e_29_99, hc_N, hc_new hn hl hI hR, k_tmi hn (show n < n + 1 by omega), hc_R, hc_T, hp, hn, hq, show p < n + 1 by omega, show n < n + 1 by omega, tl_s, tl_n, rf_s, rf_n, cs_nil, cs_cons, cat_r, cat_i, cat_l, cat_n, cat_a, Nat.reduceAdd, Nat.reduceMul, Nat.reduceLeDiff, Nat.reduceEqDiff, Nat.reduceLT, and_self, and_true, true_and, and_false, false_and, or_true, true_or, or_false, false_or, if_true, if_false, not_true_eq_false, not_false_eq_true, reduceCtorEq, reduceIte]
def branchI (I : HI) (p : Nat) (x y : Int32) : HI := tmI (tmI (tmI (tmI (tmI (tmI (wI (wI (wI I p 11 4) p 2 x) p 3 y) (p + 1)) (p + 2)) (p + 3)) (p + 4)) (p + 5)) (p + 6)
def branchR (R : HR) (p : Nat) : HR := wR (tmR (wR (tmR (wR (tmR (wR (tmR (wR (tmR (wR (tmR (wR (wR R p 0 1) p 1 2) (p + 1)) p 4 (p + 1)) (p + 2)) p 5 (p + 2)) (p + 3)) p 6 (p + 3)) (p + 4)) p 7 (p + 4)) (p + 5)) p 8 (p + 5)) (p + 6)) p 9 (p + 6)
set_option maxRecDepth 20000 in
set_option maxHeartbeats 2000000 in
theorem x_branchi {p : Nat} {x y : Int32} (hp : TT p = 2) (hn : ∀ k, k < 6 → TT (p + 1 + k) = 7 ∧ LL (p + 1 + k) = 0) (hI : FI (p + 1) I) (hR : FR (p + 1) R) : Ex xs L 29 [.ref p, .ref 1, .ref 2, .int x, .int y] (hc (p + 1) S I R) (none, hc (p + 7) (S + 18) (branchI I p x y) (branchR R p)) := by
  refine Ex_of xs L rfl ?_
  show Ev xs L _ (0, [.ref p, .ref 1, .ref 2, .int x, .int y], [], hc (p + 1) S I R) _
  simp only [e_29_0, e_29_1, e_29_4, e_29_5, e_29_6, e_29_9, e_29_10, e_29_10n, e_29_11, e_29_14, e_29_15, e_29_15n, e_29_16, e_29_19, e_29_20, e_29_21, e_29_24, e_29_25, e_29_27, hc_I, hc_R, hc_T, hp, show p < p + 1 by omega, tl_s, tl_n, rf_s, rf_n, cs_nil, cs_cons, cat_r, cat_i, cat_l, cat_n, cat_a, Nat.reduceAdd, Nat.reduceMul, Nat.reduceLeDiff, Nat.reduceEqDiff, Nat.reduceLT, and_self, and_true, true_and, and_false, false_and, or_true, true_or, or_false, false_or, if_true, if_false, not_true_eq_false, not_false_eq_true, reduceCtorEq, reduceIte]
  have f0 : FI (p + 1) (wI (wI (wI I p 11 4) p 2 x) p 3 y) := FI_w (FI_w (FI_w (hI) (by omega)) (by omega)) (by omega)
  have g0 : FR (p + 1) (wR (wR R p 0 1) p 1 2) := FR_w (FR_w (hR) (by omega)) (by omega)
  rw [branch_0 (n := p + 1) (x := x) (y := y) hp (by omega) (hn 0 (by decide)).1 (hn 0 (by decide)).2 f0 g0]
  have f1 := FI_tm (p := p + 1) (FI_s f0 (show p + 1 ≤ p + 2 by omega)) (by omega)
  have g1 := FR_tm (p := p + 1) (b := p) (j := 4) (FR_s g0 (show p + 1 ≤ p + 2 by omega)) (by omega) (by omega)
  rw [branch_1 (n := p + 2) (x := x) (y := y) hp (by omega) (hn 1 (by decide)).1 (hn 1 (by decide)).2 f1 g1]
  have f2 := FI_tm (p := p + 2) (FI_s f1 (show p + 2 ≤ p + 3 by omega)) (by omega)
  have g2 := FR_tm (p := p + 2) (b := p) (j := 5) (FR_s g1 (show p + 2 ≤ p + 3 by omega)) (by omega) (by omega)
  rw [branch_2 (n := p + 3) (x := x) (y := y) hp (by omega) (hn 2 (by decide)).1 (hn 2 (by decide)).2 f2 g2]
  have f3 := FI_tm (p := p + 3) (FI_s f2 (show p + 3 ≤ p + 4 by omega)) (by omega)
  have g3 := FR_tm (p := p + 3) (b := p) (j := 6) (FR_s g2 (show p + 3 ≤ p + 4 by omega)) (by omega) (by omega)
  rw [branch_3 (n := p + 4) (x := x) (y := y) hp (by omega) (hn 3 (by decide)).1 (hn 3 (by decide)).2 f3 g3]
  have f4 := FI_tm (p := p + 4) (FI_s f3 (show p + 4 ≤ p + 5 by omega)) (by omega)
  have g4 := FR_tm (p := p + 4) (b := p) (j := 7) (FR_s g3 (show p + 4 ≤ p + 5 by omega)) (by omega) (by omega)
  rw [branch_4 (n := p + 5) (x := x) (y := y) hp (by omega) (hn 4 (by decide)).1 (hn 4 (by decide)).2 f4 g4]
  have f5 := FI_tm (p := p + 5) (FI_s f4 (show p + 5 ≤ p + 6 by omega)) (by omega)
  have g5 := FR_tm (p := p + 5) (b := p) (j := 8) (FR_s g4 (show p + 5 ≤ p + 6 by omega)) (by omega) (by omega)
  rw [branch_5 (n := p + 6) (x := x) (y := y) hp (by omega) (hn 5 (by decide)).1 (hn 5 (by decide)).2 f5 g5]
  simp only [e_29_102, Nat.add_assoc, Nat.reduceAdd, branchI, branchR]
theorem F_branch {p : Nat} {x y : Int32} (hI : FI (p + 1) I) (hR : FR (p + 1) R) : FI (p + 7) (branchI I p x y) ∧ FR (p + 7) (branchR R p) := by
  unfold branchI branchR tmI tmR
  refine ⟨?_, ?_⟩
  · repeat' first | exact FI_s hI (by omega) | refine FI_w ?_ (by omega)
  · repeat' first | exact FR_s hR (by omega) | refine FR_w ?_ (by omega)
end CT
