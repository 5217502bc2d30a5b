section CT
variable {xs : Nat → Int32} {L : Nat} {N S : Nat} {I : HI} {R : HR}
set_option maxRecDepth 20000 in
set_option maxHeartbeats 2000000 in
theorem x_cki {x : Int32} (hq : 1 < N) : Ex xs L 59 [.ref 1, .int x] (hc N S I R) (none, hc N S (wI I 1 0 x) R) := by
  refine Ex_of xs L rfl ?_
  show Ev xs L _ (0, [.ref 1, .int x], [], hc N S I R) _
  have t1 : TT 1 = 4 := by decide
  simp only [e_59_0, e_59_1, e_59_4, e_59_5, e_59_6, e_59_9, hc_T, hc_I, t1, hq, tl_s, tl_n, rf_s, rf_n, cs_nil, cs_cons, cat_r, cat_i, cat_l, cat_n, cat_a, Nat.reduceAdd, Nat.reduceMul, Nat.reduceLeDiff, Nat.reduceEqDiff, Nat.reduceLT, and_self, and_true, true_and, and_false, false_and, or_true, true_or, or_false, false_or, if_true, if_false, not_true_eq_false, not_false_eq_true, reduceCtorEq, reduceIte]
theorem k_cki {x : Int32} {K : Option Value → ix_H → Prop} (hq : 1 < N) : Cl xs L 59 [.ref 1, .int x] (hc N S I R) K ↔ K none (hc N S (wI I 1 0 x) R) := Cl_of xs L (x_cki hq)
set_option maxRecDepth 20000 in
set_option maxHeartbeats 2000000 in
theorem x_mli (hI : FI 3 I) (hR : FR 3 R) : Ex xs L 60 [.ref 2, .ref 1] (hc 3 S I R) (none, hc 4 (S + 64) I (wR (wR R 2 1 3) 2 0 1)) := by
  refine Ex_of xs L rfl ?_
  show Ev xs L _ (0, [.ref 2, .ref 1], [], hc 3 S I R) _
  have t2 : TT 2 = 5 := by decide
  have n1 : hs_new (hc 3 S I R) 102 64 64 = hc (3 + 1) (S + 64) I R := hc_new (by decide) (by decide) hI hR
  simp only [e_60_0, e_60_1, e_60_4, e_60_5, e_60_7, e_60_9, e_60_12, e_60_13, e_60_13n, e_60_14, e_60_17, hc_N, hc_T, hc_R, n1, t2, ng64, tc64, mx64, tl_s, tl_n, rf_s, rf_n, cs_nil, cs_cons, cat_r, cat_i, cat_l, cat_n, cat_a, Nat.reduceAdd, Nat.reduceMul, Nat.reduceLeDiff, Nat.reduceEqDiff, Nat.reduceLT, and_self, and_true, true_and, and_false, false_and, or_true, true_or, or_false, false_or, if_true, if_false, not_true_eq_false, not_false_eq_true, reduceCtorEq, reduceIte]
theorem uk_all : ∀ u, u < 4 → ukT (5 + 6 * u) := by
  unfold ukT
  decide +kernel
theorem ck_all : ∀ a, a < 4 → ckT (30 + 35 * a) := by
  unfold ckT
  decide +kernel
def fuR : Nat → Nat → HR → HR
  | 0, _, R => R
  | d + 1, u, R => fuR d (u + 1) (wR (userR R (5 + 6 * u)) 4 u (5 + 6 * u))
theorem usRl_lo {p q : Nat} (h : q < p) : ∀ (d i : Nat) (R : HR), usRl p d i R q = R q := by
  intro d
  induction d with
  | zero => intro i R; rfl
  | succ d ih => intro i R; simp only [usRl]; rw [ih, wR_lo (by omega)]
theorem userR_lo {p q : Nat} (h : q < p) : userR R p q = R q := by
  unfold userR
  rw [usRl_lo h, wR_lo (by omega), wR_lo (by omega)]
theorem clRl_lo {p q : Nat} (h : q < p) : ∀ (d i : Nat) (R : HR), clRl p d i R q = R q := by
  intro d
  induction d with
  | zero => intro i R; rfl
  | succ d ih => intro i R; simp only [clRl]; rw [ih, wR_lo (by omega), branchR_lo (by omega)]
theorem ckR_lo {p q : Nat} (h : q < p) : ckR R p q = R q := by
  unfold ckR
  rw [clRl_lo h, wR_lo (by omega), serverR_lo (by omega), wR_lo (by omega)]
theorem ct4 : TT 4 = 103 := by decide
theorem cl4 : LL 4 = 4 := by decide
theorem ct0 : TT 0 = 0 := by decide
theorem ct1 : TT 1 = 4 := by decide
theorem ct2 : TT 2 = 5 := by decide
theorem ct29 : TT 29 = 104 := by decide
theorem cl29 : LL 29 = 4 := by decide
set_option maxRecDepth 20000 in
set_option maxHeartbeats 2000000 in
theorem x_fiu {o : ix_O} {x y : Int32} : ∀ (d u S : Nat) (I : HI) (R : HR), u + d = 4 → FI (5 + 6 * u) I → FR (5 + 6 * u) R → R 0 2 = some 4 → R 0 0 = some 1 → (Ev xs L 0 (50, [.ref 0, .int x, .int y, .int (nI u)], [], hc (5 + 6 * u) S I R) o ↔ Ev xs L 0 (78, [.ref 0, .int x, .int y, .int (nI 4)], [], hc 29 (S + 33 * d) I (fuR d u R)) o) := by
  intro d
  induction d with
  | zero =>
    intro u S I R hu _ _ _ _
    obtain rfl : u = 4 := by omega
    have q4 : (4 ≤ nI 4) = True := eq_true (by decide)
    simp only [e_0_50, e_0_51, e_0_52, q4, fuR, Nat.mul_zero, Nat.add_zero, Nat.reduceMul, Nat.reduceAdd, tl_s, tl_n, rf_s, rf_n, cs_nil, cs_cons, cat_r, cat_i, cat_l, cat_n, cat_a, Nat.reduceAdd, Nat.reduceMul, Nat.reduceLeDiff, Nat.reduceEqDiff, Nat.reduceLT, and_self, and_true, true_and, and_false, false_and, or_true, true_or, or_false, false_or, if_true, if_false, not_true_eq_false, not_false_eq_true, reduceCtorEq, reduceIte]
  | succ d ih =>
    intro u S I R hu hI hR h2 h0
    have hu4 : u < 4 := by omega
    have ht := uk_all u hu4
    generalize hn : 5 + 6 * u = n at *
    have hl : LL n = 0 := by
      subst hn
      exact all4 (P := fun u => LL (5 + 6 * u) = 0) (by decide) (by decide) (by decide) (by decide) hu4
    have ku : ∀ (S : Nat) (K : Option Value → ix_H → Prop), Cl xs L 81 [.ref n, .ref 1] (hc (n + 1) S I R) K ↔ K none (hc (n + 6) (S + 24) I (userR R n)) := fun S K => Cl_of xs L (x_useri ht (FI_s hI (by omega)) (FR_s hR (by omega)))
    rw [e_0_50]
    simp only [fuR]
    have e7 : n + 6 = 5 + 6 * (u + 1) := by omega
    have hr := ih (u + 1) (S + 9 + 24) I (wR (userR R n) 4 u n) (by omega) (by rw [← e7]; exact FI_s hI (by omega)) (by rw [← e7]; exact FR_w (F_user (FR_s hR (by omega))) (by omega)) (by rw [wR_lo (by omega), userR_lo (by omega)]; exact h2) (by rw [wR_lo (by omega), userR_lo (by omega)]; exact h0)
    have eS : S + 33 * (d + 1) = S + 9 + 24 + 33 * d := by omega
    have h4 : (userR R n) 0 2 = some 4 := by rw [userR_lo (by omega)]; exact h2
    rw [hn, eS, ← hr, ← e7]
    simp only [e_0_51, e_0_52, e_0_55, e_0_56, e_0_59, e_0_60, e_0_63, e_0_64, e_0_65, e_0_68, e_0_71t103, e_0_72, e_0_75, hc_N, hc_T, hc_L, show 0 < n by omega, show 4 < n by omega, show 0 < n + 1 by omega, show n < n + 1 by omega, show 0 < n + 6 by omega, show 4 < n + 6 by omega, show n < n + 6 by omega, hc_g, hc_R, hc_new ht.1 hl hI hR, ku, h2, h0, ct0, ct4, cl4, ht.1, f_5 hu4, in4 hu4, cl_4 hu4, ad1, tl_s, tl_n, rf_s, rf_n, cs_nil, cs_cons, cat_r, cat_i, cat_l, cat_n, cat_a, Nat.reduceAdd, Nat.reduceMul, Nat.reduceLeDiff, Nat.reduceEqDiff, Nat.reduceLT, and_self, and_true, true_and, and_false, false_and, or_true, true_or, or_false, false_or, if_true, if_false, not_true_eq_false, not_false_eq_true, reduceCtorEq, reduceIte]
def fcI : Nat → Nat → HI → HI
  | 0, _, I => I
  | d + 1, a, I => fcI d (a + 1) (ckI I (30 + 35 * a) (nI a))
def fcR : Nat → Nat → HR → HR
  | 0, _, R => R
  | d + 1, a, R => fcR d (a + 1) (wR (ckR R (30 + 35 * a)) 29 a (30 + 35 * a))
set_option maxRecDepth 20000 in
set_option maxHeartbeats 2000000 in
theorem x_fic {o : ix_O} {x y : Int32} : ∀ (d a S : Nat) (I : HI) (R : HR), a + d = 4 → FI (30 + 35 * a) I → FR (30 + 35 * a) R → R 0 3 = some 29 → R 0 0 = some 1 → R 0 1 = some 2 → (Ev xs L 0 (88, [.ref 0, .int x, .int y, .int (nI a)], [], hc (30 + 35 * a) S I R) o ↔ Ev xs L 0 (121, [.ref 0, .int x, .int y, .int (nI 4)], [], hc 170 (S + 166 * d) (fcI d a I) (fcR d a R)) o) := by
  intro d
  induction d with
  | zero =>
    intro a S I R ha _ _ _ _ _
    obtain rfl : a = 4 := by omega
    have q4 : (4 ≤ nI 4) = True := eq_true (by decide)
    simp only [e_0_88, e_0_89, e_0_90, q4, fcI, fcR, Nat.mul_zero, Nat.add_zero, Nat.reduceMul, Nat.reduceAdd, tl_s, tl_n, rf_s, rf_n, cs_nil, cs_cons, cat_r, cat_i, cat_l, cat_n, cat_a, Nat.reduceAdd, Nat.reduceMul, Nat.reduceLeDiff, Nat.reduceEqDiff, Nat.reduceLT, and_self, and_true, true_and, and_false, false_and, or_true, true_or, or_false, false_or, if_true, if_false, not_true_eq_false, not_false_eq_true, reduceCtorEq, reduceIte]
  | succ d ih =>
    intro a S I R ha hI hR h2 h0 h1
    have ha4 : a < 4 := by omega
    have ht := ck_all a ha4
    generalize hn : 30 + 35 * a = n at *
    have hl : LL n = 0 := by
      subst hn
      exact all4 (P := fun a => LL (30 + 35 * a) = 0) (by decide) (by decide) (by decide) (by decide) ha4
    have ku : ∀ (S : Nat) (K : Option Value → ix_H → Prop), Cl xs L 42 [.ref n, .ref 1, .ref 2, .int (nI a)] (hc (n + 1) S I R) K ↔ K none (hc (n + 35) (S + 161) (ckI I n (nI a)) (ckR R n)) := fun S K => Cl_of xs L (x_calli ht (FI_s hI (by omega)) (FR_s hR (by omega)))
    rw [e_0_88]
    simp only [fcI, fcR]
    have e7 : n + 35 = 30 + 35 * (a + 1) := by omega
    have hF := F_call (p := n) (x := nI a) (FI_s hI (show n ≤ n + 1 by omega)) (FR_s hR (show n ≤ n + 1 by omega))
    have hr := ih (a + 1) (S + 5 + 161) (ckI I n (nI a)) (wR (ckR R n) 29 a n) (by omega) (by rw [← e7]; exact hF.1) (by rw [← e7]; exact FR_w hF.2 (by omega)) (by rw [wR_lo (by omega), ckR_lo (by omega)]; exact h2) (by rw [wR_lo (by omega), ckR_lo (by omega)]; exact h0) (by rw [wR_lo (by omega), ckR_lo (by omega)]; exact h1)
    have eS : S + 166 * (d + 1) = S + 5 + 161 + 166 * d := by omega
    rw [hn, eS, ← hr, ← e7]
    simp only [e_0_89, e_0_90, e_0_93, e_0_94, e_0_97, e_0_98, e_0_101, e_0_102, e_0_103, e_0_106, e_0_107, e_0_110, e_0_111, e_0_114t104, e_0_115, e_0_118, hc_N, hc_T, hc_L, show 0 < n by omega, show 29 < n by omega, show 0 < n + 1 by omega, show n < n + 1 by omega, show 0 < n + 35 by omega, show 29 < n + 35 by omega, show n < n + 35 by omega, hc_g, hc_R, hc_new ht.1 hl hI hR, ku, h2, h0, h1, ct0, ct29, cl29, ht.1, f_5 ha4, in4 ha4, cl_4 ha4, ad1, tl_s, tl_n, rf_s, rf_n, cs_nil, cs_cons, cat_r, cat_i, cat_l, cat_n, cat_a, Nat.reduceAdd, Nat.reduceMul, Nat.reduceLeDiff, Nat.reduceEqDiff, Nat.reduceLT, and_self, and_true, true_and, and_false, false_and, or_true, true_or, or_false, false_or, if_true, if_false, not_true_eq_false, not_false_eq_true, reduceCtorEq, reduceIte]
-- the face: heap after its constructor
def t1c (x : Int32) : Int32 := if 1 < (if x < 100 then x else 100) then (if x < 100 then x else 100) else 1
def fiI (x y : Int32) : HI := wI (fcI 4 0 (wI (fun _ _ => 0) 1 0 (t1c x))) 0 4 y
def fiR1 : HR := wR (wR (wR (wR (wR (wR (fun _ _ => none) 0 0 1) 2 1 3) 2 0 1) 0 1 2) 0 2 4) 0 3 29
def fiR2 : HR := wR (wR (wR (wR (wR (fun _ _ => none) 0 0 1) 2 1 3) 2 0 1) 0 1 2) 0 2 4
def fiR : HR := fcR 4 0 (wR (fuR 4 0 fiR2) 0 3 29)
theorem FR2 : FR 5 fiR2 := by
  unfold fiR2
  refine FR_w (FR_w (FR_w (FR_w (FR_w (fun q _ => rfl) ?_) ?_) ?_) ?_) ?_ <;> omega
theorem F_fu : ∀ (d u : Nat) (R : HR), u + d ≤ 4 → FR (5 + 6 * u) R → FR (5 + 6 * (u + d)) (fuR d u R) := by
  intro d
  induction d with
  | zero => intro u R _ h; exact h
  | succ d ih =>
    intro u R hu h
    simp only [fuR]
    have e7 : 5 + 6 * u + 6 = 5 + 6 * (u + 1) := by omega
    have := ih (u + 1) (wR (userR R (5 + 6 * u)) 4 u (5 + 6 * u)) (by omega) (by rw [← e7]; exact FR_w (F_user (FR_s h (by omega))) (by omega))
    rw [show u + (d + 1) = u + 1 + d by omega]
    exact this
theorem fuR_lo {q : Nat} (hq : q < 4) : ∀ (d u : Nat) (R : HR), fuR d u R q = R q := by
  intro d
  induction d with
  | zero => intro u R; rfl
  | succ d ih => intro u R; simp only [fuR]; rw [ih, wR_lo (by omega), userR_lo (by omega)]
theorem F_fc : ∀ (d a : Nat) (I : HI) (R : HR), FI (30 + 35 * a) I → FR (30 + 35 * a) R → FI (30 + 35 * (a + d)) (fcI d a I) ∧ FR (30 + 35 * (a + d)) (fcR d a R) := by
  intro d
  induction d with
  | zero => intro a I R h1 h2; exact ⟨h1, h2⟩
  | succ d ih =>
    intro a I R h1 h2
    have hF := F_call (p := 30 + 35 * a) (x := nI a) (FI_s h1 (Nat.le_succ _)) (FR_s h2 (Nat.le_succ _))
    have e7 : 30 + 35 * a + 35 = 30 + 35 * (a + 1) := by omega
    rw [e7] at hF
    simp only [fcI, fcR]
    rw [show a + (d + 1) = a + 1 + d by omega]
    exact ih (a + 1) _ _ hF.1 (FR_w hF.2 (by omega))
theorem FI1 (x : Int32) : FI 2 (wI (fun _ _ => 0) 1 0 x) := FI_w (fun q _ => rfl) (by decide)
theorem F_fi (x y : Int32) : FI 170 (fiI x y) ∧ FR 170 fiR := by
  have h := F_fc 4 0 (wI (fun _ _ => 0) 1 0 (t1c x)) (wR (fuR 4 0 fiR2) 0 3 29) (FI_s (FI1 _) (by decide)) (FR_w (FR_s (F_fu 4 0 fiR2 (by decide) FR2) (by decide)) (by decide))
  exact ⟨FI_w h.1 (by decide), h.2⟩
set_option maxRecDepth 20000 in
set_option maxHeartbeats 2000000 in
theorem x_fii {x y : Int32} : Ex xs L 0 [.ref 0, .int x, .int y] (hc 1 S (fun _ _ => 0) (fun _ _ => none)) (none, hc 170 (S + 873) (fiI x y) fiR) := by
  refine Ex_of xs L rfl ?_
  show Ev xs L _ (0, [.ref 0, .int x, .int y, .retAddr 1], [], hc 1 S (fun _ _ => 0) (fun _ _ => none)) _
  have n1 : hs_new (hc 1 S (fun _ _ => 0) (fun _ _ => none)) 4 0 2 = hc 2 (S + 2) (fun _ _ => 0) (fun _ _ => none) := hc_new (by decide) (by decide) (fun q _ => rfl) (fun q _ => rfl)
  have hI := FI1 (t1c x)
  have g1 : FR 2 (wR (fun _ _ => none) 0 0 1) := FR_w (fun q _ => rfl) (by decide)
  have n2 : ∀ S, hs_new (hc 2 S (wI (fun _ _ => 0) 1 0 (t1c x)) (wR (fun _ _ => none) 0 0 1)) 5 0 3 = hc 3 (S + 3) (wI (fun _ _ => 0) 1 0 (t1c x)) (wR (fun _ _ => none) 0 0 1) := fun S => hc_new (by decide) (by decide) hI g1
  have km : ∀ (S : Nat) (K : Option Value → ix_H → Prop), Cl xs L 60 [.ref 2, .ref 1] (hc 3 S (wI (fun _ _ => 0) 1 0 (t1c x)) (wR (fun _ _ => none) 0 0 1)) K ↔ K none (hc 4 (S + 64) (wI (fun _ _ => 0) 1 0 (t1c x)) (wR (wR (wR (fun _ _ => none) 0 0 1) 2 1 3) 2 0 1)) := fun S K => Cl_of xs L (x_mli (FI_s hI (by decide)) (FR_s g1 (by decide)))
  have g2 : FR 4 (wR (wR (wR (wR (fun _ _ => none) 0 0 1) 2 1 3) 2 0 1) 0 1 2) := by
    refine FR_w (FR_w (FR_w (FR_w (fun q _ => rfl) ?_) ?_) ?_) ?_ <;> omega
  have n4 : ∀ S, hs_new (hc 4 S (wI (fun _ _ => 0) 1 0 (t1c x)) (wR (wR (wR (wR (fun _ _ => none) 0 0 1) 2 1 3) 2 0 1) 0 1 2)) 103 4 4 = hc 5 (S + 4) (wI (fun _ _ => 0) 1 0 (t1c x)) (wR (wR (wR (wR (fun _ _ => none) 0 0 1) 2 1 3) 2 0 1) 0 1 2) := fun S => hc_new (by decide) (by decide) (FI_s hI (by decide)) g2
  have r0 : wR (fun _ _ => none) 0 0 1 0 0 = some 1 := rfl
  simp only [e_0_0, e_0_1, e_0_4, e_0_5, e_0_8, e_0_9, e_0_10, e_0_12, e_0_13, e_0_16, e_0_19, hc_N, hc_T, hc_I, hc_R, hc_g, n1, k_cki, ct1, tl_s, tl_n, rf_s, rf_n, cs_nil, cs_cons, cat_r, cat_i, cat_l, cat_n, cat_a, Nat.reduceAdd, Nat.reduceMul, Nat.reduceLeDiff, Nat.reduceEqDiff, Nat.reduceLT, and_self, and_true, true_and, and_false, false_and, or_true, true_or, or_false, false_or, if_true, if_false, not_true_eq_false, not_false_eq_true, reduceCtorEq, reduceIte]
  show Ev xs L _ (22, [.ref 0, .int x, .int y, .retAddr 1], [.ref 1, .ref 0], hc 2 (S + 2) (wI (fun _ _ => 0) 1 0 (t1c x)) (fun _ _ => none)) _
  simp only [e_0_22, e_0_25, e_0_26, e_0_29, e_0_30, e_0_31, e_0_34, e_0_37, e_0_40, e_0_41, e_0_42, e_0_45, e_0_48, e_0_49, hc_N, hc_T, hc_I, hc_R, hc_g, n2, km, n4, ct0, ct1, ct2, ng4, tc4, mx4, r0, tl_s, tl_n, rf_s, rf_n, cs_nil, cs_cons, cat_r, cat_i, cat_l, cat_n, cat_a, Nat.reduceAdd, Nat.reduceMul, Nat.reduceLeDiff, Nat.reduceEqDiff, Nat.reduceLT, and_self, and_true, true_and, and_false, false_and, or_true, true_or, or_false, false_or, if_true, if_false, not_true_eq_false, not_false_eq_true, reduceCtorEq, reduceIte]
  rw [show (hc 5 (S + 2 + 3 + 64 + 4) (wI (fun _ _ => 0) 1 0 (t1c x)) (wR (wR (wR (wR (wR (fun _ _ => none) 0 0 1) 2 1 3) 2 0 1) 0 1 2) 0 2 4)) = hc (5 + 6 * 0) (S + 73) (wI (fun _ _ => 0) 1 0 (t1c x)) fiR2 from rfl]
  refine (x_fiu 4 0 (S + 73) _ _ (by decide) (FI_s hI (by decide)) FR2 rfl rfl).mpr ?_
  have g4 : FR 29 (fuR 4 0 fiR2) := F_fu 4 0 fiR2 (by decide) FR2
  have n5 : ∀ S, hs_new (hc 29 S (wI (fun _ _ => 0) 1 0 (t1c x)) (fuR 4 0 fiR2)) 104 4 4 = hc 30 (S + 4) (wI (fun _ _ => 0) 1 0 (t1c x)) (fuR 4 0 fiR2) := fun S => hc_new (by decide) (by decide) (FI_s hI (by decide)) g4
  simp only [e_0_78, e_0_79, e_0_80, e_0_83, e_0_86, e_0_87, hc_N, hc_T, hc_R, n5, ct0, ng4, tc4, mx4, tl_s, tl_n, rf_s, rf_n, cs_nil, cs_cons, cat_r, cat_i, cat_l, cat_n, cat_a, Nat.reduceAdd, Nat.reduceMul, Nat.reduceLeDiff, Nat.reduceEqDiff, Nat.reduceLT, and_self, and_true, true_and, and_false, false_and, or_true, true_or, or_false, false_or, if_true, if_false, not_true_eq_false, not_false_eq_true, reduceCtorEq, reduceIte]
  have z0 : ∀ j, ¬ j = 3 → wR (fuR 4 0 fiR2) 0 3 29 0 j = fiR2 0 j := fun j hj => by
    rw [wR_at, if_neg (fun w => hj w.2), fuR_lo (by decide)]
  refine (x_fic 4 0 (S + 73 + 33 * 4 + 4) _ _ (by decide) (FI_s hI (by decide)) (FR_w (FR_s g4 (by decide)) (by decide)) (by rw [wR_at, if_pos ⟨rfl, rfl⟩]) ((z0 0 (by decide)).trans rfl) ((z0 1 (by decide)).trans rfl)).mpr ?_
  simp only [e_0_121, e_0_122, e_0_123, e_0_126, hc_T, hc_I, ct0, tl_s, tl_n, rf_s, rf_n, cs_nil, cs_cons, cat_r, cat_i, cat_l, cat_n, cat_a, Nat.reduceAdd, Nat.reduceMul, Nat.reduceLeDiff, Nat.reduceEqDiff, Nat.reduceLT, and_self, and_true, true_and, and_false, false_and, or_true, true_or, or_false, false_or, if_true, if_false, not_true_eq_false, not_false_eq_true, reduceCtorEq, reduceIte]
  rfl
-- the reference: 25 arrays
theorem mo_0 {o : ix_O} {x y : Int32} (hI : FI 171 I) (hR : FR 171 R) : Ev xs L 94 (4, [.ref 170, .int x, .int y], [], hc 171 S I R) o ↔ Ev xs L 94 (11, [.ref 170, .int x, .int y], [], hc 172 (S + 4) I (wR R 170 3 171)) o := by
  have n1 : hs_new (hc 171 S I R) 100 4 4 = hc 172 (S + 4) I R := hc_new (by decide) (by decide) hI hR
  have t0 : TT 170 = 9 := by decide
  simp only [e_94_4, e_94_5, e_94_6, e_94_8, hc_N, hc_T, hc_R, n1, t0, ng4, tc4, mx4, ng16, tc16, mx16, ng64, tc64, mx64, ng96, tc96, mx96, tl_s, tl_n, rf_s, rf_n, cs_nil, cs_cons, cat_r, cat_i, cat_l, cat_n, cat_a, Nat.reduceAdd, Nat.reduceMul, Nat.reduceLeDiff, Nat.reduceEqDiff, Nat.reduceLT, and_self, and_true, true_and, and_false, false_and, or_true, true_or, or_false, false_or, if_true, if_false, not_true_eq_false, not_false_eq_true, reduceCtorEq, reduceIte]
theorem mo_1 {o : ix_O} {x y : Int32} (hI : FI 172 I) (hR : FR 172 R) : Ev xs L 94 (11, [.ref 170, .int x, .int y], [], hc 172 S I R) o ↔ Ev xs L 94 (18, [.ref 170, .int x, .int y], [], hc 173 (S + 4) I (wR R 170 4 172)) o := by
  have n1 : hs_new (hc 172 S I R) 101 4 4 = hc 173 (S + 4) I R := hc_new (by decide) (by decide) hI hR
  have t0 : TT 170 = 9 := by decide
  simp only [e_94_11, e_94_12, e_94_13, e_94_15, hc_N, hc_T, hc_R, n1, t0, ng4, tc4, mx4, ng16, tc16, mx16, ng64, tc64, mx64, ng96, tc96, mx96, tl_s, tl_n, rf_s, rf_n, cs_nil, cs_cons, cat_r, cat_i, cat_l, cat_n, cat_a, Nat.reduceAdd, Nat.reduceMul, Nat.reduceLeDiff, Nat.reduceEqDiff, Nat.reduceLT, and_self, and_true, true_and, and_false, false_and, or_true, true_or, or_false, false_or, if_true, if_false, not_true_eq_false, not_false_eq_true, reduceCtorEq, reduceIte]
theorem mo_2 {o : ix_O} {x y : Int32} (hI : FI 173 I) (hR : FR 173 R) : Ev xs L 94 (18, [.ref 170, .int x, .int y], [], hc 173 S I R) o ↔ Ev xs L 94 (25, [.ref 170, .int x, .int y], [], hc 174 (S + 4) I (wR R 170 5 173)) o := by
  have n1 : hs_new (hc 173 S I R) 101 4 4 = hc 174 (S + 4) I R := hc_new (by decide) (by decide) hI hR
  have t0 : TT 170 = 9 := by decide
  simp only [e_94_18, e_94_19, e_94_20, e_94_22, hc_N, hc_T, hc_R, n1, t0, ng4, tc4, mx4, ng16, tc16, mx16, ng64, tc64, mx64, ng96, tc96, mx96, tl_s, tl_n, rf_s, rf_n, cs_nil, cs_cons, cat_r, cat_i, cat_l, cat_n, cat_a, Nat.reduceAdd, Nat.reduceMul, Nat.reduceLeDiff, Nat.reduceEqDiff, Nat.reduceLT, and_self, and_true, true_and, and_false, false_and, or_true, true_or, or_false, false_or, if_true, if_false, not_true_eq_false, not_false_eq_true, reduceCtorEq, reduceIte]
theorem mo_3 {o : ix_O} {x y : Int32} (hI : FI 174 I) (hR : FR 174 R) : Ev xs L 94 (25, [.ref 170, .int x, .int y], [], hc 174 S I R) o ↔ Ev xs L 94 (32, [.ref 170, .int x, .int y], [], hc 175 (S + 4) I (wR R 170 6 174)) o := by
  have n1 : hs_new (hc 174 S I R) 100 4 4 = hc 175 (S + 4) I R := hc_new (by decide) (by decide) hI hR
  have t0 : TT 170 = 9 := by decide
  simp only [e_94_25, e_94_26, e_94_27, e_94_29, hc_N, hc_T, hc_R, n1, t0, ng4, tc4, mx4, ng16, tc16, mx16, ng64, tc64, mx64, ng96, tc96, mx96, tl_s, tl_n, rf_s, rf_n, cs_nil, cs_cons, cat_r, cat_i, cat_l, cat_n, cat_a, Nat.reduceAdd, Nat.reduceMul, Nat.reduceLeDiff, Nat.reduceEqDiff, Nat.reduceLT, and_self, and_true, true_and, and_false, false_and, or_true, true_or, or_false, false_or, if_true, if_false, not_true_eq_false, not_false_eq_true, reduceCtorEq, reduceIte]
theorem mo_4 {o : ix_O} {x y : Int32} (hI : FI 175 I) (hR : FR 175 R) : Ev xs L 94 (32, [.ref 170, .int x, .int y], [], hc 175 S I R) o ↔ Ev xs L 94 (39, [.ref 170, .int x, .int y], [], hc 176 (S + 4) I (wR R 170 7 175)) o := by
  have n1 : hs_new (hc 175 S I R) 100 4 4 = hc 176 (S + 4) I R := hc_new (by decide) (by decide) hI hR
  have t0 : TT 170 = 9 := by decide
  simp only [e_94_32, e_94_33, e_94_34, e_94_36, hc_N, hc_T, hc_R, n1, t0, ng4, tc4, mx4, ng16, tc16, mx16, ng64, tc64, mx64, ng96, tc96, mx96, tl_s, tl_n, rf_s, rf_n, cs_nil, cs_cons, cat_r, cat_i, cat_l, cat_n, cat_a, Nat.reduceAdd, Nat.reduceMul, Nat.reduceLeDiff, Nat.reduceEqDiff, Nat.reduceLT, and_self, and_true, true_and, and_false, false_and, or_true, true_or, or_false, false_or, if_true, if_false, not_true_eq_false, not_false_eq_true, reduceCtorEq, reduceIte]
theorem mo_5 {o : ix_O} {x y : Int32} (hI : FI 176 I) (hR : FR 176 R) : Ev xs L 94 (39, [.ref 170, .int x, .int y], [], hc 176 S I R) o ↔ Ev xs L 94 (46, [.ref 170, .int x, .int y], [], hc 177 (S + 4) I (wR R 170 8 176)) o := by
  have n1 : hs_new (hc 176 S I R) 100 4 4 = hc 177 (S + 4) I R := hc_new (by decide) (by decide) hI hR
  have t0 : TT 170 = 9 := by decide
  simp only [e_94_39, e_94_40, e_94_41, e_94_43, hc_N, hc_T, hc_R, n1, t0, ng4, tc4, mx4, ng16, tc16, mx16, ng64, tc64, mx64, ng96, tc96, mx96, tl_s, tl_n, rf_s, rf_n, cs_nil, cs_cons, cat_r, cat_i, cat_l, cat_n, cat_a, Nat.reduceAdd, Nat.reduceMul, Nat.reduceLeDiff, Nat.reduceEqDiff, Nat.reduceLT, and_self, and_true, true_and, and_false, false_and, or_true, true_or, or_false, false_or, if_true, if_false, not_true_eq_false, not_false_eq_true, reduceCtorEq, reduceIte]
theorem mo_6 {o : ix_O} {x y : Int32} (hI : FI 177 I) (hR : FR 177 R) : Ev xs L 94 (46, [.ref 170, .int x, .int y], [], hc 177 S I R) o ↔ Ev xs L 94 (54, [.ref 170, .int x, .int y], [], hc 178 (S + 64) I (wR R 170 9 177)) o := by
  have n1 : hs_new (hc 177 S I R) 100 64 64 = hc 178 (S + 64) I R := hc_new (by decide) (by decide) hI hR
  have t0 : TT 170 = 9 := by decide
  simp only [e_94_46, e_94_47, e_94_49, e_94_51, hc_N, hc_T, hc_R, n1, t0, ng4, tc4, mx4, ng16, tc16, mx16, ng64, tc64, mx64, ng96, tc96, mx96, tl_s, tl_n, rf_s, rf_n, cs_nil, cs_cons, cat_r, cat_i, cat_l, cat_n, cat_a, Nat.reduceAdd, Nat.reduceMul, Nat.reduceLeDiff, Nat.reduceEqDiff, Nat.reduceLT, and_self, and_true, true_and, and_false, false_and, or_true, true_or, or_false, false_or, if_true, if_false, not_true_eq_false, not_false_eq_true, reduceCtorEq, reduceIte]
theorem mo_7 {o : ix_O} {x y : Int32} (hI : FI 178 I) (hR : FR 178 R) : Ev xs L 94 (54, [.ref 170, .int x, .int y], [], hc 178 S I R) o ↔ Ev xs L 94 (62, [.ref 170, .int x, .int y], [], hc 179 (S + 64) I (wR R 170 10 178)) o := by
  have n1 : hs_new (hc 178 S I R) 100 64 64 = hc 179 (S + 64) I R := hc_new (by decide) (by decide) hI hR
  have t0 : TT 170 = 9 := by decide
  simp only [e_94_54, e_94_55, e_94_57, e_94_59, hc_N, hc_T, hc_R, n1, t0, ng4, tc4, mx4, ng16, tc16, mx16, ng64, tc64, mx64, ng96, tc96, mx96, tl_s, tl_n, rf_s, rf_n, cs_nil, cs_cons, cat_r, cat_i, cat_l, cat_n, cat_a, Nat.reduceAdd, Nat.reduceMul, Nat.reduceLeDiff, Nat.reduceEqDiff, Nat.reduceLT, and_self, and_true, true_and, and_false, false_and, or_true, true_or, or_false, false_or, if_true, if_false, not_true_eq_false, not_false_eq_true, reduceCtorEq, reduceIte]
theorem mo_8 {o : ix_O} {x y : Int32} (hI : FI 179 I) (hR : FR 179 R) : Ev xs L 94 (62, [.ref 170, .int x, .int y], [], hc 179 S I R) o ↔ Ev xs L 94 (70, [.ref 170, .int x, .int y], [], hc 180 (S + 64) I (wR R 170 11 179)) o := by
  have n1 : hs_new (hc 179 S I R) 100 64 64 = hc 180 (S + 64) I R := hc_new (by decide) (by decide) hI hR
  have t0 : TT 170 = 9 := by decide
  simp only [e_94_62, e_94_63, e_94_65, e_94_67, hc_N, hc_T, hc_R, n1, t0, ng4, tc4, mx4, ng16, tc16, mx16, ng64, tc64, mx64, ng96, tc96, mx96, tl_s, tl_n, rf_s, rf_n, cs_nil, cs_cons, cat_r, cat_i, cat_l, cat_n, cat_a, Nat.reduceAdd, Nat.reduceMul, Nat.reduceLeDiff, Nat.reduceEqDiff, Nat.reduceLT, and_self, and_true, true_and, and_false, false_and, or_true, true_or, or_false, false_or, if_true, if_false, not_true_eq_false, not_false_eq_true, reduceCtorEq, reduceIte]
theorem mo_9 {o : ix_O} {x y : Int32} (hI : FI 180 I) (hR : FR 180 R) : Ev xs L 94 (70, [.ref 170, .int x, .int y], [], hc 180 S I R) o ↔ Ev xs L 94 (78, [.ref 170, .int x, .int y], [], hc 181 (S + 64) I (wR R 170 12 180)) o := by
  have n1 : hs_new (hc 180 S I R) 100 64 64 = hc 181 (S + 64) I R := hc_new (by decide) (by decide) hI hR
  have t0 : TT 170 = 9 := by decide
  simp only [e_94_70, e_94_71, e_94_73, e_94_75, hc_N, hc_T, hc_R, n1, t0, ng4, tc4, mx4, ng16, tc16, mx16, ng64, tc64, mx64, ng96, tc96, mx96, tl_s, tl_n, rf_s, rf_n, cs_nil, cs_cons, cat_r, cat_i, cat_l, cat_n, cat_a, Nat.reduceAdd, Nat.reduceMul, Nat.reduceLeDiff, Nat.reduceEqDiff, Nat.reduceLT, and_self, and_true, true_and, and_false, false_and, or_true, true_or, or_false, false_or, if_true, if_false, not_true_eq_false, not_false_eq_true, reduceCtorEq, reduceIte]
theorem mo_10 {o : ix_O} {x y : Int32} (hI : FI 181 I) (hR : FR 181 R) : Ev xs L 94 (78, [.ref 170, .int x, .int y], [], hc 181 S I R) o ↔ Ev xs L 94 (85, [.ref 170, .int x, .int y], [], hc 182 (S + 4) I (wR R 170 14 181)) o := by
  have n1 : hs_new (hc 181 S I R) 100 4 4 = hc 182 (S + 4) I R := hc_new (by decide) (by decide) hI hR
  have t0 : TT 170 = 9 := by decide
  simp only [e_94_78, e_94_79, e_94_80, e_94_82, hc_N, hc_T, hc_R, n1, t0, ng4, tc4, mx4, ng16, tc16, mx16, ng64, tc64, mx64, ng96, tc96, mx96, tl_s, tl_n, rf_s, rf_n, cs_nil, cs_cons, cat_r, cat_i, cat_l, cat_n, cat_a, Nat.reduceAdd, Nat.reduceMul, Nat.reduceLeDiff, Nat.reduceEqDiff, Nat.reduceLT, and_self, and_true, true_and, and_false, false_and, or_true, true_or, or_false, false_or, if_true, if_false, not_true_eq_false, not_false_eq_true, reduceCtorEq, reduceIte]
theorem mo_11 {o : ix_O} {x y : Int32} (hI : FI 182 I) (hR : FR 182 R) : Ev xs L 94 (85, [.ref 170, .int x, .int y], [], hc 182 S I R) o ↔ Ev xs L 94 (92, [.ref 170, .int x, .int y], [], hc 183 (S + 4) I (wR R 170 15 182)) o := by
  have n1 : hs_new (hc 182 S I R) 100 4 4 = hc 183 (S + 4) I R := hc_new (by decide) (by decide) hI hR
  have t0 : TT 170 = 9 := by decide
  simp only [e_94_85, e_94_86, e_94_87, e_94_89, hc_N, hc_T, hc_R, n1, t0, ng4, tc4, mx4, ng16, tc16, mx16, ng64, tc64, mx64, ng96, tc96, mx96, tl_s, tl_n, rf_s, rf_n, cs_nil, cs_cons, cat_r, cat_i, cat_l, cat_n, cat_a, Nat.reduceAdd, Nat.reduceMul, Nat.reduceLeDiff, Nat.reduceEqDiff, Nat.reduceLT, and_self, and_true, true_and, and_false, false_and, or_true, true_or, or_false, false_or, if_true, if_false, not_true_eq_false, not_false_eq_true, reduceCtorEq, reduceIte]
theorem mo_12 {o : ix_O} {x y : Int32} (hI : FI 183 I) (hR : FR 183 R) : Ev xs L 94 (92, [.ref 170, .int x, .int y], [], hc 183 S I R) o ↔ Ev xs L 94 (100, [.ref 170, .int x, .int y], [], hc 184 (S + 16) I (wR R 170 16 183)) o := by
  have n1 : hs_new (hc 183 S I R) 100 16 16 = hc 184 (S + 16) I R := hc_new (by decide) (by decide) hI hR
  have t0 : TT 170 = 9 := by decide
  simp only [e_94_92, e_94_93, e_94_95, e_94_97, hc_N, hc_T, hc_R, n1, t0, ng4, tc4, mx4, ng16, tc16, mx16, ng64, tc64, mx64, ng96, tc96, mx96, tl_s, tl_n, rf_s, rf_n, cs_nil, cs_cons, cat_r, cat_i, cat_l, cat_n, cat_a, Nat.reduceAdd, Nat.reduceMul, Nat.reduceLeDiff, Nat.reduceEqDiff, Nat.reduceLT, and_self, and_true, true_and, and_false, false_and, or_true, true_or, or_false, false_or, if_true, if_false, not_true_eq_false, not_false_eq_true, reduceCtorEq, reduceIte]
theorem mo_13 {o : ix_O} {x y : Int32} (hI : FI 184 I) (hR : FR 184 R) : Ev xs L 94 (100, [.ref 170, .int x, .int y], [], hc 184 S I R) o ↔ Ev xs L 94 (107, [.ref 170, .int x, .int y], [], hc 185 (S + 4) I (wR R 170 17 184)) o := by
  have n1 : hs_new (hc 184 S I R) 100 4 4 = hc 185 (S + 4) I R := hc_new (by decide) (by decide) hI hR
  have t0 : TT 170 = 9 := by decide
  simp only [e_94_100, e_94_101, e_94_102, e_94_104, hc_N, hc_T, hc_R, n1, t0, ng4, tc4, mx4, ng16, tc16, mx16, ng64, tc64, mx64, ng96, tc96, mx96, tl_s, tl_n, rf_s, rf_n, cs_nil, cs_cons, cat_r, cat_i, cat_l, cat_n, cat_a, Nat.reduceAdd, Nat.reduceMul, Nat.reduceLeDiff, Nat.reduceEqDiff, Nat.reduceLT, and_self, and_true, true_and, and_false, false_and, or_true, true_or, or_false, false_or, if_true, if_false, not_true_eq_false, not_false_eq_true, reduceCtorEq, reduceIte]
theorem mo_14 {o : ix_O} {x y : Int32} (hI : FI 185 I) (hR : FR 185 R) : Ev xs L 94 (107, [.ref 170, .int x, .int y], [], hc 185 S I R) o ↔ Ev xs L 94 (114, [.ref 170, .int x, .int y], [], hc 186 (S + 4) I (wR R 170 18 185)) o := by
  have n1 : hs_new (hc 185 S I R) 100 4 4 = hc 186 (S + 4) I R := hc_new (by decide) (by decide) hI hR
  have t0 : TT 170 = 9 := by decide
  simp only [e_94_107, e_94_108, e_94_109, e_94_111, hc_N, hc_T, hc_R, n1, t0, ng4, tc4, mx4, ng16, tc16, mx16, ng64, tc64, mx64, ng96, tc96, mx96, tl_s, tl_n, rf_s, rf_n, cs_nil, cs_cons, cat_r, cat_i, cat_l, cat_n, cat_a, Nat.reduceAdd, Nat.reduceMul, Nat.reduceLeDiff, Nat.reduceEqDiff, Nat.reduceLT, and_self, and_true, true_and, and_false, false_and, or_true, true_or, or_false, false_or, if_true, if_false, not_true_eq_false, not_false_eq_true, reduceCtorEq, reduceIte]
theorem mo_15 {o : ix_O} {x y : Int32} (hI : FI 186 I) (hR : FR 186 R) : Ev xs L 94 (114, [.ref 170, .int x, .int y], [], hc 186 S I R) o ↔ Ev xs L 94 (122, [.ref 170, .int x, .int y], [], hc 187 (S + 16) I (wR R 170 19 186)) o := by
  have n1 : hs_new (hc 186 S I R) 100 16 16 = hc 187 (S + 16) I R := hc_new (by decide) (by decide) hI hR
  have t0 : TT 170 = 9 := by decide
  simp only [e_94_114, e_94_115, e_94_117, e_94_119, hc_N, hc_T, hc_R, n1, t0, ng4, tc4, mx4, ng16, tc16, mx16, ng64, tc64, mx64, ng96, tc96, mx96, tl_s, tl_n, rf_s, rf_n, cs_nil, cs_cons, cat_r, cat_i, cat_l, cat_n, cat_a, Nat.reduceAdd, Nat.reduceMul, Nat.reduceLeDiff, Nat.reduceEqDiff, Nat.reduceLT, and_self, and_true, true_and, and_false, false_and, or_true, true_or, or_false, false_or, if_true, if_false, not_true_eq_false, not_false_eq_true, reduceCtorEq, reduceIte]
theorem mo_16 {o : ix_O} {x y : Int32} (hI : FI 187 I) (hR : FR 187 R) : Ev xs L 94 (122, [.ref 170, .int x, .int y], [], hc 187 S I R) o ↔ Ev xs L 94 (130, [.ref 170, .int x, .int y], [], hc 188 (S + 16) I (wR R 170 20 187)) o := by
  have n1 : hs_new (hc 187 S I R) 100 16 16 = hc 188 (S + 16) I R := hc_new (by decide) (by decide) hI hR
  have t0 : TT 170 = 9 := by decide
  simp only [e_94_122, e_94_123, e_94_125, e_94_127, hc_N, hc_T, hc_R, n1, t0, ng4, tc4, mx4, ng16, tc16, mx16, ng64, tc64, mx64, ng96, tc96, mx96, tl_s, tl_n, rf_s, rf_n, cs_nil, cs_cons, cat_r, cat_i, cat_l, cat_n, cat_a, Nat.reduceAdd, Nat.reduceMul, Nat.reduceLeDiff, Nat.reduceEqDiff, Nat.reduceLT, and_self, and_true, true_and, and_false, false_and, or_true, true_or, or_false, false_or, if_true, if_false, not_true_eq_false, not_false_eq_true, reduceCtorEq, reduceIte]
theorem mo_17 {o : ix_O} {x y : Int32} (hI : FI 188 I) (hR : FR 188 R) : Ev xs L 94 (130, [.ref 170, .int x, .int y], [], hc 188 S I R) o ↔ Ev xs L 94 (138, [.ref 170, .int x, .int y], [], hc 189 (S + 16) I (wR R 170 21 188)) o := by
  have n1 : hs_new (hc 188 S I R) 101 16 16 = hc 189 (S + 16) I R := hc_new (by decide) (by decide) hI hR
  have t0 : TT 170 = 9 := by decide
  simp only [e_94_130, e_94_131, e_94_133, e_94_135, hc_N, hc_T, hc_R, n1, t0, ng4, tc4, mx4, ng16, tc16, mx16, ng64, tc64, mx64, ng96, tc96, mx96, tl_s, tl_n, rf_s, rf_n, cs_nil, cs_cons, cat_r, cat_i, cat_l, cat_n, cat_a, Nat.reduceAdd, Nat.reduceMul, Nat.reduceLeDiff, Nat.reduceEqDiff, Nat.reduceLT, and_self, and_true, true_and, and_false, false_and, or_true, true_or, or_false, false_or, if_true, if_false, not_true_eq_false, not_false_eq_true, reduceCtorEq, reduceIte]
theorem mo_18 {o : ix_O} {x y : Int32} (hI : FI 189 I) (hR : FR 189 R) : Ev xs L 94 (138, [.ref 170, .int x, .int y], [], hc 189 S I R) o ↔ Ev xs L 94 (146, [.ref 170, .int x, .int y], [], hc 190 (S + 16) I (wR R 170 22 189)) o := by
  have n1 : hs_new (hc 189 S I R) 101 16 16 = hc 190 (S + 16) I R := hc_new (by decide) (by decide) hI hR
  have t0 : TT 170 = 9 := by decide
  simp only [e_94_138, e_94_139, e_94_141, e_94_143, hc_N, hc_T, hc_R, n1, t0, ng4, tc4, mx4, ng16, tc16, mx16, ng64, tc64, mx64, ng96, tc96, mx96, tl_s, tl_n, rf_s, rf_n, cs_nil, cs_cons, cat_r, cat_i, cat_l, cat_n, cat_a, Nat.reduceAdd, Nat.reduceMul, Nat.reduceLeDiff, Nat.reduceEqDiff, Nat.reduceLT, and_self, and_true, true_and, and_false, false_and, or_true, true_or, or_false, false_or, if_true, if_false, not_true_eq_false, not_false_eq_true, reduceCtorEq, reduceIte]
theorem mo_19 {o : ix_O} {x y : Int32} (hI : FI 190 I) (hR : FR 190 R) : Ev xs L 94 (146, [.ref 170, .int x, .int y], [], hc 190 S I R) o ↔ Ev xs L 94 (154, [.ref 170, .int x, .int y], [], hc 191 (S + 16) I (wR R 170 23 190)) o := by
  have n1 : hs_new (hc 190 S I R) 100 16 16 = hc 191 (S + 16) I R := hc_new (by decide) (by decide) hI hR
  have t0 : TT 170 = 9 := by decide
  simp only [e_94_146, e_94_147, e_94_149, e_94_151, hc_N, hc_T, hc_R, n1, t0, ng4, tc4, mx4, ng16, tc16, mx16, ng64, tc64, mx64, ng96, tc96, mx96, tl_s, tl_n, rf_s, rf_n, cs_nil, cs_cons, cat_r, cat_i, cat_l, cat_n, cat_a, Nat.reduceAdd, Nat.reduceMul, Nat.reduceLeDiff, Nat.reduceEqDiff, Nat.reduceLT, and_self, and_true, true_and, and_false, false_and, or_true, true_or, or_false, false_or, if_true, if_false, not_true_eq_false, not_false_eq_true, reduceCtorEq, reduceIte]
theorem mo_20 {o : ix_O} {x y : Int32} (hI : FI 191 I) (hR : FR 191 R) : Ev xs L 94 (154, [.ref 170, .int x, .int y], [], hc 191 S I R) o ↔ Ev xs L 94 (162, [.ref 170, .int x, .int y], [], hc 192 (S + 16) I (wR R 170 24 191)) o := by
  have n1 : hs_new (hc 191 S I R) 100 16 16 = hc 192 (S + 16) I R := hc_new (by decide) (by decide) hI hR
  have t0 : TT 170 = 9 := by decide
  simp only [e_94_154, e_94_155, e_94_157, e_94_159, hc_N, hc_T, hc_R, n1, t0, ng4, tc4, mx4, ng16, tc16, mx16, ng64, tc64, mx64, ng96, tc96, mx96, tl_s, tl_n, rf_s, rf_n, cs_nil, cs_cons, cat_r, cat_i, cat_l, cat_n, cat_a, Nat.reduceAdd, Nat.reduceMul, Nat.reduceLeDiff, Nat.reduceEqDiff, Nat.reduceLT, and_self, and_true, true_and, and_false, false_and, or_true, true_or, or_false, false_or, if_true, if_false, not_true_eq_false, not_false_eq_true, reduceCtorEq, reduceIte]
theorem mo_21 {o : ix_O} {x y : Int32} (hI : FI 192 I) (hR : FR 192 R) : Ev xs L 94 (162, [.ref 170, .int x, .int y], [], hc 192 S I R) o ↔ Ev xs L 94 (170, [.ref 170, .int x, .int y], [], hc 193 (S + 96) I (wR R 170 25 192)) o := by
  have n1 : hs_new (hc 192 S I R) 100 96 96 = hc 193 (S + 96) I R := hc_new (by decide) (by decide) hI hR
  have t0 : TT 170 = 9 := by decide
  simp only [e_94_162, e_94_163, e_94_165, e_94_167, hc_N, hc_T, hc_R, n1, t0, ng4, tc4, mx4, ng16, tc16, mx16, ng64, tc64, mx64, ng96, tc96, mx96, tl_s, tl_n, rf_s, rf_n, cs_nil, cs_cons, cat_r, cat_i, cat_l, cat_n, cat_a, Nat.reduceAdd, Nat.reduceMul, Nat.reduceLeDiff, Nat.reduceEqDiff, Nat.reduceLT, and_self, and_true, true_and, and_false, false_and, or_true, true_or, or_false, false_or, if_true, if_false, not_true_eq_false, not_false_eq_true, reduceCtorEq, reduceIte]
theorem mo_22 {o : ix_O} {x y : Int32} (hI : FI 193 I) (hR : FR 193 R) : Ev xs L 94 (170, [.ref 170, .int x, .int y], [], hc 193 S I R) o ↔ Ev xs L 94 (178, [.ref 170, .int x, .int y], [], hc 194 (S + 16) I (wR R 170 26 193)) o := by
  have n1 : hs_new (hc 193 S I R) 100 16 16 = hc 194 (S + 16) I R := hc_new (by decide) (by decide) hI hR
  have t0 : TT 170 = 9 := by decide
  simp only [e_94_170, e_94_171, e_94_173, e_94_175, hc_N, hc_T, hc_R, n1, t0, ng4, tc4, mx4, ng16, tc16, mx16, ng64, tc64, mx64, ng96, tc96, mx96, tl_s, tl_n, rf_s, rf_n, cs_nil, cs_cons, cat_r, cat_i, cat_l, cat_n, cat_a, Nat.reduceAdd, Nat.reduceMul, Nat.reduceLeDiff, Nat.reduceEqDiff, Nat.reduceLT, and_self, and_true, true_and, and_false, false_and, or_true, true_or, or_false, false_or, if_true, if_false, not_true_eq_false, not_false_eq_true, reduceCtorEq, reduceIte]
theorem mo_23 {o : ix_O} {x y : Int32} (hI : FI 194 I) (hR : FR 194 R) : Ev xs L 94 (178, [.ref 170, .int x, .int y], [], hc 194 S I R) o ↔ Ev xs L 94 (186, [.ref 170, .int x, .int y], [], hc 195 (S + 16) I (wR R 170 27 194)) o := by
  have n1 : hs_new (hc 194 S I R) 100 16 16 = hc 195 (S + 16) I R := hc_new (by decide) (by decide) hI hR
  have t0 : TT 170 = 9 := by decide
  simp only [e_94_178, e_94_179, e_94_181, e_94_183, hc_N, hc_T, hc_R, n1, t0, ng4, tc4, mx4, ng16, tc16, mx16, ng64, tc64, mx64, ng96, tc96, mx96, tl_s, tl_n, rf_s, rf_n, cs_nil, cs_cons, cat_r, cat_i, cat_l, cat_n, cat_a, Nat.reduceAdd, Nat.reduceMul, Nat.reduceLeDiff, Nat.reduceEqDiff, Nat.reduceLT, and_self, and_true, true_and, and_false, false_and, or_true, true_or, or_false, false_or, if_true, if_false, not_true_eq_false, not_false_eq_true, reduceCtorEq, reduceIte]
theorem mo_24 {o : ix_O} {x y : Int32} (hI : FI 195 I) (hR : FR 195 R) : Ev xs L 94 (186, [.ref 170, .int x, .int y], [], hc 195 S I R) o ↔ Ev xs L 94 (194, [.ref 170, .int x, .int y], [], hc 196 (S + 64) I (wR R 170 29 195)) o := by
  have n1 : hs_new (hc 195 S I R) 102 64 64 = hc 196 (S + 64) I R := hc_new (by decide) (by decide) hI hR
  have t0 : TT 170 = 9 := by decide
  simp only [e_94_186, e_94_187, e_94_189, e_94_191, hc_N, hc_T, hc_R, n1, t0, ng4, tc4, mx4, ng16, tc16, mx16, ng64, tc64, mx64, ng96, tc96, mx96, tl_s, tl_n, rf_s, rf_n, cs_nil, cs_cons, cat_r, cat_i, cat_l, cat_n, cat_a, Nat.reduceAdd, Nat.reduceMul, Nat.reduceLeDiff, Nat.reduceEqDiff, Nat.reduceLT, and_self, and_true, true_and, and_false, false_and, or_true, true_or, or_false, false_or, if_true, if_false, not_true_eq_false, not_false_eq_true, reduceCtorEq, reduceIte]
def moR (R : HR) : HR := wR (wR (wR (wR (wR (wR (wR (wR (wR (wR (wR (wR (wR (wR (wR (wR (wR (wR (wR (wR (wR (wR (wR (wR (wR (R) 170 3 171) 170 4 172) 170 5 173) 170 6 174) 170 7 175) 170 8 176) 170 9 177) 170 10 178) 170 11 179) 170 12 180) 170 14 181) 170 15 182) 170 16 183) 170 17 184) 170 18 185) 170 19 186) 170 20 187) 170 21 188) 170 22 189) 170 23 190) 170 24 191) 170 25 192) 170 26 193) 170 27 194) 170 29 195
def moI (I : HI) (x y : Int32) : HI := wI (wI I 170 0 (if x < 1 then 1 else if 100 < x then 100 else x)) 170 2 y
set_option maxRecDepth 20000 in
set_option maxHeartbeats 2000000 in
theorem x_moi {x y : Int32} (hI : FI 171 I) (hR : FR 171 R) : Ex xs L 94 [.ref 170, .int x, .int y] (hc 171 S I R) (none, hc 196 (S + 600) (moI I x y) (moR R)) := by
  refine Ex_of xs L rfl ?_
  show Ev xs L _ (0, [.ref 170, .int x, .int y], [], hc 171 S I R) _
  simp only [e_94_0, e_94_1, tl_s, tl_n, rf_s, rf_n, cs_nil, cs_cons, cat_r, cat_i, cat_l, cat_n, cat_a, Nat.reduceAdd, Nat.reduceMul, Nat.reduceLeDiff, Nat.reduceEqDiff, Nat.reduceLT, and_self, and_true, true_and, and_false, false_and, or_true, true_or, or_false, false_or, if_true, if_false, not_true_eq_false, not_false_eq_true, reduceCtorEq, reduceIte]
  have g0 : FR 171 (R) := hR
  rw [mo_0 (x := x) (y := y) (FI_s hI (by decide)) g0]
  have g1 : FR 172 (wR (R) 170 3 171) := FR_w (FR_s g0 (by decide)) (by decide)
  rw [mo_1 (x := x) (y := y) (FI_s hI (by decide)) g1]
  have g2 : FR 173 (wR (wR (R) 170 3 171) 170 4 172) := FR_w (FR_s g1 (by decide)) (by decide)
  rw [mo_2 (x := x) (y := y) (FI_s hI (by decide)) g2]
  have g3 : FR 174 (wR (wR (wR (R) 170 3 171) 170 4 172) 170 5 173) := FR_w (FR_s g2 (by decide)) (by decide)
  rw [mo_3 (x := x) (y := y) (FI_s hI (by decide)) g3]
  have g4 : FR 175 (wR (wR (wR (wR (R) 170 3 171) 170 4 172) 170 5 173) 170 6 174) := FR_w (FR_s g3 (by decide)) (by decide)
  rw [mo_4 (x := x) (y := y) (FI_s hI (by decide)) g4]
  have g5 : FR 176 (wR (wR (wR (wR (wR (R) 170 3 171) 170 4 172) 170 5 173) 170 6 174) 170 7 175) := FR_w (FR_s g4 (by decide)) (by decide)
  rw [mo_5 (x := x) (y := y) (FI_s hI (by decide)) g5]
  have g6 : FR 177 (wR (wR (wR (wR (wR (wR (R) 170 3 171) 170 4 172) 170 5 173) 170 6 174) 170 7 175) 170 8 176) := FR_w (FR_s g5 (by decide)) (by decide)
  rw [mo_6 (x := x) (y := y) (FI_s hI (by decide)) g6]
  have g7 : FR 178 (wR (wR (wR (wR (wR (wR (wR (R) 170 3 171) 170 4 172) 170 5 173) 170 6 174) 170 7 175) 170 8 176) 170 9 177) := FR_w (FR_s g6 (by decide)) (by decide)
  rw [mo_7 (x := x) (y := y) (FI_s hI (by decide)) g7]
  have g8 : FR 179 (wR (wR (wR (wR (wR (wR (wR (wR (R) 170 3 171) 170 4 172) 170 5 173) 170 6 174) 170 7 175) 170 8 176) 170 9 177) 170 10 178) := FR_w (FR_s g7 (by decide)) (by decide)
  rw [mo_8 (x := x) (y := y) (FI_s hI (by decide)) g8]
  have g9 : FR 180 (wR (wR (wR (wR (wR (wR (wR (wR (wR (R) 170 3 171) 170 4 172) 170 5 173) 170 6 174) 170 7 175) 170 8 176) 170 9 177) 170 10 178) 170 11 179) := FR_w (FR_s g8 (by decide)) (by decide)
  rw [mo_9 (x := x) (y := y) (FI_s hI (by decide)) g9]
  have g10 : FR 181 (wR (wR (wR (wR (wR (wR (wR (wR (wR (wR (R) 170 3 171) 170 4 172) 170 5 173) 170 6 174) 170 7 175) 170 8 176) 170 9 177) 170 10 178) 170 11 179) 170 12 180) := FR_w (FR_s g9 (by decide)) (by decide)
  rw [mo_10 (x := x) (y := y) (FI_s hI (by decide)) g10]
  have g11 : FR 182 (wR (wR (wR (wR (wR (wR (wR (wR (wR (wR (wR (R) 170 3 171) 170 4 172) 170 5 173) 170 6 174) 170 7 175) 170 8 176) 170 9 177) 170 10 178) 170 11 179) 170 12 180) 170 14 181) := FR_w (FR_s g10 (by decide)) (by decide)
  rw [mo_11 (x := x) (y := y) (FI_s hI (by decide)) g11]
  have g12 : FR 183 (wR (wR (wR (wR (wR (wR (wR (wR (wR (wR (wR (wR (R) 170 3 171) 170 4 172) 170 5 173) 170 6 174) 170 7 175) 170 8 176) 170 9 177) 170 10 178) 170 11 179) 170 12 180) 170 14 181) 170 15 182) := FR_w (FR_s g11 (by decide)) (by decide)
  rw [mo_12 (x := x) (y := y) (FI_s hI (by decide)) g12]
  have g13 : FR 184 (wR (wR (wR (wR (wR (wR (wR (wR (wR (wR (wR (wR (wR (R) 170 3 171) 170 4 172) 170 5 173) 170 6 174) 170 7 175) 170 8 176) 170 9 177) 170 10 178) 170 11 179) 170 12 180) 170 14 181) 170 15 182) 170 16 183) := FR_w (FR_s g12 (by decide)) (by decide)
  rw [mo_13 (x := x) (y := y) (FI_s hI (by decide)) g13]
  have g14 : FR 185 (wR (wR (wR (wR (wR (wR (wR (wR (wR (wR (wR (wR (wR (wR (R) 170 3 171) 170 4 172) 170 5 173) 170 6 174) 170 7 175) 170 8 176) 170 9 177) 170 10 178) 170 11 179) 170 12 180) 170 14 181) 170 15 182) 170 16 183) 170 17 184) := FR_w (FR_s g13 (by decide)) (by decide)
  rw [mo_14 (x := x) (y := y) (FI_s hI (by decide)) g14]
  have g15 : FR 186 (wR (wR (wR (wR (wR (wR (wR (wR (wR (wR (wR (wR (wR (wR (wR (R) 170 3 171) 170 4 172) 170 5 173) 170 6 174) 170 7 175) 170 8 176) 170 9 177) 170 10 178) 170 11 179) 170 12 180) 170 14 181) 170 15 182) 170 16 183) 170 17 184) 170 18 185) := FR_w (FR_s g14 (by decide)) (by decide)
  rw [mo_15 (x := x) (y := y) (FI_s hI (by decide)) g15]
  have g16 : FR 187 (wR (wR (wR (wR (wR (wR (wR (wR (wR (wR (wR (wR (wR (wR (wR (wR (R) 170 3 171) 170 4 172) 170 5 173) 170 6 174) 170 7 175) 170 8 176) 170 9 177) 170 10 178) 170 11 179) 170 12 180) 170 14 181) 170 15 182) 170 16 183) 170 17 184) 170 18 185) 170 19 186) := FR_w (FR_s g15 (by decide)) (by decide)
  rw [mo_16 (x := x) (y := y) (FI_s hI (by decide)) g16]
  have g17 : FR 188 (wR (wR (wR (wR (wR (wR (wR (wR (wR (wR (wR (wR (wR (wR (wR (wR (wR (R) 170 3 171) 170 4 172) 170 5 173) 170 6 174) 170 7 175) 170 8 176) 170 9 177) 170 10 178) 170 11 179) 170 12 180) 170 14 181) 170 15 182) 170 16 183) 170 17 184) 170 18 185) 170 19 186) 170 20 187) := FR_w (FR_s g16 (by decide)) (by decide)
  rw [mo_17 (x := x) (y := y) (FI_s hI (by decide)) g17]
  have g18 : FR 189 (wR (wR (wR (wR (wR (wR (wR (wR (wR (wR (wR (wR (wR (wR (wR (wR (wR (wR (R) 170 3 171) 170 4 172) 170 5 173) 170 6 174) 170 7 175) 170 8 176) 170 9 177) 170 10 178) 170 11 179) 170 12 180) 170 14 181) 170 15 182) 170 16 183) 170 17 184) 170 18 185) 170 19 186) 170 20 187) 170 21 188) := FR_w (FR_s g17 (by decide)) (by decide)
  rw [mo_18 (x := x) (y := y) (FI_s hI (by decide)) g18]
  have g19 : FR 190 (wR (wR (wR (wR (wR (wR (wR (wR (wR (wR (wR (wR (wR (wR (wR (wR (wR (wR (wR (R) 170 3 171) 170 4 172) 170 5 173) 170 6 174) 170 7 175) 170 8 176) 170 9 177) 170 10 178) 170 11 179) 170 12 180) 170 14 181) 170 15 182) 170 16 183) 170 17 184) 170 18 185) 170 19 186) 170 20 187) 170 21 188) 170 22 189) := FR_w (FR_s g18 (by decide)) (by decide)
  rw [mo_19 (x := x) (y := y) (FI_s hI (by decide)) g19]
  have g20 : FR 191 (wR (wR (wR (wR (wR (wR (wR (wR (wR (wR (wR (wR (wR (wR (wR (wR (wR (wR (wR (wR (R) 170 3 171) 170 4 172) 170 5 173) 170 6 174) 170 7 175) 170 8 176) 170 9 177) 170 10 178) 170 11 179) 170 12 180) 170 14 181) 170 15 182) 170 16 183) 170 17 184) 170 18 185) 170 19 186) 170 20 187) 170 21 188) 170 22 189) 170 23 190) := FR_w (FR_s g19 (by decide)) (by decide)
  rw [mo_20 (x := x) (y := y) (FI_s hI (by decide)) g20]
  have g21 : FR 192 (wR (wR (wR (wR (wR (wR (wR (wR (wR (wR (wR (wR (wR (wR (wR (wR (wR (wR (wR (wR (wR (R) 170 3 171) 170 4 172) 170 5 173) 170 6 174) 170 7 175) 170 8 176) 170 9 177) 170 10 178) 170 11 179) 170 12 180) 170 14 181) 170 15 182) 170 16 183) 170 17 184) 170 18 185) 170 19 186) 170 20 187) 170 21 188) 170 22 189) 170 23 190) 170 24 191) := FR_w (FR_s g20 (by decide)) (by decide)
  rw [mo_21 (x := x) (y := y) (FI_s hI (by decide)) g21]
  have g22 : FR 193 (wR (wR (wR (wR (wR (wR (wR (wR (wR (wR (wR (wR (wR (wR (wR (wR (wR (wR (wR (wR (wR (wR (R) 170 3 171) 170 4 172) 170 5 173) 170 6 174) 170 7 175) 170 8 176) 170 9 177) 170 10 178) 170 11 179) 170 12 180) 170 14 181) 170 15 182) 170 16 183) 170 17 184) 170 18 185) 170 19 186) 170 20 187) 170 21 188) 170 22 189) 170 23 190) 170 24 191) 170 25 192) := FR_w (FR_s g21 (by decide)) (by decide)
  rw [mo_22 (x := x) (y := y) (FI_s hI (by decide)) g22]
  have g23 : FR 194 (wR (wR (wR (wR (wR (wR (wR (wR (wR (wR (wR (wR (wR (wR (wR (wR (wR (wR (wR (wR (wR (wR (wR (R) 170 3 171) 170 4 172) 170 5 173) 170 6 174) 170 7 175) 170 8 176) 170 9 177) 170 10 178) 170 11 179) 170 12 180) 170 14 181) 170 15 182) 170 16 183) 170 17 184) 170 18 185) 170 19 186) 170 20 187) 170 21 188) 170 22 189) 170 23 190) 170 24 191) 170 25 192) 170 26 193) := FR_w (FR_s g22 (by decide)) (by decide)
  rw [mo_23 (x := x) (y := y) (FI_s hI (by decide)) g23]
  have g24 : FR 195 (wR (wR (wR (wR (wR (wR (wR (wR (wR (wR (wR (wR (wR (wR (wR (wR (wR (wR (wR (wR (wR (wR (wR (wR (R) 170 3 171) 170 4 172) 170 5 173) 170 6 174) 170 7 175) 170 8 176) 170 9 177) 170 10 178) 170 11 179) 170 12 180) 170 14 181) 170 15 182) 170 16 183) 170 17 184) 170 18 185) 170 19 186) 170 20 187) 170 21 188) 170 22 189) 170 23 190) 170 24 191) 170 25 192) 170 26 193) 170 27 194) := FR_w (FR_s g23 (by decide)) (by decide)
  rw [mo_24 (x := x) (y := y) (FI_s hI (by decide)) g24]
  have t0 : TT 170 = 9 := by decide
  unfold moI
  by_cases h1 : x < 1
  · have h1' : (1 ≤ x) = False := eq_false (Int32.not_le.mpr h1)
    simp only [e_94_194, e_94_195, e_94_196, e_94_197, e_94_200, e_94_201, e_94_204, e_94_205, e_94_207, e_94_210, e_94_212, e_94_215, e_94_216, e_94_219, e_94_220, e_94_221, e_94_224, hc_T, hc_I, t0, eq_true h1, h1', Nat.add_assoc, Nat.reduceAdd, tl_s, tl_n, rf_s, rf_n, cs_nil, cs_cons, cat_r, cat_i, cat_l, cat_n, cat_a, Nat.reduceAdd, Nat.reduceMul, Nat.reduceLeDiff, Nat.reduceEqDiff, Nat.reduceLT, and_self, and_true, true_and, and_false, false_and, or_true, true_or, or_false, false_or, if_true, if_false, not_true_eq_false, not_false_eq_true, reduceCtorEq, reduceIte]
    rfl
  · have h1' : (1 ≤ x) = True := eq_true (Int32.not_lt.mp h1)
    by_cases h2 : 100 < x
    · have h2' : (x ≤ 100) = False := eq_false (Int32.not_le.mpr h2)
      simp only [e_94_194, e_94_195, e_94_196, e_94_197, e_94_200, e_94_201, e_94_204, e_94_205, e_94_207, e_94_210, e_94_212, e_94_215, e_94_216, e_94_219, e_94_220, e_94_221, e_94_224, hc_T, hc_I, t0, h1, h1', eq_true h2, h2', Nat.add_assoc, Nat.reduceAdd, tl_s, tl_n, rf_s, rf_n, cs_nil, cs_cons, cat_r, cat_i, cat_l, cat_n, cat_a, Nat.reduceAdd, Nat.reduceMul, Nat.reduceLeDiff, Nat.reduceEqDiff, Nat.reduceLT, and_self, and_true, true_and, and_false, false_and, or_true, true_or, or_false, false_or, if_true, if_false, not_true_eq_false, not_false_eq_true, reduceCtorEq, reduceIte]
      rfl
    · have h2' : (x ≤ 100) = True := eq_true (Int32.not_lt.mp h2)
      simp only [e_94_194, e_94_195, e_94_196, e_94_197, e_94_200, e_94_201, e_94_204, e_94_205, e_94_207, e_94_210, e_94_212, e_94_215, e_94_216, e_94_219, e_94_220, e_94_221, e_94_224, hc_T, hc_I, t0, h1, h1', h2, h2', Nat.add_assoc, Nat.reduceAdd, tl_s, tl_n, rf_s, rf_n, cs_nil, cs_cons, cat_r, cat_i, cat_l, cat_n, cat_a, Nat.reduceAdd, Nat.reduceMul, Nat.reduceLeDiff, Nat.reduceEqDiff, Nat.reduceLT, and_self, and_true, true_and, and_false, false_and, or_true, true_or, or_false, false_or, if_true, if_false, not_true_eq_false, not_false_eq_true, reduceCtorEq, reduceIte]
      rfl
end CT
