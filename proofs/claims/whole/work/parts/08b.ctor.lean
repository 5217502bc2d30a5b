theorem wR_lo {R : HR} {p j b q : Nat} (h : ¬ q = p) : wR R p j b q = R q := by
  unfold wR
  rw [up_at, if_neg h]
theorem branchR_lo {R : HR} {p q : Nat} (h : q < p) : branchR R p q = R q := by
  unfold branchR tmR
  repeat rw [wR_lo (by omega)]
theorem serverR_lo {R : HR} {p q : Nat} (h : q < p) : serverR R p q = R q := by
  unfold serverR tmR
  repeat rw [wR_lo (by omega)]
section CT
variable {xs : Nat → Int32} {L : Nat} {N S : Nat} {I : HI} {R : HR}
theorem ng4 : ((4 : Int32) < 0) = False := eq_false (by decide)
theorem ng64 : ((64 : Int32) < 0) = False := eq_false (by decide)
theorem ng16 : ((16 : Int32) < 0) = False := eq_false (by decide)
theorem ng96 : ((96 : Int32) < 0) = False := eq_false (by decide)
theorem tc4 : (4 : Int32).toNatClampNeg = 4 := by decide
theorem tc64 : (64 : Int32).toNatClampNeg = 64 := by decide
theorem tc16 : (16 : Int32).toNatClampNeg = 16 := by decide
theorem tc96 : (96 : Int32).toNatClampNeg = 96 := by decide
theorem mx4 : (1000000 < 4) = False := eq_false (by decide)
theorem mx64 : (1000000 < 64) = False := eq_false (by decide)
theorem mx16 : (1000000 < 16) = False := eq_false (by decide)
theorem mx96 : (1000000 < 96) = False := eq_false (by decide)
-- a call
def ckT (p : Nat) : Prop := TT p = 3 ∧ (TT (p + 1) = 106 ∧ LL (p + 1) = 4) ∧ (TT (p + 2) = 6 ∧ LL (p + 2) = 0) ∧ (∀ k, k < 4 → TT (p + 2 + 1 + k) = 7 ∧ LL (p + 2 + 1 + k) = 0) ∧ ∀ i, i < 4 → (TT (p + 7 + 7 * i) = 2 ∧ LL (p + 7 + 7 * i) = 0) ∧ ∀ k, k < 6 → TT (p + 7 + 7 * i + 1 + k) = 7 ∧ LL (p + 7 + 7 * i + 1 + k) = 0
def clIl (p : Nat) (x : Int32) : Nat → Nat → HI → HI
  | 0, _, I => I
  | d + 1, i, I => clIl p x d (i + 1) (branchI I (p + 7 + 7 * i) x (nI i))
def clRl (p : Nat) : Nat → Nat → HR → HR
  | 0, _, R => R
  | d + 1, i, R => clRl p d (i + 1) (wR (branchR R (p + 7 + 7 * i)) (p + 1) i (p + 7 + 7 * i))
set_option maxRecDepth 20000 in
set_option maxHeartbeats 2000000 in
theorem x_cil {o : ix_O} {p : Nat} {x : Int32} (ht : ckT p) : ∀ (d i S : Nat) (I : HI) (R : HR), i + d = 4 → FI (p + 7 + 7 * i) I → FR (p + 7 + 7 * i) R → R p 2 = some (p + 1) → (Ev xs L 42 (34, [.ref p, .ref 1, .ref 2, .int x, .int (nI i)], [], hc (p + 7 + 7 * i) S I R) o ↔ o = (none, hc (p + 35) (S + 34 * d) (clIl p x d i I) (clRl p d i R))) := by
  intro d
  induction d with
  | zero =>
    intro i S I R hi _ _ _
    obtain rfl : i = 4 := by omega
    have q4 : (4 ≤ nI 4) = True := eq_true (by decide)
    simp only [e_42_34, e_42_36, e_42_37, e_42_65, q4, clIl, clRl, Nat.mul_zero, Nat.add_zero, Nat.reduceMul, Nat.add_assoc, tl_s, tl_n, rf_s, rf_n, cs_nil, cs_cons, cat_r, cat_i, cat_l, cat_n, cat_a, Nat.reduceAdd, Nat.reduceMul, Nat.reduceLeDiff, Nat.reduceEqDiff, Nat.reduceLT, and_self, and_true, true_and, and_false, false_and, or_true, true_or, or_false, false_or, if_true, if_false, not_true_eq_false, not_false_eq_true, reduceCtorEq, reduceIte]
  | succ d ih =>
    intro i S I R hi hI hR h2
    have hi4 : i < 4 := by omega
    have hb := ht.2.2.2.2 i hi4
    generalize hn : p + 7 + 7 * i = n at *
    have kb : ∀ (S : Nat) (K : Option Value → ix_H → Prop), Cl xs L 29 [.ref n, .ref 1, .ref 2, .int x, .int (nI i)] (hc (n + 1) S I R) K ↔ K none (hc (n + 7) (S + 18) (branchI I n x (nI i)) (branchR R n)) := fun S K => Cl_of xs L (x_branchi hb.1.1 hb.2 (FI_s hI (by omega)) (FR_s hR (by omega)))
    rw [e_42_34]
    simp only [clIl, clRl]
    have e7 : n + 7 = p + 7 + 7 * (i + 1) := by omega
    have hF := F_branch (p := n) (x := x) (y := nI i) (FI_s hI (show n ≤ n + 1 by omega)) (FR_s hR (show n ≤ n + 1 by omega))
    have hr := ih (i + 1) (S + 16 + 18) (branchI I n x (nI i)) (wR (branchR R n) (p + 1) i n) (by omega) (by rw [← e7]; exact hF.1) (by rw [← e7]; exact FR_w hF.2 (by omega)) (by rw [wR_lo (by omega), branchR_lo (by omega)]; exact h2)
    have eS : S + 34 * (d + 1) = S + 16 + 18 + 34 * d := by omega
    rw [hn, eS, ← hr, ← e7]
    simp only [e_42_36, e_42_37, e_42_40, e_42_41, e_42_44, e_42_46, e_42_49, e_42_50, e_42_50n, e_42_51, e_42_51n, e_42_52, e_42_53, e_42_55, e_42_58t106, e_42_59, e_42_62, hc_N, hc_T, hc_L, show p < n by omega, show p + 1 < n by omega, show p < n + 1 by omega, show p + 1 < n + 1 by omega, show n < n + 1 by omega, show p < n + 7 by omega, show p + 1 < n + 7 by omega, show n < n + 7 by omega, hc_g, hc_R, hc_new hb.1.1 hb.1.2 hI hR, kb, h2, ht.1, ht.2.1.1, ht.2.1.2, hb.1.1, f_5 hi4, in4 hi4, cl_4 hi4, ad1, tl_s, tl_n, rf_s, rf_n, cs_nil, cs_cons, cat_r, cat_i, cat_l, cat_n, cat_a, Nat.reduceAdd, Nat.reduceMul, Nat.reduceLeDiff, Nat.reduceEqDiff, Nat.reduceLT, and_self, and_true, true_and, and_false, false_and, or_true, true_or, or_false, false_or, if_true, if_false, not_true_eq_false, not_false_eq_true, reduceCtorEq, reduceIte]
def ckI (I : HI) (p : Nat) (x : Int32) : HI := clIl p x 4 0 (serverI (wI I p 0 x) (p + 2) x 0)
def ckR (R : HR) (p : Nat) : HR := clRl p 4 0 (wR (serverR (wR R p 2 (p + 1)) (p + 2)) p 1 (p + 2))
set_option maxRecDepth 20000 in
set_option maxHeartbeats 2000000 in
theorem x_calli {p : Nat} {x : Int32} (ht : ckT p) (hI : FI (p + 1) I) (hR : FR (p + 1) R) : Ex xs L 42 [.ref p, .ref 1, .ref 2, .int x] (hc (p + 1) S I R) (none, hc (p + 35) (S + 161) (ckI I p x) (ckR R p)) := by
  refine Ex_of xs L rfl ?_
  show Ev xs L _ (0, [.ref p, .ref 1, .ref 2, .int x, .retAddr 1], [], hc (p + 1) S I R) _
  have f1 : FI (p + 2) (wI I p 0 x) := FI_w (FI_s hI (by omega)) (by omega)
  have g1 : FR (p + 2) (wR R p 2 (p + 1)) := FR_w (FR_s hR (by omega)) (by omega)
  have ks : ∀ (S : Nat) (K : Option Value → ix_H → Prop), Cl xs L 63 [.ref (p + 2), .ref 1, .ref 2, .int x] (hc (p + 2 + 1) S (wI I p 0 x) (wR R p 2 (p + 1))) K ↔ K none (hc (p + 2 + 5) (S + 12) (serverI (wI I p 0 x) (p + 2) x 0) (serverR (wR R p 2 (p + 1)) (p + 2))) := fun S K => Cl_of xs L (x_serveri (y := 0) ht.2.2.1.1 ht.2.2.2.1 (FI_s f1 (by omega)) (FR_s g1 (by omega)))
  have hF := F_server (p := p + 2) (x := x) (y := 0) (FI_s f1 (show p + 2 ≤ p + 2 + 1 by omega)) (FR_s g1 (show p + 2 ≤ p + 2 + 1 by omega))
  have n1 : hs_new (hc (p + 1) S I R) 106 4 4 = hc (p + 2) (S + 4) I R := hc_new ht.2.1.1 ht.2.1.2 hI hR
  have n2 : ∀ S, hs_new (hc (p + 2) S (wI I p 0 x) (wR R p 2 (p + 1))) 6 0 9 = hc (p + 2 + 1) (S + 9) (wI I p 0 x) (wR R p 2 (p + 1)) := fun S => hc_new ht.2.2.1.1 ht.2.2.1.2 f1 g1
  simp only [e_42_0, e_42_1, e_42_4, e_42_5, e_42_6, e_42_9, e_42_12, e_42_13, e_42_14, e_42_17, e_42_18, e_42_21, e_42_22, e_42_22n, e_42_23, e_42_23n, e_42_24, e_42_25, e_42_28, e_42_31, e_42_32, hc_N, hc_T, show p < p + 1 by omega, show p < p + 2 by omega, show p + 1 < p + 2 by omega, show p < p + 2 + 1 by omega, show p + 2 < p + 2 + 1 by omega, show p < p + 2 + 5 by omega, show p + 2 < p + 2 + 5 by omega, show p + 1 < p + 2 + 5 by omega, hc_I, hc_R, n1, n2, ks, ht.1, ht.2.2.1.1, ng4, tc4, mx4, tl_s, tl_n, rf_s, rf_n, cs_nil, cs_cons, cat_r, cat_i, cat_l, cat_n, cat_a, Nat.reduceAdd, Nat.reduceMul, Nat.reduceLeDiff, Nat.reduceEqDiff, Nat.reduceLT, and_self, and_true, true_and, and_false, false_and, or_true, true_or, or_false, false_or, if_true, if_false, not_true_eq_false, not_false_eq_true, reduceCtorEq, reduceIte]
  have h2 : wR (serverR (wR R p 2 (p + 1)) (p + 2)) p 1 (p + 2) p 2 = some (p + 1) := by
    rw [wR_at, if_neg (fun w => absurd w.2 (by decide)), serverR_lo (by omega), wR_at, if_pos ⟨rfl, rfl⟩]
  exact (x_cil ht 4 0 (S + 4 + 9 + 12) _ _ (by omega) (FI_s hF.1 (by omega)) (FR_s (FR_w hF.2 (by omega)) (by omega)) h2).mpr rfl
theorem F_cl {p : Nat} {x : Int32} : ∀ (d i : Nat) (I : HI) (R : HR), i + d = 4 → FI (p + 7 + 7 * i) I → FR (p + 7 + 7 * i) R → FI (p + 35) (clIl p x d i I) ∧ FR (p + 35) (clRl p d i R) := by
  intro d
  induction d with
  | zero =>
    intro i I R hi hI hR
    obtain rfl : i = 4 := by omega
    exact ⟨hI, hR⟩
  | succ d ih =>
    intro i I R hi hI hR
    have hF := F_branch (p := p + 7 + 7 * i) (x := x) (y := nI i) (FI_s hI (Nat.le_succ _)) (FR_s hR (Nat.le_succ _))
    have e7 : p + 7 + 7 * i + 7 = p + 7 + 7 * (i + 1) := by omega
    rw [e7] at hF
    simp only [clIl, clRl]
    exact ih (i + 1) _ _ (by omega) hF.1 (FR_w hF.2 (by omega))
theorem F_call {p : Nat} {x : Int32} (hI : FI (p + 1) I) (hR : FR (p + 1) R) : FI (p + 35) (ckI I p x) ∧ FR (p + 35) (ckR R p) := by
  have f1 : FI (p + 2) (wI I p 0 x) := FI_w (FI_s hI (by omega)) (by omega)
  have g1 : FR (p + 2) (wR R p 2 (p + 1)) := FR_w (FR_s hR (by omega)) (by omega)
  have hF := F_server (p := p + 2) (x := x) (y := 0) (FI_s f1 (show p + 2 ≤ p + 2 + 1 by omega)) (FR_s g1 (show p + 2 ≤ p + 2 + 1 by omega))
  exact F_cl (p := p) (x := x) 4 0 _ _ (by omega) (FI_s hF.1 (by omega)) (FR_s (FR_w hF.2 (by omega)) (by omega))
-- a user
set_option maxRecDepth 20000 in
set_option maxHeartbeats 2000000 in
theorem x_bdi {p : Nat} {h : ix_H} : Ex xs L 28 [.ref p] h (none, h) := by
  refine Ex_of xs L rfl ?_
  show Ev xs L _ (0, [.ref p], [], h) _
  simp only [e_28_0, e_28_1, e_28_4, tl_s, tl_n, rf_s, rf_n, cs_nil, cs_cons, cat_r, cat_i, cat_l, cat_n, cat_a, Nat.reduceAdd, Nat.reduceMul, Nat.reduceLeDiff, Nat.reduceEqDiff, Nat.reduceLT, and_self, and_true, true_and, and_false, false_and, or_true, true_or, or_false, false_or, if_true, if_false, not_true_eq_false, not_false_eq_true, reduceCtorEq, reduceIte]
theorem k_bdi {p : Nat} {h : ix_H} {K : Option Value → ix_H → Prop} : Cl xs L 28 [.ref p] h K ↔ K none h := Cl_of xs L x_bdi
def ukT (p : Nat) : Prop := TT p = 8 ∧ (TT (p + 1) = 105 ∧ LL (p + 1) = 4) ∧ ∀ i, i < 4 → TT (p + 2 + i) = 1 ∧ LL (p + 2 + i) = 0
def usRl (p : Nat) : Nat → Nat → HR → HR
  | 0, _, R => R
  | d + 1, i, R => usRl p d (i + 1) (wR R (p + 1) i (p + 2 + i))
set_option maxRecDepth 20000 in
set_option maxHeartbeats 2000000 in
theorem x_uil {o : ix_O} {p : Nat} (ht : ukT p) : ∀ (d i S : Nat) (I : HI) (R : HR), i + d = 4 → FI (p + 2 + i) I → FR (p + 2 + i) R → R p 7 = some (p + 1) → (Ev xs L 81 (19, [.ref p, .ref 1, .int (nI i)], [], hc (p + 2 + i) S I R) o ↔ o = (none, hc (p + 6) (S + 5 * d) I (usRl p d i R))) := by
  intro d
  induction d with
  | zero =>
    intro i S I R hi _ _ _
    obtain rfl : i = 4 := by omega
    have q4 : (4 ≤ nI 4) = True := eq_true (by decide)
    simp only [e_81_19, e_81_20, e_81_21, e_81_43, q4, usRl, Nat.mul_zero, Nat.add_zero, Nat.add_assoc, tl_s, tl_n, rf_s, rf_n, cs_nil, cs_cons, cat_r, cat_i, cat_l, cat_n, cat_a, Nat.reduceAdd, Nat.reduceMul, Nat.reduceLeDiff, Nat.reduceEqDiff, Nat.reduceLT, and_self, and_true, true_and, and_false, false_and, or_true, true_or, or_false, false_or, if_true, if_false, not_true_eq_false, not_false_eq_true, reduceCtorEq, reduceIte]
  | succ d ih =>
    intro i S I R hi hI hR h7
    have hi4 : i < 4 := by omega
    have hb := ht.2.2 i hi4
    generalize hn : p + 2 + i = n at *
    rw [e_81_19]
    simp only [usRl]
    have e7 : n + 1 = p + 2 + (i + 1) := by omega
    have hr := ih (i + 1) (S + 5) I (wR R (p + 1) i n) (by omega) (by rw [← e7]; exact FI_s hI (by omega)) (by rw [← e7]; exact FR_w (FR_s hR (by omega)) (by omega)) (by rw [wR_lo (by omega)]; exact h7)
    have eS : S + 5 * (d + 1) = S + 5 + 5 * d := by omega
    rw [hn, eS, ← hr, ← e7]
    simp only [e_81_20, e_81_21, e_81_24, e_81_25, e_81_28, e_81_29, e_81_32, e_81_33, e_81_36t105, e_81_37, e_81_40, hc_N, hc_T, hc_L, show p < n by omega, show p + 1 < n by omega, show p < n + 1 by omega, show p + 1 < n + 1 by omega, show n < n + 1 by omega, hc_g, hc_R, hc_new hb.1 hb.2 hI hR, k_bdi, h7, ht.1, ht.2.1.1, ht.2.1.2, hb.1, f_5 hi4, in4 hi4, cl_4 hi4, ad1, tl_s, tl_n, rf_s, rf_n, cs_nil, cs_cons, cat_r, cat_i, cat_l, cat_n, cat_a, Nat.reduceAdd, Nat.reduceMul, Nat.reduceLeDiff, Nat.reduceEqDiff, Nat.reduceLT, and_self, and_true, true_and, and_false, false_and, or_true, true_or, or_false, false_or, if_true, if_false, not_true_eq_false, not_false_eq_true, reduceCtorEq, reduceIte]
def userR (R : HR) (p : Nat) : HR := usRl p 4 0 (wR (wR R p 7 (p + 1)) p 0 1)
set_option maxRecDepth 20000 in
set_option maxHeartbeats 2000000 in
theorem x_useri {p : Nat} (ht : ukT p) (hI : FI (p + 1) I) (hR : FR (p + 1) R) : Ex xs L 81 [.ref p, .ref 1] (hc (p + 1) S I R) (none, hc (p + 6) (S + 24) I (userR R p)) := by
  refine Ex_of xs L rfl ?_
  show Ev xs L _ (0, [.ref p, .ref 1, .retAddr 1], [], hc (p + 1) S I R) _
  have n1 : hs_new (hc (p + 1) S I R) 105 4 4 = hc (p + 2) (S + 4) I R := hc_new ht.2.1.1 ht.2.1.2 hI hR
  simp only [e_81_0, e_81_1, e_81_4, e_81_5, e_81_6, e_81_9, e_81_12, e_81_13, e_81_13n, e_81_14, e_81_17, e_81_18, hc_N, hc_T, show p < p + 1 by omega, show p < p + 2 by omega, show p + 1 < p + 2 by omega, hc_I, hc_R, n1, ht.1, ng4, tc4, mx4, tl_s, tl_n, rf_s, rf_n, cs_nil, cs_cons, cat_r, cat_i, cat_l, cat_n, cat_a, Nat.reduceAdd, Nat.reduceMul, Nat.reduceLeDiff, Nat.reduceEqDiff, Nat.reduceLT, and_self, and_true, true_and, and_false, false_and, or_true, true_or, or_false, false_or, if_true, if_false, not_true_eq_false, not_false_eq_true, reduceCtorEq, reduceIte]
  have h7 : wR (wR R p 7 (p + 1)) p 0 1 p 7 = some (p + 1) := by
    rw [wR_at, if_neg (fun w => absurd w.2 (by decide)), wR_at, if_pos ⟨rfl, rfl⟩]
  exact (x_uil ht 4 0 (S + 4) _ _ (by omega) (FI_s hI (by omega)) (FR_w (FR_w (FR_s hR (by omega)) (by omega)) (by omega)) h7).mpr rfl
theorem F_us {p : Nat} : ∀ (d i : Nat) (R : HR), FR (p + 6) R → FR (p + 6) (usRl p d i R) := by
  intro d
  induction d with
  | zero => intro i R hR; exact hR
  | succ d ih =>
    intro i R hR
    simp only [usRl]
    exact ih (i + 1) _ (FR_w hR (by omega))
theorem F_user {p : Nat} (hR : FR (p + 1) R) : FR (p + 6) (userR R p) := F_us 4 0 _ (FR_w (FR_w (FR_s hR (by omega)) (by omega)) (by omega))
end CT
