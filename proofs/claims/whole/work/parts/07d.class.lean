section CL
variable {xs : Nat → Int32} {L : Nat} {h : ix_H} {c : CM} {s : MM}
theorem nC1 {a : Nat} : (pC a = 1) = False := eq_false (by unfold pC; omega)
theorem nC2 {a : Nat} : (pC a = 2) = False := eq_false (by unfold pC; omega)
theorem n1C {a : Nat} : (1 = pC a) = False := eq_false (by unfold pC; omega)
theorem n2C {a : Nat} : (2 = pC a) = False := eq_false (by unfold pC; omega)
theorem nCS {a : Nat} : (pC a = pS a) = False := eq_false (by unfold pC pS; omega)
theorem nSC {a : Nat} : (pS a = pC a) = False := eq_false (by unfold pC pS; omega)
theorem nCG {a k : Nat} : (pC a = pG a k) = False := eq_false (by unfold pC pG; omega)
theorem nGC {a k : Nat} : (pG a k = pC a) = False := eq_false (by unfold pC pG; omega)
theorem nCB {a i : Nat} : (pC a = pB a i) = False := eq_false (by unfold pC pB; omega)
theorem nBC {a i : Nat} : (pB a i = pC a) = False := eq_false (by unfold pC pB; omega)
theorem nCT {a i k : Nat} : (pC a = pT a i k) = False := eq_false (by unfold pC pT; omega)
theorem nTC {a i k : Nat} : (pT a i k = pC a) = False := eq_false (by unfold pC pT; omega)
theorem nSB {a i : Nat} : (pS a = pB a i) = False := eq_false (by unfold pS pB; omega)
theorem nBS {a i : Nat} : (pB a i = pS a) = False := eq_false (by unfold pS pB; omega)
theorem nST {a i k : Nat} : (pS a = pT a i k) = False := eq_false (by unfold pS pT; omega)
theorem lo4 {i : Nat} (h : i < 4) : vp_in (nI i) 4 := in4 h
-- how many live
def cl_lv (c : CM) (a : Nat) : Nat → Nat → Nat → Nat
  | 0, _, z => z
  | d + 1, i, z => cl_lv c a d (i + 1) (if c.1 (pB a i) 11 = 4 then z else z + 1)
def cl_live (c : CM) (a n : Nat) : Nat := cl_lv c a n 0 (if c.1 (pS a) 7 = 5 then 0 else 1)
set_option maxRecDepth 20000 in
set_option maxHeartbeats 2000000 in
theorem x_cll {o : ix_O} {a n : Nat} (ha : a < 4) (hb : c.1 (pC a) 3 = nI n) (hn : n ≤ 4) : ∀ (d i z : Nat), i + d = n → (Ev xs L 44 (19, [.ref (pC a), .int (nI z), .int (nI i)], [], hh c s) o ↔ o = (some (.int (nI (cl_lv c a d i z))), hh c s)) := by
  intro d
  induction d with
  | zero =>
    intro i z hi
    obtain rfl : i = n := by omega
    simp only [e_44_19, e_44_20, e_44_21, e_44_24, e_44_49, e_44_50, TC ha, I_lo (lt_C ha), hb, tl_s, tl_n, rf_s, rf_n, cs_nil, cs_cons, cat_r, cat_i, cat_l, cat_n, cat_a, Nat.reduceAdd, Nat.reduceMul, Nat.reduceLeDiff, Nat.reduceEqDiff, Nat.reduceLT, and_self, and_true, true_and, and_false, false_and, or_true, true_or, or_false, false_or, if_true, if_false, not_true_eq_false, not_false_eq_true, reduceCtorEq, reduceIte, le_rf, cl_lv]
  | succ d ih =>
    intro i z hi
    have hi4 : i < 4 := by omega
    have hlt := nle (show i < n by omega) hn
    rw [e_44_19]
    by_cases h1 : c.1 (pB a i) 11 = 4
    · simp only [e_44_20, e_44_21, e_44_24, e_44_27, e_44_28, e_44_31, e_44_32t106, e_44_33, e_44_36, e_44_37, e_44_40, e_44_43, e_44_46, TC ha, RCa ha, TA ha, LA ha, RA ha hi4, TB ha hi4, I_lo (lt_C ha), I_lo (lt_B ha hi4), in4 hi4, cl_4 hi4, hb, hlt, tl_s, tl_n, rf_s, rf_n, cs_nil, cs_cons, cat_r, cat_i, cat_l, cat_n, cat_a, Nat.reduceAdd, Nat.reduceMul, Nat.reduceLeDiff, Nat.reduceEqDiff, Nat.reduceLT, and_self, and_true, true_and, and_false, false_and, or_true, true_or, or_false, false_or, if_true, if_false, not_true_eq_false, not_false_eq_true, reduceCtorEq, reduceIte, ad1, eq_true h1, cl_lv]
      exact ih (i + 1) z (by omega)
    · simp only [e_44_20, e_44_21, e_44_24, e_44_27, e_44_28, e_44_31, e_44_32t106, e_44_33, e_44_36, e_44_37, e_44_40, e_44_43, e_44_46, TC ha, RCa ha, TA ha, LA ha, RA ha hi4, TB ha hi4, I_lo (lt_C ha), I_lo (lt_B ha hi4), in4 hi4, cl_4 hi4, hb, hlt, tl_s, tl_n, rf_s, rf_n, cs_nil, cs_cons, cat_r, cat_i, cat_l, cat_n, cat_a, Nat.reduceAdd, Nat.reduceMul, Nat.reduceLeDiff, Nat.reduceEqDiff, Nat.reduceLT, and_self, and_true, true_and, and_false, false_and, or_true, true_or, or_false, false_or, if_true, if_false, not_true_eq_false, not_false_eq_true, reduceCtorEq, reduceIte, ad1, h1, cl_lv]
      exact ih (i + 1) (z + 1) (by omega)
set_option maxRecDepth 20000 in
set_option maxHeartbeats 2000000 in
theorem x_clive {a n : Nat} (ha : a < 4) (hb : c.1 (pC a) 3 = nI n) (hn : n ≤ 4) : Ex xs L 44 [.ref (pC a)] (hh c s) (some (.int (nI (cl_live c a n))), hh c s) := by
  refine Ex_of xs L rfl ?_
  show Ev xs L _ (0, [.ref (pC a), .retAddr 1, .retAddr 1], [], hh c s) _
  unfold cl_live
  by_cases h1 : c.1 (pS a) 7 = 5
  · simp only [e_44_0, e_44_1, e_44_4, e_44_7, e_44_8, e_44_11, e_44_12, e_44_15, e_44_16, e_44_17, e_44_18, TC ha, RCs ha, TS ha, I_lo (lt_S ha), tl_s, tl_n, rf_s, rf_n, cs_nil, cs_cons, cat_r, cat_i, cat_l, cat_n, cat_a, Nat.reduceAdd, Nat.reduceMul, Nat.reduceLeDiff, Nat.reduceEqDiff, Nat.reduceLT, and_self, and_true, true_and, and_false, false_and, or_true, true_or, or_false, false_or, if_true, if_false, not_true_eq_false, not_false_eq_true, reduceCtorEq, reduceIte, eq_true h1]
    exact (x_cll ha hb hn n 0 0 (by omega)).mpr rfl
  · simp only [e_44_0, e_44_1, e_44_4, e_44_7, e_44_8, e_44_11, e_44_12, e_44_15, e_44_16, e_44_17, e_44_18, TC ha, RCs ha, TS ha, I_lo (lt_S ha), tl_s, tl_n, rf_s, rf_n, cs_nil, cs_cons, cat_r, cat_i, cat_l, cat_n, cat_a, Nat.reduceAdd, Nat.reduceMul, Nat.reduceLeDiff, Nat.reduceEqDiff, Nat.reduceLT, and_self, and_true, true_and, and_false, false_and, or_true, true_or, or_false, false_or, if_true, if_false, not_true_eq_false, not_false_eq_true, reduceCtorEq, reduceIte, h1]
    exact (x_cll ha hb hn n 0 1 (by omega)).mpr rfl
theorem k_clive {a n : Nat} {K : Option Value → ix_H → Prop} (ha : a < 4) (hb : c.1 (pC a) 3 = nI n) (hn : n ≤ 4) : Cl xs L 44 [.ref (pC a)] (hh c s) K ↔ K (some (.int (nI (cl_live c a n)))) (hh c s) := Cl_of xs L (x_clive ha hb hn)
theorem cl_lv_le (c : CM) (a : Nat) : ∀ (d i z : Nat), z ≤ cl_lv c a d i z ∧ cl_lv c a d i z ≤ z + d := by
  intro d
  induction d with
  | zero => intro i z; exact ⟨Nat.le_refl _, Nat.le_refl _⟩
  | succ d ih =>
    intro i z
    simp only [cl_lv]
    split
    · have := ih (i + 1) z; omega
    · have := ih (i + 1) (z + 1); omega
theorem cl_live_le (c : CM) (a n : Nat) : cl_live c a n ≤ n + 1 := by
  unfold cl_live
  split
  · have := cl_lv_le c a n 0 0; omega
  · have := cl_lv_le c a n 0 1; omega
set_option maxRecDepth 20000 in
set_option maxHeartbeats 2000000 in
theorem x_cuse {a n : Nat} (ha : a < 4) (hb : c.1 (pC a) 3 = nI n) (hn : n ≤ 4) : Ex xs L 43 [.ref (pC a)] (hh c s) (some (.int (if cl_live c a n = 0 then 0 else 1)), hh c s) := by
  refine Ex_of xs L rfl ?_
  show Ev xs L _ (0, [.ref (pC a)], [], hh c s) _
  have hle := cl_live_le c a n
  by_cases h1 : cl_live c a n = 0
  · have h2 : (nI (cl_live c a n) ≤ 0) = True := by rw [h1]; exact eq_true (by decide)
    simp only [e_43_0, e_43_1, e_43_4, e_43_7, e_43_8, e_43_11, e_43_12, k_clive ha hb hn, TC ha, tl_s, tl_n, rf_s, rf_n, cs_nil, cs_cons, cat_r, cat_i, cat_l, cat_n, cat_a, Nat.reduceAdd, Nat.reduceMul, Nat.reduceLeDiff, Nat.reduceEqDiff, Nat.reduceLT, and_self, and_true, true_and, and_false, false_and, or_true, true_or, or_false, false_or, if_true, if_false, not_true_eq_false, not_false_eq_true, reduceCtorEq, reduceIte, h2, eq_true h1]
  · have h2 : (nI (cl_live c a n) ≤ 0) = False := eq_false (nI_nle (by omega) (by omega))
    simp only [e_43_0, e_43_1, e_43_4, e_43_7, e_43_8, e_43_11, e_43_12, k_clive ha hb hn, TC ha, tl_s, tl_n, rf_s, rf_n, cs_nil, cs_cons, cat_r, cat_i, cat_l, cat_n, cat_a, Nat.reduceAdd, Nat.reduceMul, Nat.reduceLeDiff, Nat.reduceEqDiff, Nat.reduceLT, and_self, and_true, true_and, and_false, false_and, or_true, true_or, or_false, false_or, if_true, if_false, not_true_eq_false, not_false_eq_true, reduceCtorEq, reduceIte, h2, h1]
theorem k_cuse {a n : Nat} {K : Option Value → ix_H → Prop} (ha : a < 4) (hb : c.1 (pC a) 3 = nI n) (hn : n ≤ 4) : Cl xs L 43 [.ref (pC a)] (hh c s) K ↔ K (some (.int (if cl_live c a n = 0 then 0 else 1))) (hh c s) := Cl_of xs L (x_cuse ha hb hn)
def cl_ref (c : CM) (a : Nat) (w : Int32) : CM := sv_fail (cI c (pC a) 3 0) a w
set_option maxRecDepth 20000 in
set_option maxHeartbeats 2000000 in
theorem x_cref {a : Nat} {w : Int32} (ha : a < 4) : Ex xs L 45 [.ref (pC a), .int w] (hh c s) (none, hh (cl_ref c a w) s) := by
  refine Ex_of xs L rfl ?_
  show Ev xs L _ (0, [.ref (pC a), .int w], [], hh c s) _
  simp only [e_45_0, e_45_1, e_45_2, e_45_5, e_45_6, e_45_9, e_45_10, e_45_13, TC ha, RCs ha, TS ha, sI_lo (lt_C ha), k_saf ha, tl_s, tl_n, rf_s, rf_n, cs_nil, cs_cons, cat_r, cat_i, cat_l, cat_n, cat_a, Nat.reduceAdd, Nat.reduceMul, Nat.reduceLeDiff, Nat.reduceEqDiff, Nat.reduceLT, and_self, and_true, true_and, and_false, false_and, or_true, true_or, or_false, false_or, if_true, if_false, not_true_eq_false, not_false_eq_true, reduceCtorEq, reduceIte, cl_ref]
theorem k_cref {a : Nat} {w : Int32} {K : Option Value → ix_H → Prop} (ha : a < 4) : Cl xs L 45 [.ref (pC a), .int w] (hh c s) K ↔ K none (hh (cl_ref c a w) s) := Cl_of xs L (x_cref ha)
-- all open branches are wanted to end
def cl_co (a : Nat) : Nat → Nat → CM → CM
  | 0, _, c => c
  | d + 1, i, c => cl_co a d (i + 1) (@ite _ (b_op c a i) (b_opD c a i) (b_want c a i) c)
theorem want_o (c : CM) (a i q j : Nat) (h1 : ¬ q = pB a i) (h2 : ∀ k, k < 6 → ¬ q = pT a i k) (h3 : ¬ q = 2) : (b_want c a i).1 q j = c.1 q j := by
  unfold b_want
  have e2 := h2 2 (by decide)
  have e4 := h2 4 (by decide)
  have e5 := h2 5 (by decide)
  split
  · split
    · simp only [set_at, stop_t, add_at, cI_at, h1, h3, e2, e4, e5, false_and, if_false]
    · simp only [cI_at, h1, false_and, if_false]
  · simp only [cI_at, h1, false_and, if_false]
theorem want_C (c : CM) (a i j : Nat) : (b_want c a i).1 (pC a) j = c.1 (pC a) j := want_o c a i _ j (fun q => by rw [nCB] at q; exact q) (fun k _ q => by rw [nCT] at q; exact q) (fun q => by rw [nC2] at q; exact q)
set_option maxRecDepth 20000 in
set_option maxHeartbeats 2000000 in
theorem x_col {o : ix_O} {a n : Nat} (ha : a < 4) (hn : n ≤ 4) : ∀ (d i : Nat) (c : CM), c.1 (pC a) 3 = nI n → i + d = n → (Ev xs L 47 (2, [.ref (pC a), .int (nI i)], [], hh c s) o ↔ o = (none, hh (cl_co a d i c) s)) := by
  intro d
  induction d with
  | zero =>
    intro i c hb hi
    obtain rfl : i = n := by omega
    simp only [e_47_2, e_47_3, e_47_4, e_47_7, e_47_37, TC ha, I_lo (lt_C ha), hb, tl_s, tl_n, rf_s, rf_n, cs_nil, cs_cons, cat_r, cat_i, cat_l, cat_n, cat_a, Nat.reduceAdd, Nat.reduceMul, Nat.reduceLeDiff, Nat.reduceEqDiff, Nat.reduceLT, and_self, and_true, true_and, and_false, false_and, or_true, true_or, or_false, false_or, if_true, if_false, not_true_eq_false, not_false_eq_true, reduceCtorEq, reduceIte, le_rf, cl_co]
  | succ d ih =>
    intro i c hb hi
    have hi4 : i < 4 := by omega
    have hlt := nle (show i < n by omega) hn
    rw [e_47_2]
    simp only [cl_co]
    by_cases h1 : b_op c a i
    · have hz := @zb_t _ (b_opD c a i) h1
      rw [@if_pos _ (b_opD c a i) h1]
      simp only [e_47_3, e_47_4, e_47_7, e_47_10, e_47_11, e_47_14, e_47_15t106, e_47_27t106, e_47_16, e_47_19, e_47_22, e_47_23, e_47_26, e_47_28, e_47_31, e_47_34, k_bop ha hi4, k_bwant ha hi4, hz, TC ha, RCa ha, TA ha, LA ha, RA ha hi4, TB ha hi4, I_lo (lt_C ha), in4 hi4, cl_4 hi4, hb, hlt, tl_s, tl_n, rf_s, rf_n, cs_nil, cs_cons, cat_r, cat_i, cat_l, cat_n, cat_a, Nat.reduceAdd, Nat.reduceMul, Nat.reduceLeDiff, Nat.reduceEqDiff, Nat.reduceLT, and_self, and_true, true_and, and_false, false_and, or_true, true_or, or_false, false_or, if_true, if_false, not_true_eq_false, not_false_eq_true, reduceCtorEq, reduceIte, q_0_1, q_0_2, q_0_3, q_0_4, q_0_5, q_0_6, q_1_0, q_1_2, q_1_3, q_1_4, q_1_5, q_1_6, q_2_0, q_2_1, q_2_3, q_2_4, q_2_5, q_2_6, q_3_0, q_3_1, q_3_2, q_3_4, q_3_5, q_3_6, q_4_0, q_4_1, q_4_2, q_4_3, q_4_5, q_4_6, q_5_0, q_5_1, q_5_2, q_5_3, q_5_4, q_5_6, q_6_0, q_6_1, q_6_2, q_6_3, q_6_4, q_6_5, ad1]
      exact ih (i + 1) _ (by rw [want_C]; exact hb) (by omega)
    · have hz := @zb_f _ (b_opD c a i) h1
      rw [@if_neg _ (b_opD c a i) h1]
      simp only [e_47_3, e_47_4, e_47_7, e_47_10, e_47_11, e_47_14, e_47_15t106, e_47_27t106, e_47_16, e_47_19, e_47_22, e_47_23, e_47_26, e_47_28, e_47_31, e_47_34, k_bop ha hi4, hz, TC ha, RCa ha, TA ha, LA ha, RA ha hi4, TB ha hi4, I_lo (lt_C ha), in4 hi4, cl_4 hi4, hb, hlt, tl_s, tl_n, rf_s, rf_n, cs_nil, cs_cons, cat_r, cat_i, cat_l, cat_n, cat_a, Nat.reduceAdd, Nat.reduceMul, Nat.reduceLeDiff, Nat.reduceEqDiff, Nat.reduceLT, and_self, and_true, true_and, and_false, false_and, or_true, true_or, or_false, false_or, if_true, if_false, not_true_eq_false, not_false_eq_true, reduceCtorEq, reduceIte, ad1]
      exact ih (i + 1) _ hb (by omega)
set_option maxRecDepth 20000 in
set_option maxHeartbeats 2000000 in
theorem x_cco {a n : Nat} (ha : a < 4) (hb : c.1 (pC a) 3 = nI n) (hn : n ≤ 4) : Ex xs L 47 [.ref (pC a)] (hh c s) (none, hh (cl_co a n 0 c) s) := by
  refine Ex_of xs L rfl ?_
  show Ev xs L _ (0, [.ref (pC a), .retAddr 1], [], hh c s) _
  simp only [e_47_0, e_47_1]
  exact (x_col ha hn n 0 c hb (by omega)).mpr rfl
theorem k_cco {a n : Nat} {K : Option Value → ix_H → Prop} (ha : a < 4) (hb : c.1 (pC a) 3 = nI n) (hn : n ≤ 4) : Cl xs L 47 [.ref (pC a)] (hh c s) K ↔ K none (hh (cl_co a n 0 c) s) := Cl_of xs L (x_cco ha hb hn)
def cl_cnt (c : CM) (a i : Nat) : CM := cI (cI c (pC a) 4 (c.1 (pC a) 4 + 1)) (pB a i) 15 (c.1 (pC a) 4 + 1)
set_option maxRecDepth 20000 in
set_option maxHeartbeats 2000000 in
theorem x_ccnt {a i : Nat} (ha : a < 4) (hi : i < 4) : Ex xs L 52 [.ref (pC a), .ref (pB a i)] (hh c s) (none, hh (cl_cnt c a i) s) := by
  refine Ex_of xs L rfl ?_
  show Ev xs L _ (0, [.ref (pC a), .ref (pB a i)], [], hh c s) _
  simp only [e_52_0, e_52_1, e_52_2, e_52_5, e_52_6, e_52_7, e_52_10, e_52_10n, e_52_11, e_52_12, e_52_15, e_52_18, TC ha, TB ha hi, I_lo (lt_C ha), sI_lo (lt_C ha), sI_lo (lt_B ha hi), cI_at, tl_s, tl_n, rf_s, rf_n, cs_nil, cs_cons, cat_r, cat_i, cat_l, cat_n, cat_a, Nat.reduceAdd, Nat.reduceMul, Nat.reduceLeDiff, Nat.reduceEqDiff, Nat.reduceLT, and_self, and_true, true_and, and_false, false_and, or_true, true_or, or_false, false_or, if_true, if_false, not_true_eq_false, not_false_eq_true, reduceCtorEq, reduceIte, cl_cnt]
theorem k_ccnt {a i : Nat} {K : Option Value → ix_H → Prop} (ha : a < 4) (hi : i < 4) : Cl xs L 52 [.ref (pC a), .ref (pB a i)] (hh c s) K ↔ K none (hh (cl_cnt c a i) s) := Cl_of xs L (x_ccnt ha hi)
-- the best outcome
def cl_gr (w : Int32) : Int32 := if w < 600 then @ite _ (m_known w) (m_knownD w) 8 (2 * (w / 100) + 1) else 0
set_option maxRecDepth 20000 in
set_option maxHeartbeats 2000000 in
theorem x_gr {w : Int32} : Ex xs L 56 [.int w] h (some (.int (cl_gr w)), h) := by
  refine Ex_of xs L rfl ?_
  show Ev xs L _ (0, [.int w], [], h) _
  unfold cl_gr
  by_cases h1 : w < 600
  · rw [if_pos h1]
    by_cases k0 : w = 401
    · subst k0
      rw [@if_pos _ (m_knownD 401) (Or.inl rfl)]
      simp only [e_56_0, e_56_1, e_56_4, e_56_7, e_56_8, e_56_9, e_56_10c401, e_56_10c407, e_56_10c415, e_56_10c420, e_56_10c484, e_56_10d, e_56_60, e_56_62, e_56_63, e_56_64, e_56_65, e_56_67, e_56_68, e_56_69, e_56_70, e_56_71, tl_s, tl_n, rf_s, rf_n, cs_nil, cs_cons, cat_r, cat_i, cat_l, cat_n, cat_a, Nat.reduceAdd, Nat.reduceMul, Nat.reduceLeDiff, Nat.reduceEqDiff, Nat.reduceLT, and_self, and_true, true_and, and_false, false_and, or_true, true_or, or_false, false_or, if_true, if_false, not_true_eq_false, not_false_eq_true, reduceCtorEq, reduceIte, Int32.reduceLT]
    by_cases k1 : w = 407
    · subst k1
      rw [@if_pos _ (m_knownD 407) (Or.inr (Or.inl rfl))]
      simp only [e_56_0, e_56_1, e_56_4, e_56_7, e_56_8, e_56_9, e_56_10c401, e_56_10c407, e_56_10c415, e_56_10c420, e_56_10c484, e_56_10d, e_56_60, e_56_62, e_56_63, e_56_64, e_56_65, e_56_67, e_56_68, e_56_69, e_56_70, e_56_71, tl_s, tl_n, rf_s, rf_n, cs_nil, cs_cons, cat_r, cat_i, cat_l, cat_n, cat_a, Nat.reduceAdd, Nat.reduceMul, Nat.reduceLeDiff, Nat.reduceEqDiff, Nat.reduceLT, and_self, and_true, true_and, and_false, false_and, or_true, true_or, or_false, false_or, if_true, if_false, not_true_eq_false, not_false_eq_true, reduceCtorEq, reduceIte, Int32.reduceLT]
    by_cases k2 : w = 415
    · subst k2
      rw [@if_pos _ (m_knownD 415) (Or.inr (Or.inr (Or.inl rfl)))]
      simp only [e_56_0, e_56_1, e_56_4, e_56_7, e_56_8, e_56_9, e_56_10c401, e_56_10c407, e_56_10c415, e_56_10c420, e_56_10c484, e_56_10d, e_56_60, e_56_62, e_56_63, e_56_64, e_56_65, e_56_67, e_56_68, e_56_69, e_56_70, e_56_71, tl_s, tl_n, rf_s, rf_n, cs_nil, cs_cons, cat_r, cat_i, cat_l, cat_n, cat_a, Nat.reduceAdd, Nat.reduceMul, Nat.reduceLeDiff, Nat.reduceEqDiff, Nat.reduceLT, and_self, and_true, true_and, and_false, false_and, or_true, true_or, or_false, false_or, if_true, if_false, not_true_eq_false, not_false_eq_true, reduceCtorEq, reduceIte, Int32.reduceLT]
    by_cases k3 : w = 420
    · subst k3
      rw [@if_pos _ (m_knownD 420) (Or.inr (Or.inr (Or.inr (Or.inl rfl))))]
      simp only [e_56_0, e_56_1, e_56_4, e_56_7, e_56_8, e_56_9, e_56_10c401, e_56_10c407, e_56_10c415, e_56_10c420, e_56_10c484, e_56_10d, e_56_60, e_56_62, e_56_63, e_56_64, e_56_65, e_56_67, e_56_68, e_56_69, e_56_70, e_56_71, tl_s, tl_n, rf_s, rf_n, cs_nil, cs_cons, cat_r, cat_i, cat_l, cat_n, cat_a, Nat.reduceAdd, Nat.reduceMul, Nat.reduceLeDiff, Nat.reduceEqDiff, Nat.reduceLT, and_self, and_true, true_and, and_false, false_and, or_true, true_or, or_false, false_or, if_true, if_false, not_true_eq_false, not_false_eq_true, reduceCtorEq, reduceIte, Int32.reduceLT]
    by_cases k4 : w = 484
    · subst k4
      rw [@if_pos _ (m_knownD 484) (Or.inr (Or.inr (Or.inr (Or.inr rfl))))]
      simp only [e_56_0, e_56_1, e_56_4, e_56_7, e_56_8, e_56_9, e_56_10c401, e_56_10c407, e_56_10c415, e_56_10c420, e_56_10c484, e_56_10d, e_56_60, e_56_62, e_56_63, e_56_64, e_56_65, e_56_67, e_56_68, e_56_69, e_56_70, e_56_71, tl_s, tl_n, rf_s, rf_n, cs_nil, cs_cons, cat_r, cat_i, cat_l, cat_n, cat_a, Nat.reduceAdd, Nat.reduceMul, Nat.reduceLeDiff, Nat.reduceEqDiff, Nat.reduceLT, and_self, and_true, true_and, and_false, false_and, or_true, true_or, or_false, false_or, if_true, if_false, not_true_eq_false, not_false_eq_true, reduceCtorEq, reduceIte, Int32.reduceLT]
    rw [@if_neg _ (m_knownD w) (fun q => by rcases q with q | q | q | q | q <;> contradiction)]
    simp only [e_56_0, e_56_1, e_56_4, e_56_7, e_56_8, e_56_9, e_56_10c401, e_56_10c407, e_56_10c415, e_56_10c420, e_56_10c484, e_56_10d, e_56_60, e_56_62, e_56_63, e_56_64, e_56_65, e_56_67, e_56_68, e_56_69, e_56_70, e_56_71, tl_s, tl_n, rf_s, rf_n, cs_nil, cs_cons, cat_r, cat_i, cat_l, cat_n, cat_a, Nat.reduceAdd, Nat.reduceMul, Nat.reduceLeDiff, Nat.reduceEqDiff, Nat.reduceLT, and_self, and_true, true_and, and_false, false_and, or_true, true_or, or_false, false_or, if_true, if_false, not_true_eq_false, not_false_eq_true, reduceCtorEq, reduceIte, n100, h1, k0, k1, k2, k3, k4]
  · simp only [e_56_0, e_56_1, e_56_4, e_56_7, e_56_8, tl_s, tl_n, rf_s, rf_n, cs_nil, cs_cons, cat_r, cat_i, cat_l, cat_n, cat_a, Nat.reduceAdd, Nat.reduceMul, Nat.reduceLeDiff, Nat.reduceEqDiff, Nat.reduceLT, and_self, and_true, true_and, and_false, false_and, or_true, true_or, or_false, false_or, if_true, if_false, not_true_eq_false, not_false_eq_true, reduceCtorEq, reduceIte, h1]
theorem k_gr {w : Int32} {K : Option Value → ix_H → Prop} : Cl xs L 56 [.int w] h K ↔ K (some (.int (cl_gr w))) h := Cl_of xs L x_gr
def cl_bt (c : CM) (a i j : Nat) : Prop := cl_gr (c.1 (pB a i) 14) - cl_gr (c.1 (pB a j) 14) < 0 ∨ (cl_gr (c.1 (pB a i) 14) - cl_gr (c.1 (pB a j) 14) = 0 ∧ ¬ c.1 (pB a j) 15 ≤ c.1 (pB a i) 15)
def cl_btD (c : CM) (a i j : Nat) : Decidable (cl_bt c a i j) := inferInstanceAs (Decidable (_ ∨ (_ ∧ _)))
set_option maxRecDepth 20000 in
set_option maxHeartbeats 2000000 in
theorem x_bt {a i j : Nat} (ha : a < 4) (hi : i < 4) (hj : j < 4) : Ex xs L 55 [.ref (pB a i), .ref (pB a j)] (hh c s) (some (.int (@zb _ (cl_btD c a i j))), hh c s) := by
  refine Ex_of xs L rfl ?_
  show Ev xs L _ (0, [.ref (pB a i), .ref (pB a j), .retAddr 1], [], hh c s) _
  by_cases h1 : cl_gr (c.1 (pB a i) 14) - cl_gr (c.1 (pB a j) 14) < 0
  · rw [@zb_t _ (cl_btD c a i j) (Or.inl h1)]
    simp only [e_55_0, e_55_0n, e_55_1, e_55_4, e_55_7, e_55_7n, e_55_8, e_55_11, e_55_14, e_55_15, e_55_16, e_55_17, e_55_20, e_55_21, e_55_24, e_55_24n, e_55_25, e_55_28, e_55_28n, e_55_29, e_55_32, e_55_35, e_55_36, e_55_39, e_55_40, k_gr, TB ha hi, TB ha hj, I_lo (lt_B ha hi), I_lo (lt_B ha hj), tl_s, tl_n, rf_s, rf_n, cs_nil, cs_cons, cat_r, cat_i, cat_l, cat_n, cat_a, Nat.reduceAdd, Nat.reduceMul, Nat.reduceLeDiff, Nat.reduceEqDiff, Nat.reduceLT, and_self, and_true, true_and, and_false, false_and, or_true, true_or, or_false, false_or, if_true, if_false, not_true_eq_false, not_false_eq_true, reduceCtorEq, reduceIte, eq_true h1]
  · by_cases h2 : cl_gr (c.1 (pB a i) 14) - cl_gr (c.1 (pB a j) 14) = 0
    · by_cases h3 : c.1 (pB a j) 15 ≤ c.1 (pB a i) 15
      · rw [@zb_f _ (cl_btD c a i j) (fun q => q.elim h1 (fun q => q.2 h3))]
        simp only [e_55_0, e_55_0n, e_55_1, e_55_4, e_55_7, e_55_7n, e_55_8, e_55_11, e_55_14, e_55_15, e_55_16, e_55_17, e_55_20, e_55_21, e_55_24, e_55_24n, e_55_25, e_55_28, e_55_28n, e_55_29, e_55_32, e_55_35, e_55_36, e_55_39, e_55_40, k_gr, TB ha hi, TB ha hj, I_lo (lt_B ha hi), I_lo (lt_B ha hj), tl_s, tl_n, rf_s, rf_n, cs_nil, cs_cons, cat_r, cat_i, cat_l, cat_n, cat_a, Nat.reduceAdd, Nat.reduceMul, Nat.reduceLeDiff, Nat.reduceEqDiff, Nat.reduceLT, and_self, and_true, true_and, and_false, false_and, or_true, true_or, or_false, false_or, if_true, if_false, not_true_eq_false, not_false_eq_true, reduceCtorEq, reduceIte, h1, eq_true h2, eq_true h3]
      · rw [@zb_t _ (cl_btD c a i j) (Or.inr ⟨h2, h3⟩)]
        simp only [e_55_0, e_55_0n, e_55_1, e_55_4, e_55_7, e_55_7n, e_55_8, e_55_11, e_55_14, e_55_15, e_55_16, e_55_17, e_55_20, e_55_21, e_55_24, e_55_24n, e_55_25, e_55_28, e_55_28n, e_55_29, e_55_32, e_55_35, e_55_36, e_55_39, e_55_40, k_gr, TB ha hi, TB ha hj, I_lo (lt_B ha hi), I_lo (lt_B ha hj), tl_s, tl_n, rf_s, rf_n, cs_nil, cs_cons, cat_r, cat_i, cat_l, cat_n, cat_a, Nat.reduceAdd, Nat.reduceMul, Nat.reduceLeDiff, Nat.reduceEqDiff, Nat.reduceLT, and_self, and_true, true_and, and_false, false_and, or_true, true_or, or_false, false_or, if_true, if_false, not_true_eq_false, not_false_eq_true, reduceCtorEq, reduceIte, h1, eq_true h2, h3]
    · rw [@zb_f _ (cl_btD c a i j) (fun q => q.elim h1 (fun q => h2 q.1))]
      simp only [e_55_0, e_55_0n, e_55_1, e_55_4, e_55_7, e_55_7n, e_55_8, e_55_11, e_55_14, e_55_15, e_55_16, e_55_17, e_55_20, e_55_21, e_55_24, e_55_24n, e_55_25, e_55_28, e_55_28n, e_55_29, e_55_32, e_55_35, e_55_36, e_55_39, e_55_40, k_gr, TB ha hi, TB ha hj, I_lo (lt_B ha hi), I_lo (lt_B ha hj), tl_s, tl_n, rf_s, rf_n, cs_nil, cs_cons, cat_r, cat_i, cat_l, cat_n, cat_a, Nat.reduceAdd, Nat.reduceMul, Nat.reduceLeDiff, Nat.reduceEqDiff, Nat.reduceLT, and_self, and_true, true_and, and_false, false_and, or_true, true_or, or_false, false_or, if_true, if_false, not_true_eq_false, not_false_eq_true, reduceCtorEq, reduceIte, h1, h2]
theorem k_bt {a i j : Nat} {K : Option Value → ix_H → Prop} (ha : a < 4) (hi : i < 4) (hj : j < 4) : Cl xs L 55 [.ref (pB a i), .ref (pB a j)] (hh c s) K ↔ K (some (.int (@zb _ (cl_btD c a i j)))) (hh c s) := Cl_of xs L (x_bt ha hi hj)
def cl_bst (c : CM) (a : Nat) : Nat → Nat → Nat → Nat
  | 0, _, b => b
  | d + 1, i, b => cl_bst c a d (i + 1) (@ite _ (cl_bt c a i b) (cl_btD c a i b) i b)
theorem cl_bst_lt (c : CM) (a : Nat) : ∀ (d i b : Nat), i + d ≤ 4 → b < 4 → cl_bst c a d i b < 4 := by
  intro d
  induction d with
  | zero => intro i b _ hb; exact hb
  | succ d ih =>
    intro i b hi hb
    simp only [cl_bst]
    apply ih _ _ (by omega)
    split
    · omega
    · exact hb
set_option maxRecDepth 20000 in
set_option maxHeartbeats 2000000 in
theorem x_bstl {o : ix_O} {a n : Nat} (ha : a < 4) (hb : c.1 (pC a) 3 = nI n) (hn : n ≤ 4) : ∀ (d i b : Nat), i + d = max n 1 → 1 ≤ i → b < 4 → (Ev xs L 54 (9, [.ref (pC a), .ref (pB a b), .int (nI i)], [], hh c s) o ↔ o = (some (.int (c.1 (pB a (cl_bst c a d i b)) 14)), hh c s)) := by
  intro d
  induction d with
  | zero =>
    intro i b hi h1i hb4
    have hle : (nI n ≤ nI i) = True := eq_true (nI_le (by omega) (by omega))
    simp only [e_54_9, e_54_10, e_54_11, e_54_14, e_54_43, e_54_43n, e_54_44, e_54_47, TC ha, I_lo (lt_C ha), TB ha hb4, I_lo (lt_B ha hb4), hb, tl_s, tl_n, rf_s, rf_n, cs_nil, cs_cons, cat_r, cat_i, cat_l, cat_n, cat_a, Nat.reduceAdd, Nat.reduceMul, Nat.reduceLeDiff, Nat.reduceEqDiff, Nat.reduceLT, and_self, and_true, true_and, and_false, false_and, or_true, true_or, or_false, false_or, if_true, if_false, not_true_eq_false, not_false_eq_true, reduceCtorEq, reduceIte, hle, cl_bst]
  | succ d ih =>
    intro i b hi h1i hb4
    have hi4 : i < 4 := by omega
    have hlt := nle (show i < n by omega) hn
    rw [e_54_9]
    simp only [cl_bst]
    by_cases h1 : cl_bt c a i b
    · have hz := @zb_t _ (cl_btD c a i b) h1
      rw [@if_pos _ (cl_btD c a i b) h1]
      simp only [e_54_10, e_54_11, e_54_14, e_54_17, e_54_18, e_54_21, e_54_5t106, e_54_22t106, e_54_35t106, e_54_23, e_54_23n, e_54_24, e_54_27, e_54_30, e_54_31, e_54_34, e_54_36, e_54_36n, e_54_37, e_54_40, k_bt ha hi4 hb4, hz, TC ha, RCa ha, TA ha, LA ha, RA ha hi4, I_lo (lt_C ha), in4 hi4, cl_4 hi4, hb, hlt, tl_s, tl_n, rf_s, rf_n, cs_nil, cs_cons, cat_r, cat_i, cat_l, cat_n, cat_a, Nat.reduceAdd, Nat.reduceMul, Nat.reduceLeDiff, Nat.reduceEqDiff, Nat.reduceLT, and_self, and_true, true_and, and_false, false_and, or_true, true_or, or_false, false_or, if_true, if_false, not_true_eq_false, not_false_eq_true, reduceCtorEq, reduceIte, q_0_1, q_0_2, q_0_3, q_0_4, q_0_5, q_0_6, q_1_0, q_1_2, q_1_3, q_1_4, q_1_5, q_1_6, q_2_0, q_2_1, q_2_3, q_2_4, q_2_5, q_2_6, q_3_0, q_3_1, q_3_2, q_3_4, q_3_5, q_3_6, q_4_0, q_4_1, q_4_2, q_4_3, q_4_5, q_4_6, q_5_0, q_5_1, q_5_2, q_5_3, q_5_4, q_5_6, q_6_0, q_6_1, q_6_2, q_6_3, q_6_4, q_6_5, ad1]
      exact ih (i + 1) i (by omega) (by omega) hi4
    · have hz := @zb_f _ (cl_btD c a i b) h1
      rw [@if_neg _ (cl_btD c a i b) h1]
      simp only [e_54_10, e_54_11, e_54_14, e_54_17, e_54_18, e_54_21, e_54_5t106, e_54_22t106, e_54_35t106, e_54_23, e_54_23n, e_54_24, e_54_27, e_54_30, e_54_31, e_54_34, e_54_36, e_54_36n, e_54_37, e_54_40, k_bt ha hi4 hb4, hz, TC ha, RCa ha, TA ha, LA ha, RA ha hi4, I_lo (lt_C ha), in4 hi4, cl_4 hi4, hb, hlt, tl_s, tl_n, rf_s, rf_n, cs_nil, cs_cons, cat_r, cat_i, cat_l, cat_n, cat_a, Nat.reduceAdd, Nat.reduceMul, Nat.reduceLeDiff, Nat.reduceEqDiff, Nat.reduceLT, and_self, and_true, true_and, and_false, false_and, or_true, true_or, or_false, false_or, if_true, if_false, not_true_eq_false, not_false_eq_true, reduceCtorEq, reduceIte, ad1]
      exact ih (i + 1) b (by omega) (by omega) hb4
def cl_best (c : CM) (a n : Nat) : Int32 := c.1 (pB a (cl_bst c a (n - 1) 1 0)) 14
set_option maxRecDepth 20000 in
set_option maxHeartbeats 2000000 in
theorem x_cbst {a n : Nat} (ha : a < 4) (hb : c.1 (pC a) 3 = nI n) (hn : n ≤ 4) : Ex xs L 54 [.ref (pC a)] (hh c s) (some (.int (cl_best c a n)), hh c s) := by
  refine Ex_of xs L rfl ?_
  show Ev xs L _ (0, [.ref (pC a), .retAddr 1, .retAddr 1], [], hh c s) _
  have i0 : vp_in 0 4 := in4 (i := 0) (by decide)
  have c0 : (0 : Int32).toNatClampNeg = 0 := by decide
  simp only [e_54_0, e_54_1, e_54_4, e_54_5t106, e_54_22t106, e_54_35t106, e_54_6, e_54_6n, e_54_7, e_54_8, TC ha, RCa ha, TA ha, LA ha, RA ha (show 0 < 4 by decide), i0, c0, tl_s, tl_n, rf_s, rf_n, cs_nil, cs_cons, cat_r, cat_i, cat_l, cat_n, cat_a, Nat.reduceAdd, Nat.reduceMul, Nat.reduceLeDiff, Nat.reduceEqDiff, Nat.reduceLT, and_self, and_true, true_and, and_false, false_and, or_true, true_or, or_false, false_or, if_true, if_false, not_true_eq_false, not_false_eq_true, reduceCtorEq, reduceIte]
  exact (x_bstl ha hb hn (n - 1) 1 0 (by omega) (by omega) (by omega)).mpr rfl
theorem k_cbst {a n : Nat} {K : Option Value → ix_H → Prop} (ha : a < 4) (hb : c.1 (pC a) 3 = nI n) (hn : n ≤ 4) : Cl xs L 54 [.ref (pC a)] (hh c s) K ↔ K (some (.int (cl_best c a n))) (hh c s) := Cl_of xs L (x_cbst ha hb hn)
def cl_all (c : CM) (a n : Nat) : CM := if c.1 (pS a) 7 = 1 then (if c.1 (pC a) 4 = c.1 (pC a) 3 then sv_fail c a (if cl_best c a n = 503 then 500 else cl_best c a n) else c) else c
set_option maxRecDepth 20000 in
set_option maxHeartbeats 2000000 in
theorem x_call {a n : Nat} (ha : a < 4) (hb : c.1 (pC a) 3 = nI n) (hn : n ≤ 4) : Ex xs L 53 [.ref (pC a)] (hh c s) (none, hh (cl_all c a n) s) := by
  refine Ex_of xs L rfl ?_
  show Ev xs L _ (0, [.ref (pC a), .retAddr 1], [], hh c s) _
  unfold cl_all
  by_cases h1 : c.1 (pS a) 7 = 1
  · by_cases h2 : c.1 (pC a) 4 = c.1 (pC a) 3
    · by_cases h3 : cl_best c a n = 503
      · simp only [e_53_0, e_53_1, e_53_4, e_53_7, e_53_8, e_53_11, e_53_12, e_53_15, e_53_16, e_53_19, e_53_22, e_53_23, e_53_26, e_53_27, e_53_28, e_53_31, e_53_32, e_53_35, e_53_38, e_53_41, e_53_44, e_53_45, e_53_48, k_cbst ha hb hn, k_saf ha, TC ha, RCs ha, TS ha, I_lo (lt_C ha), I_lo (lt_S ha), tl_s, tl_n, rf_s, rf_n, cs_nil, cs_cons, cat_r, cat_i, cat_l, cat_n, cat_a, Nat.reduceAdd, Nat.reduceMul, Nat.reduceLeDiff, Nat.reduceEqDiff, Nat.reduceLT, and_self, and_true, true_and, and_false, false_and, or_true, true_or, or_false, false_or, if_true, if_false, not_true_eq_false, not_false_eq_true, reduceCtorEq, reduceIte, eq_true h1, eq_true h2, eq_true h3]
      · simp only [e_53_0, e_53_1, e_53_4, e_53_7, e_53_8, e_53_11, e_53_12, e_53_15, e_53_16, e_53_19, e_53_22, e_53_23, e_53_26, e_53_27, e_53_28, e_53_31, e_53_32, e_53_35, e_53_38, e_53_41, e_53_44, e_53_45, e_53_48, k_cbst ha hb hn, k_saf ha, TC ha, RCs ha, TS ha, I_lo (lt_C ha), I_lo (lt_S ha), tl_s, tl_n, rf_s, rf_n, cs_nil, cs_cons, cat_r, cat_i, cat_l, cat_n, cat_a, Nat.reduceAdd, Nat.reduceMul, Nat.reduceLeDiff, Nat.reduceEqDiff, Nat.reduceLT, and_self, and_true, true_and, and_false, false_and, or_true, true_or, or_false, false_or, if_true, if_false, not_true_eq_false, not_false_eq_true, reduceCtorEq, reduceIte, eq_true h1, eq_true h2, h3]
    · simp only [e_53_0, e_53_1, e_53_4, e_53_7, e_53_8, e_53_11, e_53_12, e_53_15, e_53_16, e_53_19, e_53_22, e_53_23, e_53_26, e_53_27, e_53_28, e_53_31, e_53_32, e_53_35, e_53_38, e_53_41, e_53_44, e_53_45, e_53_48, TC ha, RCs ha, TS ha, I_lo (lt_C ha), I_lo (lt_S ha), tl_s, tl_n, rf_s, rf_n, cs_nil, cs_cons, cat_r, cat_i, cat_l, cat_n, cat_a, Nat.reduceAdd, Nat.reduceMul, Nat.reduceLeDiff, Nat.reduceEqDiff, Nat.reduceLT, and_self, and_true, true_and, and_false, false_and, or_true, true_or, or_false, false_or, if_true, if_false, not_true_eq_false, not_false_eq_true, reduceCtorEq, reduceIte, eq_true h1, h2]
  · simp only [e_53_0, e_53_1, e_53_4, e_53_7, e_53_8, e_53_11, e_53_12, e_53_15, e_53_16, e_53_19, e_53_22, e_53_23, e_53_26, e_53_27, e_53_28, e_53_31, e_53_32, e_53_35, e_53_38, e_53_41, e_53_44, e_53_45, e_53_48, TC ha, RCs ha, TS ha, I_lo (lt_C ha), I_lo (lt_S ha), tl_s, tl_n, rf_s, rf_n, cs_nil, cs_cons, cat_r, cat_i, cat_l, cat_n, cat_a, Nat.reduceAdd, Nat.reduceMul, Nat.reduceLeDiff, Nat.reduceEqDiff, Nat.reduceLT, and_self, and_true, true_and, and_false, false_and, or_true, true_or, or_false, false_or, if_true, if_false, not_true_eq_false, not_false_eq_true, reduceCtorEq, reduceIte, h1]
theorem k_call {a n : Nat} {K : Option Value → ix_H → Prop} (ha : a < 4) (hb : c.1 (pC a) 3 = nI n) (hn : n ≤ 4) : Cl xs L 53 [.ref (pC a)] (hh c s) K ↔ K none (hh (cl_all c a n) s) := Cl_of xs L (x_call ha hb hn)
end CL
