section CL
variable {xs : Nat → Int32} {L : Nat} {h : ix_H} {c : CM} {s : MM}
-- the call's own fields stay
theorem cc_tell (c : CM) (a : Nat) (w : Int32) (j : Nat) : (sv_tell c a w).1 (pC a) j = c.1 (pC a) j := by
  unfold sv_tell
  simp only [n1S, n1G, n1B, n1T, n2S, n2G, n2B, n2T, nS1, nG1, nB1, nT1, nS2, nG2, nB2, nT2, nSG, nGS, nBT, nTB, n12, n21, nC1, nC2, n1C, n2C, nCS, nSC, nCG, nGC, nCB, nBC, nCT, nTC, nSB, nBS, nST, cI_at, set_at, stop_t, add_at, false_and, if_false]
theorem cc_smv (c : CM) (a : Nat) (v : Int32) (j : Nat) : (sv_mv c a v).1 (pC a) j = c.1 (pC a) j := smv_at c a v _ j (fun q => by rw [nCS] at q; exact q.1) (fun k _ q => by rw [nCG] at q; exact q.1)
theorem cc_set (c : CM) (a k : Nat) (x : Int32) (j : Nat) : (tq_set c (pG a k) x).1 (pC a) j = c.1 (pC a) j := by
  simp only [n1S, n1G, n1B, n1T, n2S, n2G, n2B, n2T, nS1, nG1, nB1, nT1, nS2, nG2, nB2, nT2, nSG, nGS, nBT, nTB, n12, n21, nC1, nC2, n1C, n2C, nCS, nSC, nCG, nGC, nCB, nBC, nCT, nTC, nSB, nBS, nST, cI_at, set_at, stop_t, add_at, false_and, if_false]
theorem cc_fail (c : CM) (a : Nat) (w : Int32) (j : Nat) : (sv_fail c a w).1 (pC a) j = c.1 (pC a) j := by
  unfold sv_fail
  rw [cc_set, cc_set, cc_smv, cc_tell]
theorem cc_suc (c : CM) (a : Nat) (j : Nat) : (sv_suc c a).1 (pC a) j = c.1 (pC a) j := by
  unfold sv_suc
  rw [cc_set, cc_smv]
theorem cc_bmv (c : CM) (a i : Nat) (v : Int32) (j : Nat) : (b_mv c a i v).1 (pC a) j = c.1 (pC a) j := bmv_o c a i v _ j (fun q => by rw [nCB] at q; exact q) (fun k _ q => by rw [nCT] at q; exact q)
theorem cc_out (c : CM) (a i : Nat) (w : Int32) (j : Nat) : (b_out c a i w).1 (pC a) j = c.1 (pC a) j := by
  unfold b_out
  rw [cc_bmv]
  simp only [n1S, n1G, n1B, n1T, n2S, n2G, n2B, n2T, nS1, nG1, nB1, nT1, nS2, nG2, nB2, nT2, nSG, nGS, nBT, nTB, n12, n21, nC1, nC2, n1C, n2C, nCS, nSC, nCG, nGC, nCB, nBC, nCT, nTC, nSB, nBS, nST, cI_at, set_at, stop_t, add_at, false_and, if_false]
theorem cc_bfail (c : CM) (a i : Nat) (w : Int32) (j : Nat) : (b_fail c a i w).1 (pC a) j = c.1 (pC a) j := by
  unfold b_fail b_ack
  simp only [n1S, n1G, n1B, n1T, n2S, n2G, n2B, n2T, nS1, nG1, nB1, nT1, nS2, nG2, nB2, nT2, nSG, nGS, nBT, nTB, n12, n21, nC1, nC2, n1C, n2C, nCS, nSC, nCG, nGC, nCB, nBC, nCT, nTC, nSB, nBS, nST, cI_at, set_at, stop_t, add_at, false_and, if_false]
  rw [cc_bmv]
  simp only [n1S, n1G, n1B, n1T, n2S, n2G, n2B, n2T, nS1, nG1, nB1, nT1, nS2, nG2, nB2, nT2, nSG, nGS, nBT, nTB, n12, n21, nC1, nC2, n1C, n2C, nCS, nSC, nCG, nGC, nCB, nBC, nCT, nTC, nSB, nBS, nST, cI_at, set_at, stop_t, add_at, false_and, if_false]
theorem cc_anew (c : CM) (a i j : Nat) : (b_anew c a i).1 (pC a) j = c.1 (pC a) j := by
  unfold b_anew
  split <;> simp only [n1S, n1G, n1B, n1T, n2S, n2G, n2B, n2T, nS1, nG1, nB1, nT1, nS2, nG2, nB2, nT2, nSG, nGS, nBT, nTB, n12, n21, nC1, nC2, n1C, n2C, nCS, nSC, nCG, nGC, nCB, nBC, nCT, nTC, nSB, nBS, nST, cI_at, set_at, stop_t, add_at, false_and, if_false]
theorem cc_cnt (c : CM) (a i j : Nat) (h : ¬ j = 4) : (cl_cnt c a i).1 (pC a) j = c.1 (pC a) j := by
  unfold cl_cnt
  simp only [n1S, n1G, n1B, n1T, n2S, n2G, n2B, n2T, nS1, nG1, nB1, nT1, nS2, nG2, nB2, nT2, nSG, nGS, nBT, nTB, n12, n21, nC1, nC2, n1C, n2C, nCS, nSC, nCG, nGC, nCB, nBC, nCT, nTC, nSB, nBS, nST, cI_at, set_at, stop_t, add_at, h, false_and, and_false, if_false]
theorem cc_co (a j : Nat) : ∀ (d i : Nat) (c : CM), (cl_co a d i c).1 (pC a) j = c.1 (pC a) j := by
  intro d
  induction d with
  | zero => intro i c; rfl
  | succ d ih =>
    intro i c
    simp only [cl_co]
    rw [ih]
    split
    · exact want_C c a i j
    · rfl
theorem cc_all (c : CM) (a n j : Nat) : (cl_all c a n).1 (pC a) j = c.1 (pC a) j := by
  unfold cl_all
  split
  · split
    · exact cc_fail _ _ _ _
    · rfl
  · rfl
theorem cc_r0 (c : CM) (a i j : Nat) : (b_r0 c a i).1 (pC a) j = c.1 (pC a) j := by
  unfold b_r0
  split <;> simp only [n1S, n1G, n1B, n1T, n2S, n2G, n2B, n2T, nS1, nG1, nB1, nT1, nS2, nG2, nB2, nT2, nSG, nGS, nBT, nTB, n12, n21, nC1, nC2, n1C, n2C, nCS, nSC, nCG, nGC, nCB, nBC, nCT, nTC, nSB, nBS, nST, cI_at, set_at, stop_t, add_at, false_and, if_false]
theorem cc_r1 (c : CM) (a i j : Nat) : (b_r1 c a i).1 (pC a) j = c.1 (pC a) j := by
  unfold b_r1
  split
  · exact cc_out _ _ _ _ _
  · rfl
theorem cc_r2 (c : CM) (a i j : Nat) : (b_r2 c a i).1 (pC a) j = c.1 (pC a) j := by
  unfold b_r2
  split
  · exact want_C _ _ _ _
  · rfl
theorem cc_r3 (c : CM) (a i j : Nat) : (b_r3 c a i).1 (pC a) j = c.1 (pC a) j := by
  unfold b_r3
  split
  · exact cc_bmv _ _ _ _ _
  · rfl
theorem cc_r4 (c : CM) (a i j : Nat) : (b_r4 c a i).1 (pC a) j = c.1 (pC a) j := by
  unfold b_r4 tq_twm
  split <;> simp only [n1S, n1G, n1B, n1T, n2S, n2G, n2B, n2T, nS1, nG1, nB1, nT1, nS2, nG2, nB2, nT2, nSG, nGS, nBT, nTB, n12, n21, nC1, nC2, n1C, n2C, nCS, nSC, nCG, nGC, nCB, nBC, nCT, nTC, nSB, nBS, nST, cI_at, set_at, stop_t, add_at, false_and, if_false]
theorem cc_r5 (c : CM) (a i j : Nat) : (b_r5 c a i).1 (pC a) j = c.1 (pC a) j := by
  unfold b_r5
  split
  · exact cc_out _ _ _ _ _
  · rfl
theorem cc_run (c : CM) (a i j : Nat) : (b_run c a i).1 (pC a) j = c.1 (pC a) j := by
  unfold b_run
  rw [cc_r5, cc_r4, cc_r3, cc_r2, cc_r1, cc_r0]
theorem cc_srun (c : CM) (a j : Nat) : (sv_run c a).1 (pC a) j = c.1 (pC a) j := by
  have h0 : (sv_r0 c a).1 (pC a) j = c.1 (pC a) j := by
    unfold sv_r0 tq_twm
    split
    · rw [cc_set, cc_tell]
    · rfl
  unfold sv_run sv_r1
  split
  · rw [cc_smv, h0]
  · exact h0
-- codes
def cl_pT (c : CM) (a : Nat) (w : Int32) : CM := if c.1 (pS a) 7 = 1 then sv_tell c a w else c
def cl_pS (c : CM) (a i : Nat) : CM := if c.1 (pB a i) 12 = 0 then c else b_want c a i
def cl_prov (c : CM) (a i : Nat) (w : Int32) : CM := @ite _ (b_op c a i) (b_opD c a i) (cl_pS (if w = 100 then b_mv c a i 2 else cl_pT (b_anew (b_mv c a i 2) a i) a w) a i) c
theorem cp_S {o : ix_O} {a i : Nat} {w : Int32} (ha : a < 4) (hi : i < 4) : Ev xs L 49 (41, [.ref (pC a), .ref (pB a i), .int w], [], hh c s) o ↔ o = (none, hh (cl_pS c a i) s) := by
  unfold cl_pS
  by_cases h1 : c.1 (pB a i) 12 = 0
  · simp only [e_49_41, e_49_41n, e_49_42, e_49_45, e_49_48, e_49_48n, e_49_49, e_49_52, TB ha hi, RBc ha hi, RBl ha hi, RB0 ha hi, RB1 ha hi, RB2 ha hi, RB3 ha hi, RB4 ha hi, RB5 ha hi, T1, T2, I_lo lt1, I_lo lt2, I_lo (lt_B ha hi), sI_lo (lt_B ha hi), (tmT ha hi (show 0 < 6 by decide)).2.2.2.1, I_lo (lt_T ha hi (show 0 < 6 by decide)), (tmT ha hi (show 1 < 6 by decide)).2.2.2.1, I_lo (lt_T ha hi (show 1 < 6 by decide)), (tmT ha hi (show 2 < 6 by decide)).2.2.2.1, I_lo (lt_T ha hi (show 2 < 6 by decide)), (tmT ha hi (show 3 < 6 by decide)).2.2.2.1, I_lo (lt_T ha hi (show 3 < 6 by decide)), (tmT ha hi (show 4 < 6 by decide)).2.2.2.1, I_lo (lt_T ha hi (show 4 < 6 by decide)), (tmT ha hi (show 5 < 6 by decide)).2.2.2.1, I_lo (lt_T ha hi (show 5 < 6 by decide)), tl_s, tl_n, rf_s, rf_n, cs_nil, cs_cons, cat_r, cat_i, cat_l, cat_n, cat_a, Nat.reduceAdd, Nat.reduceMul, Nat.reduceLeDiff, Nat.reduceEqDiff, Nat.reduceLT, and_self, and_true, true_and, and_false, false_and, or_true, true_or, or_false, false_or, if_true, if_false, not_true_eq_false, not_false_eq_true, reduceCtorEq, reduceIte, eq_true h1]
  · simp only [e_49_41, e_49_41n, e_49_42, e_49_45, e_49_48, e_49_48n, e_49_49, e_49_52, k_bwant ha hi, TB ha hi, RBc ha hi, RBl ha hi, RB0 ha hi, RB1 ha hi, RB2 ha hi, RB3 ha hi, RB4 ha hi, RB5 ha hi, T1, T2, I_lo lt1, I_lo lt2, I_lo (lt_B ha hi), sI_lo (lt_B ha hi), (tmT ha hi (show 0 < 6 by decide)).2.2.2.1, I_lo (lt_T ha hi (show 0 < 6 by decide)), (tmT ha hi (show 1 < 6 by decide)).2.2.2.1, I_lo (lt_T ha hi (show 1 < 6 by decide)), (tmT ha hi (show 2 < 6 by decide)).2.2.2.1, I_lo (lt_T ha hi (show 2 < 6 by decide)), (tmT ha hi (show 3 < 6 by decide)).2.2.2.1, I_lo (lt_T ha hi (show 3 < 6 by decide)), (tmT ha hi (show 4 < 6 by decide)).2.2.2.1, I_lo (lt_T ha hi (show 4 < 6 by decide)), (tmT ha hi (show 5 < 6 by decide)).2.2.2.1, I_lo (lt_T ha hi (show 5 < 6 by decide)), tl_s, tl_n, rf_s, rf_n, cs_nil, cs_cons, cat_r, cat_i, cat_l, cat_n, cat_a, Nat.reduceAdd, Nat.reduceMul, Nat.reduceLeDiff, Nat.reduceEqDiff, Nat.reduceLT, and_self, and_true, true_and, and_false, false_and, or_true, true_or, or_false, false_or, if_true, if_false, not_true_eq_false, not_false_eq_true, reduceCtorEq, reduceIte, h1]
theorem cp_T {o : ix_O} {a i : Nat} {w : Int32} (ha : a < 4) : Ev xs L 49 (22, [.ref (pC a), .ref (pB a i), .int w], [], hh c s) o ↔ Ev xs L 49 (41, [.ref (pC a), .ref (pB a i), .int w], [], hh (cl_pT c a w) s) o := by
  unfold cl_pT
  by_cases h1 : c.1 (pS a) 7 = 1
  · simp only [e_49_22, e_49_23, e_49_26, e_49_29, e_49_30, e_49_33, e_49_34, e_49_37, e_49_38, k_stell ha, TC ha, RCs ha, TS ha, RSc ha, RSl ha, RSg ha, RSh ha, RSi ha, RSL ha, T1, T2, I_lo lt1, I_lo (lt_S ha), sI_lo (lt_S ha), I_lo lt2, (tmG ha (show 0 < 4 by decide)).2.2.2.1, (tmG ha (show 1 < 4 by decide)).2.2.2.1, (tmG ha (show 2 < 4 by decide)).2.2.2.1, (tmG ha (show 3 < 4 by decide)).2.2.2.1, I_lo (lt_G ha (show 0 < 4 by decide)), I_lo (lt_G ha (show 1 < 4 by decide)), I_lo (lt_G ha (show 2 < 4 by decide)), I_lo (lt_G ha (show 3 < 4 by decide)), tl_s, tl_n, rf_s, rf_n, cs_nil, cs_cons, cat_r, cat_i, cat_l, cat_n, cat_a, Nat.reduceAdd, Nat.reduceMul, Nat.reduceLeDiff, Nat.reduceEqDiff, Nat.reduceLT, and_self, and_true, true_and, and_false, false_and, or_true, true_or, or_false, false_or, if_true, if_false, not_true_eq_false, not_false_eq_true, reduceCtorEq, reduceIte, eq_true h1]
  · simp only [e_49_22, e_49_23, e_49_26, e_49_29, e_49_30, e_49_33, e_49_34, e_49_37, e_49_38, TC ha, RCs ha, TS ha, RSc ha, RSl ha, RSg ha, RSh ha, RSi ha, RSL ha, T1, T2, I_lo lt1, I_lo (lt_S ha), sI_lo (lt_S ha), I_lo lt2, (tmG ha (show 0 < 4 by decide)).2.2.2.1, (tmG ha (show 1 < 4 by decide)).2.2.2.1, (tmG ha (show 2 < 4 by decide)).2.2.2.1, (tmG ha (show 3 < 4 by decide)).2.2.2.1, I_lo (lt_G ha (show 0 < 4 by decide)), I_lo (lt_G ha (show 1 < 4 by decide)), I_lo (lt_G ha (show 2 < 4 by decide)), I_lo (lt_G ha (show 3 < 4 by decide)), tl_s, tl_n, rf_s, rf_n, cs_nil, cs_cons, cat_r, cat_i, cat_l, cat_n, cat_a, Nat.reduceAdd, Nat.reduceMul, Nat.reduceLeDiff, Nat.reduceEqDiff, Nat.reduceLT, and_self, and_true, true_and, and_false, false_and, or_true, true_or, or_false, false_or, if_true, if_false, not_true_eq_false, not_false_eq_true, reduceCtorEq, reduceIte, h1]
set_option maxRecDepth 20000 in
set_option maxHeartbeats 2000000 in
theorem x_cprov {a i : Nat} {w : Int32} (ha : a < 4) (hi : i < 4) : Ex xs L 49 [.ref (pC a), .ref (pB a i), .int w] (hh c s) (none, hh (cl_prov c a i w) s) := by
  refine Ex_of xs L rfl ?_
  show Ev xs L _ (0, [.ref (pC a), .ref (pB a i), .int w], [], hh c s) _
  unfold cl_prov
  by_cases h1 : b_op c a i
  · have hz := @zb_t _ (b_opD c a i) h1
    rw [@if_pos _ (b_opD c a i) h1]
    by_cases h2 : w = 100
    · rw [if_pos h2]
      simp only [e_49_0, e_49_0n, e_49_1, e_49_4, e_49_7, e_49_8, e_49_8n, e_49_9, e_49_12, e_49_13, e_49_15, k_bop ha hi, hz, k_bpr ha hi, TB ha hi, RBc ha hi, RBl ha hi, RB0 ha hi, RB1 ha hi, RB2 ha hi, RB3 ha hi, RB4 ha hi, RB5 ha hi, T1, T2, I_lo lt1, I_lo lt2, I_lo (lt_B ha hi), sI_lo (lt_B ha hi), (tmT ha hi (show 0 < 6 by decide)).2.2.2.1, I_lo (lt_T ha hi (show 0 < 6 by decide)), (tmT ha hi (show 1 < 6 by decide)).2.2.2.1, I_lo (lt_T ha hi (show 1 < 6 by decide)), (tmT ha hi (show 2 < 6 by decide)).2.2.2.1, I_lo (lt_T ha hi (show 2 < 6 by decide)), (tmT ha hi (show 3 < 6 by decide)).2.2.2.1, I_lo (lt_T ha hi (show 3 < 6 by decide)), (tmT ha hi (show 4 < 6 by decide)).2.2.2.1, I_lo (lt_T ha hi (show 4 < 6 by decide)), (tmT ha hi (show 5 < 6 by decide)).2.2.2.1, I_lo (lt_T ha hi (show 5 < 6 by decide)), tl_s, tl_n, rf_s, rf_n, cs_nil, cs_cons, cat_r, cat_i, cat_l, cat_n, cat_a, Nat.reduceAdd, Nat.reduceMul, Nat.reduceLeDiff, Nat.reduceEqDiff, Nat.reduceLT, and_self, and_true, true_and, and_false, false_and, or_true, true_or, or_false, false_or, if_true, if_false, not_true_eq_false, not_false_eq_true, reduceCtorEq, reduceIte, q_0_1, q_0_2, q_0_3, q_0_4, q_0_5, q_0_6, q_1_0, q_1_2, q_1_3, q_1_4, q_1_5, q_1_6, q_2_0, q_2_1, q_2_3, q_2_4, q_2_5, q_2_6, q_3_0, q_3_1, q_3_2, q_3_4, q_3_5, q_3_6, q_4_0, q_4_1, q_4_2, q_4_3, q_4_5, q_4_6, q_5_0, q_5_1, q_5_2, q_5_3, q_5_4, q_5_6, q_6_0, q_6_1, q_6_2, q_6_3, q_6_4, q_6_5, eq_true h2]
      exact (cp_S ha hi).mpr rfl
    · rw [if_neg h2]
      simp only [e_49_0, e_49_0n, e_49_1, e_49_4, e_49_7, e_49_8, e_49_8n, e_49_9, e_49_12, e_49_13, e_49_15, e_49_18, e_49_18n, e_49_19, k_bop ha hi, hz, k_bpr ha hi, k_banew ha hi, TB ha hi, RBc ha hi, RBl ha hi, RB0 ha hi, RB1 ha hi, RB2 ha hi, RB3 ha hi, RB4 ha hi, RB5 ha hi, T1, T2, I_lo lt1, I_lo lt2, I_lo (lt_B ha hi), sI_lo (lt_B ha hi), (tmT ha hi (show 0 < 6 by decide)).2.2.2.1, I_lo (lt_T ha hi (show 0 < 6 by decide)), (tmT ha hi (show 1 < 6 by decide)).2.2.2.1, I_lo (lt_T ha hi (show 1 < 6 by decide)), (tmT ha hi (show 2 < 6 by decide)).2.2.2.1, I_lo (lt_T ha hi (show 2 < 6 by decide)), (tmT ha hi (show 3 < 6 by decide)).2.2.2.1, I_lo (lt_T ha hi (show 3 < 6 by decide)), (tmT ha hi (show 4 < 6 by decide)).2.2.2.1, I_lo (lt_T ha hi (show 4 < 6 by decide)), (tmT ha hi (show 5 < 6 by decide)).2.2.2.1, I_lo (lt_T ha hi (show 5 < 6 by decide)), tl_s, tl_n, rf_s, rf_n, cs_nil, cs_cons, cat_r, cat_i, cat_l, cat_n, cat_a, Nat.reduceAdd, Nat.reduceMul, Nat.reduceLeDiff, Nat.reduceEqDiff, Nat.reduceLT, and_self, and_true, true_and, and_false, false_and, or_true, true_or, or_false, false_or, if_true, if_false, not_true_eq_false, not_false_eq_true, reduceCtorEq, reduceIte, q_0_1, q_0_2, q_0_3, q_0_4, q_0_5, q_0_6, q_1_0, q_1_2, q_1_3, q_1_4, q_1_5, q_1_6, q_2_0, q_2_1, q_2_3, q_2_4, q_2_5, q_2_6, q_3_0, q_3_1, q_3_2, q_3_4, q_3_5, q_3_6, q_4_0, q_4_1, q_4_2, q_4_3, q_4_5, q_4_6, q_5_0, q_5_1, q_5_2, q_5_3, q_5_4, q_5_6, q_6_0, q_6_1, q_6_2, q_6_3, q_6_4, q_6_5, h2]
      rw [cp_T ha]
      exact (cp_S ha hi).mpr rfl
  · have hz := @zb_f _ (b_opD c a i) h1
    rw [@if_neg _ (b_opD c a i) h1]
    simp only [e_49_0, e_49_0n, e_49_1, e_49_4, e_49_7, k_bop ha hi, hz, TB ha hi, RBc ha hi, RBl ha hi, RB0 ha hi, RB1 ha hi, RB2 ha hi, RB3 ha hi, RB4 ha hi, RB5 ha hi, T1, T2, I_lo lt1, I_lo lt2, I_lo (lt_B ha hi), sI_lo (lt_B ha hi), (tmT ha hi (show 0 < 6 by decide)).2.2.2.1, I_lo (lt_T ha hi (show 0 < 6 by decide)), (tmT ha hi (show 1 < 6 by decide)).2.2.2.1, I_lo (lt_T ha hi (show 1 < 6 by decide)), (tmT ha hi (show 2 < 6 by decide)).2.2.2.1, I_lo (lt_T ha hi (show 2 < 6 by decide)), (tmT ha hi (show 3 < 6 by decide)).2.2.2.1, I_lo (lt_T ha hi (show 3 < 6 by decide)), (tmT ha hi (show 4 < 6 by decide)).2.2.2.1, I_lo (lt_T ha hi (show 4 < 6 by decide)), (tmT ha hi (show 5 < 6 by decide)).2.2.2.1, I_lo (lt_T ha hi (show 5 < 6 by decide)), tl_s, tl_n, rf_s, rf_n, cs_nil, cs_cons, cat_r, cat_i, cat_l, cat_n, cat_a, Nat.reduceAdd, Nat.reduceMul, Nat.reduceLeDiff, Nat.reduceEqDiff, Nat.reduceLT, and_self, and_true, true_and, and_false, false_and, or_true, true_or, or_false, false_or, if_true, if_false, not_true_eq_false, not_false_eq_true, reduceCtorEq, reduceIte]
theorem k_cprov {a i : Nat} {w : Int32} {K : Option Value → ix_H → Prop} (ha : a < 4) (hi : i < 4) : Cl xs L 49 [.ref (pC a), .ref (pB a i), .int w] (hh c s) K ↔ K none (hh (cl_prov c a i w) s) := Cl_of xs L (x_cprov ha hi)
def cl_s1 (c : CM) (a i : Nat) (w : Int32) : CM := @ite _ (b_op c a i) (b_opD c a i) (cl_cnt (b_out c a i w) a i) c
def cl_s2 (c : CM) (a n : Nat) : CM := if c.1 (pS a) 7 = 1 then cl_co a n 0 (sv_suc c a) else c
def cl_suc (c : CM) (a i n : Nat) (w : Int32) : CM := cl_s2 (l_add (cl_s1 c a i w) ((cl_s1 c a i w).1 (pS a) 2) 7 w) a n
set_option maxRecDepth 20000 in
set_option maxHeartbeats 2000000 in
theorem x_csuc {a i n : Nat} {w : Int32} (ha : a < 4) (hi : i < 4) (hb : c.1 (pC a) 3 = nI n) (hn : n ≤ 4) : Ex xs L 50 [.ref (pC a), .ref (pB a i), .int w] (hh c s) (none, hh (cl_suc c a i n w) s) := by
  refine Ex_of xs L rfl ?_
  show Ev xs L _ (0, [.ref (pC a), .ref (pB a i), .int w], [], hh c s) _
  have A : ∀ o, Ev xs L 50 (0, [.ref (pC a), .ref (pB a i), .int w], [], hh c s) o ↔ Ev xs L 50 (17, [.ref (pC a), .ref (pB a i), .int w], [], hh (cl_s1 c a i w) s) o := by
    intro o
    unfold cl_s1
    by_cases h1 : b_op c a i
    · have hz := @zb_t _ (b_opD c a i) h1
      rw [@if_pos _ (b_opD c a i) h1]
      simp only [e_50_0, e_50_0n, e_50_1, e_50_4, e_50_7, e_50_7n, e_50_8, e_50_9, e_50_12, e_50_13, e_50_13n, e_50_14, k_bop ha hi, hz, k_bsuc ha hi, k_ccnt ha hi, TC ha, TB ha hi, RBc ha hi, RBl ha hi, RB0 ha hi, RB1 ha hi, RB2 ha hi, RB3 ha hi, RB4 ha hi, RB5 ha hi, T1, T2, I_lo lt1, I_lo lt2, I_lo (lt_B ha hi), sI_lo (lt_B ha hi), (tmT ha hi (show 0 < 6 by decide)).2.2.2.1, I_lo (lt_T ha hi (show 0 < 6 by decide)), (tmT ha hi (show 1 < 6 by decide)).2.2.2.1, I_lo (lt_T ha hi (show 1 < 6 by decide)), (tmT ha hi (show 2 < 6 by decide)).2.2.2.1, I_lo (lt_T ha hi (show 2 < 6 by decide)), (tmT ha hi (show 3 < 6 by decide)).2.2.2.1, I_lo (lt_T ha hi (show 3 < 6 by decide)), (tmT ha hi (show 4 < 6 by decide)).2.2.2.1, I_lo (lt_T ha hi (show 4 < 6 by decide)), (tmT ha hi (show 5 < 6 by decide)).2.2.2.1, I_lo (lt_T ha hi (show 5 < 6 by decide)), tl_s, tl_n, rf_s, rf_n, cs_nil, cs_cons, cat_r, cat_i, cat_l, cat_n, cat_a, Nat.reduceAdd, Nat.reduceMul, Nat.reduceLeDiff, Nat.reduceEqDiff, Nat.reduceLT, and_self, and_true, true_and, and_false, false_and, or_true, true_or, or_false, false_or, if_true, if_false, not_true_eq_false, not_false_eq_true, reduceCtorEq, reduceIte, q_0_1, q_0_2, q_0_3, q_0_4, q_0_5, q_0_6, q_1_0, q_1_2, q_1_3, q_1_4, q_1_5, q_1_6, q_2_0, q_2_1, q_2_3, q_2_4, q_2_5, q_2_6, q_3_0, q_3_1, q_3_2, q_3_4, q_3_5, q_3_6, q_4_0, q_4_1, q_4_2, q_4_3, q_4_5, q_4_6, q_5_0, q_5_1, q_5_2, q_5_3, q_5_4, q_5_6, q_6_0, q_6_1, q_6_2, q_6_3, q_6_4, q_6_5]
    · have hz := @zb_f _ (b_opD c a i) h1
      rw [@if_neg _ (b_opD c a i) h1]
      simp only [e_50_0, e_50_0n, e_50_1, e_50_4, e_50_7, e_50_7n, e_50_8, e_50_9, e_50_12, e_50_13, e_50_13n, e_50_14, k_bop ha hi, hz, TB ha hi, RBc ha hi, RBl ha hi, RB0 ha hi, RB1 ha hi, RB2 ha hi, RB3 ha hi, RB4 ha hi, RB5 ha hi, T1, T2, I_lo lt1, I_lo lt2, I_lo (lt_B ha hi), sI_lo (lt_B ha hi), (tmT ha hi (show 0 < 6 by decide)).2.2.2.1, I_lo (lt_T ha hi (show 0 < 6 by decide)), (tmT ha hi (show 1 < 6 by decide)).2.2.2.1, I_lo (lt_T ha hi (show 1 < 6 by decide)), (tmT ha hi (show 2 < 6 by decide)).2.2.2.1, I_lo (lt_T ha hi (show 2 < 6 by decide)), (tmT ha hi (show 3 < 6 by decide)).2.2.2.1, I_lo (lt_T ha hi (show 3 < 6 by decide)), (tmT ha hi (show 4 < 6 by decide)).2.2.2.1, I_lo (lt_T ha hi (show 4 < 6 by decide)), (tmT ha hi (show 5 < 6 by decide)).2.2.2.1, I_lo (lt_T ha hi (show 5 < 6 by decide)), tl_s, tl_n, rf_s, rf_n, cs_nil, cs_cons, cat_r, cat_i, cat_l, cat_n, cat_a, Nat.reduceAdd, Nat.reduceMul, Nat.reduceLeDiff, Nat.reduceEqDiff, Nat.reduceLT, and_self, and_true, true_and, and_false, false_and, or_true, true_or, or_false, false_or, if_true, if_false, not_true_eq_false, not_false_eq_true, reduceCtorEq, reduceIte]
  have hb1 : (cl_s1 c a i w).1 (pC a) 3 = nI n := by
    unfold cl_s1
    split
    · rw [cc_cnt _ _ _ _ (by decide), cc_out]; exact hb
    · exact hb
  rw [A]
  unfold cl_suc
  generalize cl_s1 c a i w = c at hb1
  unfold cl_s2
  have e7 : (l_add c (c.1 (pS a) 2) 7 w).1 (pS a) 7 = c.1 (pS a) 7 := by simp only [n1S, n1G, n1B, n1T, n2S, n2G, n2B, n2T, nS1, nG1, nB1, nT1, nS2, nG2, nB2, nT2, nSG, nGS, nBT, nTB, n12, n21, nC1, nC2, n1C, n2C, nCS, nSC, nCG, nGC, nCB, nBC, nCT, nTC, nSB, nBS, nST, cI_at, set_at, stop_t, add_at, false_and, if_false]
  have hb2 : (sv_suc (l_add c (c.1 (pS a) 2) 7 w) a).1 (pC a) 3 = nI n := by
    rw [cc_suc]
    simp only [n1S, n1G, n1B, n1T, n2S, n2G, n2B, n2T, nS1, nG1, nB1, nT1, nS2, nG2, nB2, nT2, nSG, nGS, nBT, nTB, n12, n21, nC1, nC2, n1C, n2C, nCS, nSC, nCG, nGC, nCB, nBC, nCT, nTC, nSB, nBS, nST, cI_at, set_at, stop_t, add_at, false_and, if_false]
    exact hb1
  rw [e7]
  by_cases h1 : c.1 (pS a) 7 = 1
  · simp only [e_50_17, e_50_18, e_50_21, e_50_22, e_50_25, e_50_26, e_50_29, e_50_32, e_50_33, e_50_36, e_50_37, e_50_40, e_50_43, e_50_44, e_50_47, k_ssuc ha, k_sas ha, k_cco ha hb2 hn, TC ha, RCs ha, TS ha, RSc ha, RSl ha, RSg ha, RSh ha, RSi ha, RSL ha, T1, T2, I_lo lt1, I_lo (lt_S ha), sI_lo (lt_S ha), I_lo lt2, (tmG ha (show 0 < 4 by decide)).2.2.2.1, (tmG ha (show 1 < 4 by decide)).2.2.2.1, (tmG ha (show 2 < 4 by decide)).2.2.2.1, (tmG ha (show 3 < 4 by decide)).2.2.2.1, I_lo (lt_G ha (show 0 < 4 by decide)), I_lo (lt_G ha (show 1 < 4 by decide)), I_lo (lt_G ha (show 2 < 4 by decide)), I_lo (lt_G ha (show 3 < 4 by decide)), tl_s, tl_n, rf_s, rf_n, cs_nil, cs_cons, cat_r, cat_i, cat_l, cat_n, cat_a, Nat.reduceAdd, Nat.reduceMul, Nat.reduceLeDiff, Nat.reduceEqDiff, Nat.reduceLT, and_self, and_true, true_and, and_false, false_and, or_true, true_or, or_false, false_or, if_true, if_false, not_true_eq_false, not_false_eq_true, reduceCtorEq, reduceIte, e7, eq_true h1]
  · simp only [e_50_17, e_50_18, e_50_21, e_50_22, e_50_25, e_50_26, e_50_29, e_50_32, e_50_33, e_50_36, e_50_37, e_50_40, e_50_43, e_50_44, e_50_47, k_ssuc ha, TC ha, RCs ha, TS ha, RSc ha, RSl ha, RSg ha, RSh ha, RSi ha, RSL ha, T1, T2, I_lo lt1, I_lo (lt_S ha), sI_lo (lt_S ha), I_lo lt2, (tmG ha (show 0 < 4 by decide)).2.2.2.1, (tmG ha (show 1 < 4 by decide)).2.2.2.1, (tmG ha (show 2 < 4 by decide)).2.2.2.1, (tmG ha (show 3 < 4 by decide)).2.2.2.1, I_lo (lt_G ha (show 0 < 4 by decide)), I_lo (lt_G ha (show 1 < 4 by decide)), I_lo (lt_G ha (show 2 < 4 by decide)), I_lo (lt_G ha (show 3 < 4 by decide)), tl_s, tl_n, rf_s, rf_n, cs_nil, cs_cons, cat_r, cat_i, cat_l, cat_n, cat_a, Nat.reduceAdd, Nat.reduceMul, Nat.reduceLeDiff, Nat.reduceEqDiff, Nat.reduceLT, and_self, and_true, true_and, and_false, false_and, or_true, true_or, or_false, false_or, if_true, if_false, not_true_eq_false, not_false_eq_true, reduceCtorEq, reduceIte, e7, h1]
theorem k_csuc {a i n : Nat} {w : Int32} {K : Option Value → ix_H → Prop} (ha : a < 4) (hi : i < 4) (hb : c.1 (pC a) 3 = nI n) (hn : n ≤ 4) : Cl xs L 50 [.ref (pC a), .ref (pB a i), .int w] (hh c s) K ↔ K none (hh (cl_suc c a i n w) s) := Cl_of xs L (x_csuc ha hi hb hn)
def cl_f1 (c : CM) (a i n : Nat) (w : Int32) : CM := if w < 600 then cl_cnt (b_fail c a i w) a i else cl_co a n 0 (cl_cnt (b_fail c a i w) a i)
def cl_fl (c : CM) (a i n : Nat) (w : Int32) : CM := if c.1 (pB a i) 11 = 3 then b_ack c a i else @ite _ (b_op c a i) (b_opD c a i) (cl_all (cl_f1 c a i n w) a n) c
set_option maxRecDepth 20000 in
set_option maxHeartbeats 2000000 in
theorem x_cfl {a i n : Nat} {w : Int32} (ha : a < 4) (hi : i < 4) (hb : c.1 (pC a) 3 = nI n) (hn : n ≤ 4) : Ex xs L 51 [.ref (pC a), .ref (pB a i), .int w] (hh c s) (none, hh (cl_fl c a i n w) s) := by
  refine Ex_of xs L rfl ?_
  show Ev xs L _ (0, [.ref (pC a), .ref (pB a i), .int w], [], hh c s) _
  unfold cl_fl
  by_cases h0 : c.1 (pB a i) 11 = 3
  · rw [if_pos h0]
    simp only [e_51_0, e_51_0n, e_51_1, e_51_4, e_51_5, e_51_8, e_51_8n, e_51_9, e_51_12, e_51_15, e_51_15n, e_51_16, e_51_19, e_51_22, e_51_22n, e_51_23, e_51_24, e_51_27, e_51_28, e_51_28n, e_51_29, e_51_32, e_51_33, e_51_36, e_51_39, e_51_40, e_51_43, e_51_44, e_51_47, k_back ha hi, TB ha hi, RBc ha hi, RBl ha hi, RB0 ha hi, RB1 ha hi, RB2 ha hi, RB3 ha hi, RB4 ha hi, RB5 ha hi, T1, T2, I_lo lt1, I_lo lt2, I_lo (lt_B ha hi), sI_lo (lt_B ha hi), (tmT ha hi (show 0 < 6 by decide)).2.2.2.1, I_lo (lt_T ha hi (show 0 < 6 by decide)), (tmT ha hi (show 1 < 6 by decide)).2.2.2.1, I_lo (lt_T ha hi (show 1 < 6 by decide)), (tmT ha hi (show 2 < 6 by decide)).2.2.2.1, I_lo (lt_T ha hi (show 2 < 6 by decide)), (tmT ha hi (show 3 < 6 by decide)).2.2.2.1, I_lo (lt_T ha hi (show 3 < 6 by decide)), (tmT ha hi (show 4 < 6 by decide)).2.2.2.1, I_lo (lt_T ha hi (show 4 < 6 by decide)), (tmT ha hi (show 5 < 6 by decide)).2.2.2.1, I_lo (lt_T ha hi (show 5 < 6 by decide)), tl_s, tl_n, rf_s, rf_n, cs_nil, cs_cons, cat_r, cat_i, cat_l, cat_n, cat_a, Nat.reduceAdd, Nat.reduceMul, Nat.reduceLeDiff, Nat.reduceEqDiff, Nat.reduceLT, and_self, and_true, true_and, and_false, false_and, or_true, true_or, or_false, false_or, if_true, if_false, not_true_eq_false, not_false_eq_true, reduceCtorEq, reduceIte, eq_true h0]
  · rw [if_neg h0]
    by_cases h1 : b_op c a i
    · have hz := @zb_t _ (b_opD c a i) h1
      rw [@if_pos _ (b_opD c a i) h1]
      unfold cl_f1
      have hb1 : (cl_cnt (b_fail c a i w) a i).1 (pC a) 3 = nI n := by rw [cc_cnt _ _ _ _ (by decide), cc_bfail]; exact hb
      by_cases h2 : w < 600
      · rw [if_pos h2]
        simp only [e_51_0, e_51_0n, e_51_1, e_51_4, e_51_5, e_51_8, e_51_8n, e_51_9, e_51_12, e_51_15, e_51_15n, e_51_16, e_51_19, e_51_22, e_51_22n, e_51_23, e_51_24, e_51_27, e_51_28, e_51_28n, e_51_29, e_51_32, e_51_33, e_51_36, e_51_39, e_51_40, e_51_43, e_51_44, e_51_47, k_bop ha hi, hz, k_bfl ha hi, k_ccnt ha hi, k_call ha hb1 hn, TC ha, TB ha hi, RBc ha hi, RBl ha hi, RB0 ha hi, RB1 ha hi, RB2 ha hi, RB3 ha hi, RB4 ha hi, RB5 ha hi, T1, T2, I_lo lt1, I_lo lt2, I_lo (lt_B ha hi), sI_lo (lt_B ha hi), (tmT ha hi (show 0 < 6 by decide)).2.2.2.1, I_lo (lt_T ha hi (show 0 < 6 by decide)), (tmT ha hi (show 1 < 6 by decide)).2.2.2.1, I_lo (lt_T ha hi (show 1 < 6 by decide)), (tmT ha hi (show 2 < 6 by decide)).2.2.2.1, I_lo (lt_T ha hi (show 2 < 6 by decide)), (tmT ha hi (show 3 < 6 by decide)).2.2.2.1, I_lo (lt_T ha hi (show 3 < 6 by decide)), (tmT ha hi (show 4 < 6 by decide)).2.2.2.1, I_lo (lt_T ha hi (show 4 < 6 by decide)), (tmT ha hi (show 5 < 6 by decide)).2.2.2.1, I_lo (lt_T ha hi (show 5 < 6 by decide)), tl_s, tl_n, rf_s, rf_n, cs_nil, cs_cons, cat_r, cat_i, cat_l, cat_n, cat_a, Nat.reduceAdd, Nat.reduceMul, Nat.reduceLeDiff, Nat.reduceEqDiff, Nat.reduceLT, and_self, and_true, true_and, and_false, false_and, or_true, true_or, or_false, false_or, if_true, if_false, not_true_eq_false, not_false_eq_true, reduceCtorEq, reduceIte, q_0_1, q_0_2, q_0_3, q_0_4, q_0_5, q_0_6, q_1_0, q_1_2, q_1_3, q_1_4, q_1_5, q_1_6, q_2_0, q_2_1, q_2_3, q_2_4, q_2_5, q_2_6, q_3_0, q_3_1, q_3_2, q_3_4, q_3_5, q_3_6, q_4_0, q_4_1, q_4_2, q_4_3, q_4_5, q_4_6, q_5_0, q_5_1, q_5_2, q_5_3, q_5_4, q_5_6, q_6_0, q_6_1, q_6_2, q_6_3, q_6_4, q_6_5, h0, eq_true h2]
      · rw [if_neg h2]
        have hb2 : (cl_co a n 0 (cl_cnt (b_fail c a i w) a i)).1 (pC a) 3 = nI n := by rw [cc_co]; exact hb1
        simp only [e_51_0, e_51_0n, e_51_1, e_51_4, e_51_5, e_51_8, e_51_8n, e_51_9, e_51_12, e_51_15, e_51_15n, e_51_16, e_51_19, e_51_22, e_51_22n, e_51_23, e_51_24, e_51_27, e_51_28, e_51_28n, e_51_29, e_51_32, e_51_33, e_51_36, e_51_39, e_51_40, e_51_43, e_51_44, e_51_47, k_bop ha hi, hz, k_bfl ha hi, k_ccnt ha hi, k_cco ha hb1 hn, k_call ha hb2 hn, TC ha, TB ha hi, RBc ha hi, RBl ha hi, RB0 ha hi, RB1 ha hi, RB2 ha hi, RB3 ha hi, RB4 ha hi, RB5 ha hi, T1, T2, I_lo lt1, I_lo lt2, I_lo (lt_B ha hi), sI_lo (lt_B ha hi), (tmT ha hi (show 0 < 6 by decide)).2.2.2.1, I_lo (lt_T ha hi (show 0 < 6 by decide)), (tmT ha hi (show 1 < 6 by decide)).2.2.2.1, I_lo (lt_T ha hi (show 1 < 6 by decide)), (tmT ha hi (show 2 < 6 by decide)).2.2.2.1, I_lo (lt_T ha hi (show 2 < 6 by decide)), (tmT ha hi (show 3 < 6 by decide)).2.2.2.1, I_lo (lt_T ha hi (show 3 < 6 by decide)), (tmT ha hi (show 4 < 6 by decide)).2.2.2.1, I_lo (lt_T ha hi (show 4 < 6 by decide)), (tmT ha hi (show 5 < 6 by decide)).2.2.2.1, I_lo (lt_T ha hi (show 5 < 6 by decide)), tl_s, tl_n, rf_s, rf_n, cs_nil, cs_cons, cat_r, cat_i, cat_l, cat_n, cat_a, Nat.reduceAdd, Nat.reduceMul, Nat.reduceLeDiff, Nat.reduceEqDiff, Nat.reduceLT, and_self, and_true, true_and, and_false, false_and, or_true, true_or, or_false, false_or, if_true, if_false, not_true_eq_false, not_false_eq_true, reduceCtorEq, reduceIte, q_0_1, q_0_2, q_0_3, q_0_4, q_0_5, q_0_6, q_1_0, q_1_2, q_1_3, q_1_4, q_1_5, q_1_6, q_2_0, q_2_1, q_2_3, q_2_4, q_2_5, q_2_6, q_3_0, q_3_1, q_3_2, q_3_4, q_3_5, q_3_6, q_4_0, q_4_1, q_4_2, q_4_3, q_4_5, q_4_6, q_5_0, q_5_1, q_5_2, q_5_3, q_5_4, q_5_6, q_6_0, q_6_1, q_6_2, q_6_3, q_6_4, q_6_5, h0, h2]
    · have hz := @zb_f _ (b_opD c a i) h1
      rw [@if_neg _ (b_opD c a i) h1]
      simp only [e_51_0, e_51_0n, e_51_1, e_51_4, e_51_5, e_51_8, e_51_8n, e_51_9, e_51_12, e_51_15, e_51_15n, e_51_16, e_51_19, e_51_22, e_51_22n, e_51_23, e_51_24, e_51_27, e_51_28, e_51_28n, e_51_29, e_51_32, e_51_33, e_51_36, e_51_39, e_51_40, e_51_43, e_51_44, e_51_47, k_bop ha hi, hz, TB ha hi, RBc ha hi, RBl ha hi, RB0 ha hi, RB1 ha hi, RB2 ha hi, RB3 ha hi, RB4 ha hi, RB5 ha hi, T1, T2, I_lo lt1, I_lo lt2, I_lo (lt_B ha hi), sI_lo (lt_B ha hi), (tmT ha hi (show 0 < 6 by decide)).2.2.2.1, I_lo (lt_T ha hi (show 0 < 6 by decide)), (tmT ha hi (show 1 < 6 by decide)).2.2.2.1, I_lo (lt_T ha hi (show 1 < 6 by decide)), (tmT ha hi (show 2 < 6 by decide)).2.2.2.1, I_lo (lt_T ha hi (show 2 < 6 by decide)), (tmT ha hi (show 3 < 6 by decide)).2.2.2.1, I_lo (lt_T ha hi (show 3 < 6 by decide)), (tmT ha hi (show 4 < 6 by decide)).2.2.2.1, I_lo (lt_T ha hi (show 4 < 6 by decide)), (tmT ha hi (show 5 < 6 by decide)).2.2.2.1, I_lo (lt_T ha hi (show 5 < 6 by decide)), tl_s, tl_n, rf_s, rf_n, cs_nil, cs_cons, cat_r, cat_i, cat_l, cat_n, cat_a, Nat.reduceAdd, Nat.reduceMul, Nat.reduceLeDiff, Nat.reduceEqDiff, Nat.reduceLT, and_self, and_true, true_and, and_false, false_and, or_true, true_or, or_false, false_or, if_true, if_false, not_true_eq_false, not_false_eq_true, reduceCtorEq, reduceIte, h0]
theorem k_cfl {a i n : Nat} {w : Int32} {K : Option Value → ix_H → Prop} (ha : a < 4) (hi : i < 4) (hb : c.1 (pC a) 3 = nI n) (hn : n ≤ 4) : Cl xs L 51 [.ref (pC a), .ref (pB a i), .int w] (hh c s) K ↔ K none (hh (cl_fl c a i n w) s) := Cl_of xs L (x_cfl ha hi hb hn)
def cl_code (c : CM) (a i n : Nat) (w : Int32) : CM := if w < 200 then cl_prov c a i w else if w < 300 then cl_suc c a i n w else cl_fl c a i n w
set_option maxRecDepth 20000 in
set_option maxHeartbeats 2000000 in
theorem x_code {a i n : Nat} {w : Int32} (ha : a < 4) (hi : i < 4) (hb : c.1 (pC a) 3 = nI n) (hn : n ≤ 4) : Ex xs L 48 [.ref (pC a), .ref (pB a i), .int w] (hh c s) (none, hh (cl_code c a i n w) s) := by
  refine Ex_of xs L rfl ?_
  show Ev xs L _ (0, [.ref (pC a), .ref (pB a i), .int w], [], hh c s) _
  unfold cl_code
  by_cases h1 : w < 200
  · have h1' : (200 ≤ w) = False := eq_false (fun q => absurd h1 (Int32.not_lt.mpr q))
    simp only [e_48_0, e_48_1, e_48_4, e_48_7, e_48_8, e_48_8n, e_48_9, e_48_10, e_48_13, e_48_16, e_48_17, e_48_20, e_48_23, e_48_24, e_48_24n, e_48_25, e_48_26, e_48_29, e_48_32, e_48_33, e_48_33n, e_48_34, e_48_35, e_48_38, k_cprov ha hi, TC ha, tl_s, tl_n, rf_s, rf_n, cs_nil, cs_cons, cat_r, cat_i, cat_l, cat_n, cat_a, Nat.reduceAdd, Nat.reduceMul, Nat.reduceLeDiff, Nat.reduceEqDiff, Nat.reduceLT, and_self, and_true, true_and, and_false, false_and, or_true, true_or, or_false, false_or, if_true, if_false, not_true_eq_false, not_false_eq_true, reduceCtorEq, reduceIte, h1', eq_true h1]
  · have h1' : (200 ≤ w) = True := eq_true (Int32.not_lt.mp h1)
    by_cases h2 : w < 300
    · have h2' : (300 ≤ w) = False := eq_false (fun q => absurd h2 (Int32.not_lt.mpr q))
      simp only [e_48_0, e_48_1, e_48_4, e_48_7, e_48_8, e_48_8n, e_48_9, e_48_10, e_48_13, e_48_16, e_48_17, e_48_20, e_48_23, e_48_24, e_48_24n, e_48_25, e_48_26, e_48_29, e_48_32, e_48_33, e_48_33n, e_48_34, e_48_35, e_48_38, k_csuc ha hi hb hn, TC ha, tl_s, tl_n, rf_s, rf_n, cs_nil, cs_cons, cat_r, cat_i, cat_l, cat_n, cat_a, Nat.reduceAdd, Nat.reduceMul, Nat.reduceLeDiff, Nat.reduceEqDiff, Nat.reduceLT, and_self, and_true, true_and, and_false, false_and, or_true, true_or, or_false, false_or, if_true, if_false, not_true_eq_false, not_false_eq_true, reduceCtorEq, reduceIte, h1', h1, h2', eq_true h2]
    · have h2' : (300 ≤ w) = True := eq_true (Int32.not_lt.mp h2)
      simp only [e_48_0, e_48_1, e_48_4, e_48_7, e_48_8, e_48_8n, e_48_9, e_48_10, e_48_13, e_48_16, e_48_17, e_48_20, e_48_23, e_48_24, e_48_24n, e_48_25, e_48_26, e_48_29, e_48_32, e_48_33, e_48_33n, e_48_34, e_48_35, e_48_38, k_cfl ha hi hb hn, TC ha, tl_s, tl_n, rf_s, rf_n, cs_nil, cs_cons, cat_r, cat_i, cat_l, cat_n, cat_a, Nat.reduceAdd, Nat.reduceMul, Nat.reduceLeDiff, Nat.reduceEqDiff, Nat.reduceLT, and_self, and_true, true_and, and_false, false_and, or_true, true_or, or_false, false_or, if_true, if_false, not_true_eq_false, not_false_eq_true, reduceCtorEq, reduceIte, h1', h1, h2', h2]
theorem k_code {a i n : Nat} {w : Int32} {K : Option Value → ix_H → Prop} (ha : a < 4) (hi : i < 4) (hb : c.1 (pC a) 3 = nI n) (hn : n ≤ 4) : Cl xs L 48 [.ref (pC a), .ref (pB a i), .int w] (hh c s) K ↔ K none (hh (cl_code c a i n w) s) := Cl_of xs L (x_code ha hi hb hn)
-- a call's timers
def cl_rb (c : CM) (a i n : Nat) : CM := @ite _ (b_ended c a i) (b_endedD c a i) (cl_all (cl_cnt (b_run c a i) a i) a n) (b_run c a i)
def cl_rl (a n : Nat) : Nat → Nat → CM → CM
  | 0, _, c => c
  | d + 1, i, c => cl_rl a n d (i + 1) (cl_rb c a i n)
def cl_run (c : CM) (a n : Nat) : CM := cl_rl a n n 0 (sv_run c a)
theorem cc_rb (c : CM) (a i n : Nat) : (cl_rb c a i n).1 (pC a) 3 = c.1 (pC a) 3 := by
  unfold cl_rb
  split
  · rw [cc_all, cc_cnt _ _ _ _ (by decide), cc_run]
  · exact cc_run _ _ _ _
set_option maxRecDepth 20000 in
set_option maxHeartbeats 2000000 in
theorem x_crl {o : ix_O} {a n : Nat} (ha : a < 4) (hn : n ≤ 4) : ∀ (d i : Nat) (c : CM), c.1 (pC a) 3 = nI n → i + d = n → (Ev xs L 57 (9, [.ref (pC a), .int (nI i)], [], hh c s) o ↔ o = (none, hh (cl_rl a n d i c) s)) := by
  intro d
  induction d with
  | zero =>
    intro i c hb hi
    obtain rfl : i = n := by omega
    simp only [e_57_9, e_57_10, e_57_11, e_57_14, e_57_49, TC ha, I_lo (lt_C ha), hb, tl_s, tl_n, rf_s, rf_n, cs_nil, cs_cons, cat_r, cat_i, cat_l, cat_n, cat_a, Nat.reduceAdd, Nat.reduceMul, Nat.reduceLeDiff, Nat.reduceEqDiff, Nat.reduceLT, and_self, and_true, true_and, and_false, false_and, or_true, true_or, or_false, false_or, if_true, if_false, not_true_eq_false, not_false_eq_true, reduceCtorEq, reduceIte, le_rf, cl_rl]
  | succ d ih =>
    intro i c hb hi
    have hi4 : i < 4 := by omega
    have hlt := nle (show i < n by omega) hn
    have hrec := ih (i + 1) (cl_rb c a i n) (by rw [cc_rb]; exact hb) (by omega)
    rw [e_57_9]
    simp only [cl_rl]
    rw [← hrec]
    unfold cl_rb
    by_cases h1 : b_ended c a i
    · have hz := @zb_t _ (b_endedD c a i) h1
      have hb1 : (cl_cnt (b_run c a i) a i).1 (pC a) 3 = nI n := by rw [cc_cnt _ _ _ _ (by decide), cc_run]; exact hb
      rw [@if_pos _ (b_endedD c a i) h1]
      simp only [e_57_10, e_57_11, e_57_14, e_57_17, e_57_18, e_57_21, e_57_22t106, e_57_35t106, e_57_23, e_57_26, e_57_29, e_57_30, e_57_31, e_57_34, e_57_36, e_57_39, e_57_40, e_57_43, e_57_46, k_brun ha hi4, hz, k_ccnt ha hi4, k_call ha hb1 hn, TC ha, RCa ha, TA ha, LA ha, RA ha hi4, TB ha hi4, I_lo (lt_C ha), in4 hi4, cl_4 hi4, hb, hlt, tl_s, tl_n, rf_s, rf_n, cs_nil, cs_cons, cat_r, cat_i, cat_l, cat_n, cat_a, Nat.reduceAdd, Nat.reduceMul, Nat.reduceLeDiff, Nat.reduceEqDiff, Nat.reduceLT, and_self, and_true, true_and, and_false, false_and, or_true, true_or, or_false, false_or, if_true, if_false, not_true_eq_false, not_false_eq_true, reduceCtorEq, reduceIte, q_0_1, q_0_2, q_0_3, q_0_4, q_0_5, q_0_6, q_1_0, q_1_2, q_1_3, q_1_4, q_1_5, q_1_6, q_2_0, q_2_1, q_2_3, q_2_4, q_2_5, q_2_6, q_3_0, q_3_1, q_3_2, q_3_4, q_3_5, q_3_6, q_4_0, q_4_1, q_4_2, q_4_3, q_4_5, q_4_6, q_5_0, q_5_1, q_5_2, q_5_3, q_5_4, q_5_6, q_6_0, q_6_1, q_6_2, q_6_3, q_6_4, q_6_5, ad1]
    · have hz := @zb_f _ (b_endedD c a i) h1
      rw [@if_neg _ (b_endedD c a i) h1]
      simp only [e_57_10, e_57_11, e_57_14, e_57_17, e_57_18, e_57_21, e_57_22t106, e_57_35t106, e_57_23, e_57_26, e_57_29, e_57_30, e_57_31, e_57_34, e_57_36, e_57_39, e_57_40, e_57_43, e_57_46, k_brun ha hi4, hz, TC ha, RCa ha, TA ha, LA ha, RA ha hi4, TB ha hi4, I_lo (lt_C ha), in4 hi4, cl_4 hi4, hb, hlt, tl_s, tl_n, rf_s, rf_n, cs_nil, cs_cons, cat_r, cat_i, cat_l, cat_n, cat_a, Nat.reduceAdd, Nat.reduceMul, Nat.reduceLeDiff, Nat.reduceEqDiff, Nat.reduceLT, and_self, and_true, true_and, and_false, false_and, or_true, true_or, or_false, false_or, if_true, if_false, not_true_eq_false, not_false_eq_true, reduceCtorEq, reduceIte, ad1]
set_option maxRecDepth 20000 in
set_option maxHeartbeats 2000000 in
theorem x_crun {a n : Nat} (ha : a < 4) (hb : c.1 (pC a) 3 = nI n) (hn : n ≤ 4) : Ex xs L 57 [.ref (pC a)] (hh c s) (none, hh (cl_run c a n) s) := by
  refine Ex_of xs L rfl ?_
  show Ev xs L _ (0, [.ref (pC a), .retAddr 1], [], hh c s) _
  simp only [e_57_0, e_57_1, e_57_4, e_57_7, e_57_8, k_srun ha, TC ha, RCs ha, TS ha, tl_s, tl_n, rf_s, rf_n, cs_nil, cs_cons, cat_r, cat_i, cat_l, cat_n, cat_a, Nat.reduceAdd, Nat.reduceMul, Nat.reduceLeDiff, Nat.reduceEqDiff, Nat.reduceLT, and_self, and_true, true_and, and_false, false_and, or_true, true_or, or_false, false_or, if_true, if_false, not_true_eq_false, not_false_eq_true, reduceCtorEq, reduceIte]
  exact (x_crl ha hn n 0 _ (by rw [cc_srun]; exact hb) (by omega)).mpr rfl
theorem k_crun {a n : Nat} {K : Option Value → ix_H → Prop} (ha : a < 4) (hb : c.1 (pC a) 3 = nI n) (hn : n ≤ 4) : Cl xs L 57 [.ref (pC a)] (hh c s) K ↔ K none (hh (cl_run c a n) s) := Cl_of xs L (x_crun ha hb hn)
def cl_dl (c : CM) (a : Nat) : Nat → Nat → Int32 → Int32
  | 0, _, z => z
  | d + 1, i, z => cl_dl c a d (i + 1) (mn z (b_due c a i))
def cl_due (c : CM) (a n : Nat) : Int32 := cl_dl c a n 0 (sv_due c a)
set_option maxRecDepth 20000 in
set_option maxHeartbeats 2000000 in
theorem x_cdl {o : ix_O} {a n : Nat} (ha : a < 4) (hb : c.1 (pC a) 3 = nI n) (hn : n ≤ 4) : ∀ (d i : Nat) (z : Int32), i + d = n → (Ev xs L 58 (10, [.ref (pC a), .int z, .int (nI i)], [], hh c s) o ↔ o = (some (.int (cl_dl c a d i z)), hh c s)) := by
  intro d
  induction d with
  | zero =>
    intro i z hi
    obtain rfl : i = n := by omega
    simp only [e_58_10, e_58_11, e_58_12, e_58_15, e_58_38, e_58_39, TC ha, I_lo (lt_C ha), hb, tl_s, tl_n, rf_s, rf_n, cs_nil, cs_cons, cat_r, cat_i, cat_l, cat_n, cat_a, Nat.reduceAdd, Nat.reduceMul, Nat.reduceLeDiff, Nat.reduceEqDiff, Nat.reduceLT, and_self, and_true, true_and, and_false, false_and, or_true, true_or, or_false, false_or, if_true, if_false, not_true_eq_false, not_false_eq_true, reduceCtorEq, reduceIte, le_rf, cl_dl]
  | succ d ih =>
    intro i z hi
    have hi4 : i < 4 := by omega
    have hlt := nle (show i < n by omega) hn
    rw [e_58_10]
    simp only [cl_dl]
    rw [← ih (i + 1) _ (by omega)]
    simp only [e_58_11, e_58_12, e_58_15, e_58_18, e_58_19, e_58_20, e_58_23, e_58_24t106, e_58_25, e_58_28, e_58_31, e_58_32, e_58_35, k_bdu ha hi4, TC ha, RCa ha, TA ha, LA ha, RA ha hi4, TB ha hi4, I_lo (lt_C ha), in4 hi4, cl_4 hi4, hb, hlt, tl_s, tl_n, rf_s, rf_n, cs_nil, cs_cons, cat_r, cat_i, cat_l, cat_n, cat_a, Nat.reduceAdd, Nat.reduceMul, Nat.reduceLeDiff, Nat.reduceEqDiff, Nat.reduceLT, and_self, and_true, true_and, and_false, false_and, or_true, true_or, or_false, false_or, if_true, if_false, not_true_eq_false, not_false_eq_true, reduceCtorEq, reduceIte, ad1, mn]
set_option maxRecDepth 20000 in
set_option maxHeartbeats 2000000 in
theorem x_cdue {a n : Nat} (ha : a < 4) (hb : c.1 (pC a) 3 = nI n) (hn : n ≤ 4) : Ex xs L 58 [.ref (pC a)] (hh c s) (some (.int (cl_due c a n)), hh c s) := by
  refine Ex_of xs L rfl ?_
  show Ev xs L _ (0, [.ref (pC a), .retAddr 1, .retAddr 1], [], hh c s) _
  simp only [e_58_0, e_58_1, e_58_4, e_58_7, e_58_8, e_58_9, k_sdu ha, TC ha, RCs ha, TS ha, tl_s, tl_n, rf_s, rf_n, cs_nil, cs_cons, cat_r, cat_i, cat_l, cat_n, cat_a, Nat.reduceAdd, Nat.reduceMul, Nat.reduceLeDiff, Nat.reduceEqDiff, Nat.reduceLT, and_self, and_true, true_and, and_false, false_and, or_true, true_or, or_false, false_or, if_true, if_false, not_true_eq_false, not_false_eq_true, reduceCtorEq, reduceIte]
  exact (x_cdl ha hb hn n 0 _ (by omega)).mpr rfl
theorem k_cdue {a n : Nat} {K : Option Value → ix_H → Prop} (ha : a < 4) (hb : c.1 (pC a) 3 = nI n) (hn : n ≤ 4) : Cl xs L 58 [.ref (pC a)] (hh c s) K ↔ K (some (.int (cl_due c a n))) (hh c s) := Cl_of xs L (x_cdue ha hb hn)
end CL
