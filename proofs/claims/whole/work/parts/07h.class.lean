section CL
variable {xs : Nat → Int32} {L : Nat} {h : ix_H} {c : CM} {s : MM}
theorem f_0 {i : Nat} (h : i < 4) : (nI i < 0) = False := eq_false (nI_pos (by omega))
theorem f_4 {i : Nat} (h : i < 4) : (nI i < 4) = True := eq_true (nI_lt (a := i) (b := 4) h (by decide))
theorem f_5 {i : Nat} (h : i < 4) : (4 ≤ nI i) = False := eq_false (nI_ge (b := 4) h (by decide))
theorem f_6 {u : Int32} (h : 3 < u) : (u < 4) = False := eq_false (fun q => by rw [Int32.lt_iff_toInt_lt] at h q; have e3 : (3 : Int32).toInt = 3 := by decide
                                                                               have e4 : (4 : Int32).toInt = 4 := by decide
                                                                               rw [e3] at h; rw [e4] at q; omega)
theorem f_7 {u : Int32} (h : 3 < u) : (4 ≤ u) = True := eq_true (Int32.not_lt.mp (fun q => by rw [f_6 h] at q; exact q))
-- users by number
set_option maxRecDepth 20000 in
set_option maxHeartbeats 2000000 in
theorem x_ua {u : Nat} (hu : u < 4) : Ex xs L 20 [.ref 0, .int (nI u)] (hh c s) (some (.ref (pU u)), hh c s) := by
  refine Ex_of xs L rfl ?_
  show Ev xs L _ (0, [.ref 0, .int (nI u)], [], hh c s) _
  simp only [e_20_0, e_20_1, e_20_4, e_20_5, e_20_6, e_20_9, e_20_10, e_20_13, e_20_14, e_20_17, e_20_18t103, e_20_19, e_20_19n, T0, T1, T2, T4, T29, L4, L29, R0c, R0l, R0u, R0k, I_lo lt0, I_lo lt1, I_lo lt2, sI_lo lt0, sI_lo lt1, R4 hu, f_0 hu, f_4 hu, in4 hu, cl_4 hu, tl_s, tl_n, rf_s, rf_n, cs_nil, cs_cons, cat_r, cat_i, cat_l, cat_n, cat_a, Nat.reduceAdd, Nat.reduceMul, Nat.reduceLeDiff, Nat.reduceEqDiff, Nat.reduceLT, and_self, and_true, true_and, and_false, false_and, or_true, true_or, or_false, false_or, if_true, if_false, not_true_eq_false, not_false_eq_true, reduceCtorEq, reduceIte]
theorem k_ua {u : Nat} {K : Option Value → ix_H → Prop} (hu : u < 4) : Cl xs L 20 [.ref 0, .int (nI u)] (hh c s) K ↔ K (some (.ref (pU u))) (hh c s) := Cl_of xs L (x_ua hu)
set_option maxRecDepth 20000 in
set_option maxHeartbeats 2000000 in
theorem x_uaN {u : Int32} (hu : no4 u) : Ex xs L 20 [.ref 0, .int u] (hh c s) (some .null, hh c s) := by
  refine Ex_of xs L rfl ?_
  show Ev xs L _ (0, [.ref 0, .int u], [], hh c s) _
  by_cases h1 : u < 0
  · simp only [e_20_0, e_20_1, e_20_4, e_20_5, e_20_6, e_20_9, e_20_10, e_20_13, e_20_14, e_20_17, e_20_18, e_20_19, e_20_19n, eq_true h1, tl_s, tl_n, rf_s, rf_n, cs_nil, cs_cons, cat_r, cat_i, cat_l, cat_n, cat_a, Nat.reduceAdd, Nat.reduceMul, Nat.reduceLeDiff, Nat.reduceEqDiff, Nat.reduceLT, and_self, and_true, true_and, and_false, false_and, or_true, true_or, or_false, false_or, if_true, if_false, not_true_eq_false, not_false_eq_true, reduceCtorEq, reduceIte]
  · simp only [e_20_0, e_20_1, e_20_4, e_20_5, e_20_6, e_20_9, e_20_10, e_20_13, e_20_14, e_20_17, e_20_18, e_20_19, e_20_19n, h1, f_6 (hu.resolve_left h1), tl_s, tl_n, rf_s, rf_n, cs_nil, cs_cons, cat_r, cat_i, cat_l, cat_n, cat_a, Nat.reduceAdd, Nat.reduceMul, Nat.reduceLeDiff, Nat.reduceEqDiff, Nat.reduceLT, and_self, and_true, true_and, and_false, false_and, or_true, true_or, or_false, false_or, if_true, if_false, not_true_eq_false, not_false_eq_true, reduceCtorEq, reduceIte]
theorem k_uaN {u : Int32} {K : Option Value → ix_H → Prop} (hu : no4 u) : Cl xs L 20 [.ref 0, .int u] (hh c s) K ↔ K (some .null) (hh c s) := Cl_of xs L (x_uaN hu)
set_option maxRecDepth 20000 in
set_option maxHeartbeats 2000000 in
theorem x_fpw {u : Nat} {w : Int32} (hu : u < 4) : Ex xs L 1 [.ref 0, .int (nI u), .int w] (hh c s) (some (.int 1), hh (cI c (pU u) 1 w) s) := by
  refine Ex_of xs L rfl ?_
  show Ev xs L _ (0, [.ref 0, .int (nI u), .int w, .retAddr 1], [], hh c s) _
  simp only [e_1_0, e_1_1, e_1_2, e_1_5, e_1_5n, e_1_6, e_1_6n, e_1_7, e_1_7n, e_1_10, e_1_11, e_1_12, e_1_12n, e_1_13, e_1_14, e_1_17, e_1_18, T0, T1, T2, T4, T29, L4, L29, R0c, R0l, R0u, R0k, I_lo lt0, I_lo lt1, I_lo lt2, sI_lo lt0, sI_lo lt1, k_ua hu, TU hu, sI_lo (lt_U hu), tl_s, tl_n, rf_s, rf_n, cs_nil, cs_cons, cat_r, cat_i, cat_l, cat_n, cat_a, Nat.reduceAdd, Nat.reduceMul, Nat.reduceLeDiff, Nat.reduceEqDiff, Nat.reduceLT, and_self, and_true, true_and, and_false, false_and, or_true, true_or, or_false, false_or, if_true, if_false, not_true_eq_false, not_false_eq_true, reduceCtorEq, reduceIte]
set_option maxRecDepth 20000 in
set_option maxHeartbeats 2000000 in
theorem x_fpwN {u w : Int32} (hu : no4 u) : Ex xs L 1 [.ref 0, .int u, .int w] (hh c s) (some (.int 0), hh c s) := by
  refine Ex_of xs L rfl ?_
  show Ev xs L _ (0, [.ref 0, .int u, .int w, .retAddr 1], [], hh c s) _
  simp only [e_1_0, e_1_1, e_1_2, e_1_5, e_1_5n, e_1_6, e_1_6n, e_1_7, e_1_7n, e_1_10, e_1_11, e_1_12, e_1_12n, e_1_13, e_1_14, e_1_17, e_1_18, T0, T1, T2, T4, T29, L4, L29, R0c, R0l, R0u, R0k, I_lo lt0, I_lo lt1, I_lo lt2, sI_lo lt0, sI_lo lt1, k_uaN hu, tl_s, tl_n, rf_s, rf_n, cs_nil, cs_cons, cat_r, cat_i, cat_l, cat_n, cat_a, Nat.reduceAdd, Nat.reduceMul, Nat.reduceLeDiff, Nat.reduceEqDiff, Nat.reduceLT, and_self, and_true, true_and, and_false, false_and, or_true, true_or, or_false, false_or, if_true, if_false, not_true_eq_false, not_false_eq_true, reduceCtorEq, reduceIte]
theorem n0U {u : Nat} : (0 = pU u) = False := eq_false (by unfold pU; omega)
set_option maxRecDepth 20000 in
set_option maxHeartbeats 2000000 in
theorem x_fch {u : Nat} (hu : u < 4) : Ex xs L 2 [.ref 0, .int (nI u)] (hh c s) (some (.int (c.1 0 4 * 69069 + 1)), hh (us_nonce (cI c 0 4 (c.1 0 4 * 69069 + 1)) u (c.1 0 4 * 69069 + 1)) s) := by
  refine Ex_of xs L rfl ?_
  show Ev xs L _ (0, [.ref 0, .int (nI u), .retAddr 1], [], hh c s) _
  simp only [e_2_0, e_2_1, e_2_2, e_2_5, e_2_5n, e_2_6, e_2_6n, e_2_7, e_2_7n, e_2_10, e_2_11, e_2_12, e_2_13, e_2_14, e_2_17, e_2_19, e_2_20, e_2_21, e_2_22, e_2_25, e_2_25n, e_2_26, e_2_27, e_2_30, e_2_33, e_2_34, e_2_37, T0, T1, T2, T4, T29, L4, L29, R0c, R0l, R0u, R0k, I_lo lt0, I_lo lt1, I_lo lt2, sI_lo lt0, sI_lo lt1, k_ua hu, k_tkn hu, TU hu, cI_at, us_nonce, n0U, tl_s, tl_n, rf_s, rf_n, cs_nil, cs_cons, cat_r, cat_i, cat_l, cat_n, cat_a, Nat.reduceAdd, Nat.reduceMul, Nat.reduceLeDiff, Nat.reduceEqDiff, Nat.reduceLT, and_self, and_true, true_and, and_false, false_and, or_true, true_or, or_false, false_or, if_true, if_false, not_true_eq_false, not_false_eq_true, reduceCtorEq, reduceIte]
set_option maxRecDepth 20000 in
set_option maxHeartbeats 2000000 in
theorem x_fchN {u : Int32} (hu : no4 u) : Ex xs L 2 [.ref 0, .int u] (hh c s) (some (.int 0), hh c s) := by
  refine Ex_of xs L rfl ?_
  show Ev xs L _ (0, [.ref 0, .int u, .retAddr 1], [], hh c s) _
  simp only [e_2_0, e_2_1, e_2_2, e_2_5, e_2_5n, e_2_6, e_2_6n, e_2_7, e_2_7n, e_2_10, e_2_11, e_2_12, e_2_13, e_2_14, e_2_17, e_2_19, e_2_20, e_2_21, e_2_22, e_2_25, e_2_25n, e_2_26, e_2_27, e_2_30, e_2_33, e_2_34, e_2_37, T0, T1, T2, T4, T29, L4, L29, R0c, R0l, R0u, R0k, I_lo lt0, I_lo lt1, I_lo lt2, sI_lo lt0, sI_lo lt1, k_uaN hu, tl_s, tl_n, rf_s, rf_n, cs_nil, cs_cons, cat_r, cat_i, cat_l, cat_n, cat_a, Nat.reduceAdd, Nat.reduceMul, Nat.reduceLeDiff, Nat.reduceEqDiff, Nat.reduceLT, and_self, and_true, true_and, and_false, false_and, or_true, true_or, or_false, false_or, if_true, if_false, not_true_eq_false, not_false_eq_true, reduceCtorEq, reduceIte]
set_option maxRecDepth 20000 in
set_option maxHeartbeats 2000000 in
theorem x_flo1 {u : Nat} {w a : Int32} (hu : u < 4) (hk : us_ok c u w a) : Ex xs L 3 [.ref 0, .int (nI u), .int w, .int a] (hh c s) (some (.int 1), hh (cI (cI c (pU u) 6 w) (pU u) 2 1) s) := by
  have kk : ∀ K, Cl xs L 83 [.ref (pU u), .int w, .int a] (hh c s) K ↔ K (some (.int 1)) (hh (cI (cI c (pU u) 6 w) (pU u) 2 1) s) := fun K => Cl_of xs L (x_adm1 hu hk)
  refine Ex_of xs L rfl ?_
  show Ev xs L _ (0, [.ref 0, .int (nI u), .int w, .int a, .retAddr 1], [], hh c s) _
  simp only [e_3_0, e_3_1, e_3_2, e_3_5, e_3_5n, e_3_7, e_3_7n, e_3_9, e_3_9n, e_3_12, e_3_12n, e_3_14, e_3_15, e_3_16, e_3_19, e_3_22, e_3_23, e_3_26, e_3_27, T0, T1, T2, T4, T29, L4, L29, R0c, R0l, R0u, R0k, I_lo lt0, I_lo lt1, I_lo lt2, sI_lo lt0, sI_lo lt1, k_ua hu, kk, TU hu, tl_s, tl_n, rf_s, rf_n, cs_nil, cs_cons, cat_r, cat_i, cat_l, cat_n, cat_a, Nat.reduceAdd, Nat.reduceMul, Nat.reduceLeDiff, Nat.reduceEqDiff, Nat.reduceLT, and_self, and_true, true_and, and_false, false_and, or_true, true_or, or_false, false_or, if_true, if_false, not_true_eq_false, not_false_eq_true, reduceCtorEq, reduceIte, q_0_1, q_0_2, q_0_3, q_0_4, q_0_5, q_0_6, q_1_0, q_1_2, q_1_3, q_1_4, q_1_5, q_1_6, q_2_0, q_2_1, q_2_3, q_2_4, q_2_5, q_2_6, q_3_0, q_3_1, q_3_2, q_3_4, q_3_5, q_3_6, q_4_0, q_4_1, q_4_2, q_4_3, q_4_5, q_4_6, q_5_0, q_5_1, q_5_2, q_5_3, q_5_4, q_5_6, q_6_0, q_6_1, q_6_2, q_6_3, q_6_4, q_6_5]
set_option maxRecDepth 20000 in
set_option maxHeartbeats 2000000 in
theorem x_flo0 {u : Nat} {w a : Int32} (hu : u < 4) (hk : ¬ us_ok c u w a) : Ex xs L 3 [.ref 0, .int (nI u), .int w, .int a] (hh c s) (some (.int 0), hh c s) := by
  have kk : ∀ K, Cl xs L 83 [.ref (pU u), .int w, .int a] (hh c s) K ↔ K (some (.int 0)) (hh c s) := fun K => Cl_of xs L (x_adm0 hu hk)
  refine Ex_of xs L rfl ?_
  show Ev xs L _ (0, [.ref 0, .int (nI u), .int w, .int a, .retAddr 1], [], hh c s) _
  simp only [e_3_0, e_3_1, e_3_2, e_3_5, e_3_5n, e_3_7, e_3_7n, e_3_9, e_3_9n, e_3_12, e_3_12n, e_3_14, e_3_15, e_3_16, e_3_19, e_3_22, e_3_23, e_3_26, e_3_27, T0, T1, T2, T4, T29, L4, L29, R0c, R0l, R0u, R0k, I_lo lt0, I_lo lt1, I_lo lt2, sI_lo lt0, sI_lo lt1, k_ua hu, kk, TU hu, tl_s, tl_n, rf_s, rf_n, cs_nil, cs_cons, cat_r, cat_i, cat_l, cat_n, cat_a, Nat.reduceAdd, Nat.reduceMul, Nat.reduceLeDiff, Nat.reduceEqDiff, Nat.reduceLT, and_self, and_true, true_and, and_false, false_and, or_true, true_or, or_false, false_or, if_true, if_false, not_true_eq_false, not_false_eq_true, reduceCtorEq, reduceIte]
set_option maxRecDepth 20000 in
set_option maxHeartbeats 2000000 in
theorem x_floN {u w a : Int32} (hu : no4 u) : Ex xs L 3 [.ref 0, .int u, .int w, .int a] (hh c s) (some (.int 0), hh c s) := by
  refine Ex_of xs L rfl ?_
  show Ev xs L _ (0, [.ref 0, .int u, .int w, .int a, .retAddr 1], [], hh c s) _
  simp only [e_3_0, e_3_1, e_3_2, e_3_5, e_3_5n, e_3_7, e_3_7n, e_3_9, e_3_9n, e_3_12, e_3_12n, e_3_14, e_3_15, e_3_16, e_3_19, e_3_22, e_3_23, e_3_26, e_3_27, T0, T1, T2, T4, T29, L4, L29, R0c, R0l, R0u, R0k, I_lo lt0, I_lo lt1, I_lo lt2, sI_lo lt0, sI_lo lt1, k_uaN hu, tl_s, tl_n, rf_s, rf_n, cs_nil, cs_cons, cat_r, cat_i, cat_l, cat_n, cat_a, Nat.reduceAdd, Nat.reduceMul, Nat.reduceLeDiff, Nat.reduceEqDiff, Nat.reduceLT, and_self, and_true, true_and, and_false, false_and, or_true, true_or, or_false, false_or, if_true, if_false, not_true_eq_false, not_false_eq_true, reduceCtorEq, reduceIte]
-- registrations
def fi_rg (ct wt en : Int32) : Prop := ((¬ ct < -1 ∧ ct ≤ 15) ∧ ((¬ wt < 0 ∧ ¬ 10 < wt) ∧ (¬ en < 0 ∧ en ≤ 5000))) ∧ (¬ ct = -1 ∨ en = 0)
def fi_rgD (ct wt en : Int32) : Decidable (fi_rg ct wt en) := inferInstanceAs (Decidable (_ ∧ _))
set_option maxRecDepth 20000 in
set_option maxHeartbeats 2000000 in
theorem x_rg {ct wt en : Int32} : Ex xs L 23 [.int ct, .int wt, .int en] h (some (.int (@zb _ (fi_rgD ct wt en))), h) := by
  refine Ex_of xs L rfl ?_
  show Ev xs L _ (0, [.int ct, .int wt, .int en], [], h) _
  by_cases h1 : ct < -1
  · rw [@zb_f _ (fi_rgD ct wt en) (fun q => q.1.1.1 h1)]
    simp only [e_23_0, e_23_1, e_23_2, e_23_5, e_23_6, e_23_8, e_23_11, e_23_12, e_23_13, e_23_14, e_23_17, e_23_18, e_23_20, e_23_23, e_23_24, e_23_27, e_23_28, e_23_31, e_23_34, e_23_35, e_23_36, e_23_37, e_23_38, e_23_41, e_23_42, e_23_45, e_23_46, e_23_49, e_23_50, eq_true h1, tl_s, tl_n, rf_s, rf_n, cs_nil, cs_cons, cat_r, cat_i, cat_l, cat_n, cat_a, Nat.reduceAdd, Nat.reduceMul, Nat.reduceLeDiff, Nat.reduceEqDiff, Nat.reduceLT, and_self, and_true, true_and, and_false, false_and, or_true, true_or, or_false, false_or, if_true, if_false, not_true_eq_false, not_false_eq_true, reduceCtorEq, reduceIte]
  · by_cases h2 : ct ≤ 15
    · by_cases h3 : wt < 0
      · rw [@zb_f _ (fi_rgD ct wt en) (fun q => q.1.2.1.1 h3)]
        simp only [e_23_0, e_23_1, e_23_2, e_23_5, e_23_6, e_23_8, e_23_11, e_23_12, e_23_13, e_23_14, e_23_17, e_23_18, e_23_20, e_23_23, e_23_24, e_23_27, e_23_28, e_23_31, e_23_34, e_23_35, e_23_36, e_23_37, e_23_38, e_23_41, e_23_42, e_23_45, e_23_46, e_23_49, e_23_50, h1, eq_true h2, eq_true h3, tl_s, tl_n, rf_s, rf_n, cs_nil, cs_cons, cat_r, cat_i, cat_l, cat_n, cat_a, Nat.reduceAdd, Nat.reduceMul, Nat.reduceLeDiff, Nat.reduceEqDiff, Nat.reduceLT, and_self, and_true, true_and, and_false, false_and, or_true, true_or, or_false, false_or, if_true, if_false, not_true_eq_false, not_false_eq_true, reduceCtorEq, reduceIte]
      · by_cases h4 : 10 < wt
        · rw [@zb_f _ (fi_rgD ct wt en) (fun q => q.1.2.1.2 h4)]
          simp only [e_23_0, e_23_1, e_23_2, e_23_5, e_23_6, e_23_8, e_23_11, e_23_12, e_23_13, e_23_14, e_23_17, e_23_18, e_23_20, e_23_23, e_23_24, e_23_27, e_23_28, e_23_31, e_23_34, e_23_35, e_23_36, e_23_37, e_23_38, e_23_41, e_23_42, e_23_45, e_23_46, e_23_49, e_23_50, h1, eq_true h2, h3, eq_true h4, tl_s, tl_n, rf_s, rf_n, cs_nil, cs_cons, cat_r, cat_i, cat_l, cat_n, cat_a, Nat.reduceAdd, Nat.reduceMul, Nat.reduceLeDiff, Nat.reduceEqDiff, Nat.reduceLT, and_self, and_true, true_and, and_false, false_and, or_true, true_or, or_false, false_or, if_true, if_false, not_true_eq_false, not_false_eq_true, reduceCtorEq, reduceIte]
        · by_cases h5 : en < 0
          · rw [@zb_f _ (fi_rgD ct wt en) (fun q => q.1.2.2.1 h5)]
            simp only [e_23_0, e_23_1, e_23_2, e_23_5, e_23_6, e_23_8, e_23_11, e_23_12, e_23_13, e_23_14, e_23_17, e_23_18, e_23_20, e_23_23, e_23_24, e_23_27, e_23_28, e_23_31, e_23_34, e_23_35, e_23_36, e_23_37, e_23_38, e_23_41, e_23_42, e_23_45, e_23_46, e_23_49, e_23_50, h1, eq_true h2, h3, h4, eq_true h5, tl_s, tl_n, rf_s, rf_n, cs_nil, cs_cons, cat_r, cat_i, cat_l, cat_n, cat_a, Nat.reduceAdd, Nat.reduceMul, Nat.reduceLeDiff, Nat.reduceEqDiff, Nat.reduceLT, and_self, and_true, true_and, and_false, false_and, or_true, true_or, or_false, false_or, if_true, if_false, not_true_eq_false, not_false_eq_true, reduceCtorEq, reduceIte]
          · by_cases h6 : en ≤ 5000
            · by_cases h7 : ct = -1
              · by_cases h8 : en = 0
                · rw [@zb_t _ (fi_rgD ct wt en) ⟨⟨⟨h1, h2⟩, ⟨h3, h4⟩, h5, h6⟩, Or.inr h8⟩]
                  simp only [e_23_0, e_23_1, e_23_2, e_23_5, e_23_6, e_23_8, e_23_11, e_23_12, e_23_13, e_23_14, e_23_17, e_23_18, e_23_20, e_23_23, e_23_24, e_23_27, e_23_28, e_23_31, e_23_34, e_23_35, e_23_36, e_23_37, e_23_38, e_23_41, e_23_42, e_23_45, e_23_46, e_23_49, e_23_50, h1, eq_true h2, h3, h4, h5, eq_true h6, eq_true h7, eq_true h8, tl_s, tl_n, rf_s, rf_n, cs_nil, cs_cons, cat_r, cat_i, cat_l, cat_n, cat_a, Nat.reduceAdd, Nat.reduceMul, Nat.reduceLeDiff, Nat.reduceEqDiff, Nat.reduceLT, and_self, and_true, true_and, and_false, false_and, or_true, true_or, or_false, false_or, if_true, if_false, not_true_eq_false, not_false_eq_true, reduceCtorEq, reduceIte]
                · rw [@zb_f _ (fi_rgD ct wt en) (fun q => q.2.elim (fun w => w h7) h8)]
                  simp only [e_23_0, e_23_1, e_23_2, e_23_5, e_23_6, e_23_8, e_23_11, e_23_12, e_23_13, e_23_14, e_23_17, e_23_18, e_23_20, e_23_23, e_23_24, e_23_27, e_23_28, e_23_31, e_23_34, e_23_35, e_23_36, e_23_37, e_23_38, e_23_41, e_23_42, e_23_45, e_23_46, e_23_49, e_23_50, h1, eq_true h2, h3, h4, h5, eq_true h6, eq_true h7, h8, tl_s, tl_n, rf_s, rf_n, cs_nil, cs_cons, cat_r, cat_i, cat_l, cat_n, cat_a, Nat.reduceAdd, Nat.reduceMul, Nat.reduceLeDiff, Nat.reduceEqDiff, Nat.reduceLT, and_self, and_true, true_and, and_false, false_and, or_true, true_or, or_false, false_or, if_true, if_false, not_true_eq_false, not_false_eq_true, reduceCtorEq, reduceIte]
              · rw [@zb_t _ (fi_rgD ct wt en) ⟨⟨⟨h1, h2⟩, ⟨h3, h4⟩, h5, h6⟩, Or.inl h7⟩]
                simp only [e_23_0, e_23_1, e_23_2, e_23_5, e_23_6, e_23_8, e_23_11, e_23_12, e_23_13, e_23_14, e_23_17, e_23_18, e_23_20, e_23_23, e_23_24, e_23_27, e_23_28, e_23_31, e_23_34, e_23_35, e_23_36, e_23_37, e_23_38, e_23_41, e_23_42, e_23_45, e_23_46, e_23_49, e_23_50, h1, eq_true h2, h3, h4, h5, eq_true h6, h7, tl_s, tl_n, rf_s, rf_n, cs_nil, cs_cons, cat_r, cat_i, cat_l, cat_n, cat_a, Nat.reduceAdd, Nat.reduceMul, Nat.reduceLeDiff, Nat.reduceEqDiff, Nat.reduceLT, and_self, and_true, true_and, and_false, false_and, or_true, true_or, or_false, false_or, if_true, if_false, not_true_eq_false, not_false_eq_true, reduceCtorEq, reduceIte]
            · rw [@zb_f _ (fi_rgD ct wt en) (fun q => h6 q.1.2.2.2)]
              simp only [e_23_0, e_23_1, e_23_2, e_23_5, e_23_6, e_23_8, e_23_11, e_23_12, e_23_13, e_23_14, e_23_17, e_23_18, e_23_20, e_23_23, e_23_24, e_23_27, e_23_28, e_23_31, e_23_34, e_23_35, e_23_36, e_23_37, e_23_38, e_23_41, e_23_42, e_23_45, e_23_46, e_23_49, e_23_50, h1, eq_true h2, h3, h4, h5, h6, tl_s, tl_n, rf_s, rf_n, cs_nil, cs_cons, cat_r, cat_i, cat_l, cat_n, cat_a, Nat.reduceAdd, Nat.reduceMul, Nat.reduceLeDiff, Nat.reduceEqDiff, Nat.reduceLT, and_self, and_true, true_and, and_false, false_and, or_true, true_or, or_false, false_or, if_true, if_false, not_true_eq_false, not_false_eq_true, reduceCtorEq, reduceIte]
    · rw [@zb_f _ (fi_rgD ct wt en) (fun q => h2 q.1.1.2)]
      simp only [e_23_0, e_23_1, e_23_2, e_23_5, e_23_6, e_23_8, e_23_11, e_23_12, e_23_13, e_23_14, e_23_17, e_23_18, e_23_20, e_23_23, e_23_24, e_23_27, e_23_28, e_23_31, e_23_34, e_23_35, e_23_36, e_23_37, e_23_38, e_23_41, e_23_42, e_23_45, e_23_46, e_23_49, e_23_50, h1, h2, tl_s, tl_n, rf_s, rf_n, cs_nil, cs_cons, cat_r, cat_i, cat_l, cat_n, cat_a, Nat.reduceAdd, Nat.reduceMul, Nat.reduceLeDiff, Nat.reduceEqDiff, Nat.reduceLT, and_self, and_true, true_and, and_false, false_and, or_true, true_or, or_false, false_or, if_true, if_false, not_true_eq_false, not_false_eq_true, reduceCtorEq, reduceIte]
theorem k_rg {ct wt en : Int32} {K : Option Value → ix_H → Prop} : Cl xs L 23 [.int ct, .int wt, .int en] h K ↔ K (some (.int (@zb _ (fi_rgD ct wt en)))) h := Cl_of xs L x_rg
theorem us_de_ok {u : Nat} : ∀ (i : Nat) (c : CM) (m : Nat), i ≤ m → m ≤ 4 → Pok c u → c.1 (pU u) 8 = nI m → Pok (us_de u i c m).1 u ∧ (us_de u i c m).1.1 (pU u) 8 = nI (us_de u i c m).2 ∧ (us_de u i c m).2 ≤ m := by
  intro i
  induction i with
  | zero => intro c m _ _ hp hc; exact ⟨hp, hc, Nat.le_refl _⟩
  | succ i ih =>
    intro c m hi hm hp hc
    simp only [us_de]
    split
    · exact ih c m (by omega) hm hp hc
    · have := ih _ (m - 1) (by omega) (by omega) (Pok_rm hp (show i < m by omega) hm) (us_rm_8 c u i m)
      exact ⟨this.1, this.2.1, by omega⟩
def us_bd (c : CM) (u m : Nat) (ct wt en mk : Int32) : CM × Int32 := match us_fd c u ct m 0 with
  | some t => (us_wr c (pN u (c.2.1 (pW u) t)) ct wt en mk, 1)
  | none => if m < 4 then (us_wr (cI c (pU u) 8 (nI (m + 1))) (pN u (c.2.1 (pW u) m)) ct wt en mk, 1) else (c, 0)
set_option maxRecDepth 20000 in
set_option maxHeartbeats 2000000 in
theorem x_bd {u m : Nat} {ct wt en mk : Int32} (hu : u < 4) (hm : m ≤ 4) (hp : Pok c u) (hc : c.1 (pU u) 8 = nI m) : Ex xs L 90 [.ref (pU u), .int ct, .int wt, .int en, .int mk] (hh c s) (some (.int (us_bd c u m ct wt en mk).2), hh (us_bd c u m ct wt en mk).1 s) := by
  unfold us_bd
  cases hf : us_fd c u ct m 0 with
  | some t => exact x_bind1 hu hm hp hc hf
  | none =>
    by_cases h4 : m < 4
    · simp only [h4, if_true]
      exact x_bind2 hu h4 hp hc hf
    · obtain rfl : m = 4 := by omega
      exact x_bind0 hu hp hc hf
theorem us_bd_01 (c : CM) (u m : Nat) (ct wt en mk : Int32) : (us_bd c u m ct wt en mk).2 = 0 ∨ (us_bd c u m ct wt en mk).2 = 1 := by
  unfold us_bd
  split
  · exact Or.inr rfl
  · split
    · exact Or.inr rfl
    · exact Or.inl rfl
def us_odD (c : CM) (u : Nat) (ct mk : Int32) : (d i : Nat) → Decidable (us_od c u ct mk d i)
  | 0, _ => isFalse (fun q => q)
  | d + 1, i => @instDecidableOr _ _ (inferInstanceAs (Decidable (_ ∧ _))) (us_odD c u ct mk d (i + 1))
set_option maxRecDepth 20000 in
set_option maxHeartbeats 2000000 in
theorem x_od {u m : Nat} {ct mk : Int32} (hu : u < 4) (hm : m ≤ 4) (hp : Pok c u) (hc : c.1 (pU u) 8 = nI m) : Ex xs L 86 [.ref (pU u), .int ct, .int mk] (hh c s) (some (.int (@zb _ (us_odD c u ct mk m 0))), hh c s) := by
  by_cases hy : us_od c u ct mk m 0
  · rw [@zb_t _ (us_odD c u ct mk m 0) hy]; exact x_od1 hu hm hp hc hy
  · rw [@zb_f _ (us_odD c u ct mk m 0) hy]; exact x_od0 hu hm hp hc hy
def fi_r2 (c : CM) (u m : Nat) (ct wt en mk : Int32) : CM × Int32 := @ite _ (us_od c u ct mk m 0) (us_odD c u ct mk m 0) (c, 500) (if ct = -1 then (cI c (pU u) 8 0, 200) else if en = 0 then ((us_rt u ct m c m).1, 200) else ((us_bd c u m ct wt en mk).1, if (us_bd c u m ct wt en mk).2 = 0 then 503 else 200))
def fi_reg (c : CM) (u m : Nat) (ct wt en mk : Int32) : CM × Int32 := @ite _ (fi_rg ct wt en) (fi_rgD ct wt en) (if c.1 (pU u) 2 = 0 then (c, 401) else fi_r2 (us_de u m (cI c (pU u) 2 0) m).1 u (us_de u m (cI c (pU u) 2 0) m).2 ct wt en mk) (c, 400)
set_option maxRecDepth 20000 in
set_option maxHeartbeats 2000000 in
theorem x_frgN {u ct wt en mk : Int32} (hu : no4 u) : Ex xs L 4 [.ref 0, .int u, .int ct, .int wt, .int en, .int mk] (hh c s) (some (.int 400), hh c s) := by
  refine Ex_of xs L rfl ?_
  show Ev xs L _ (0, [.ref 0, .int u, .int ct, .int wt, .int en, .int mk, .retAddr 1], [], hh c s) _
  simp only [e_4_0, e_4_1, e_4_2, e_4_5, e_4_5n, e_4_7, e_4_7n, e_4_9, e_4_9n, e_4_12, e_4_13, e_4_14, e_4_16, e_4_19, e_4_22, e_4_25, e_4_26, e_4_26n, e_4_28, e_4_31, e_4_34, e_4_37, e_4_38, e_4_38n, e_4_40, e_4_41, e_4_44, e_4_44n, e_4_46, e_4_49, e_4_49n, e_4_51, e_4_52, e_4_54, e_4_57, e_4_60, e_4_63, e_4_64, e_4_65, e_4_66, e_4_69, e_4_69n, e_4_71, e_4_74, e_4_77, e_4_78, e_4_80, e_4_83, e_4_83n, e_4_85, e_4_86, e_4_89, e_4_92, e_4_93, e_4_93n, e_4_95, e_4_96, e_4_97, e_4_99, e_4_101, e_4_104, e_4_107, e_4_110, e_4_113, e_4_116, T0, T1, T2, T4, T29, L4, L29, R0c, R0l, R0u, R0k, I_lo lt0, I_lo lt1, I_lo lt2, sI_lo lt0, sI_lo lt1, k_uaN hu, tl_s, tl_n, rf_s, rf_n, cs_nil, cs_cons, cat_r, cat_i, cat_l, cat_n, cat_a, Nat.reduceAdd, Nat.reduceMul, Nat.reduceLeDiff, Nat.reduceEqDiff, Nat.reduceLT, and_self, and_true, true_and, and_false, false_and, or_true, true_or, or_false, false_or, if_true, if_false, not_true_eq_false, not_false_eq_true, reduceCtorEq, reduceIte]
end CL
