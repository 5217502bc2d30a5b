section CL
variable {xs : Nat → Int32} {L : Nat} {h : ix_H} {c : CM} {s : MM}
theorem fr_2 {o : ix_O} {u m : Nat} {ct wt en mk : Int32} (hu : u < 4) (hm : m ≤ 4) (hp : Pok c u) (hc : c.1 (pU u) 8 = nI m) : Ev xs L 4 (49, [.ref 0, .int (nI u), .int ct, .int wt, .int en, .int mk, .ref (pU u)], [], hh c s) o ↔ o = (some (.int (fi_r2 c u m ct wt en mk).2), hh (fi_r2 c u m ct wt en mk).1 s) := by
  have k1 : ∀ K, Cl xs L 86 [.ref (pU u), .int ct, .int mk] (hh c s) K ↔ K (some (.int (@zb _ (us_odD c u ct mk m 0)))) (hh c s) := fun K => Cl_of xs L (x_od hu hm hp hc)
  have k2 : ∀ K, Cl xs L 90 [.ref (pU u), .int ct, .int wt, .int en, .int mk] (hh c s) K ↔ K (some (.int (us_bd c u m ct wt en mk).2)) (hh (us_bd c u m ct wt en mk).1 s) := fun K => Cl_of xs L (x_bd hu hm hp hc)
  unfold fi_r2
  by_cases h1 : us_od c u ct mk m 0
  · have hz := @zb_t _ (us_odD c u ct mk m 0) h1
    rw [@if_pos _ (us_odD c u ct mk m 0) h1]
    simp only [e_4_49, e_4_49n, e_4_51, e_4_52, e_4_54, e_4_57, e_4_60, e_4_63, k1, hz, TU hu, tl_s, tl_n, rf_s, rf_n, cs_nil, cs_cons, cat_r, cat_i, cat_l, cat_n, cat_a, Nat.reduceAdd, Nat.reduceMul, Nat.reduceLeDiff, Nat.reduceEqDiff, Nat.reduceLT, and_self, and_true, true_and, and_false, false_and, or_true, true_or, or_false, false_or, if_true, if_false, not_true_eq_false, not_false_eq_true, reduceCtorEq, reduceIte, q_0_1, q_0_2, q_0_3, q_0_4, q_0_5, q_0_6, q_1_0, q_1_2, q_1_3, q_1_4, q_1_5, q_1_6, q_2_0, q_2_1, q_2_3, q_2_4, q_2_5, q_2_6, q_3_0, q_3_1, q_3_2, q_3_4, q_3_5, q_3_6, q_4_0, q_4_1, q_4_2, q_4_3, q_4_5, q_4_6, q_5_0, q_5_1, q_5_2, q_5_3, q_5_4, q_5_6, q_6_0, q_6_1, q_6_2, q_6_3, q_6_4, q_6_5]
  · have hz := @zb_f _ (us_odD c u ct mk m 0) h1
    rw [@if_neg _ (us_odD c u ct mk m 0) h1]
    by_cases h2 : ct = -1
    · simp only [e_4_49, e_4_49n, e_4_51, e_4_52, e_4_54, e_4_57, e_4_60, e_4_63, e_4_64, e_4_65, e_4_66, e_4_69, e_4_69n, e_4_71, e_4_74, e_4_77, k1, hz, k_ra hu, TU hu, tl_s, tl_n, rf_s, rf_n, cs_nil, cs_cons, cat_r, cat_i, cat_l, cat_n, cat_a, Nat.reduceAdd, Nat.reduceMul, Nat.reduceLeDiff, Nat.reduceEqDiff, Nat.reduceLT, and_self, and_true, true_and, and_false, false_and, or_true, true_or, or_false, false_or, if_true, if_false, not_true_eq_false, not_false_eq_true, reduceCtorEq, reduceIte, eq_true h2]
    · by_cases h3 : en = 0
      · simp only [e_4_49, e_4_49n, e_4_51, e_4_52, e_4_54, e_4_57, e_4_60, e_4_63, e_4_64, e_4_65, e_4_66, e_4_69, e_4_69n, e_4_71, e_4_74, e_4_77, e_4_78, e_4_80, e_4_83, e_4_83n, e_4_85, e_4_86, e_4_89, e_4_92, k1, hz, k_rt hu hm hp hc, TU hu, tl_s, tl_n, rf_s, rf_n, cs_nil, cs_cons, cat_r, cat_i, cat_l, cat_n, cat_a, Nat.reduceAdd, Nat.reduceMul, Nat.reduceLeDiff, Nat.reduceEqDiff, Nat.reduceLT, and_self, and_true, true_and, and_false, false_and, or_true, true_or, or_false, false_or, if_true, if_false, not_true_eq_false, not_false_eq_true, reduceCtorEq, reduceIte, h2, eq_true h3]
      · by_cases h4 : (us_bd c u m ct wt en mk).2 = 0
        · simp only [e_4_49, e_4_49n, e_4_51, e_4_52, e_4_54, e_4_57, e_4_60, e_4_63, e_4_64, e_4_65, e_4_66, e_4_69, e_4_69n, e_4_71, e_4_74, e_4_77, e_4_78, e_4_80, e_4_83, e_4_83n, e_4_85, e_4_86, e_4_89, e_4_92, e_4_93, e_4_93n, e_4_95, e_4_96, e_4_97, e_4_99, e_4_101, e_4_104, e_4_107, e_4_110, e_4_113, e_4_116, k1, hz, k2, TU hu, tl_s, tl_n, rf_s, rf_n, cs_nil, cs_cons, cat_r, cat_i, cat_l, cat_n, cat_a, Nat.reduceAdd, Nat.reduceMul, Nat.reduceLeDiff, Nat.reduceEqDiff, Nat.reduceLT, and_self, and_true, true_and, and_false, false_and, or_true, true_or, or_false, false_or, if_true, if_false, not_true_eq_false, not_false_eq_true, reduceCtorEq, reduceIte, h2, h3, eq_true h4]
        · simp only [e_4_49, e_4_49n, e_4_51, e_4_52, e_4_54, e_4_57, e_4_60, e_4_63, e_4_64, e_4_65, e_4_66, e_4_69, e_4_69n, e_4_71, e_4_74, e_4_77, e_4_78, e_4_80, e_4_83, e_4_83n, e_4_85, e_4_86, e_4_89, e_4_92, e_4_93, e_4_93n, e_4_95, e_4_96, e_4_97, e_4_99, e_4_101, e_4_104, e_4_107, e_4_110, e_4_113, e_4_116, k1, hz, k2, TU hu, tl_s, tl_n, rf_s, rf_n, cs_nil, cs_cons, cat_r, cat_i, cat_l, cat_n, cat_a, Nat.reduceAdd, Nat.reduceMul, Nat.reduceLeDiff, Nat.reduceEqDiff, Nat.reduceLT, and_self, and_true, true_and, and_false, false_and, or_true, true_or, or_false, false_or, if_true, if_false, not_true_eq_false, not_false_eq_true, reduceCtorEq, reduceIte, h2, h3, h4]
theorem Pok_cI {u p j : Nat} {v : Int32} (h : Pok c u) : Pok (cI c p j v) u := fun i hi => h i hi
set_option maxRecDepth 20000 in
set_option maxHeartbeats 2000000 in
theorem x_frg {u m : Nat} {ct wt en mk : Int32} (hu : u < 4) (hm : m ≤ 4) (hp : Pok c u) (hc : c.1 (pU u) 8 = nI m) : Ex xs L 4 [.ref 0, .int (nI u), .int ct, .int wt, .int en, .int mk] (hh c s) (some (.int (fi_reg c u m ct wt en mk).2), hh (fi_reg c u m ct wt en mk).1 s) := by
  refine Ex_of xs L rfl ?_
  show Ev xs L _ (0, [.ref 0, .int (nI u), .int ct, .int wt, .int en, .int mk, .retAddr 1], [], hh c s) _
  unfold fi_reg
  by_cases h1 : fi_rg ct wt en
  · have hz := @zb_t _ (fi_rgD ct wt en) h1
    rw [@if_pos _ (fi_rgD ct wt en) h1]
    by_cases h2 : c.1 (pU u) 2 = 0
    · simp only [e_4_0, e_4_1, e_4_2, e_4_5, e_4_5n, e_4_7, e_4_7n, e_4_9, e_4_9n, e_4_12, e_4_13, e_4_14, e_4_16, e_4_19, e_4_22, e_4_25, e_4_26, e_4_26n, e_4_28, e_4_31, e_4_34, e_4_37, T0, T1, T2, T4, T29, L4, L29, R0c, R0l, R0u, R0k, I_lo lt0, I_lo lt1, I_lo lt2, sI_lo lt0, sI_lo lt1, k_ua hu, k_rg, hz, TU hu, I_lo (lt_U hu), tl_s, tl_n, rf_s, rf_n, cs_nil, cs_cons, cat_r, cat_i, cat_l, cat_n, cat_a, Nat.reduceAdd, Nat.reduceMul, Nat.reduceLeDiff, Nat.reduceEqDiff, Nat.reduceLT, and_self, and_true, true_and, and_false, false_and, or_true, true_or, or_false, false_or, if_true, if_false, not_true_eq_false, not_false_eq_true, reduceCtorEq, reduceIte, q_0_1, q_0_2, q_0_3, q_0_4, q_0_5, q_0_6, q_1_0, q_1_2, q_1_3, q_1_4, q_1_5, q_1_6, q_2_0, q_2_1, q_2_3, q_2_4, q_2_5, q_2_6, q_3_0, q_3_1, q_3_2, q_3_4, q_3_5, q_3_6, q_4_0, q_4_1, q_4_2, q_4_3, q_4_5, q_4_6, q_5_0, q_5_1, q_5_2, q_5_3, q_5_4, q_5_6, q_6_0, q_6_1, q_6_2, q_6_3, q_6_4, q_6_5, eq_true h2]
    · have hc1 : (cI c (pU u) 2 0).1 (pU u) 8 = nI m := by
        rw [cI_at, if_neg (fun q => absurd q.2 (by decide))]; exact hc
      have hd := us_de_ok m (cI c (pU u) 2 0) m (Nat.le_refl m) hm (Pok_cI hp) hc1
      simp only [e_4_0, e_4_1, e_4_2, e_4_5, e_4_5n, e_4_7, e_4_7n, e_4_9, e_4_9n, e_4_12, e_4_13, e_4_14, e_4_16, e_4_19, e_4_22, e_4_25, e_4_26, e_4_26n, e_4_28, e_4_31, e_4_34, e_4_37, e_4_38, e_4_38n, e_4_40, e_4_41, e_4_44, e_4_44n, e_4_46, T0, T1, T2, T4, T29, L4, L29, R0c, R0l, R0u, R0k, I_lo lt0, I_lo lt1, I_lo lt2, sI_lo lt0, sI_lo lt1, k_ua hu, k_rg, hz, k_de hu hm (Pok_cI hp) hc1, TU hu, I_lo (lt_U hu), sI_lo (lt_U hu), tl_s, tl_n, rf_s, rf_n, cs_nil, cs_cons, cat_r, cat_i, cat_l, cat_n, cat_a, Nat.reduceAdd, Nat.reduceMul, Nat.reduceLeDiff, Nat.reduceEqDiff, Nat.reduceLT, and_self, and_true, true_and, and_false, false_and, or_true, true_or, or_false, false_or, if_true, if_false, not_true_eq_false, not_false_eq_true, reduceCtorEq, reduceIte, q_0_1, q_0_2, q_0_3, q_0_4, q_0_5, q_0_6, q_1_0, q_1_2, q_1_3, q_1_4, q_1_5, q_1_6, q_2_0, q_2_1, q_2_3, q_2_4, q_2_5, q_2_6, q_3_0, q_3_1, q_3_2, q_3_4, q_3_5, q_3_6, q_4_0, q_4_1, q_4_2, q_4_3, q_4_5, q_4_6, q_5_0, q_5_1, q_5_2, q_5_3, q_5_4, q_5_6, q_6_0, q_6_1, q_6_2, q_6_3, q_6_4, q_6_5, h2]
      exact (fr_2 hu (Nat.le_trans hd.2.2 hm) hd.1 hd.2.1).mpr rfl
  · have hz := @zb_f _ (fi_rgD ct wt en) h1
    rw [@if_neg _ (fi_rgD ct wt en) h1]
    simp only [e_4_0, e_4_1, e_4_2, e_4_5, e_4_5n, e_4_7, e_4_7n, e_4_9, e_4_9n, e_4_12, e_4_13, e_4_14, e_4_16, e_4_19, e_4_22, e_4_25, T0, T1, T2, T4, T29, L4, L29, R0c, R0l, R0u, R0k, I_lo lt0, I_lo lt1, I_lo lt2, sI_lo lt0, sI_lo lt1, k_ua hu, k_rg, hz, tl_s, tl_n, rf_s, rf_n, cs_nil, cs_cons, cat_r, cat_i, cat_l, cat_n, cat_a, Nat.reduceAdd, Nat.reduceMul, Nat.reduceLeDiff, Nat.reduceEqDiff, Nat.reduceLT, and_self, and_true, true_and, and_false, false_and, or_true, true_or, or_false, false_or, if_true, if_false, not_true_eq_false, not_false_eq_true, reduceCtorEq, reduceIte]
-- how many, which
set_option maxRecDepth 20000 in
set_option maxHeartbeats 2000000 in
theorem x_fbs {u m : Nat} (hu : u < 4) (hm : m ≤ 4) (hp : Pok c u) (hc : c.1 (pU u) 8 = nI m) : Ex xs L 5 [.ref 0, .int (nI u)] (hh c s) (some (.int (nI (us_de u m c m).2)), hh (us_de u m c m).1 s) := by
  refine Ex_of xs L rfl ?_
  show Ev xs L _ (0, [.ref 0, .int (nI u), .retAddr 1], [], hh c s) _
  have hd := us_de_ok m c m (Nat.le_refl m) hm hp hc
  simp only [e_5_0, e_5_1, e_5_2, e_5_5, e_5_5n, e_5_6, e_5_6n, e_5_7, e_5_7n, e_5_10, e_5_11, e_5_12, e_5_12n, e_5_13, e_5_16, e_5_16n, e_5_17, e_5_20, T0, T1, T2, T4, T29, L4, L29, R0c, R0l, R0u, R0k, I_lo lt0, I_lo lt1, I_lo lt2, sI_lo lt0, sI_lo lt1, k_ua hu, k_de hu hm hp hc, TU hu, I_lo (lt_U hu), hd.2.1, tl_s, tl_n, rf_s, rf_n, cs_nil, cs_cons, cat_r, cat_i, cat_l, cat_n, cat_a, Nat.reduceAdd, Nat.reduceMul, Nat.reduceLeDiff, Nat.reduceEqDiff, Nat.reduceLT, and_self, and_true, true_and, and_false, false_and, or_true, true_or, or_false, false_or, if_true, if_false, not_true_eq_false, not_false_eq_true, reduceCtorEq, reduceIte]
set_option maxRecDepth 20000 in
set_option maxHeartbeats 2000000 in
theorem x_fbsN {u : Int32} (hu : no4 u) : Ex xs L 5 [.ref 0, .int u] (hh c s) (some (.int 0), hh c s) := by
  refine Ex_of xs L rfl ?_
  show Ev xs L _ (0, [.ref 0, .int u, .retAddr 1], [], hh c s) _
  simp only [e_5_0, e_5_1, e_5_2, e_5_5, e_5_5n, e_5_6, e_5_6n, e_5_7, e_5_7n, e_5_10, e_5_11, e_5_12, e_5_12n, e_5_13, e_5_16, e_5_16n, e_5_17, e_5_20, T0, T1, T2, T4, T29, L4, L29, R0c, R0l, R0u, R0k, I_lo lt0, I_lo lt1, I_lo lt2, sI_lo lt0, sI_lo lt1, k_uaN hu, tl_s, tl_n, rf_s, rf_n, cs_nil, cs_cons, cat_r, cat_i, cat_l, cat_n, cat_a, Nat.reduceAdd, Nat.reduceMul, Nat.reduceLeDiff, Nat.reduceEqDiff, Nat.reduceLT, and_self, and_true, true_and, and_false, false_and, or_true, true_or, or_false, false_or, if_true, if_false, not_true_eq_false, not_false_eq_true, reduceCtorEq, reduceIte]
def fi_bv (c : CM) (u : Nat) (t : Option Nat) : Int32 := match t with
  | some t => bn c u t 0 + 16 * (bn c u t 2 - c.1 1 1)
  | none => -1
set_option maxRecDepth 20000 in
set_option maxHeartbeats 2000000 in
theorem x_fbg {u m : Nat} {w : Int32} (hu : u < 4) (hm : m ≤ 4) (hp : Pok c u) (hc : c.1 (pU u) 8 = nI m) : Ex xs L 6 [.ref 0, .int (nI u), .int w] (hh c s) (some (.int (fi_bv (us_de u m c m).1 u (us_rd (us_de u m c m).1 u (us_de u m c m).2 w (us_de u m c m).2 0))), hh (us_de u m c m).1 s) := by
  refine Ex_of xs L rfl ?_
  show Ev xs L _ (0, [.ref 0, .int (nI u), .int w, .retAddr 1, .retAddr 1], [], hh c s) _
  have hd := us_de_ok m c m (Nat.le_refl m) hm hp hc
  have h4 : (us_de u m c m).2 ≤ 4 := Nat.le_trans hd.2.2 hm
  simp only [e_6_0, e_6_1, e_6_2, e_6_5, e_6_5n, e_6_6, e_6_6n, e_6_7, e_6_7n, e_6_10, e_6_11, e_6_12, e_6_12n, e_6_13, e_6_16, e_6_16n, e_6_17, e_6_18, T0, T1, T2, T4, T29, L4, L29, R0c, R0l, R0u, R0k, I_lo lt0, I_lo lt1, I_lo lt2, sI_lo lt0, sI_lo lt1, k_ua hu, k_de hu hm hp hc, k_urd hu h4 hd.1 hd.2.1, TU hu, tl_s, tl_n, rf_s, rf_n, cs_nil, cs_cons, cat_r, cat_i, cat_l, cat_n, cat_a, Nat.reduceAdd, Nat.reduceMul, Nat.reduceLeDiff, Nat.reduceEqDiff, Nat.reduceLT, and_self, and_true, true_and, and_false, false_and, or_true, true_or, or_false, false_or, if_true, if_false, not_true_eq_false, not_false_eq_true, reduceCtorEq, reduceIte]
  cases ht : us_rd (us_de u m c m).1 u (us_de u m c m).2 w (us_de u m c m).2 0 with
  | none => simp only [us_rv, fi_bv, e_6_21, e_6_21n, e_6_23, e_6_23n, e_6_25, e_6_25n, e_6_28, e_6_29, e_6_32, e_6_32n, e_6_34, e_6_37, e_6_39, e_6_39n, e_6_41, e_6_44, e_6_45, e_6_48, e_6_51, e_6_52, e_6_53, e_6_54, tl_s, tl_n, rf_s, rf_n, cs_nil, cs_cons, cat_r, cat_i, cat_l, cat_n, cat_a, Nat.reduceAdd, Nat.reduceMul, Nat.reduceLeDiff, Nat.reduceEqDiff, Nat.reduceLT, and_self, and_true, true_and, and_false, false_and, or_true, true_or, or_false, false_or, if_true, if_false, not_true_eq_false, not_false_eq_true, reduceCtorEq, reduceIte]
  | some t =>
    have hl := us_rd_lt _ _ _ _ _ _ _ ht
    have hq := hd.1 t (by omega)
    simp only [us_rv, fi_bv, bn, e_6_21, e_6_21n, e_6_23, e_6_23n, e_6_25, e_6_25n, e_6_28, e_6_29, e_6_32, e_6_32n, e_6_34, e_6_37, e_6_39, e_6_39n, e_6_41, e_6_44, e_6_45, e_6_48, e_6_51, e_6_52, e_6_53, e_6_54, T0, T1, T2, T4, T29, L4, L29, R0c, R0l, R0u, R0k, I_lo lt0, I_lo lt1, I_lo lt2, sI_lo lt0, sI_lo lt1, TN hu hq, I_lo (lt_N hu hq), tl_s, tl_n, rf_s, rf_n, cs_nil, cs_cons, cat_r, cat_i, cat_l, cat_n, cat_a, Nat.reduceAdd, Nat.reduceMul, Nat.reduceLeDiff, Nat.reduceEqDiff, Nat.reduceLT, and_self, and_true, true_and, and_false, false_and, or_true, true_or, or_false, false_or, if_true, if_false, not_true_eq_false, not_false_eq_true, reduceCtorEq, reduceIte]
set_option maxRecDepth 20000 in
set_option maxHeartbeats 2000000 in
theorem x_fbgN {u w : Int32} (hu : no4 u) : Ex xs L 6 [.ref 0, .int u, .int w] (hh c s) (some (.int (-1)), hh c s) := by
  refine Ex_of xs L rfl ?_
  show Ev xs L _ (0, [.ref 0, .int u, .int w, .retAddr 1, .retAddr 1], [], hh c s) _
  simp only [e_6_0, e_6_1, e_6_2, e_6_5, e_6_5n, e_6_6, e_6_6n, e_6_7, e_6_7n, e_6_10, e_6_11, e_6_12, e_6_12n, e_6_13, e_6_16, e_6_16n, e_6_17, e_6_18, e_6_21, e_6_21n, e_6_23, e_6_23n, e_6_25, e_6_25n, e_6_28, e_6_29, e_6_32, e_6_32n, e_6_34, e_6_37, e_6_39, e_6_39n, e_6_41, e_6_44, e_6_45, e_6_48, e_6_51, e_6_52, e_6_53, e_6_54, T0, T1, T2, T4, T29, L4, L29, R0c, R0l, R0u, R0k, I_lo lt0, I_lo lt1, I_lo lt2, sI_lo lt0, sI_lo lt1, k_uaN hu, tl_s, tl_n, rf_s, rf_n, cs_nil, cs_cons, cat_r, cat_i, cat_l, cat_n, cat_a, Nat.reduceAdd, Nat.reduceMul, Nat.reduceLeDiff, Nat.reduceEqDiff, Nat.reduceLT, and_self, and_true, true_and, and_false, false_and, or_true, true_or, or_false, false_or, if_true, if_false, not_true_eq_false, not_false_eq_true, reduceCtorEq, reduceIte]
-- calls in use, their branches
set_option maxRecDepth 20000 in
set_option maxHeartbeats 2000000 in
theorem x_ciN {u : Int32} (hu : no4 u) : Ex xs L 21 [.ref 0, .int u] (hh c s) (some .null, hh c s) := by
  refine Ex_of xs L rfl ?_
  show Ev xs L _ (0, [.ref 0, .int u], [], hh c s) _
  by_cases h1 : u < 0
  · simp only [e_21_0, e_21_1, e_21_4, e_21_5, e_21_6, e_21_9, e_21_10, e_21_13, e_21_14, e_21_15, e_21_18, e_21_21, e_21_22, e_21_22n, e_21_23, e_21_24, e_21_27, e_21_28, e_21_29, e_21_29n, eq_true h1, tl_s, tl_n, rf_s, rf_n, cs_nil, cs_cons, cat_r, cat_i, cat_l, cat_n, cat_a, Nat.reduceAdd, Nat.reduceMul, Nat.reduceLeDiff, Nat.reduceEqDiff, Nat.reduceLT, and_self, and_true, true_and, and_false, false_and, or_true, true_or, or_false, false_or, if_true, if_false, not_true_eq_false, not_false_eq_true, reduceCtorEq, reduceIte]
  · simp only [e_21_0, e_21_1, e_21_4, e_21_5, e_21_6, e_21_9, e_21_10, e_21_13, e_21_14, e_21_15, e_21_18, e_21_21, e_21_22, e_21_22n, e_21_23, e_21_24, e_21_27, e_21_28, e_21_29, e_21_29n, h1, f_7 (hu.resolve_left h1), tl_s, tl_n, rf_s, rf_n, cs_nil, cs_cons, cat_r, cat_i, cat_l, cat_n, cat_a, Nat.reduceAdd, Nat.reduceMul, Nat.reduceLeDiff, Nat.reduceEqDiff, Nat.reduceLT, and_self, and_true, true_and, and_false, false_and, or_true, true_or, or_false, false_or, if_true, if_false, not_true_eq_false, not_false_eq_true, reduceCtorEq, reduceIte]
set_option maxRecDepth 20000 in
set_option maxHeartbeats 2000000 in
theorem x_ci0 {a n : Nat} (ha : a < 4) (hb : c.1 (pC a) 3 = nI n) (hn : n ≤ 4) (hl : cl_live c a n = 0) : Ex xs L 21 [.ref 0, .int (nI a)] (hh c s) (some .null, hh c s) := by
  refine Ex_of xs L rfl ?_
  show Ev xs L _ (0, [.ref 0, .int (nI a)], [], hh c s) _
  simp only [e_21_0, e_21_1, e_21_4, e_21_5, e_21_6, e_21_9, e_21_10, e_21_13, e_21_14t104, e_21_28t104, e_21_15, e_21_18, e_21_21, e_21_22, e_21_22n, e_21_23, e_21_24, e_21_27, e_21_29, e_21_29n, T0, T1, T2, T4, T29, L4, L29, R0c, R0l, R0u, R0k, I_lo lt0, I_lo lt1, I_lo lt2, sI_lo lt0, sI_lo lt1, R29 ha, TC ha, k_cuse ha hb hn, hl, f_0 ha, f_5 ha, in4 ha, cl_4 ha, tl_s, tl_n, rf_s, rf_n, cs_nil, cs_cons, cat_r, cat_i, cat_l, cat_n, cat_a, Nat.reduceAdd, Nat.reduceMul, Nat.reduceLeDiff, Nat.reduceEqDiff, Nat.reduceLT, and_self, and_true, true_and, and_false, false_and, or_true, true_or, or_false, false_or, if_true, if_false, not_true_eq_false, not_false_eq_true, reduceCtorEq, reduceIte, q_0_1, q_0_2, q_0_3, q_0_4, q_0_5, q_0_6, q_1_0, q_1_2, q_1_3, q_1_4, q_1_5, q_1_6, q_2_0, q_2_1, q_2_3, q_2_4, q_2_5, q_2_6, q_3_0, q_3_1, q_3_2, q_3_4, q_3_5, q_3_6, q_4_0, q_4_1, q_4_2, q_4_3, q_4_5, q_4_6, q_5_0, q_5_1, q_5_2, q_5_3, q_5_4, q_5_6, q_6_0, q_6_1, q_6_2, q_6_3, q_6_4, q_6_5]
set_option maxRecDepth 20000 in
set_option maxHeartbeats 2000000 in
theorem x_ci1 {a n : Nat} (ha : a < 4) (hb : c.1 (pC a) 3 = nI n) (hn : n ≤ 4) (hl : ¬ cl_live c a n = 0) : Ex xs L 21 [.ref 0, .int (nI a)] (hh c s) (some (.ref (pC a)), hh c s) := by
  refine Ex_of xs L rfl ?_
  show Ev xs L _ (0, [.ref 0, .int (nI a)], [], hh c s) _
  simp only [e_21_0, e_21_1, e_21_4, e_21_5, e_21_6, e_21_9, e_21_10, e_21_13, e_21_14t104, e_21_28t104, e_21_15, e_21_18, e_21_21, e_21_22, e_21_22n, e_21_23, e_21_24, e_21_27, e_21_29, e_21_29n, T0, T1, T2, T4, T29, L4, L29, R0c, R0l, R0u, R0k, I_lo lt0, I_lo lt1, I_lo lt2, sI_lo lt0, sI_lo lt1, R29 ha, TC ha, k_cuse ha hb hn, hl, f_0 ha, f_5 ha, in4 ha, cl_4 ha, tl_s, tl_n, rf_s, rf_n, cs_nil, cs_cons, cat_r, cat_i, cat_l, cat_n, cat_a, Nat.reduceAdd, Nat.reduceMul, Nat.reduceLeDiff, Nat.reduceEqDiff, Nat.reduceLT, and_self, and_true, true_and, and_false, false_and, or_true, true_or, or_false, false_or, if_true, if_false, not_true_eq_false, not_false_eq_true, reduceCtorEq, reduceIte, q_0_1, q_0_2, q_0_3, q_0_4, q_0_5, q_0_6, q_1_0, q_1_2, q_1_3, q_1_4, q_1_5, q_1_6, q_2_0, q_2_1, q_2_3, q_2_4, q_2_5, q_2_6, q_3_0, q_3_1, q_3_2, q_3_4, q_3_5, q_3_6, q_4_0, q_4_1, q_4_2, q_4_3, q_4_5, q_4_6, q_5_0, q_5_1, q_5_2, q_5_3, q_5_4, q_5_6, q_6_0, q_6_1, q_6_2, q_6_3, q_6_4, q_6_5]
theorem k_ciN {u : Int32} {K : Option Value → ix_H → Prop} (hu : no4 u) : Cl xs L 21 [.ref 0, .int u] (hh c s) K ↔ K (some .null) (hh c s) := Cl_of xs L (x_ciN hu)
theorem k_ci0 {a n : Nat} {K : Option Value → ix_H → Prop} (ha : a < 4) (hb : c.1 (pC a) 3 = nI n) (hn : n ≤ 4) (hl : cl_live c a n = 0) : Cl xs L 21 [.ref 0, .int (nI a)] (hh c s) K ↔ K (some .null) (hh c s) := Cl_of xs L (x_ci0 ha hb hn hl)
theorem k_ci1 {a n : Nat} {K : Option Value → ix_H → Prop} (ha : a < 4) (hb : c.1 (pC a) 3 = nI n) (hn : n ≤ 4) (hl : ¬ cl_live c a n = 0) : Cl xs L 21 [.ref 0, .int (nI a)] (hh c s) K ↔ K (some (.ref (pC a))) (hh c s) := Cl_of xs L (x_ci1 ha hb hn hl)
def noB (n : Nat) (b : Int32) : Prop := b < 0 ∨ ¬ b < nI n
-- no branch there: bad call, call not in use, bad branch
def fi_nb (c : CM) (x b : Int32) : Prop := no4 x ∨ ∃ a n, a < 4 ∧ x = nI a ∧ c.1 (pC a) 3 = nI n ∧ n ≤ 4 ∧ (cl_live c a n = 0 ∨ noB n b)
set_option maxRecDepth 20000 in
set_option maxHeartbeats 2000000 in
theorem x_ba0 {x b : Int32} (hz : fi_nb c x b) : Ex xs L 22 [.ref 0, .int x, .int b] (hh c s) (some .null, hh c s) := by
  refine Ex_of xs L rfl ?_
  show Ev xs L _ (0, [.ref 0, .int x, .int b, .retAddr 1], [], hh c s) _
  rcases hz with hu | ⟨a, n, ha, rfl, hb, hn, hz⟩
  · simp only [e_22_0, e_22_1, e_22_2, e_22_5, e_22_5n, e_22_6, e_22_6n, e_22_7, e_22_7n, e_22_10, e_22_11, e_22_14, e_22_15, e_22_15n, e_22_16, e_22_19, e_22_22, e_22_23, e_22_23n, e_22_24, e_22_24n, e_22_25, e_22_28, e_22_29, e_22_30, e_22_30n, T0, T1, T2, T4, T29, L4, L29, R0c, R0l, R0u, R0k, I_lo lt0, I_lo lt1, I_lo lt2, sI_lo lt0, sI_lo lt1, k_ciN hu, tl_s, tl_n, rf_s, rf_n, cs_nil, cs_cons, cat_r, cat_i, cat_l, cat_n, cat_a, Nat.reduceAdd, Nat.reduceMul, Nat.reduceLeDiff, Nat.reduceEqDiff, Nat.reduceLT, and_self, and_true, true_and, and_false, false_and, or_true, true_or, or_false, false_or, if_true, if_false, not_true_eq_false, not_false_eq_true, reduceCtorEq, reduceIte]
  · by_cases hl : cl_live c a n = 0
    · simp only [e_22_0, e_22_1, e_22_2, e_22_5, e_22_5n, e_22_6, e_22_6n, e_22_7, e_22_7n, e_22_10, e_22_11, e_22_14, e_22_15, e_22_15n, e_22_16, e_22_19, e_22_22, e_22_23, e_22_23n, e_22_24, e_22_24n, e_22_25, e_22_28, e_22_29, e_22_30, e_22_30n, T0, T1, T2, T4, T29, L4, L29, R0c, R0l, R0u, R0k, I_lo lt0, I_lo lt1, I_lo lt2, sI_lo lt0, sI_lo lt1, k_ci0 ha hb hn hl, tl_s, tl_n, rf_s, rf_n, cs_nil, cs_cons, cat_r, cat_i, cat_l, cat_n, cat_a, Nat.reduceAdd, Nat.reduceMul, Nat.reduceLeDiff, Nat.reduceEqDiff, Nat.reduceLT, and_self, and_true, true_and, and_false, false_and, or_true, true_or, or_false, false_or, if_true, if_false, not_true_eq_false, not_false_eq_true, reduceCtorEq, reduceIte]
    · have hz := hz.resolve_left hl
      by_cases h1 : b < 0
      · simp only [e_22_0, e_22_1, e_22_2, e_22_5, e_22_5n, e_22_6, e_22_6n, e_22_7, e_22_7n, e_22_10, e_22_11, e_22_14, e_22_15, e_22_15n, e_22_16, e_22_19, e_22_22, e_22_23, e_22_23n, e_22_24, e_22_24n, e_22_25, e_22_28, e_22_29, e_22_30, e_22_30n, T0, T1, T2, T4, T29, L4, L29, R0c, R0l, R0u, R0k, I_lo lt0, I_lo lt1, I_lo lt2, sI_lo lt0, sI_lo lt1, k_ci1 ha hb hn hl, TC ha, I_lo (lt_C ha), hb, eq_true h1, tl_s, tl_n, rf_s, rf_n, cs_nil, cs_cons, cat_r, cat_i, cat_l, cat_n, cat_a, Nat.reduceAdd, Nat.reduceMul, Nat.reduceLeDiff, Nat.reduceEqDiff, Nat.reduceLT, and_self, and_true, true_and, and_false, false_and, or_true, true_or, or_false, false_or, if_true, if_false, not_true_eq_false, not_false_eq_true, reduceCtorEq, reduceIte]
      · have h2 := hz.resolve_left h1
        simp only [e_22_0, e_22_1, e_22_2, e_22_5, e_22_5n, e_22_6, e_22_6n, e_22_7, e_22_7n, e_22_10, e_22_11, e_22_14, e_22_15, e_22_15n, e_22_16, e_22_19, e_22_22, e_22_23, e_22_23n, e_22_24, e_22_24n, e_22_25, e_22_28, e_22_29, e_22_30, e_22_30n, T0, T1, T2, T4, T29, L4, L29, R0c, R0l, R0u, R0k, I_lo lt0, I_lo lt1, I_lo lt2, sI_lo lt0, sI_lo lt1, k_ci1 ha hb hn hl, TC ha, I_lo (lt_C ha), hb, h1, h2, tl_s, tl_n, rf_s, rf_n, cs_nil, cs_cons, cat_r, cat_i, cat_l, cat_n, cat_a, Nat.reduceAdd, Nat.reduceMul, Nat.reduceLeDiff, Nat.reduceEqDiff, Nat.reduceLT, and_self, and_true, true_and, and_false, false_and, or_true, true_or, or_false, false_or, if_true, if_false, not_true_eq_false, not_false_eq_true, reduceCtorEq, reduceIte]
theorem k_ba0 {x b : Int32} {K : Option Value → ix_H → Prop} (hz : fi_nb c x b) : Cl xs L 22 [.ref 0, .int x, .int b] (hh c s) K ↔ K (some .null) (hh c s) := Cl_of xs L (x_ba0 hz)
set_option maxRecDepth 20000 in
set_option maxHeartbeats 2000000 in
theorem x_ba {a i n : Nat} (ha : a < 4) (hb : c.1 (pC a) 3 = nI n) (hn : n ≤ 4) (hl : ¬ cl_live c a n = 0) (hi : i < n) : Ex xs L 22 [.ref 0, .int (nI a), .int (nI i)] (hh c s) (some (.ref (pB a i)), hh c s) := by
  refine Ex_of xs L rfl ?_
  show Ev xs L _ (0, [.ref 0, .int (nI a), .int (nI i), .retAddr 1], [], hh c s) _
  have hi4 : i < 4 := by omega
  have h1 : (nI i < nI n) = True := eq_true (nI_lt hi (by omega))
  simp only [e_22_0, e_22_1, e_22_2, e_22_5, e_22_5n, e_22_6, e_22_6n, e_22_7, e_22_7n, e_22_10, e_22_11, e_22_14, e_22_15, e_22_15n, e_22_16, e_22_19, e_22_22, e_22_23, e_22_23n, e_22_24, e_22_24n, e_22_25, e_22_28, e_22_29t106, e_22_30, e_22_30n, T0, T1, T2, T4, T29, L4, L29, R0c, R0l, R0u, R0k, I_lo lt0, I_lo lt1, I_lo lt2, sI_lo lt0, sI_lo lt1, k_ci1 ha hb hn hl, TC ha, RCa ha, TA ha, LA ha, RA ha hi4, I_lo (lt_C ha), hb, f_0 hi4, h1, in4 hi4, cl_4 hi4, tl_s, tl_n, rf_s, rf_n, cs_nil, cs_cons, cat_r, cat_i, cat_l, cat_n, cat_a, Nat.reduceAdd, Nat.reduceMul, Nat.reduceLeDiff, Nat.reduceEqDiff, Nat.reduceLT, and_self, and_true, true_and, and_false, false_and, or_true, true_or, or_false, false_or, if_true, if_false, not_true_eq_false, not_false_eq_true, reduceCtorEq, reduceIte]
theorem k_ba {a i n : Nat} {K : Option Value → ix_H → Prop} (ha : a < 4) (hb : c.1 (pC a) 3 = nI n) (hn : n ≤ 4) (hl : ¬ cl_live c a n = 0) (hi : i < n) : Cl xs L 22 [.ref 0, .int (nI a), .int (nI i)] (hh c s) K ↔ K (some (.ref (pB a i))) (hh c s) := Cl_of xs L (x_ba ha hb hn hl hi)
-- replies, cancels, acknowledgements
set_option maxRecDepth 20000 in
set_option maxHeartbeats 2000000 in
theorem x_frp0 {x b w : Int32} (hz : fi_nb c x b) : Ex xs L 8 [.ref 0, .int x, .int b, .int w] (hh c s) (some (.int (-1)), hh c s) := by
  refine Ex_of xs L rfl ?_
  show Ev xs L _ (0, [.ref 0, .int x, .int b, .int w, .retAddr 1, .retAddr 1], [], hh c s) _
  simp only [e_8_0, e_8_1, e_8_2, e_8_3, e_8_6, e_8_6n, e_8_8, e_8_8n, e_8_10, e_8_10n, e_8_13, e_8_14, e_8_16, e_8_19, e_8_20, e_8_23, e_8_26, e_8_27, e_8_28, e_8_29, e_8_32, e_8_35, e_8_37, e_8_38, e_8_41, e_8_42, e_8_43, e_8_43n, e_8_45, e_8_46, e_8_49, e_8_50, e_8_53, e_8_56, e_8_58, e_8_59, T0, T1, T2, T4, T29, L4, L29, R0c, R0l, R0u, R0k, I_lo lt0, I_lo lt1, I_lo lt2, sI_lo lt0, sI_lo lt1, k_ba0 hz, tl_s, tl_n, rf_s, rf_n, cs_nil, cs_cons, cat_r, cat_i, cat_l, cat_n, cat_a, Nat.reduceAdd, Nat.reduceMul, Nat.reduceLeDiff, Nat.reduceEqDiff, Nat.reduceLT, and_self, and_true, true_and, and_false, false_and, or_true, true_or, or_false, false_or, if_true, if_false, not_true_eq_false, not_false_eq_true, reduceCtorEq, reduceIte]
set_option maxRecDepth 20000 in
set_option maxHeartbeats 2000000 in
theorem x_frp1 {a i n : Nat} {w : Int32} (ha : a < 4) (hb : c.1 (pC a) 3 = nI n) (hn : n ≤ 4) (hl : ¬ cl_live c a n = 0) (hi : i < n) (hw : w < 100 ∨ ¬ w ≤ 699) : Ex xs L 8 [.ref 0, .int (nI a), .int (nI i), .int w] (hh c s) (some (.int (-1)), hh c s) := by
  refine Ex_of xs L rfl ?_
  show Ev xs L _ (0, [.ref 0, .int (nI a), .int (nI i), .int w, .retAddr 1, .retAddr 1], [], hh c s) _
  by_cases h1 : w < 100
  · simp only [e_8_0, e_8_1, e_8_2, e_8_3, e_8_6, e_8_6n, e_8_8, e_8_8n, e_8_10, e_8_10n, e_8_13, e_8_14, e_8_16, e_8_19, e_8_20, e_8_23, e_8_26, e_8_27, e_8_28, e_8_29, e_8_32, e_8_35, e_8_37, e_8_38, e_8_41, e_8_42, e_8_43, e_8_43n, e_8_45, e_8_46, e_8_49, e_8_50, e_8_53, e_8_56, e_8_58, e_8_59, T0, T1, T2, T4, T29, L4, L29, R0c, R0l, R0u, R0k, I_lo lt0, I_lo lt1, I_lo lt2, sI_lo lt0, sI_lo lt1, k_ba ha hb hn hl hi, eq_true h1, tl_s, tl_n, rf_s, rf_n, cs_nil, cs_cons, cat_r, cat_i, cat_l, cat_n, cat_a, Nat.reduceAdd, Nat.reduceMul, Nat.reduceLeDiff, Nat.reduceEqDiff, Nat.reduceLT, and_self, and_true, true_and, and_false, false_and, or_true, true_or, or_false, false_or, if_true, if_false, not_true_eq_false, not_false_eq_true, reduceCtorEq, reduceIte]
  · simp only [e_8_0, e_8_1, e_8_2, e_8_3, e_8_6, e_8_6n, e_8_8, e_8_8n, e_8_10, e_8_10n, e_8_13, e_8_14, e_8_16, e_8_19, e_8_20, e_8_23, e_8_26, e_8_27, e_8_28, e_8_29, e_8_32, e_8_35, e_8_37, e_8_38, e_8_41, e_8_42, e_8_43, e_8_43n, e_8_45, e_8_46, e_8_49, e_8_50, e_8_53, e_8_56, e_8_58, e_8_59, T0, T1, T2, T4, T29, L4, L29, R0c, R0l, R0u, R0k, I_lo lt0, I_lo lt1, I_lo lt2, sI_lo lt0, sI_lo lt1, k_ba ha hb hn hl hi, h1, hw.resolve_left h1, tl_s, tl_n, rf_s, rf_n, cs_nil, cs_cons, cat_r, cat_i, cat_l, cat_n, cat_a, Nat.reduceAdd, Nat.reduceMul, Nat.reduceLeDiff, Nat.reduceEqDiff, Nat.reduceLT, and_self, and_true, true_and, and_false, false_and, or_true, true_or, or_false, false_or, if_true, if_false, not_true_eq_false, not_false_eq_true, reduceCtorEq, reduceIte]
set_option maxRecDepth 20000 in
set_option maxHeartbeats 2000000 in
theorem x_frp {a i n : Nat} {w : Int32} (ha : a < 4) (hb : c.1 (pC a) 3 = nI n) (hn : n ≤ 4) (hl : ¬ cl_live c a n = 0) (hi : i < n) (h1 : ¬ w < 100) (h2 : w ≤ 699) : Ex xs L 8 [.ref 0, .int (nI a), .int (nI i), .int w] (hh c s) (some (.int ((cl_code c a i n w).1 2 2 - c.1 2 2)), hh (cl_code c a i n w) s) := by
  refine Ex_of xs L rfl ?_
  show Ev xs L _ (0, [.ref 0, .int (nI a), .int (nI i), .int w, .retAddr 1, .retAddr 1], [], hh c s) _
  have hi4 : i < 4 := by omega
  simp only [e_8_0, e_8_1, e_8_2, e_8_3, e_8_6, e_8_6n, e_8_8, e_8_8n, e_8_10, e_8_10n, e_8_13, e_8_14, e_8_16, e_8_19, e_8_20, e_8_23, e_8_26, e_8_27, e_8_28, e_8_29, e_8_32, e_8_35, e_8_37, e_8_38, e_8_41, e_8_42t104, e_8_43, e_8_43n, e_8_45, e_8_46, e_8_49, e_8_50, e_8_53, e_8_56, e_8_58, e_8_59, T0, T1, T2, T4, T29, L4, L29, R0c, R0l, R0u, R0k, I_lo lt0, I_lo lt1, I_lo lt2, sI_lo lt0, sI_lo lt1, R29 ha, TC ha, k_ba ha hb hn hl hi, k_code ha hi4 hb hn, h1, eq_true h2, in4 ha, cl_4 ha, tl_s, tl_n, rf_s, rf_n, cs_nil, cs_cons, cat_r, cat_i, cat_l, cat_n, cat_a, Nat.reduceAdd, Nat.reduceMul, Nat.reduceLeDiff, Nat.reduceEqDiff, Nat.reduceLT, and_self, and_true, true_and, and_false, false_and, or_true, true_or, or_false, false_or, if_true, if_false, not_true_eq_false, not_false_eq_true, reduceCtorEq, reduceIte]
set_option maxRecDepth 20000 in
set_option maxHeartbeats 2000000 in
theorem x_fcd0 {x b : Int32} (hz : fi_nb c x b) : Ex xs L 9 [.ref 0, .int x, .int b] (hh c s) (some (.int 0), hh c s) := by
  refine Ex_of xs L rfl ?_
  show Ev xs L _ (0, [.ref 0, .int x, .int b, .retAddr 1], [], hh c s) _
  simp only [e_9_0, e_9_1, e_9_2, e_9_3, e_9_6, e_9_6n, e_9_7, e_9_7n, e_9_8, e_9_8n, e_9_11, e_9_11n, e_9_12, e_9_15, e_9_18, e_9_21, e_9_22, e_9_23, e_9_23n, e_9_24, e_9_27, e_9_30, e_9_31, T0, T1, T2, T4, T29, L4, L29, R0c, R0l, R0u, R0k, I_lo lt0, I_lo lt1, I_lo lt2, sI_lo lt0, sI_lo lt1, k_ba0 hz, tl_s, tl_n, rf_s, rf_n, cs_nil, cs_cons, cat_r, cat_i, cat_l, cat_n, cat_a, Nat.reduceAdd, Nat.reduceMul, Nat.reduceLeDiff, Nat.reduceEqDiff, Nat.reduceLT, and_self, and_true, true_and, and_false, false_and, or_true, true_or, or_false, false_or, if_true, if_false, not_true_eq_false, not_false_eq_true, reduceCtorEq, reduceIte]
set_option maxRecDepth 20000 in
set_option maxHeartbeats 2000000 in
theorem x_fcd1 {a i n : Nat} (ha : a < 4) (hb : c.1 (pC a) 3 = nI n) (hn : n ≤ 4) (hl : ¬ cl_live c a n = 0) (hi : i < n) (hw : c.1 (pT a i 4) 2 = 2147483647) : Ex xs L 9 [.ref 0, .int (nI a), .int (nI i)] (hh c s) (some (.int 0), hh c s) := by
  refine Ex_of xs L rfl ?_
  show Ev xs L _ (0, [.ref 0, .int (nI a), .int (nI i), .retAddr 1], [], hh c s) _
  have hi : i < 4 := by omega
  simp only [e_9_0, e_9_1, e_9_2, e_9_3, e_9_6, e_9_6n, e_9_7, e_9_7n, e_9_8, e_9_8n, e_9_11, e_9_11n, e_9_12, e_9_15, e_9_18, e_9_21, e_9_22, e_9_23, e_9_23n, e_9_24, e_9_27, e_9_30, e_9_31, T0, T1, T2, T4, T29, L4, L29, R0c, R0l, R0u, R0k, I_lo lt0, I_lo lt1, I_lo lt2, sI_lo lt0, sI_lo lt1, k_ba ha hb hn hl (show i < n by omega), k_isOn (tmT ha hi (show 4 < 6 by decide)), TB ha hi, RBc ha hi, RBl ha hi, RB0 ha hi, RB1 ha hi, RB2 ha hi, RB3 ha hi, RB4 ha hi, RB5 ha hi, T1, T2, I_lo lt1, I_lo lt2, I_lo (lt_B ha hi), sI_lo (lt_B ha hi), (tmT ha hi (show 0 < 6 by decide)).2.2.2.1, I_lo (lt_T ha hi (show 0 < 6 by decide)), (tmT ha hi (show 1 < 6 by decide)).2.2.2.1, I_lo (lt_T ha hi (show 1 < 6 by decide)), (tmT ha hi (show 2 < 6 by decide)).2.2.2.1, I_lo (lt_T ha hi (show 2 < 6 by decide)), (tmT ha hi (show 3 < 6 by decide)).2.2.2.1, I_lo (lt_T ha hi (show 3 < 6 by decide)), (tmT ha hi (show 4 < 6 by decide)).2.2.2.1, I_lo (lt_T ha hi (show 4 < 6 by decide)), (tmT ha hi (show 5 < 6 by decide)).2.2.2.1, I_lo (lt_T ha hi (show 5 < 6 by decide)), eq_true hw, tl_s, tl_n, rf_s, rf_n, cs_nil, cs_cons, cat_r, cat_i, cat_l, cat_n, cat_a, Nat.reduceAdd, Nat.reduceMul, Nat.reduceLeDiff, Nat.reduceEqDiff, Nat.reduceLT, and_self, and_true, true_and, and_false, false_and, or_true, true_or, or_false, false_or, if_true, if_false, not_true_eq_false, not_false_eq_true, reduceCtorEq, reduceIte]
set_option maxRecDepth 20000 in
set_option maxHeartbeats 2000000 in
theorem x_fcd {a i n : Nat} (ha : a < 4) (hb : c.1 (pC a) 3 = nI n) (hn : n ≤ 4) (hl : ¬ cl_live c a n = 0) (hi : i < n) (hw : ¬ c.1 (pT a i 4) 2 = 2147483647) : Ex xs L 9 [.ref 0, .int (nI a), .int (nI i)] (hh c s) (some (.int 1), hh (tq_stop c (pT a i 4)) s) := by
  refine Ex_of xs L rfl ?_
  show Ev xs L _ (0, [.ref 0, .int (nI a), .int (nI i), .retAddr 1], [], hh c s) _
  have hi : i < 4 := by omega
  simp only [e_9_0, e_9_1, e_9_2, e_9_3, e_9_6, e_9_6n, e_9_7, e_9_7n, e_9_8, e_9_8n, e_9_11, e_9_11n, e_9_12, e_9_15, e_9_18, e_9_21, e_9_22, e_9_23, e_9_23n, e_9_24, e_9_27, e_9_30, e_9_31, T0, T1, T2, T4, T29, L4, L29, R0c, R0l, R0u, R0k, I_lo lt0, I_lo lt1, I_lo lt2, sI_lo lt0, sI_lo lt1, k_ba ha hb hn hl (show i < n by omega), k_isOn (tmT ha hi (show 4 < 6 by decide)), k_stp (tmT ha hi (show 4 < 6 by decide)), TB ha hi, RBc ha hi, RBl ha hi, RB0 ha hi, RB1 ha hi, RB2 ha hi, RB3 ha hi, RB4 ha hi, RB5 ha hi, T1, T2, I_lo lt1, I_lo lt2, I_lo (lt_B ha hi), sI_lo (lt_B ha hi), (tmT ha hi (show 0 < 6 by decide)).2.2.2.1, I_lo (lt_T ha hi (show 0 < 6 by decide)), (tmT ha hi (show 1 < 6 by decide)).2.2.2.1, I_lo (lt_T ha hi (show 1 < 6 by decide)), (tmT ha hi (show 2 < 6 by decide)).2.2.2.1, I_lo (lt_T ha hi (show 2 < 6 by decide)), (tmT ha hi (show 3 < 6 by decide)).2.2.2.1, I_lo (lt_T ha hi (show 3 < 6 by decide)), (tmT ha hi (show 4 < 6 by decide)).2.2.2.1, I_lo (lt_T ha hi (show 4 < 6 by decide)), (tmT ha hi (show 5 < 6 by decide)).2.2.2.1, I_lo (lt_T ha hi (show 5 < 6 by decide)), hw, tl_s, tl_n, rf_s, rf_n, cs_nil, cs_cons, cat_r, cat_i, cat_l, cat_n, cat_a, Nat.reduceAdd, Nat.reduceMul, Nat.reduceLeDiff, Nat.reduceEqDiff, Nat.reduceLT, and_self, and_true, true_and, and_false, false_and, or_true, true_or, or_false, false_or, if_true, if_false, not_true_eq_false, not_false_eq_true, reduceCtorEq, reduceIte, q_0_1, q_0_2, q_0_3, q_0_4, q_0_5, q_0_6, q_1_0, q_1_2, q_1_3, q_1_4, q_1_5, q_1_6, q_2_0, q_2_1, q_2_3, q_2_4, q_2_5, q_2_6, q_3_0, q_3_1, q_3_2, q_3_4, q_3_5, q_3_6, q_4_0, q_4_1, q_4_2, q_4_3, q_4_5, q_4_6, q_5_0, q_5_1, q_5_2, q_5_3, q_5_4, q_5_6, q_6_0, q_6_1, q_6_2, q_6_3, q_6_4, q_6_5]
def fi_nc (c : CM) (x : Int32) : Prop := no4 x ∨ ∃ a n, a < 4 ∧ x = nI a ∧ c.1 (pC a) 3 = nI n ∧ n ≤ 4 ∧ cl_live c a n = 0
theorem k_cz {x : Int32} {K : Option Value → ix_H → Prop} (hz : fi_nc c x) : Cl xs L 21 [.ref 0, .int x] (hh c s) K ↔ K (some .null) (hh c s) := by
  rcases hz with hu | ⟨a, n, ha, rfl, hb, hn, hl⟩
  · exact k_ciN hu
  · exact k_ci0 ha hb hn hl
set_option maxRecDepth 20000 in
set_option maxHeartbeats 2000000 in
theorem x_fca0 {x : Int32} (hz : fi_nc c x) : Ex xs L 10 [.ref 0, .int x] (hh c s) (some (.int (-1)), hh c s) := by
  refine Ex_of xs L rfl ?_
  show Ev xs L _ (0, [.ref 0, .int x, .retAddr 1, .retAddr 1], [], hh c s) _
  simp only [e_10_0, e_10_1, e_10_2, e_10_5, e_10_5n, e_10_6, e_10_6n, e_10_7, e_10_7n, e_10_10, e_10_11, e_10_12, e_10_13, e_10_16, e_10_19, e_10_20, e_10_20n, e_10_21, e_10_24, e_10_27, e_10_28, e_10_31, e_10_31n, e_10_32, e_10_35, e_10_36, e_10_39, e_10_42, e_10_43, e_10_44, T0, T1, T2, T4, T29, L4, L29, R0c, R0l, R0u, R0k, I_lo lt0, I_lo lt1, I_lo lt2, sI_lo lt0, sI_lo lt1, k_cz hz, tl_s, tl_n, rf_s, rf_n, cs_nil, cs_cons, cat_r, cat_i, cat_l, cat_n, cat_a, Nat.reduceAdd, Nat.reduceMul, Nat.reduceLeDiff, Nat.reduceEqDiff, Nat.reduceLT, and_self, and_true, true_and, and_false, false_and, or_true, true_or, or_false, false_or, if_true, if_false, not_true_eq_false, not_false_eq_true, reduceCtorEq, reduceIte]
def fi_ca (c : CM) (a n : Nat) : CM := if c.1 (pS a) 7 = 1 then cl_co a n 0 c else c
set_option maxRecDepth 20000 in
set_option maxHeartbeats 2000000 in
theorem x_fca {a n : Nat} (ha : a < 4) (hb : c.1 (pC a) 3 = nI n) (hn : n ≤ 4) (hl : ¬ cl_live c a n = 0) : Ex xs L 10 [.ref 0, .int (nI a)] (hh c s) (some (.int ((fi_ca c a n).1 2 2 - c.1 2 2)), hh (fi_ca c a n) s) := by
  refine Ex_of xs L rfl ?_
  show Ev xs L _ (0, [.ref 0, .int (nI a), .retAddr 1, .retAddr 1], [], hh c s) _
  unfold fi_ca
  by_cases h1 : c.1 (pS a) 7 = 1
  · simp only [e_10_0, e_10_1, e_10_2, e_10_5, e_10_5n, e_10_6, e_10_6n, e_10_7, e_10_7n, e_10_10, e_10_11, e_10_12, e_10_13, e_10_16, e_10_19, e_10_20, e_10_20n, e_10_21, e_10_24, e_10_27, e_10_28, e_10_31, e_10_31n, e_10_32, e_10_35, e_10_36, e_10_39, e_10_42, e_10_43, e_10_44, T0, T1, T2, T4, T29, L4, L29, R0c, R0l, R0u, R0k, I_lo lt0, I_lo lt1, I_lo lt2, sI_lo lt0, sI_lo lt1, k_ci1 ha hb hn hl, k_cco ha hb hn, TC ha, RCs ha, TS ha, RSc ha, RSl ha, RSg ha, RSh ha, RSi ha, RSL ha, T1, T2, I_lo lt1, I_lo (lt_S ha), sI_lo (lt_S ha), I_lo lt2, (tmG ha (show 0 < 4 by decide)).2.2.2.1, (tmG ha (show 1 < 4 by decide)).2.2.2.1, (tmG ha (show 2 < 4 by decide)).2.2.2.1, (tmG ha (show 3 < 4 by decide)).2.2.2.1, I_lo (lt_G ha (show 0 < 4 by decide)), I_lo (lt_G ha (show 1 < 4 by decide)), I_lo (lt_G ha (show 2 < 4 by decide)), I_lo (lt_G ha (show 3 < 4 by decide)), eq_true h1, tl_s, tl_n, rf_s, rf_n, cs_nil, cs_cons, cat_r, cat_i, cat_l, cat_n, cat_a, Nat.reduceAdd, Nat.reduceMul, Nat.reduceLeDiff, Nat.reduceEqDiff, Nat.reduceLT, and_self, and_true, true_and, and_false, false_and, or_true, true_or, or_false, false_or, if_true, if_false, not_true_eq_false, not_false_eq_true, reduceCtorEq, reduceIte]
  · simp only [e_10_0, e_10_1, e_10_2, e_10_5, e_10_5n, e_10_6, e_10_6n, e_10_7, e_10_7n, e_10_10, e_10_11, e_10_12, e_10_13, e_10_16, e_10_19, e_10_20, e_10_20n, e_10_21, e_10_24, e_10_27, e_10_28, e_10_31, e_10_31n, e_10_32, e_10_35, e_10_36, e_10_39, e_10_42, e_10_43, e_10_44, T0, T1, T2, T4, T29, L4, L29, R0c, R0l, R0u, R0k, I_lo lt0, I_lo lt1, I_lo lt2, sI_lo lt0, sI_lo lt1, k_ci1 ha hb hn hl, TC ha, RCs ha, TS ha, RSc ha, RSl ha, RSg ha, RSh ha, RSi ha, RSL ha, T1, T2, I_lo lt1, I_lo (lt_S ha), sI_lo (lt_S ha), I_lo lt2, (tmG ha (show 0 < 4 by decide)).2.2.2.1, (tmG ha (show 1 < 4 by decide)).2.2.2.1, (tmG ha (show 2 < 4 by decide)).2.2.2.1, (tmG ha (show 3 < 4 by decide)).2.2.2.1, I_lo (lt_G ha (show 0 < 4 by decide)), I_lo (lt_G ha (show 1 < 4 by decide)), I_lo (lt_G ha (show 2 < 4 by decide)), I_lo (lt_G ha (show 3 < 4 by decide)), h1, tl_s, tl_n, rf_s, rf_n, cs_nil, cs_cons, cat_r, cat_i, cat_l, cat_n, cat_a, Nat.reduceAdd, Nat.reduceMul, Nat.reduceLeDiff, Nat.reduceEqDiff, Nat.reduceLT, and_self, and_true, true_and, and_false, false_and, or_true, true_or, or_false, false_or, if_true, if_false, not_true_eq_false, not_false_eq_true, reduceCtorEq, reduceIte]
set_option maxRecDepth 20000 in
set_option maxHeartbeats 2000000 in
theorem x_fak0 {x : Int32} (hz : fi_nc c x) : Ex xs L 11 [.ref 0, .int x] (hh c s) (some (.int 0), hh c s) := by
  refine Ex_of xs L rfl ?_
  show Ev xs L _ (0, [.ref 0, .int x, .retAddr 1], [], hh c s) _
  simp only [e_11_0, e_11_1, e_11_2, e_11_5, e_11_5n, e_11_6, e_11_6n, e_11_7, e_11_7n, e_11_10, e_11_10n, e_11_11, e_11_14, e_11_17, e_11_18, e_11_21, e_11_22, e_11_23, e_11_23n, e_11_24, e_11_27, e_11_30, e_11_31, T0, T1, T2, T4, T29, L4, L29, R0c, R0l, R0u, R0k, I_lo lt0, I_lo lt1, I_lo lt2, sI_lo lt0, sI_lo lt1, k_cz hz, tl_s, tl_n, rf_s, rf_n, cs_nil, cs_cons, cat_r, cat_i, cat_l, cat_n, cat_a, Nat.reduceAdd, Nat.reduceMul, Nat.reduceLeDiff, Nat.reduceEqDiff, Nat.reduceLT, and_self, and_true, true_and, and_false, false_and, or_true, true_or, or_false, false_or, if_true, if_false, not_true_eq_false, not_false_eq_true, reduceCtorEq, reduceIte]
set_option maxRecDepth 20000 in
set_option maxHeartbeats 2000000 in
theorem x_fak1 {a n : Nat} (ha : a < 4) (hb : c.1 (pC a) 3 = nI n) (hn : n ≤ 4) (hl : ¬ cl_live c a n = 0) (h1 : ¬ c.1 (pS a) 7 = 2) : Ex xs L 11 [.ref 0, .int (nI a)] (hh c s) (some (.int 0), hh c s) := by
  refine Ex_of xs L rfl ?_
  show Ev xs L _ (0, [.ref 0, .int (nI a), .retAddr 1], [], hh c s) _
  simp only [e_11_0, e_11_1, e_11_2, e_11_5, e_11_5n, e_11_6, e_11_6n, e_11_7, e_11_7n, e_11_10, e_11_10n, e_11_11, e_11_14, e_11_17, e_11_18, e_11_21, e_11_22, e_11_23, e_11_23n, e_11_24, e_11_27, e_11_30, e_11_31, T0, T1, T2, T4, T29, L4, L29, R0c, R0l, R0u, R0k, I_lo lt0, I_lo lt1, I_lo lt2, sI_lo lt0, sI_lo lt1, k_ci1 ha hb hn hl, TC ha, RCs ha, TS ha, RSc ha, RSl ha, RSg ha, RSh ha, RSi ha, RSL ha, T1, T2, I_lo lt1, I_lo (lt_S ha), sI_lo (lt_S ha), I_lo lt2, (tmG ha (show 0 < 4 by decide)).2.2.2.1, (tmG ha (show 1 < 4 by decide)).2.2.2.1, (tmG ha (show 2 < 4 by decide)).2.2.2.1, (tmG ha (show 3 < 4 by decide)).2.2.2.1, I_lo (lt_G ha (show 0 < 4 by decide)), I_lo (lt_G ha (show 1 < 4 by decide)), I_lo (lt_G ha (show 2 < 4 by decide)), I_lo (lt_G ha (show 3 < 4 by decide)), h1, tl_s, tl_n, rf_s, rf_n, cs_nil, cs_cons, cat_r, cat_i, cat_l, cat_n, cat_a, Nat.reduceAdd, Nat.reduceMul, Nat.reduceLeDiff, Nat.reduceEqDiff, Nat.reduceLT, and_self, and_true, true_and, and_false, false_and, or_true, true_or, or_false, false_or, if_true, if_false, not_true_eq_false, not_false_eq_true, reduceCtorEq, reduceIte]
set_option maxRecDepth 20000 in
set_option maxHeartbeats 2000000 in
theorem x_fak {a n : Nat} (ha : a < 4) (hb : c.1 (pC a) 3 = nI n) (hn : n ≤ 4) (hl : ¬ cl_live c a n = 0) (h1 : c.1 (pS a) 7 = 2) : Ex xs L 11 [.ref 0, .int (nI a)] (hh c s) (some (.int 1), hh (sv_conf c a) s) := by
  refine Ex_of xs L rfl ?_
  show Ev xs L _ (0, [.ref 0, .int (nI a), .retAddr 1], [], hh c s) _
  simp only [e_11_0, e_11_1, e_11_2, e_11_5, e_11_5n, e_11_6, e_11_6n, e_11_7, e_11_7n, e_11_10, e_11_10n, e_11_11, e_11_14, e_11_17, e_11_18, e_11_21, e_11_22, e_11_23, e_11_23n, e_11_24, e_11_27, e_11_30, e_11_31, T0, T1, T2, T4, T29, L4, L29, R0c, R0l, R0u, R0k, I_lo lt0, I_lo lt1, I_lo lt2, sI_lo lt0, sI_lo lt1, k_ci1 ha hb hn hl, k_scf ha, TC ha, RCs ha, TS ha, RSc ha, RSl ha, RSg ha, RSh ha, RSi ha, RSL ha, T1, T2, I_lo lt1, I_lo (lt_S ha), sI_lo (lt_S ha), I_lo lt2, (tmG ha (show 0 < 4 by decide)).2.2.2.1, (tmG ha (show 1 < 4 by decide)).2.2.2.1, (tmG ha (show 2 < 4 by decide)).2.2.2.1, (tmG ha (show 3 < 4 by decide)).2.2.2.1, I_lo (lt_G ha (show 0 < 4 by decide)), I_lo (lt_G ha (show 1 < 4 by decide)), I_lo (lt_G ha (show 2 < 4 by decide)), I_lo (lt_G ha (show 3 < 4 by decide)), eq_true h1, tl_s, tl_n, rf_s, rf_n, cs_nil, cs_cons, cat_r, cat_i, cat_l, cat_n, cat_a, Nat.reduceAdd, Nat.reduceMul, Nat.reduceLeDiff, Nat.reduceEqDiff, Nat.reduceLT, and_self, and_true, true_and, and_false, false_and, or_true, true_or, or_false, false_or, if_true, if_false, not_true_eq_false, not_false_eq_true, reduceCtorEq, reduceIte]
-- looks
set_option maxRecDepth 20000 in
set_option maxHeartbeats 2000000 in
theorem x_fnow : Ex xs L 13 [.ref 0] (hh c s) (some (.int (c.1 1 1)), hh c s) := by
  refine Ex_of xs L rfl ?_
  show Ev xs L _ (0, [.ref 0], [], hh c s) _
  simp only [e_13_0, e_13_1, e_13_4, e_13_7, T0, T1, T2, T4, T29, L4, L29, R0c, R0l, R0u, R0k, I_lo lt0, I_lo lt1, I_lo lt2, sI_lo lt0, sI_lo lt1, tl_s, tl_n, rf_s, rf_n, cs_nil, cs_cons, cat_r, cat_i, cat_l, cat_n, cat_a, Nat.reduceAdd, Nat.reduceMul, Nat.reduceLeDiff, Nat.reduceEqDiff, Nat.reduceLT, and_self, and_true, true_and, and_false, false_and, or_true, true_or, or_false, false_or, if_true, if_false, not_true_eq_false, not_false_eq_true, reduceCtorEq, reduceIte]
set_option maxRecDepth 20000 in
set_option maxHeartbeats 2000000 in
theorem x_fsent : Ex xs L 18 [.ref 0] (hh c s) (some (.int (c.1 2 2)), hh c s) := by
  refine Ex_of xs L rfl ?_
  show Ev xs L _ (0, [.ref 0], [], hh c s) _
  simp only [e_18_0, e_18_1, e_18_4, e_18_7, T0, T1, T2, T4, T29, L4, L29, R0c, R0l, R0u, R0k, I_lo lt0, I_lo lt1, I_lo lt2, sI_lo lt0, sI_lo lt1, tl_s, tl_n, rf_s, rf_n, cs_nil, cs_cons, cat_r, cat_i, cat_l, cat_n, cat_a, Nat.reduceAdd, Nat.reduceMul, Nat.reduceLeDiff, Nat.reduceEqDiff, Nat.reduceLT, and_self, and_true, true_and, and_false, false_and, or_true, true_or, or_false, false_or, if_true, if_false, not_true_eq_false, not_false_eq_true, reduceCtorEq, reduceIte]
set_option maxRecDepth 20000 in
set_option maxHeartbeats 2000000 in
theorem x_fmsg {w : Int32} : Ex xs L 19 [.ref 0, .int w] (hh c s) (some (.long (l_lat c w)), hh c s) := by
  refine Ex_of xs L rfl ?_
  show Ev xs L _ (0, [.ref 0, .int w], [], hh c s) _
  simp only [e_19_0, e_19_1, e_19_4, e_19_5, e_19_8, T0, T1, T2, T4, T29, L4, L29, R0c, R0l, R0u, R0k, I_lo lt0, I_lo lt1, I_lo lt2, sI_lo lt0, sI_lo lt1, k_lat, tl_s, tl_n, rf_s, rf_n, cs_nil, cs_cons, cat_r, cat_i, cat_l, cat_n, cat_a, Nat.reduceAdd, Nat.reduceMul, Nat.reduceLeDiff, Nat.reduceEqDiff, Nat.reduceLT, and_self, and_true, true_and, and_false, false_and, or_true, true_or, or_false, false_or, if_true, if_false, not_true_eq_false, not_false_eq_true, reduceCtorEq, reduceIte]
set_option maxRecDepth 20000 in
set_option maxHeartbeats 2000000 in
theorem x_fsv0 {x : Int32} (hz : fi_nc c x) : Ex xs L 14 [.ref 0, .int x] (hh c s) (some (.int 0), hh c s) := by
  refine Ex_of xs L rfl ?_
  show Ev xs L _ (0, [.ref 0, .int x, .retAddr 1], [], hh c s) _
  simp only [e_14_0, e_14_1, e_14_2, e_14_5, e_14_5n, e_14_6, e_14_6n, e_14_7, e_14_7n, e_14_10, e_14_11, e_14_14, e_14_14n, e_14_15, e_14_18, e_14_21, e_14_23, e_14_23n, e_14_24, e_14_27, e_14_30, e_14_31, e_14_32, T0, T1, T2, T4, T29, L4, L29, R0c, R0l, R0u, R0k, I_lo lt0, I_lo lt1, I_lo lt2, sI_lo lt0, sI_lo lt1, k_cz hz, tl_s, tl_n, rf_s, rf_n, cs_nil, cs_cons, cat_r, cat_i, cat_l, cat_n, cat_a, Nat.reduceAdd, Nat.reduceMul, Nat.reduceLeDiff, Nat.reduceEqDiff, Nat.reduceLT, and_self, and_true, true_and, and_false, false_and, or_true, true_or, or_false, false_or, if_true, if_false, not_true_eq_false, not_false_eq_true, reduceCtorEq, reduceIte]
set_option maxRecDepth 20000 in
set_option maxHeartbeats 2000000 in
theorem x_fsv {a n : Nat} (ha : a < 4) (hb : c.1 (pC a) 3 = nI n) (hn : n ≤ 4) (hl : ¬ cl_live c a n = 0) : Ex xs L 14 [.ref 0, .int (nI a)] (hh c s) (some (.int (c.1 (pS a) 7 + 8 * c.1 (pS a) 8)), hh c s) := by
  refine Ex_of xs L rfl ?_
  show Ev xs L _ (0, [.ref 0, .int (nI a), .retAddr 1], [], hh c s) _
  simp only [e_14_0, e_14_1, e_14_2, e_14_5, e_14_5n, e_14_6, e_14_6n, e_14_7, e_14_7n, e_14_10, e_14_11, e_14_14, e_14_14n, e_14_15, e_14_18, e_14_21, e_14_23, e_14_23n, e_14_24, e_14_27, e_14_30, e_14_31, e_14_32, T0, T1, T2, T4, T29, L4, L29, R0c, R0l, R0u, R0k, I_lo lt0, I_lo lt1, I_lo lt2, sI_lo lt0, sI_lo lt1, k_ci1 ha hb hn hl, TC ha, RCs ha, TS ha, RSc ha, RSl ha, RSg ha, RSh ha, RSi ha, RSL ha, T1, T2, I_lo lt1, I_lo (lt_S ha), sI_lo (lt_S ha), I_lo lt2, (tmG ha (show 0 < 4 by decide)).2.2.2.1, (tmG ha (show 1 < 4 by decide)).2.2.2.1, (tmG ha (show 2 < 4 by decide)).2.2.2.1, (tmG ha (show 3 < 4 by decide)).2.2.2.1, I_lo (lt_G ha (show 0 < 4 by decide)), I_lo (lt_G ha (show 1 < 4 by decide)), I_lo (lt_G ha (show 2 < 4 by decide)), I_lo (lt_G ha (show 3 < 4 by decide)), tl_s, tl_n, rf_s, rf_n, cs_nil, cs_cons, cat_r, cat_i, cat_l, cat_n, cat_a, Nat.reduceAdd, Nat.reduceMul, Nat.reduceLeDiff, Nat.reduceEqDiff, Nat.reduceLT, and_self, and_true, true_and, and_false, false_and, or_true, true_or, or_false, false_or, if_true, if_false, not_true_eq_false, not_false_eq_true, reduceCtorEq, reduceIte]
set_option maxRecDepth 20000 in
set_option maxHeartbeats 2000000 in
theorem x_fbr0 {x b : Int32} (hz : fi_nb c x b) : Ex xs L 15 [.ref 0, .int x, .int b] (hh c s) (some (.int 0), hh c s) := by
  refine Ex_of xs L rfl ?_
  show Ev xs L _ (0, [.ref 0, .int x, .int b, .retAddr 1], [], hh c s) _
  simp only [e_15_0, e_15_1, e_15_2, e_15_3, e_15_6, e_15_6n, e_15_7, e_15_7n, e_15_8, e_15_8n, e_15_11, e_15_12, e_15_13, e_15_13n, e_15_14, e_15_17, e_15_17n, e_15_18, e_15_21, e_15_24, e_15_26, e_15_29, e_15_30, e_15_31, e_15_33, e_15_33n, e_15_34, e_15_37, e_15_38, e_15_39, T0, T1, T2, T4, T29, L4, L29, R0c, R0l, R0u, R0k, I_lo lt0, I_lo lt1, I_lo lt2, sI_lo lt0, sI_lo lt1, k_ba0 hz, tl_s, tl_n, rf_s, rf_n, cs_nil, cs_cons, cat_r, cat_i, cat_l, cat_n, cat_a, Nat.reduceAdd, Nat.reduceMul, Nat.reduceLeDiff, Nat.reduceEqDiff, Nat.reduceLT, and_self, and_true, true_and, and_false, false_and, or_true, true_or, or_false, false_or, if_true, if_false, not_true_eq_false, not_false_eq_true, reduceCtorEq, reduceIte]
set_option maxRecDepth 20000 in
set_option maxHeartbeats 2000000 in
theorem x_fbr {a i n : Nat} (ha : a < 4) (hb : c.1 (pC a) 3 = nI n) (hn : n ≤ 4) (hl : ¬ cl_live c a n = 0) (hi : i < n) : Ex xs L 15 [.ref 0, .int (nI a), .int (nI i)] (hh c s) (some (.int (c.1 (pB a i) 11 + (if c.1 (pB a i) 12 = 0 then 0 else 8) + 16 * c.1 (pB a i) 10)), hh c s) := by
  refine Ex_of xs L rfl ?_
  show Ev xs L _ (0, [.ref 0, .int (nI a), .int (nI i), .retAddr 1], [], hh c s) _
  have hi : i < 4 := by omega
  by_cases h1 : c.1 (pB a i) 12 = 0
  · simp only [e_15_0, e_15_1, e_15_2, e_15_3, e_15_6, e_15_6n, e_15_7, e_15_7n, e_15_8, e_15_8n, e_15_11, e_15_12, e_15_13, e_15_13n, e_15_14, e_15_17, e_15_17n, e_15_18, e_15_21, e_15_24, e_15_26, e_15_29, e_15_30, e_15_31, e_15_33, e_15_33n, e_15_34, e_15_37, e_15_38, e_15_39, T0, T1, T2, T4, T29, L4, L29, R0c, R0l, R0u, R0k, I_lo lt0, I_lo lt1, I_lo lt2, sI_lo lt0, sI_lo lt1, k_ba ha hb hn hl (show i < n by omega), TB ha hi, RBc ha hi, RBl ha hi, RB0 ha hi, RB1 ha hi, RB2 ha hi, RB3 ha hi, RB4 ha hi, RB5 ha hi, T1, T2, I_lo lt1, I_lo lt2, I_lo (lt_B ha hi), sI_lo (lt_B ha hi), (tmT ha hi (show 0 < 6 by decide)).2.2.2.1, I_lo (lt_T ha hi (show 0 < 6 by decide)), (tmT ha hi (show 1 < 6 by decide)).2.2.2.1, I_lo (lt_T ha hi (show 1 < 6 by decide)), (tmT ha hi (show 2 < 6 by decide)).2.2.2.1, I_lo (lt_T ha hi (show 2 < 6 by decide)), (tmT ha hi (show 3 < 6 by decide)).2.2.2.1, I_lo (lt_T ha hi (show 3 < 6 by decide)), (tmT ha hi (show 4 < 6 by decide)).2.2.2.1, I_lo (lt_T ha hi (show 4 < 6 by decide)), (tmT ha hi (show 5 < 6 by decide)).2.2.2.1, I_lo (lt_T ha hi (show 5 < 6 by decide)), eq_true h1, tl_s, tl_n, rf_s, rf_n, cs_nil, cs_cons, cat_r, cat_i, cat_l, cat_n, cat_a, Nat.reduceAdd, Nat.reduceMul, Nat.reduceLeDiff, Nat.reduceEqDiff, Nat.reduceLT, and_self, and_true, true_and, and_false, false_and, or_true, true_or, or_false, false_or, if_true, if_false, not_true_eq_false, not_false_eq_true, reduceCtorEq, reduceIte]
  · simp only [e_15_0, e_15_1, e_15_2, e_15_3, e_15_6, e_15_6n, e_15_7, e_15_7n, e_15_8, e_15_8n, e_15_11, e_15_12, e_15_13, e_15_13n, e_15_14, e_15_17, e_15_17n, e_15_18, e_15_21, e_15_24, e_15_26, e_15_29, e_15_30, e_15_31, e_15_33, e_15_33n, e_15_34, e_15_37, e_15_38, e_15_39, T0, T1, T2, T4, T29, L4, L29, R0c, R0l, R0u, R0k, I_lo lt0, I_lo lt1, I_lo lt2, sI_lo lt0, sI_lo lt1, k_ba ha hb hn hl (show i < n by omega), TB ha hi, RBc ha hi, RBl ha hi, RB0 ha hi, RB1 ha hi, RB2 ha hi, RB3 ha hi, RB4 ha hi, RB5 ha hi, T1, T2, I_lo lt1, I_lo lt2, I_lo (lt_B ha hi), sI_lo (lt_B ha hi), (tmT ha hi (show 0 < 6 by decide)).2.2.2.1, I_lo (lt_T ha hi (show 0 < 6 by decide)), (tmT ha hi (show 1 < 6 by decide)).2.2.2.1, I_lo (lt_T ha hi (show 1 < 6 by decide)), (tmT ha hi (show 2 < 6 by decide)).2.2.2.1, I_lo (lt_T ha hi (show 2 < 6 by decide)), (tmT ha hi (show 3 < 6 by decide)).2.2.2.1, I_lo (lt_T ha hi (show 3 < 6 by decide)), (tmT ha hi (show 4 < 6 by decide)).2.2.2.1, I_lo (lt_T ha hi (show 4 < 6 by decide)), (tmT ha hi (show 5 < 6 by decide)).2.2.2.1, I_lo (lt_T ha hi (show 5 < 6 by decide)), h1, tl_s, tl_n, rf_s, rf_n, cs_nil, cs_cons, cat_r, cat_i, cat_l, cat_n, cat_a, Nat.reduceAdd, Nat.reduceMul, Nat.reduceLeDiff, Nat.reduceEqDiff, Nat.reduceLT, and_self, and_true, true_and, and_false, false_and, or_true, true_or, or_false, false_or, if_true, if_false, not_true_eq_false, not_false_eq_true, reduceCtorEq, reduceIte]
set_option maxRecDepth 20000 in
set_option maxHeartbeats 2000000 in
theorem x_frs0 {x b : Int32} (hz : fi_nb c x b) : Ex xs L 16 [.ref 0, .int x, .int b] (hh c s) (some (.int 0), hh c s) := by
  refine Ex_of xs L rfl ?_
  show Ev xs L _ (0, [.ref 0, .int x, .int b, .retAddr 1], [], hh c s) _
  simp only [e_16_0, e_16_1, e_16_2, e_16_3, e_16_6, e_16_6n, e_16_7, e_16_7n, e_16_8, e_16_8n, e_16_11, e_16_12, e_16_15, e_16_15n, e_16_16, e_16_19, T0, T1, T2, T4, T29, L4, L29, R0c, R0l, R0u, R0k, I_lo lt0, I_lo lt1, I_lo lt2, sI_lo lt0, sI_lo lt1, k_ba0 hz, tl_s, tl_n, rf_s, rf_n, cs_nil, cs_cons, cat_r, cat_i, cat_l, cat_n, cat_a, Nat.reduceAdd, Nat.reduceMul, Nat.reduceLeDiff, Nat.reduceEqDiff, Nat.reduceLT, and_self, and_true, true_and, and_false, false_and, or_true, true_or, or_false, false_or, if_true, if_false, not_true_eq_false, not_false_eq_true, reduceCtorEq, reduceIte]
set_option maxRecDepth 20000 in
set_option maxHeartbeats 2000000 in
theorem x_frs {a i n : Nat} (ha : a < 4) (hb : c.1 (pC a) 3 = nI n) (hn : n ≤ 4) (hl : ¬ cl_live c a n = 0) (hi : i < n) : Ex xs L 16 [.ref 0, .int (nI a), .int (nI i)] (hh c s) (some (.int (c.1 (pB a i) 14)), hh c s) := by
  refine Ex_of xs L rfl ?_
  show Ev xs L _ (0, [.ref 0, .int (nI a), .int (nI i), .retAddr 1], [], hh c s) _
  have hi : i < 4 := by omega
  simp only [e_16_0, e_16_1, e_16_2, e_16_3, e_16_6, e_16_6n, e_16_7, e_16_7n, e_16_8, e_16_8n, e_16_11, e_16_12, e_16_15, e_16_15n, e_16_16, e_16_19, T0, T1, T2, T4, T29, L4, L29, R0c, R0l, R0u, R0k, I_lo lt0, I_lo lt1, I_lo lt2, sI_lo lt0, sI_lo lt1, k_ba ha hb hn hl (show i < n by omega), TB ha hi, RBc ha hi, RBl ha hi, RB0 ha hi, RB1 ha hi, RB2 ha hi, RB3 ha hi, RB4 ha hi, RB5 ha hi, T1, T2, I_lo lt1, I_lo lt2, I_lo (lt_B ha hi), sI_lo (lt_B ha hi), (tmT ha hi (show 0 < 6 by decide)).2.2.2.1, I_lo (lt_T ha hi (show 0 < 6 by decide)), (tmT ha hi (show 1 < 6 by decide)).2.2.2.1, I_lo (lt_T ha hi (show 1 < 6 by decide)), (tmT ha hi (show 2 < 6 by decide)).2.2.2.1, I_lo (lt_T ha hi (show 2 < 6 by decide)), (tmT ha hi (show 3 < 6 by decide)).2.2.2.1, I_lo (lt_T ha hi (show 3 < 6 by decide)), (tmT ha hi (show 4 < 6 by decide)).2.2.2.1, I_lo (lt_T ha hi (show 4 < 6 by decide)), (tmT ha hi (show 5 < 6 by decide)).2.2.2.1, I_lo (lt_T ha hi (show 5 < 6 by decide)), tl_s, tl_n, rf_s, rf_n, cs_nil, cs_cons, cat_r, cat_i, cat_l, cat_n, cat_a, Nat.reduceAdd, Nat.reduceMul, Nat.reduceLeDiff, Nat.reduceEqDiff, Nat.reduceLT, and_self, and_true, true_and, and_false, false_and, or_true, true_or, or_false, false_or, if_true, if_false, not_true_eq_false, not_false_eq_true, reduceCtorEq, reduceIte]
end CL
