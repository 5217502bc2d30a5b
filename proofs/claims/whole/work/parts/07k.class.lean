section CL
variable {xs : Nat → Int32} {L : Nat} {h : ix_H} {c : CM} {s : MM}
-- forking
def cl_f0 (c : CM) (a : Nat) : CM := sv_tell (sv_mv (cI (cI c (pC a) 3 0) (pC a) 4 0) a 1) a 100
def cl_fs (c : CM) (a i : Nat) (w : Int32) : CM := cI (b_beg c a i w) (pC a) 3 ((b_beg c a i w).1 (pC a) 3 + 1)
def cl_fk (a u m : Nat) : Nat → Nat → CM → CM
  | 0, _, c => c
  | d + 1, i, c => cl_fk a u m d (i + 1) (match us_rd c u m (nI i) m 0 with
    | some t => cl_fs c a i (bn c u t 0)
    | none => c)
theorem Fr_fs {a i : Nat} {w : Int32} (hi : i < 4) : Fr a c (cl_fs c a i w) := Fr_t (Fr_beg hi) (Fr_I (in_C a))
theorem Fr_f0 {a : Nat} : Fr a c (cl_f0 c a) := Fr_t (Fr_t (Fr_t (Fr_I (in_C a)) (Fr_I (in_C a))) Fr_smv) Fr_tell
theorem Fr_U {a u : Nat} {c c' : CM} (h : Fr a c c') (hu : u < 4) (j : Nat) : c'.1 (pU u) j = c.1 (pU u) j := h.1 _ _ (by unfold pU; omega) (by unfold pU; omega)
theorem Fr_P {a u : Nat} {c c' : CM} (h : Fr a c c') (hp : Pok c u) : Pok c' u := fun j hj => by rw [h.2]; exact hp j hj
set_option maxRecDepth 20000 in
set_option maxHeartbeats 2000000 in
theorem x_frkl {o : ix_O} {a u m : Nat} (ha : a < 4) (hu : u < 4) (hm : m ≤ 4) : ∀ (d i : Nat) (c : CM) (v3 : Value), Pok c u → c.1 (pU u) 8 = nI m → i + d = 4 → (Ev xs L 46 (19, [.ref (pC a), .ref (pU u), .int (nI i), v3], [], hh c s) o ↔ o = (none, hh (cl_fk a u m d i c) s)) := by
  intro d
  induction d with
  | zero =>
    intro i c v3 hp hc hi
    obtain rfl : i = 4 := by omega
    have q4 : (4 ≤ nI 4) = True := eq_true (by decide)
    simp only [e_46_19, e_46_20, e_46_21, e_46_63, q4, cl_fk, tl_s, tl_n, rf_s, rf_n, cs_nil, cs_cons, cat_r, cat_i, cat_l, cat_n, cat_a, Nat.reduceAdd, Nat.reduceMul, Nat.reduceLeDiff, Nat.reduceEqDiff, Nat.reduceLT, and_self, and_true, true_and, and_false, false_and, or_true, true_or, or_false, false_or, if_true, if_false, not_true_eq_false, not_false_eq_true, reduceCtorEq, reduceIte]
  | succ d ih =>
    intro i c v3 hp hc hi4
    have hi : i < 4 := by omega
    rw [e_46_19]
    simp only [cl_fk]
    cases ht : us_rd c u m (nI i) m 0 with
    | none =>
      simp only [e_46_20, e_46_21, e_46_24, e_46_24n, e_46_25, e_46_26, e_46_29, e_46_29n, e_46_30, e_46_30n, e_46_31, e_46_31n, e_46_57, e_46_60, f_5 hi, k_urd hu hm hp hc, ht, us_rv, TU hu, ad1, tl_s, tl_n, rf_s, rf_n, cs_nil, cs_cons, cat_r, cat_i, cat_l, cat_n, cat_a, Nat.reduceAdd, Nat.reduceMul, Nat.reduceLeDiff, Nat.reduceEqDiff, Nat.reduceLT, and_self, and_true, true_and, and_false, false_and, or_true, true_or, or_false, false_or, if_true, if_false, not_true_eq_false, not_false_eq_true, reduceCtorEq, reduceIte]
      exact ih (i + 1) c _ hp hc (by omega)
    | some t =>
      have hl := us_rd_lt _ _ _ _ _ _ _ ht
      have hq := hp t (by omega)
      have hF : Fr a c (cl_fs c a i (bn c u t 0)) := Fr_fs hi
      simp only [e_46_20, e_46_21, e_46_24, e_46_24n, e_46_25, e_46_26, e_46_29, e_46_29n, e_46_30, e_46_30n, e_46_31, e_46_31n, e_46_34, e_46_35, e_46_38, e_46_39t106, e_46_40, e_46_40n, e_46_41, e_46_44, e_46_47, e_46_48, e_46_49, e_46_52, e_46_53, e_46_54, e_46_57, e_46_60, f_5 hi, k_urd hu hm hp hc, ht, us_rv, TU hu, TC ha, RCa ha, TA ha, LA ha, RA ha hi, TN hu hq, I_lo (lt_N hu hq), TB ha hi, k_bbeg ha hi, I_lo (lt_C ha), sI_lo (lt_C ha), in4 hi, cl_4 hi, ad1, tl_s, tl_n, rf_s, rf_n, cs_nil, cs_cons, cat_r, cat_i, cat_l, cat_n, cat_a, Nat.reduceAdd, Nat.reduceMul, Nat.reduceLeDiff, Nat.reduceEqDiff, Nat.reduceLT, and_self, and_true, true_and, and_false, false_and, or_true, true_or, or_false, false_or, if_true, if_false, not_true_eq_false, not_false_eq_true, reduceCtorEq, reduceIte]
      exact ih (i + 1) _ _ (Fr_P hF hp) ((Fr_U hF hu 8).trans hc) (by omega)
def cl_fork (c : CM) (a u m : Nat) : CM := cl_fk a u m 4 0 (cl_f0 c a)
set_option maxRecDepth 20000 in
set_option maxHeartbeats 2000000 in
theorem x_fork {a u m : Nat} (ha : a < 4) (hu : u < 4) (hm : m ≤ 4) (hp : Pok c u) (hc : c.1 (pU u) 8 = nI m) : Ex xs L 46 [.ref (pC a), .ref (pU u)] (hh c s) (none, hh (cl_fork c a u m) s) := by
  refine Ex_of xs L rfl ?_
  show Ev xs L _ (0, [.ref (pC a), .ref (pU u), .retAddr 1, .retAddr 1], [], hh c s) _
  have hF : Fr a c (cl_f0 c a) := Fr_f0
  simp only [e_46_0, e_46_1, e_46_2, e_46_5, e_46_6, e_46_7, e_46_10, e_46_11, e_46_14, e_46_17, e_46_18, k_sproc ha, TC ha, RCs ha, TS ha, sI_lo (lt_C ha), tl_s, tl_n, rf_s, rf_n, cs_nil, cs_cons, cat_r, cat_i, cat_l, cat_n, cat_a, Nat.reduceAdd, Nat.reduceMul, Nat.reduceLeDiff, Nat.reduceEqDiff, Nat.reduceLT, and_self, and_true, true_and, and_false, false_and, or_true, true_or, or_false, false_or, if_true, if_false, not_true_eq_false, not_false_eq_true, reduceCtorEq, reduceIte]
  exact (x_frkl ha hu hm 4 0 (cl_f0 c a) _ (Fr_P hF hp) (by rw [Fr_U hF hu]; exact hc) (by omega)).mpr rfl
theorem k_fork {a u m : Nat} {K : Option Value → ix_H → Prop} (ha : a < 4) (hu : u < 4) (hm : m ≤ 4) (hp : Pok c u) (hc : c.1 (pU u) 8 = nI m) : Cl xs L 46 [.ref (pC a), .ref (pU u)] (hh c s) K ↔ K none (hh (cl_fork c a u m) s) := Cl_of xs L (x_fork ha hu hm hp hc)
-- refusals
set_option maxRecDepth 20000 in
set_option maxHeartbeats 2000000 in
theorem x_rf1 {x hp vi : Int32} (h1 : ¬ 1 ≤ hp) : Ex xs L 24 [.ref 0, .int x, .int hp, .int vi] (hh c s) (some (.int 483), hh c s) := by
  refine Ex_of xs L rfl ?_
  show Ev xs L _ (0, [.ref 0, .int x, .int hp, .int vi, .retAddr 1], [], hh c s) _
  simp only [e_24_0, e_24_1, e_24_2, e_24_5, e_24_8, e_24_9, e_24_10, e_24_11, e_24_14, e_24_14n, e_24_16, e_24_16n, e_24_18, e_24_18n, e_24_21, e_24_24, e_24_25, e_24_26, e_24_27, e_24_28, e_24_29, e_24_30, e_24_33, e_24_36, e_24_37, e_24_37n, e_24_39, e_24_42, e_24_42n, e_24_44, e_24_47, e_24_50, e_24_53, e_24_56, e_24_57, h1, tl_s, tl_n, rf_s, rf_n, cs_nil, cs_cons, cat_r, cat_i, cat_l, cat_n, cat_a, Nat.reduceAdd, Nat.reduceMul, Nat.reduceLeDiff, Nat.reduceEqDiff, Nat.reduceLT, and_self, and_true, true_and, and_false, false_and, or_true, true_or, or_false, false_or, if_true, if_false, not_true_eq_false, not_false_eq_true, reduceCtorEq, reduceIte]
set_option maxRecDepth 20000 in
set_option maxHeartbeats 2000000 in
theorem x_rf2 {x hp vi : Int32} (h1 : 1 ≤ hp) (hx : no4 x) : Ex xs L 24 [.ref 0, .int x, .int hp, .int vi] (hh c s) (some (.int 404), hh c s) := by
  refine Ex_of xs L rfl ?_
  show Ev xs L _ (0, [.ref 0, .int x, .int hp, .int vi, .retAddr 1], [], hh c s) _
  simp only [e_24_0, e_24_1, e_24_2, e_24_5, e_24_8, e_24_9, e_24_10, e_24_11, e_24_14, e_24_14n, e_24_16, e_24_16n, e_24_18, e_24_18n, e_24_21, e_24_24, e_24_25, e_24_26, e_24_27, e_24_28, e_24_29, e_24_30, e_24_33, e_24_36, e_24_37, e_24_37n, e_24_39, e_24_42, e_24_42n, e_24_44, e_24_47, e_24_50, e_24_53, e_24_56, e_24_57, T0, T1, T2, T4, T29, L4, L29, R0c, R0l, R0u, R0k, I_lo lt0, I_lo lt1, I_lo lt2, sI_lo lt0, sI_lo lt1, eq_true h1, k_uaN hx, tl_s, tl_n, rf_s, rf_n, cs_nil, cs_cons, cat_r, cat_i, cat_l, cat_n, cat_a, Nat.reduceAdd, Nat.reduceMul, Nat.reduceLeDiff, Nat.reduceEqDiff, Nat.reduceLT, and_self, and_true, true_and, and_false, false_and, or_true, true_or, or_false, false_or, if_true, if_false, not_true_eq_false, not_false_eq_true, reduceCtorEq, reduceIte]
set_option maxRecDepth 20000 in
set_option maxHeartbeats 2000000 in
theorem x_rf3 {u : Nat} {hp vi : Int32} (h1 : 1 ≤ hp) (hu : u < 4) (h2 : ¬ (vi >>> (nI u &&& 31)) &&& 1 = 0) : Ex xs L 24 [.ref 0, .int (nI u), .int hp, .int vi] (hh c s) (some (.int 482), hh c s) := by
  refine Ex_of xs L rfl ?_
  show Ev xs L _ (0, [.ref 0, .int (nI u), .int hp, .int vi, .retAddr 1], [], hh c s) _
  simp only [e_24_0, e_24_1, e_24_2, e_24_5, e_24_8, e_24_9, e_24_10, e_24_11, e_24_14, e_24_14n, e_24_16, e_24_16n, e_24_18, e_24_18n, e_24_21, e_24_24, e_24_25, e_24_26, e_24_27, e_24_28, e_24_29, e_24_30, e_24_33, e_24_36, e_24_37, e_24_37n, e_24_39, e_24_42, e_24_42n, e_24_44, e_24_47, e_24_50, e_24_53, e_24_56, e_24_57, T0, T1, T2, T4, T29, L4, L29, R0c, R0l, R0u, R0k, I_lo lt0, I_lo lt1, I_lo lt2, sI_lo lt0, sI_lo lt1, eq_true h1, k_ua hu, h2, tl_s, tl_n, rf_s, rf_n, cs_nil, cs_cons, cat_r, cat_i, cat_l, cat_n, cat_a, Nat.reduceAdd, Nat.reduceMul, Nat.reduceLeDiff, Nat.reduceEqDiff, Nat.reduceLT, and_self, and_true, true_and, and_false, false_and, or_true, true_or, or_false, false_or, if_true, if_false, not_true_eq_false, not_false_eq_true, reduceCtorEq, reduceIte]
set_option maxRecDepth 20000 in
set_option maxHeartbeats 2000000 in
theorem x_rf4 {u m : Nat} {hp vi : Int32} (h1 : 1 ≤ hp) (hu : u < 4) (h2 : (vi >>> (nI u &&& 31)) &&& 1 = 0) (hm : m ≤ 4) (hP : Pok c u) (hc : c.1 (pU u) 8 = nI m) : Ex xs L 24 [.ref 0, .int (nI u), .int hp, .int vi] (hh c s) (some (.int (if nI (us_de u m c m).2 = 0 then 480 else 0)), hh (us_de u m c m).1 s) := by
  refine Ex_of xs L rfl ?_
  show Ev xs L _ (0, [.ref 0, .int (nI u), .int hp, .int vi, .retAddr 1], [], hh c s) _
  have hd := us_de_ok m c m (Nat.le_refl m) hm hP hc
  by_cases h3 : nI (us_de u m c m).2 = 0
  · simp only [e_24_0, e_24_1, e_24_2, e_24_5, e_24_8, e_24_9, e_24_10, e_24_11, e_24_14, e_24_14n, e_24_16, e_24_16n, e_24_18, e_24_18n, e_24_21, e_24_24, e_24_25, e_24_26, e_24_27, e_24_28, e_24_29, e_24_30, e_24_33, e_24_36, e_24_37, e_24_37n, e_24_39, e_24_42, e_24_42n, e_24_44, e_24_47, e_24_50, e_24_53, e_24_56, e_24_57, T0, T1, T2, T4, T29, L4, L29, R0c, R0l, R0u, R0k, I_lo lt0, I_lo lt1, I_lo lt2, sI_lo lt0, sI_lo lt1, eq_true h1, k_ua hu, eq_true h2, k_de hu hm hP hc, TU hu, I_lo (lt_U hu), hd.2.1, eq_true h3, tl_s, tl_n, rf_s, rf_n, cs_nil, cs_cons, cat_r, cat_i, cat_l, cat_n, cat_a, Nat.reduceAdd, Nat.reduceMul, Nat.reduceLeDiff, Nat.reduceEqDiff, Nat.reduceLT, and_self, and_true, true_and, and_false, false_and, or_true, true_or, or_false, false_or, if_true, if_false, not_true_eq_false, not_false_eq_true, reduceCtorEq, reduceIte]
  · simp only [e_24_0, e_24_1, e_24_2, e_24_5, e_24_8, e_24_9, e_24_10, e_24_11, e_24_14, e_24_14n, e_24_16, e_24_16n, e_24_18, e_24_18n, e_24_21, e_24_24, e_24_25, e_24_26, e_24_27, e_24_28, e_24_29, e_24_30, e_24_33, e_24_36, e_24_37, e_24_37n, e_24_39, e_24_42, e_24_42n, e_24_44, e_24_47, e_24_50, e_24_53, e_24_56, e_24_57, T0, T1, T2, T4, T29, L4, L29, R0c, R0l, R0u, R0k, I_lo lt0, I_lo lt1, I_lo lt2, sI_lo lt0, sI_lo lt1, eq_true h1, k_ua hu, eq_true h2, k_de hu hm hP hc, TU hu, I_lo (lt_U hu), hd.2.1, h3, tl_s, tl_n, rf_s, rf_n, cs_nil, cs_cons, cat_r, cat_i, cat_l, cat_n, cat_a, Nat.reduceAdd, Nat.reduceMul, Nat.reduceLeDiff, Nat.reduceEqDiff, Nat.reduceLT, and_self, and_true, true_and, and_false, false_and, or_true, true_or, or_false, false_or, if_true, if_false, not_true_eq_false, not_false_eq_true, reduceCtorEq, reduceIte]
-- opening: refused, or to a user's places
def fi_op0 (c : CM) (a : Nat) (w : Int32) : CM := if nI (fi_lv c 4 0 0) + 1 ≤ 12 then cl_ref c a w else l_add c (c.1 (pC a) 0) 7 503
set_option maxRecDepth 20000 in
set_option maxHeartbeats 2000000 in
theorem x_op0 {a : Nat} {v : Value} {w : Int32} (ha : a < 4) (hv : v = .null ∨ ∃ p, v = .ref p) (hw : ¬ w = 0) (hN : Nok c) : Ex xs L 25 [.ref 0, .ref (pC a), v, .int w] (hh c s) (none, hh (fi_op0 c a w) s) := by
  unfold fi_op0
  rcases hv with rfl | ⟨p, rfl⟩
  · refine Ex_of xs L rfl ?_
    show Ev xs L _ (0, [.ref 0, .ref (pC a), .null, .int w, .retAddr 1, .retAddr 1], [], hh c s) _
    by_cases h1 : nI (fi_lv c 4 0 0) + 1 ≤ 12
    · simp only [e_25_0, e_25_1, e_25_4, e_25_4n, e_25_5, e_25_5n, e_25_8, e_25_9, e_25_12, e_25_13, e_25_15, e_25_17, e_25_20, e_25_21, e_25_21n, e_25_22, e_25_25, e_25_26, e_25_29, e_25_30, e_25_32, e_25_33, e_25_36, e_25_38, e_25_39, e_25_41, e_25_44, e_25_45, e_25_48, e_25_48n, e_25_49, e_25_52, e_25_54, e_25_57, e_25_60, e_25_63, e_25_65, e_25_68, e_25_68n, e_25_69, e_25_69n, e_25_70, e_25_73, e_25_76, e_25_76n, e_25_77, e_25_78, e_25_81, T0, T1, T2, T4, T29, L4, L29, R0c, R0l, R0u, R0k, I_lo lt0, I_lo lt1, I_lo lt2, sI_lo lt0, sI_lo lt1, k_flv hN, k_cref ha, TC ha, hw, eq_true h1, tl_s, tl_n, rf_s, rf_n, cs_nil, cs_cons, cat_r, cat_i, cat_l, cat_n, cat_a, Nat.reduceAdd, Nat.reduceMul, Nat.reduceLeDiff, Nat.reduceEqDiff, Nat.reduceLT, and_self, and_true, true_and, and_false, false_and, or_true, true_or, or_false, false_or, if_true, if_false, not_true_eq_false, not_false_eq_true, reduceCtorEq, reduceIte]
    · simp only [e_25_0, e_25_1, e_25_4, e_25_4n, e_25_5, e_25_5n, e_25_8, e_25_9, e_25_12, e_25_13, e_25_15, e_25_17, e_25_20, e_25_21, e_25_21n, e_25_22, e_25_25, e_25_26, e_25_29, e_25_30, e_25_32, e_25_33, e_25_36, e_25_38, e_25_39, e_25_41, e_25_44, e_25_45, e_25_48, e_25_48n, e_25_49, e_25_52, e_25_54, e_25_57, e_25_60, e_25_63, e_25_65, e_25_68, e_25_68n, e_25_69, e_25_69n, e_25_70, e_25_73, e_25_76, e_25_76n, e_25_77, e_25_78, e_25_81, T0, T1, T2, T4, T29, L4, L29, R0c, R0l, R0u, R0k, I_lo lt0, I_lo lt1, I_lo lt2, sI_lo lt0, sI_lo lt1, k_flv hN, k_add, TC ha, I_lo (lt_C ha), hw, h1, tl_s, tl_n, rf_s, rf_n, cs_nil, cs_cons, cat_r, cat_i, cat_l, cat_n, cat_a, Nat.reduceAdd, Nat.reduceMul, Nat.reduceLeDiff, Nat.reduceEqDiff, Nat.reduceLT, and_self, and_true, true_and, and_false, false_and, or_true, true_or, or_false, false_or, if_true, if_false, not_true_eq_false, not_false_eq_true, reduceCtorEq, reduceIte]
  · refine Ex_of xs L rfl ?_
    show Ev xs L _ (0, [.ref 0, .ref (pC a), .ref p, .int w, .retAddr 1, .retAddr 1], [], hh c s) _
    by_cases h1 : nI (fi_lv c 4 0 0) + 1 ≤ 12
    · simp only [e_25_0, e_25_1, e_25_4, e_25_4n, e_25_5, e_25_5n, e_25_8, e_25_9, e_25_12, e_25_13, e_25_15, e_25_17, e_25_20, e_25_21, e_25_21n, e_25_22, e_25_25, e_25_26, e_25_29, e_25_30, e_25_32, e_25_33, e_25_36, e_25_38, e_25_39, e_25_41, e_25_44, e_25_45, e_25_48, e_25_48n, e_25_49, e_25_52, e_25_54, e_25_57, e_25_60, e_25_63, e_25_65, e_25_68, e_25_68n, e_25_69, e_25_69n, e_25_70, e_25_73, e_25_76, e_25_76n, e_25_77, e_25_78, e_25_81, T0, T1, T2, T4, T29, L4, L29, R0c, R0l, R0u, R0k, I_lo lt0, I_lo lt1, I_lo lt2, sI_lo lt0, sI_lo lt1, k_flv hN, k_cref ha, TC ha, hw, eq_true h1, tl_s, tl_n, rf_s, rf_n, cs_nil, cs_cons, cat_r, cat_i, cat_l, cat_n, cat_a, Nat.reduceAdd, Nat.reduceMul, Nat.reduceLeDiff, Nat.reduceEqDiff, Nat.reduceLT, and_self, and_true, true_and, and_false, false_and, or_true, true_or, or_false, false_or, if_true, if_false, not_true_eq_false, not_false_eq_true, reduceCtorEq, reduceIte]
    · simp only [e_25_0, e_25_1, e_25_4, e_25_4n, e_25_5, e_25_5n, e_25_8, e_25_9, e_25_12, e_25_13, e_25_15, e_25_17, e_25_20, e_25_21, e_25_21n, e_25_22, e_25_25, e_25_26, e_25_29, e_25_30, e_25_32, e_25_33, e_25_36, e_25_38, e_25_39, e_25_41, e_25_44, e_25_45, e_25_48, e_25_48n, e_25_49, e_25_52, e_25_54, e_25_57, e_25_60, e_25_63, e_25_65, e_25_68, e_25_68n, e_25_69, e_25_69n, e_25_70, e_25_73, e_25_76, e_25_76n, e_25_77, e_25_78, e_25_81, T0, T1, T2, T4, T29, L4, L29, R0c, R0l, R0u, R0k, I_lo lt0, I_lo lt1, I_lo lt2, sI_lo lt0, sI_lo lt1, k_flv hN, k_add, TC ha, I_lo (lt_C ha), hw, h1, tl_s, tl_n, rf_s, rf_n, cs_nil, cs_cons, cat_r, cat_i, cat_l, cat_n, cat_a, Nat.reduceAdd, Nat.reduceMul, Nat.reduceLeDiff, Nat.reduceEqDiff, Nat.reduceLT, and_self, and_true, true_and, and_false, false_and, or_true, true_or, or_false, false_or, if_true, if_false, not_true_eq_false, not_false_eq_true, reduceCtorEq, reduceIte]
def fi_op1 (c : CM) (a u m : Nat) : CM := if nI (fi_lv c 4 0 0) + (1 + nI m) ≤ 12 then cl_fork c a u m else l_add c (c.1 (pC a) 0) 7 503
set_option maxRecDepth 20000 in
set_option maxHeartbeats 2000000 in
theorem x_op1 {a u m : Nat} (ha : a < 4) (hu : u < 4) (hm : m ≤ 4) (hp : Pok c u) (hc : c.1 (pU u) 8 = nI m) (hN : Nok c) : Ex xs L 25 [.ref 0, .ref (pC a), .ref (pU u), .int 0] (hh c s) (none, hh (fi_op1 c a u m) s) := by
  refine Ex_of xs L rfl ?_
  show Ev xs L _ (0, [.ref 0, .ref (pC a), .ref (pU u), .int 0, .retAddr 1, .retAddr 1], [], hh c s) _
  unfold fi_op1
  by_cases h1 : nI (fi_lv c 4 0 0) + (1 + nI m) ≤ 12
  · simp only [e_25_0, e_25_1, e_25_4, e_25_4n, e_25_5, e_25_5n, e_25_8, e_25_9, e_25_12, e_25_13, e_25_15, e_25_17, e_25_20, e_25_21, e_25_21n, e_25_22, e_25_25, e_25_26, e_25_29, e_25_30, e_25_32, e_25_33, e_25_36, e_25_38, e_25_39, e_25_41, e_25_44, e_25_45, e_25_48, e_25_48n, e_25_49, e_25_52, e_25_54, e_25_57, e_25_60, e_25_63, e_25_65, e_25_68, e_25_68n, e_25_69, e_25_69n, e_25_70, e_25_73, e_25_76, e_25_76n, e_25_77, e_25_78, e_25_81, T0, T1, T2, T4, T29, L4, L29, R0c, R0l, R0u, R0k, I_lo lt0, I_lo lt1, I_lo lt2, sI_lo lt0, sI_lo lt1, k_flv hN, k_fork ha hu hm hp hc, TC ha, TU hu, I_lo (lt_U hu), hc, eq_true h1, tl_s, tl_n, rf_s, rf_n, cs_nil, cs_cons, cat_r, cat_i, cat_l, cat_n, cat_a, Nat.reduceAdd, Nat.reduceMul, Nat.reduceLeDiff, Nat.reduceEqDiff, Nat.reduceLT, and_self, and_true, true_and, and_false, false_and, or_true, true_or, or_false, false_or, if_true, if_false, not_true_eq_false, not_false_eq_true, reduceCtorEq, reduceIte, q_0_1, q_0_2, q_0_3, q_0_4, q_0_5, q_0_6, q_1_0, q_1_2, q_1_3, q_1_4, q_1_5, q_1_6, q_2_0, q_2_1, q_2_3, q_2_4, q_2_5, q_2_6, q_3_0, q_3_1, q_3_2, q_3_4, q_3_5, q_3_6, q_4_0, q_4_1, q_4_2, q_4_3, q_4_5, q_4_6, q_5_0, q_5_1, q_5_2, q_5_3, q_5_4, q_5_6, q_6_0, q_6_1, q_6_2, q_6_3, q_6_4, q_6_5]
  · simp only [e_25_0, e_25_1, e_25_4, e_25_4n, e_25_5, e_25_5n, e_25_8, e_25_9, e_25_12, e_25_13, e_25_15, e_25_17, e_25_20, e_25_21, e_25_21n, e_25_22, e_25_25, e_25_26, e_25_29, e_25_30, e_25_32, e_25_33, e_25_36, e_25_38, e_25_39, e_25_41, e_25_44, e_25_45, e_25_48, e_25_48n, e_25_49, e_25_52, e_25_54, e_25_57, e_25_60, e_25_63, e_25_65, e_25_68, e_25_68n, e_25_69, e_25_69n, e_25_70, e_25_73, e_25_76, e_25_76n, e_25_77, e_25_78, e_25_81, T0, T1, T2, T4, T29, L4, L29, R0c, R0l, R0u, R0k, I_lo lt0, I_lo lt1, I_lo lt2, sI_lo lt0, sI_lo lt1, k_flv hN, k_add, TC ha, TU hu, I_lo (lt_U hu), I_lo (lt_C ha), hc, h1, tl_s, tl_n, rf_s, rf_n, cs_nil, cs_cons, cat_r, cat_i, cat_l, cat_n, cat_a, Nat.reduceAdd, Nat.reduceMul, Nat.reduceLeDiff, Nat.reduceEqDiff, Nat.reduceLT, and_self, and_true, true_and, and_false, false_and, or_true, true_or, or_false, false_or, if_true, if_false, not_true_eq_false, not_false_eq_true, reduceCtorEq, reduceIte, q_0_1, q_0_2, q_0_3, q_0_4, q_0_5, q_0_6, q_1_0, q_1_2, q_1_3, q_1_4, q_1_5, q_1_6, q_2_0, q_2_1, q_2_3, q_2_4, q_2_5, q_2_6, q_3_0, q_3_1, q_3_2, q_3_4, q_3_5, q_3_6, q_4_0, q_4_1, q_4_2, q_4_3, q_4_5, q_4_6, q_5_0, q_5_1, q_5_2, q_5_3, q_5_4, q_5_6, q_6_0, q_6_1, q_6_2, q_6_3, q_6_4, q_6_5]
-- the call to a user: what the class does, by cases
set_option maxRecDepth 20000 in
set_option maxHeartbeats 2000000 in
theorem x_finN {x u hp vi : Int32} (hx : no4 x) : Ex xs L 7 [.ref 0, .int x, .int u, .int hp, .int vi] (hh c s) (some (.int (-1)), hh c s) := by
  refine Ex_of xs L rfl ?_
  show Ev xs L _ (0, [.ref 0, .int x, .int u, .int hp, .int vi, .retAddr 1, .retAddr 1], [], hh c s) _
  by_cases h1 : x < 0
  · simp only [e_7_0, e_7_1, e_7_4, e_7_5, e_7_6, e_7_9, e_7_10, e_7_11, e_7_12, e_7_15, e_7_18, e_7_20, e_7_21, e_7_24, e_7_25, e_7_26, e_7_26n, e_7_28, e_7_28n, e_7_30, e_7_33, e_7_36, e_7_36n, e_7_38, e_7_41, e_7_44, e_7_47, e_7_48, e_7_48n, e_7_50, e_7_51, e_7_52, e_7_55, e_7_56, e_7_57, e_7_58, e_7_60, e_7_63, e_7_66, e_7_67, e_7_70, e_7_73, e_7_75, e_7_76, eq_true h1, tl_s, tl_n, rf_s, rf_n, cs_nil, cs_cons, cat_r, cat_i, cat_l, cat_n, cat_a, Nat.reduceAdd, Nat.reduceMul, Nat.reduceLeDiff, Nat.reduceEqDiff, Nat.reduceLT, and_self, and_true, true_and, and_false, false_and, or_true, true_or, or_false, false_or, if_true, if_false, not_true_eq_false, not_false_eq_true, reduceCtorEq, reduceIte]
  · simp only [e_7_0, e_7_1, e_7_4, e_7_5, e_7_6, e_7_9, e_7_10, e_7_11, e_7_12, e_7_15, e_7_18, e_7_20, e_7_21, e_7_24, e_7_25, e_7_26, e_7_26n, e_7_28, e_7_28n, e_7_30, e_7_33, e_7_36, e_7_36n, e_7_38, e_7_41, e_7_44, e_7_47, e_7_48, e_7_48n, e_7_50, e_7_51, e_7_52, e_7_55, e_7_56, e_7_57, e_7_58, e_7_60, e_7_63, e_7_66, e_7_67, e_7_70, e_7_73, e_7_75, e_7_76, h1, f_6 (hx.resolve_left h1), tl_s, tl_n, rf_s, rf_n, cs_nil, cs_cons, cat_r, cat_i, cat_l, cat_n, cat_a, Nat.reduceAdd, Nat.reduceMul, Nat.reduceLeDiff, Nat.reduceEqDiff, Nat.reduceLT, and_self, and_true, true_and, and_false, false_and, or_true, true_or, or_false, false_or, if_true, if_false, not_true_eq_false, not_false_eq_true, reduceCtorEq, reduceIte]
set_option maxRecDepth 20000 in
set_option maxHeartbeats 2000000 in
theorem x_finU {a n : Nat} {u hp vi : Int32} (ha : a < 4) (hb : c.1 (pC a) 3 = nI n) (hn : n ≤ 4) (hl : ¬ cl_live c a n = 0) : Ex xs L 7 [.ref 0, .int (nI a), .int u, .int hp, .int vi] (hh c s) (some (.int ((sv_again c a).1 2 2 - c.1 2 2)), hh (sv_again c a) s) := by
  refine Ex_of xs L rfl ?_
  show Ev xs L _ (0, [.ref 0, .int (nI a), .int u, .int hp, .int vi, .retAddr 1, .retAddr 1], [], hh c s) _
  simp only [e_7_0, e_7_1, e_7_4, e_7_5, e_7_6, e_7_9, e_7_10, e_7_11, e_7_12, e_7_15, e_7_18, e_7_20, e_7_21, e_7_24, e_7_25t104, e_7_26, e_7_26n, e_7_28, e_7_28n, e_7_30, e_7_33, e_7_36, e_7_36n, e_7_38, e_7_41, e_7_44, e_7_47, e_7_48, e_7_48n, e_7_50, e_7_51, e_7_52, e_7_55, e_7_56, e_7_57, e_7_58, e_7_60, e_7_63, e_7_66, e_7_67, e_7_70, e_7_73, e_7_75, e_7_76, T0, T1, T2, T4, T29, L4, L29, R0c, R0l, R0u, R0k, I_lo lt0, I_lo lt1, I_lo lt2, sI_lo lt0, sI_lo lt1, R29 ha, TC ha, RCs ha, TS ha, k_cuse ha hb hn, k_again ha, hl, f_0 ha, f_4 ha, in4 ha, cl_4 ha, tl_s, tl_n, rf_s, rf_n, cs_nil, cs_cons, cat_r, cat_i, cat_l, cat_n, cat_a, Nat.reduceAdd, Nat.reduceMul, Nat.reduceLeDiff, Nat.reduceEqDiff, Nat.reduceLT, and_self, and_true, true_and, and_false, false_and, or_true, true_or, or_false, false_or, if_true, if_false, not_true_eq_false, not_false_eq_true, reduceCtorEq, reduceIte, q_0_1, q_0_2, q_0_3, q_0_4, q_0_5, q_0_6, q_1_0, q_1_2, q_1_3, q_1_4, q_1_5, q_1_6, q_2_0, q_2_1, q_2_3, q_2_4, q_2_5, q_2_6, q_3_0, q_3_1, q_3_2, q_3_4, q_3_5, q_3_6, q_4_0, q_4_1, q_4_2, q_4_3, q_4_5, q_4_6, q_5_0, q_5_1, q_5_2, q_5_3, q_5_4, q_5_6, q_6_0, q_6_1, q_6_2, q_6_3, q_6_4, q_6_5]
set_option maxRecDepth 20000 in
set_option maxHeartbeats 2000000 in
theorem x_fin {a n : Nat} {u hp vi w : Int32} {v : Value} {c1 c2 : CM} (ha : a < 4) (hb : c.1 (pC a) 3 = nI n) (hn : n ≤ 4) (hl : cl_live c a n = 0) (hv : v = .null ∨ ∃ p, v = .ref p) (h1 : Ex xs L 20 [.ref 0, .int u] (hh c s) (some v, hh c s)) (h2 : Ex xs L 24 [.ref 0, .int u, .int hp, .int vi] (hh c s) (some (.int w), hh c1 s)) (h3 : Ex xs L 25 [.ref 0, .ref (pC a), v, .int w] (hh c1 s) (none, hh c2 s)) : Ex xs L 7 [.ref 0, .int (nI a), .int u, .int hp, .int vi] (hh c s) (some (.int (c2.1 2 2 - c.1 2 2)), hh c2 s) := by
  refine Ex_of xs L rfl ?_
  show Ev xs L _ (0, [.ref 0, .int (nI a), .int u, .int hp, .int vi, .retAddr 1, .retAddr 1], [], hh c s) _
  have k1 : ∀ K, Cl xs L 20 [.ref 0, .int u] (hh c s) K ↔ K (some v) (hh c s) := fun K => Cl_of xs L h1
  have k2 : ∀ K, Cl xs L 24 [.ref 0, .int u, .int hp, .int vi] (hh c s) K ↔ K (some (.int w)) (hh c1 s) := fun K => Cl_of xs L h2
  have k3 : ∀ K, Cl xs L 25 [.ref 0, .ref (pC a), v, .int w] (hh c1 s) K ↔ K none (hh c2 s) := fun K => Cl_of xs L h3
  rcases hv with rfl | ⟨p, rfl⟩
  · simp only [e_7_0, e_7_1, e_7_4, e_7_5, e_7_6, e_7_9, e_7_10, e_7_11, e_7_12, e_7_15, e_7_18, e_7_20, e_7_21, e_7_24, e_7_25t104, e_7_26, e_7_26n, e_7_28, e_7_28n, e_7_30, e_7_33, e_7_36, e_7_36n, e_7_38, e_7_41, e_7_44, e_7_47, e_7_48, e_7_48n, e_7_50, e_7_51, e_7_52, e_7_55, e_7_56, e_7_57, e_7_58, e_7_60, e_7_63, e_7_66, e_7_67, e_7_70, e_7_73, e_7_75, e_7_76, T0, T1, T2, T4, T29, L4, L29, R0c, R0l, R0u, R0k, I_lo lt0, I_lo lt1, I_lo lt2, sI_lo lt0, sI_lo lt1, R29 ha, TC ha, k_cuse ha hb hn, k1, k2, k3, hl, f_0 ha, f_4 ha, in4 ha, cl_4 ha, tl_s, tl_n, rf_s, rf_n, cs_nil, cs_cons, cat_r, cat_i, cat_l, cat_n, cat_a, Nat.reduceAdd, Nat.reduceMul, Nat.reduceLeDiff, Nat.reduceEqDiff, Nat.reduceLT, and_self, and_true, true_and, and_false, false_and, or_true, true_or, or_false, false_or, if_true, if_false, not_true_eq_false, not_false_eq_true, reduceCtorEq, reduceIte]
  · simp only [e_7_0, e_7_1, e_7_4, e_7_5, e_7_6, e_7_9, e_7_10, e_7_11, e_7_12, e_7_15, e_7_18, e_7_20, e_7_21, e_7_24, e_7_25t104, e_7_26, e_7_26n, e_7_28, e_7_28n, e_7_30, e_7_33, e_7_36, e_7_36n, e_7_38, e_7_41, e_7_44, e_7_47, e_7_48, e_7_48n, e_7_50, e_7_51, e_7_52, e_7_55, e_7_56, e_7_57, e_7_58, e_7_60, e_7_63, e_7_66, e_7_67, e_7_70, e_7_73, e_7_75, e_7_76, T0, T1, T2, T4, T29, L4, L29, R0c, R0l, R0u, R0k, I_lo lt0, I_lo lt1, I_lo lt2, sI_lo lt0, sI_lo lt1, R29 ha, TC ha, k_cuse ha hb hn, k1, k2, k3, hl, f_0 ha, f_4 ha, in4 ha, cl_4 ha, tl_s, tl_n, rf_s, rf_n, cs_nil, cs_cons, cat_r, cat_i, cat_l, cat_n, cat_a, Nat.reduceAdd, Nat.reduceMul, Nat.reduceLeDiff, Nat.reduceEqDiff, Nat.reduceLT, and_self, and_true, true_and, and_false, false_and, or_true, true_or, or_false, false_or, if_true, if_false, not_true_eq_false, not_false_eq_true, reduceCtorEq, reduceIte]
end CL
