theorem pW_N (u b : Nat) : pW u + 1 + b = pN u b := by unfold pW pN; omega
theorem cP_at (c : CM) (p j b q i : Nat) : (cP c p j b).2.1 q i = if q = p ∧ i = j then b else c.2.1 q i := by
  show va_up c.2.1 p (va_up (c.2.1 p) j b) q i = _
  rw [up_at]
  by_cases h1 : q = p
  · subst h1
    rw [if_pos rfl, up_at]
    by_cases h2 : i = j <;> simp [h2]
  · rw [if_neg h1, if_neg (fun q => h1 q.1)]
theorem cI_p (c : CM) (p j : Nat) (v : Int32) : (cI c p j v).2.1 = c.2.1 := Eq.trans rfl rfl
theorem sR_ua {c : CM} {s : MM} {p j b : Nat} (hp : ua p = true) (hj : j < 4) : hs_R (hh c s) p j (some (p + 1 + b)) = hh (cP c p j b) s := by
  unfold hs_R hh
  refine congrArg (fun f => ((196, 1509, TT, LL, _, f, _) : ix_H)) ?_
  funext q i
  show va_up (fun p j => if ua p = true then (if j < 4 then some (p + 1 + c.2.1 p j) else none) else RR p j) p (va_up (fun j => if ua p = true then (if j < 4 then some (p + 1 + c.2.1 p j) else none) else RR p j) j (some (p + 1 + b))) q i = if ua q = true then (if i < 4 then some (q + 1 + va_up c.2.1 p (va_up (c.2.1 p) j b) q i) else none) else RR q i
  simp only [up_at]
  by_cases hq : q = p
  · subst hq
    simp only [if_true, hp, up_at]
    by_cases hi : i = j
    · subst hi
      simp only [if_true, hj]
    · simp only [hi, if_false]
  · simp only [hq, if_false]
section CL
variable {xs : Nat → Int32} {L : Nat} {h : ix_H} {c : CM} {s : MM}
theorem TU {u : Nat} (h : u < 4) (c : CM) (s : MM) : ha_T (hh c s) (pU u) = 8 := (tt_U u h).1
theorem TW {u : Nat} (h : u < 4) (c : CM) (s : MM) : ha_T (hh c s) (pW u) = 105 := (tt_U u h).2.1
theorem LW {u : Nat} (h : u < 4) (c : CM) (s : MM) : ha_L (hh c s) (pW u) = 4 := (tt_U u h).2.2.1
theorem RUc {u : Nat} (h : u < 4) (c : CM) (s : MM) : ha_R (hh c s) (pU u) 0 = some 1 := (R_hh (tt_U u h).2.2.2.1).trans (tt_U u h).2.2.2.2.2.2.1
theorem RUw {u : Nat} (h : u < 4) (c : CM) (s : MM) : ha_R (hh c s) (pU u) 7 = some (pW u) := (R_hh (tt_U u h).2.2.2.1).trans (tt_U u h).2.2.2.2.2.2.2
theorem R4 {u : Nat} (h : u < 4) (c : CM) (s : MM) : ha_R (hh c s) 4 u = some (pU u) := (R_hh (by decide)).trans (tt_U u h).2.2.2.2.2.1
theorem RW {u j : Nat} (h : u < 4) (hj : j < 4) (c : CM) (s : MM) : ha_R (hh c s) (pW u) j = some (pN u (c.2.1 (pW u) j)) := (R_ua (tt_U u h).2.2.2.2.1 hj).trans (by rw [pW_N])
theorem TN {u b : Nat} (h : u < 4) (hb : b < 4) (c : CM) (s : MM) : ha_T (hh c s) (pN u b) = 1 := tt_N u h b hb
theorem sRW {u j b : Nat} (h : u < 4) (hj : j < 4) (c : CM) (s : MM) : hs_R (hh c s) (pW u) j (some (pN u b)) = hh (cP c (pW u) j b) s := by
  rw [← pW_N]
  exact sR_ua (tt_U u h).2.2.2.2.1 hj
theorem nU1 {u : Nat} : (1 = pU u) = False := eq_false (by unfold pU; omega)
theorem nN1 {u b : Nat} : (1 = pN u b) = False := eq_false (by unfold pN; omega)
-- nonces
def us_nonce (c : CM) (u : Nat) (w : Int32) : CM := cI (cI (cI (cI c (pU u) 3 1) (pU u) 4 w) (pU u) 5 (c.1 1 1)) (pU u) 6 0
set_option maxRecDepth 20000 in
set_option maxHeartbeats 2000000 in
theorem x_tkn {u : Nat} {w : Int32} (hu : u < 4) : Ex xs L 82 [.ref (pU u), .int w] (hh c s) (none, hh (us_nonce c u w) s) := by
  refine Ex_of xs L rfl ?_
  show Ev xs L _ (0, [.ref (pU u), .int w], [], hh c s) _
  simp only [e_82_0, e_82_1, e_82_2, e_82_5, e_82_6, e_82_7, e_82_10, e_82_11, e_82_12, e_82_15, e_82_18, e_82_21, e_82_22, e_82_23, e_82_26, TU hu, T1, RUc hu, I_lo lt1, sI_lo (lt_U hu), cI_at, nU1, tl_s, tl_n, rf_s, rf_n, cs_nil, cs_cons, cat_r, cat_i, cat_l, cat_n, cat_a, Nat.reduceAdd, Nat.reduceMul, Nat.reduceLeDiff, Nat.reduceEqDiff, Nat.reduceLT, and_self, and_true, true_and, and_false, false_and, or_true, true_or, or_false, false_or, if_true, if_false, not_true_eq_false, not_false_eq_true, reduceCtorEq, reduceIte, us_nonce]
theorem k_tkn {u : Nat} {w : Int32} {K : Option Value → ix_H → Prop} (hu : u < 4) : Cl xs L 82 [.ref (pU u), .int w] (hh c s) K ↔ K none (hh (us_nonce c u w) s) := Cl_of xs L (x_tkn hu)
set_option maxRecDepth 20000 in
set_option maxHeartbeats 2000000 in
theorem x_udig {a n w : Int32} : Ex xs L 84 [.int a, .int n, .int w] h (some (.int (dig a n w)), h) := by
  refine Ex_of xs L rfl ?_
  show Ev xs L _ (0, [.int a, .int n, .int w, .retAddr 1], [], h) _
  simp only [e_84_0, e_84_1, e_84_2, e_84_3, e_84_4, e_84_5, e_84_6, e_84_8, e_84_9, e_84_10, e_84_12, e_84_13, e_84_14, e_84_15, e_84_16, e_84_18, e_84_19, e_84_20, e_84_21, e_84_22, e_84_23, e_84_25, e_84_26, e_84_27, dig]
theorem k_udig {a n w : Int32} {K : Option Value → ix_H → Prop} : Cl xs L 84 [.int a, .int n, .int w] h K ↔ K (some (.int (dig a n w))) h := Cl_of xs L x_udig
def us_ok (c : CM) (u : Nat) (w a : Int32) : Prop := ((¬ c.1 (pU u) 3 = 0 ∧ ¬ 100 * c.1 1 0 ≤ c.1 1 1 - c.1 (pU u) 5) ∧ ¬ w ≤ c.1 (pU u) 6) ∧ a = dig (c.1 (pU u) 1) (c.1 (pU u) 4) w
set_option maxRecDepth 20000 in
set_option maxHeartbeats 2000000 in
theorem x_adm1 {u : Nat} {w a : Int32} (hu : u < 4) (hk : us_ok c u w a) : Ex xs L 83 [.ref (pU u), .int w, .int a] (hh c s) (some (.int 1), hh (cI (cI c (pU u) 6 w) (pU u) 2 1) s) := by
  refine Ex_of xs L rfl ?_
  show Ev xs L _ (0, [.ref (pU u), .int w, .int a, .retAddr 1], [], hh c s) _
  obtain ⟨⟨⟨h1, h2⟩, h3⟩, rfl⟩ := hk
  simp only [e_83_0, e_83_1, e_83_4, e_83_7, e_83_8, e_83_11, e_83_14, e_83_15, e_83_18, e_83_19, e_83_21, e_83_22, e_83_25, e_83_28, e_83_29, e_83_32, e_83_33, e_83_36, e_83_37, e_83_38, e_83_39, e_83_42, e_83_43, e_83_44, e_83_47, e_83_50, e_83_51, e_83_52, e_83_55, e_83_56, e_83_59, e_83_60, e_83_63, e_83_66, e_83_67, e_83_68, e_83_69, e_83_70, e_83_73, e_83_74, e_83_75, e_83_78, e_83_79, k_udig, TU hu, T1, RUc hu, I_lo lt1, I_lo (lt_U hu), sI_lo (lt_U hu), tl_s, tl_n, rf_s, rf_n, cs_nil, cs_cons, cat_r, cat_i, cat_l, cat_n, cat_a, Nat.reduceAdd, Nat.reduceMul, Nat.reduceLeDiff, Nat.reduceEqDiff, Nat.reduceLT, and_self, and_true, true_and, and_false, false_and, or_true, true_or, or_false, false_or, if_true, if_false, not_true_eq_false, not_false_eq_true, reduceCtorEq, reduceIte, q_0_1, q_0_2, q_0_3, q_0_4, q_0_5, q_0_6, q_1_0, q_1_2, q_1_3, q_1_4, q_1_5, q_1_6, q_2_0, q_2_1, q_2_3, q_2_4, q_2_5, q_2_6, q_3_0, q_3_1, q_3_2, q_3_4, q_3_5, q_3_6, q_4_0, q_4_1, q_4_2, q_4_3, q_4_5, q_4_6, q_5_0, q_5_1, q_5_2, q_5_3, q_5_4, q_5_6, q_6_0, q_6_1, q_6_2, q_6_3, q_6_4, q_6_5, h1, h2, h3]
set_option maxRecDepth 20000 in
set_option maxHeartbeats 2000000 in
theorem x_adm0 {u : Nat} {w a : Int32} (hu : u < 4) (hk : ¬ us_ok c u w a) : Ex xs L 83 [.ref (pU u), .int w, .int a] (hh c s) (some (.int 0), hh c s) := by
  refine Ex_of xs L rfl ?_
  show Ev xs L _ (0, [.ref (pU u), .int w, .int a, .retAddr 1], [], hh c s) _
  by_cases h1 : c.1 (pU u) 3 = 0
  · simp only [e_83_0, e_83_1, e_83_4, e_83_7, e_83_8, e_83_11, e_83_14, e_83_15, e_83_18, e_83_19, e_83_21, e_83_22, e_83_25, e_83_28, e_83_29, e_83_32, e_83_33, e_83_36, e_83_37, e_83_38, e_83_39, e_83_42, e_83_43, e_83_44, e_83_47, e_83_50, e_83_51, e_83_52, e_83_55, e_83_56, e_83_59, e_83_60, e_83_63, e_83_66, e_83_67, e_83_68, e_83_69, e_83_70, e_83_73, e_83_74, e_83_75, e_83_78, e_83_79, TU hu, T1, RUc hu, I_lo lt1, I_lo (lt_U hu), tl_s, tl_n, rf_s, rf_n, cs_nil, cs_cons, cat_r, cat_i, cat_l, cat_n, cat_a, Nat.reduceAdd, Nat.reduceMul, Nat.reduceLeDiff, Nat.reduceEqDiff, Nat.reduceLT, and_self, and_true, true_and, and_false, false_and, or_true, true_or, or_false, false_or, if_true, if_false, not_true_eq_false, not_false_eq_true, reduceCtorEq, reduceIte, q_0_1, q_0_2, q_0_3, q_0_4, q_0_5, q_0_6, q_1_0, q_1_2, q_1_3, q_1_4, q_1_5, q_1_6, q_2_0, q_2_1, q_2_3, q_2_4, q_2_5, q_2_6, q_3_0, q_3_1, q_3_2, q_3_4, q_3_5, q_3_6, q_4_0, q_4_1, q_4_2, q_4_3, q_4_5, q_4_6, q_5_0, q_5_1, q_5_2, q_5_3, q_5_4, q_5_6, q_6_0, q_6_1, q_6_2, q_6_3, q_6_4, q_6_5, eq_true h1]
  · by_cases h2 : 100 * c.1 1 0 ≤ c.1 1 1 - c.1 (pU u) 5
    · simp only [e_83_0, e_83_1, e_83_4, e_83_7, e_83_8, e_83_11, e_83_14, e_83_15, e_83_18, e_83_19, e_83_21, e_83_22, e_83_25, e_83_28, e_83_29, e_83_32, e_83_33, e_83_36, e_83_37, e_83_38, e_83_39, e_83_42, e_83_43, e_83_44, e_83_47, e_83_50, e_83_51, e_83_52, e_83_55, e_83_56, e_83_59, e_83_60, e_83_63, e_83_66, e_83_67, e_83_68, e_83_69, e_83_70, e_83_73, e_83_74, e_83_75, e_83_78, e_83_79, TU hu, T1, RUc hu, I_lo lt1, I_lo (lt_U hu), tl_s, tl_n, rf_s, rf_n, cs_nil, cs_cons, cat_r, cat_i, cat_l, cat_n, cat_a, Nat.reduceAdd, Nat.reduceMul, Nat.reduceLeDiff, Nat.reduceEqDiff, Nat.reduceLT, and_self, and_true, true_and, and_false, false_and, or_true, true_or, or_false, false_or, if_true, if_false, not_true_eq_false, not_false_eq_true, reduceCtorEq, reduceIte, q_0_1, q_0_2, q_0_3, q_0_4, q_0_5, q_0_6, q_1_0, q_1_2, q_1_3, q_1_4, q_1_5, q_1_6, q_2_0, q_2_1, q_2_3, q_2_4, q_2_5, q_2_6, q_3_0, q_3_1, q_3_2, q_3_4, q_3_5, q_3_6, q_4_0, q_4_1, q_4_2, q_4_3, q_4_5, q_4_6, q_5_0, q_5_1, q_5_2, q_5_3, q_5_4, q_5_6, q_6_0, q_6_1, q_6_2, q_6_3, q_6_4, q_6_5, h1, eq_true h2]
    · by_cases h3 : w ≤ c.1 (pU u) 6
      · simp only [e_83_0, e_83_1, e_83_4, e_83_7, e_83_8, e_83_11, e_83_14, e_83_15, e_83_18, e_83_19, e_83_21, e_83_22, e_83_25, e_83_28, e_83_29, e_83_32, e_83_33, e_83_36, e_83_37, e_83_38, e_83_39, e_83_42, e_83_43, e_83_44, e_83_47, e_83_50, e_83_51, e_83_52, e_83_55, e_83_56, e_83_59, e_83_60, e_83_63, e_83_66, e_83_67, e_83_68, e_83_69, e_83_70, e_83_73, e_83_74, e_83_75, e_83_78, e_83_79, TU hu, T1, RUc hu, I_lo lt1, I_lo (lt_U hu), tl_s, tl_n, rf_s, rf_n, cs_nil, cs_cons, cat_r, cat_i, cat_l, cat_n, cat_a, Nat.reduceAdd, Nat.reduceMul, Nat.reduceLeDiff, Nat.reduceEqDiff, Nat.reduceLT, and_self, and_true, true_and, and_false, false_and, or_true, true_or, or_false, false_or, if_true, if_false, not_true_eq_false, not_false_eq_true, reduceCtorEq, reduceIte, q_0_1, q_0_2, q_0_3, q_0_4, q_0_5, q_0_6, q_1_0, q_1_2, q_1_3, q_1_4, q_1_5, q_1_6, q_2_0, q_2_1, q_2_3, q_2_4, q_2_5, q_2_6, q_3_0, q_3_1, q_3_2, q_3_4, q_3_5, q_3_6, q_4_0, q_4_1, q_4_2, q_4_3, q_4_5, q_4_6, q_5_0, q_5_1, q_5_2, q_5_3, q_5_4, q_5_6, q_6_0, q_6_1, q_6_2, q_6_3, q_6_4, q_6_5, h1, h2, eq_true h3]
      · have h4 : ¬ a = dig (c.1 (pU u) 1) (c.1 (pU u) 4) w := fun q => hk ⟨⟨⟨h1, h2⟩, h3⟩, q⟩
        simp only [e_83_0, e_83_1, e_83_4, e_83_7, e_83_8, e_83_11, e_83_14, e_83_15, e_83_18, e_83_19, e_83_21, e_83_22, e_83_25, e_83_28, e_83_29, e_83_32, e_83_33, e_83_36, e_83_37, e_83_38, e_83_39, e_83_42, e_83_43, e_83_44, e_83_47, e_83_50, e_83_51, e_83_52, e_83_55, e_83_56, e_83_59, e_83_60, e_83_63, e_83_66, e_83_67, e_83_68, e_83_69, e_83_70, e_83_73, e_83_74, e_83_75, e_83_78, e_83_79, k_udig, TU hu, T1, RUc hu, I_lo lt1, I_lo (lt_U hu), tl_s, tl_n, rf_s, rf_n, cs_nil, cs_cons, cat_r, cat_i, cat_l, cat_n, cat_a, Nat.reduceAdd, Nat.reduceMul, Nat.reduceLeDiff, Nat.reduceEqDiff, Nat.reduceLT, and_self, and_true, true_and, and_false, false_and, or_true, true_or, or_false, false_or, if_true, if_false, not_true_eq_false, not_false_eq_true, reduceCtorEq, reduceIte, q_0_1, q_0_2, q_0_3, q_0_4, q_0_5, q_0_6, q_1_0, q_1_2, q_1_3, q_1_4, q_1_5, q_1_6, q_2_0, q_2_1, q_2_3, q_2_4, q_2_5, q_2_6, q_3_0, q_3_1, q_3_2, q_3_4, q_3_5, q_3_6, q_4_0, q_4_1, q_4_2, q_4_3, q_4_5, q_4_6, q_5_0, q_5_1, q_5_2, q_5_3, q_5_4, q_5_6, q_6_0, q_6_1, q_6_2, q_6_3, q_6_4, q_6_5, h1, h2, h3, h4]
-- removing one
def Pok (c : CM) (u : Nat) : Prop := ∀ j, j < 4 → c.2.1 (pW u) j < 4
def us_sh (u : Nat) : Nat → Nat → CM → CM
  | 0, _, c => c
  | d + 1, i, c => us_sh u d (i + 1) (cP c (pW u) i (c.2.1 (pW u) (i + 1)))
def us_rm (c : CM) (u k m : Nat) : CM := cP (us_sh u (m - 1 - k) k (cI c (pU u) 8 (nI (m - 1)))) (pW u) (m - 1) (c.2.1 (pW u) k)
theorem Pok_cP {u j b : Nat} (h : Pok c u) (hb : b < 4) : Pok (cP c (pW u) j b) u := by
  intro i hi
  rw [cP_at]
  split
  · exact hb
  · exact h i hi
theorem us_sh_1 (u : Nat) : ∀ (d i : Nat) (c : CM), (us_sh u d i c).1 = c.1 := by
  intro d
  induction d with
  | zero => intro i c; rfl
  | succ d ih =>
    intro i c
    simp only [us_sh]
    rw [ih]
    rfl
theorem Pok_sh {u : Nat} : ∀ (d i : Nat) (c : CM), i + d < 4 → Pok c u → Pok (us_sh u d i c) u := by
  intro d
  induction d with
  | zero => intro i c _ h; exact h
  | succ d ih =>
    intro i c hi h
    simp only [us_sh]
    exact ih _ _ (by omega) (Pok_cP h (h _ (by omega)))
theorem Pok_rm {u k m : Nat} (h : Pok c u) (hk : k < m) (hm : m ≤ 4) : Pok (us_rm c u k m) u := Pok_cP (Pok_sh _ _ _ (by omega) (fun j hj => h j hj)) (h k (by omega))
set_option maxRecDepth 20000 in
set_option maxHeartbeats 2000000 in
theorem x_shl {o : ix_O} {u m k b : Nat} (hu : u < 4) (hm : m < 4) (hb4 : b < 4) : ∀ (d i : Nat) (c : CM), Pok c u → c.1 (pU u) 8 = nI m → i + d = m → (Ev xs L 89 (19, [.ref (pU u), .int (nI k), .ref (pN u b), .int (nI i)], [], hh c s) o ↔ o = (none, hh (cP (us_sh u d i c) (pW u) m b) s)) := by
  intro d
  induction d with
  | zero =>
    intro i c hp hc hi
    obtain rfl : i = m := by omega
    simp only [e_89_19, e_89_20, e_89_21, e_89_24, e_89_47, e_89_48, e_89_51, e_89_52, e_89_55, e_89_55n, e_89_5t105, e_89_39t105, e_89_40t105, e_89_56t105, e_89_57, TU hu, RUw hu, TW hu, LW hu, TN hu hb4, I_lo (lt_U hu), hc, le_rf, in4 hm, cl_4 hm, sRW hu hm, tl_s, tl_n, rf_s, rf_n, cs_nil, cs_cons, cat_r, cat_i, cat_l, cat_n, cat_a, Nat.reduceAdd, Nat.reduceMul, Nat.reduceLeDiff, Nat.reduceEqDiff, Nat.reduceLT, and_self, and_true, true_and, and_false, false_and, or_true, true_or, or_false, false_or, if_true, if_false, not_true_eq_false, not_false_eq_true, reduceCtorEq, reduceIte, us_sh]
  | succ d ih =>
    intro i c hp hc hi
    have hi4 : i < 4 := by omega
    have hi5 : i + 1 < 4 := by omega
    have hlt : (nI m ≤ nI i) = False := eq_false (nI_ge (by omega) (by omega))
    rw [e_89_19]
    simp only [us_sh]
    rw [← ih (i + 1) _ (Pok_cP hp (hp _ hi5)) hc (by omega)]
    simp only [e_89_20, e_89_21, e_89_24, e_89_27, e_89_28, e_89_31, e_89_32, e_89_33, e_89_36, e_89_37, e_89_38, e_89_39, e_89_40, e_89_41, e_89_44, e_89_5t105, e_89_39t105, e_89_40t105, e_89_56t105, TU hu, RUw hu, TW hu, LW hu, RW hu hi5, TN hu (hp _ hi5), I_lo (lt_U hu), hc, hlt, in4 hi4, cl_4 hi4, in4 hi5, cl_4 hi5, sRW hu hi4, tl_s, tl_n, rf_s, rf_n, cs_nil, cs_cons, cat_r, cat_i, cat_l, cat_n, cat_a, Nat.reduceAdd, Nat.reduceMul, Nat.reduceLeDiff, Nat.reduceEqDiff, Nat.reduceLT, and_self, and_true, true_and, and_false, false_and, or_true, true_or, or_false, false_or, if_true, if_false, not_true_eq_false, not_false_eq_true, reduceCtorEq, reduceIte, ad1]
set_option maxRecDepth 20000 in
set_option maxHeartbeats 2000000 in
theorem x_rm {u k m : Nat} (hu : u < 4) (hk : k < m) (hm : m ≤ 4) (hp : Pok c u) (hc : c.1 (pU u) 8 = nI m) : Ex xs L 89 [.ref (pU u), .int (nI k)] (hh c s) (none, hh (us_rm c u k m) s) := by
  refine Ex_of xs L rfl ?_
  show Ev xs L _ (0, [.ref (pU u), .int (nI k), .retAddr 1, .retAddr 1], [], hh c s) _
  have hk4 : k < 4 := by omega
  have e1 : nI m - 1 = nI (m - 1) := by
    obtain ⟨q, rfl⟩ : ∃ q, m = q + 1 := ⟨m - 1, by omega⟩
    exact nI_pred q
  simp only [e_89_0, e_89_1, e_89_4, e_89_5t105, e_89_39t105, e_89_40t105, e_89_56t105, e_89_6, e_89_6n, e_89_7, e_89_8, e_89_9, e_89_12, e_89_13, e_89_14, e_89_17, e_89_18, TU hu, RUw hu, TW hu, LW hu, RW hu hk4, I_lo (lt_U hu), sI_lo (lt_U hu), hc, e1, in4 hk4, cl_4 hk4, tl_s, tl_n, rf_s, rf_n, cs_nil, cs_cons, cat_r, cat_i, cat_l, cat_n, cat_a, Nat.reduceAdd, Nat.reduceMul, Nat.reduceLeDiff, Nat.reduceEqDiff, Nat.reduceLT, and_self, and_true, true_and, and_false, false_and, or_true, true_or, or_false, false_or, if_true, if_false, not_true_eq_false, not_false_eq_true, reduceCtorEq, reduceIte]
  refine (x_shl (m := m - 1) hu (by omega) (hp k hk4) (m - 1 - k) k (cI c (pU u) 8 (nI (m - 1))) (fun j hj => hp j hj) ?_ (by omega)).mpr rfl
  rw [cI_at, if_pos ⟨rfl, rfl⟩]
theorem k_rm {u k m : Nat} {K : Option Value → ix_H → Prop} (hu : u < 4) (hk : k < m) (hm : m ≤ 4) (hp : Pok c u) (hc : c.1 (pU u) 8 = nI m) : Cl xs L 89 [.ref (pU u), .int (nI k)] (hh c s) K ↔ K none (hh (us_rm c u k m) s) := Cl_of xs L (x_rm hu hk hm hp hc)
theorem us_rm_1 (c : CM) (u k m : Nat) : (us_rm c u k m).1 = (cI c (pU u) 8 (nI (m - 1))).1 := by
  unfold us_rm
  rw [cP_1, us_sh_1]
theorem us_rm_8 (c : CM) (u k m : Nat) : (us_rm c u k m).1 (pU u) 8 = nI (m - 1) := by
  rw [us_rm_1, cI_at, if_pos ⟨rfl, rfl⟩]
-- dropping those that ended, removing those to a contact
def us_de (u : Nat) : Nat → CM → Nat → CM × Nat
  | 0, c, m => (c, m)
  | i + 1, c, m => if c.1 1 1 < c.1 (pN u (c.2.1 (pW u) i)) 2 then us_de u i c m else us_de u i (us_rm c u i m) (m - 1)
theorem nIm1 (i : Nat) : nI i + (-1) = nI i - 1 := by
  rw [Int32.sub_eq_add_neg]
set_option maxRecDepth 20000 in
set_option maxHeartbeats 2000000 in
theorem x_del {o : ix_O} {u : Nat} (hu : u < 4) : ∀ (i : Nat) (c : CM) (m : Nat), i ≤ m → m ≤ 4 → Pok c u → c.1 (pU u) 8 = nI m → (Ev xs L 85 (7, [.ref (pU u), .int (nI i - 1)], [], hh c s) o ↔ o = (none, hh (us_de u i c m).1 s)) := by
  intro i
  induction i with
  | zero =>
    intro c m _ _ _ _
    have h0 : (nI 0 - 1 < 0) = True := eq_true (by decide)
    simp only [e_85_7, e_85_8, e_85_41, h0, tl_s, tl_n, rf_s, rf_n, cs_nil, cs_cons, cat_r, cat_i, cat_l, cat_n, cat_a, Nat.reduceAdd, Nat.reduceMul, Nat.reduceLeDiff, Nat.reduceEqDiff, Nat.reduceLT, and_self, and_true, true_and, and_false, false_and, or_true, true_or, or_false, false_or, if_true, if_false, not_true_eq_false, not_false_eq_true, reduceCtorEq, reduceIte, us_de]
  | succ i ih =>
    intro c m hi hm hp hc
    have hi4 : i < 4 := by omega
    have h0 : (nI i < 0) = False := eq_false (nI_pos (by omega))
    rw [e_85_7, nI_pred]
    simp only [us_de]
    by_cases h1 : c.1 1 1 < c.1 (pN u (c.2.1 (pW u) i)) 2
    · rw [if_pos h1, ← ih c m (by omega) hm hp hc, ← nIm1]
      simp only [e_85_8, e_85_11, e_85_12, e_85_15, e_85_18, e_85_19, e_85_22, e_85_23t105, e_85_24, e_85_27, e_85_30, e_85_31, e_85_32, e_85_35, e_85_38, TU hu, T1, RUc hu, RUw hu, TW hu, LW hu, RW hu hi4, TN hu (hp i hi4), I_lo lt1, I_lo (lt_N hu (hp i hi4)), in4 hi4, cl_4 hi4, h0, tl_s, tl_n, rf_s, rf_n, cs_nil, cs_cons, cat_r, cat_i, cat_l, cat_n, cat_a, Nat.reduceAdd, Nat.reduceMul, Nat.reduceLeDiff, Nat.reduceEqDiff, Nat.reduceLT, and_self, and_true, true_and, and_false, false_and, or_true, true_or, or_false, false_or, if_true, if_false, not_true_eq_false, not_false_eq_true, reduceCtorEq, reduceIte, eq_true h1]
    · rw [if_neg h1, ← ih _ (m - 1) (by omega) (by omega) (Pok_rm hp (by omega) hm) (us_rm_8 c u i m), ← nIm1]
      simp only [e_85_8, e_85_11, e_85_12, e_85_15, e_85_18, e_85_19, e_85_22, e_85_23t105, e_85_24, e_85_27, e_85_30, e_85_31, e_85_32, e_85_35, e_85_38, k_rm hu (show i < m by omega) hm hp hc, TU hu, T1, RUc hu, RUw hu, TW hu, LW hu, RW hu hi4, TN hu (hp i hi4), I_lo lt1, I_lo (lt_N hu (hp i hi4)), in4 hi4, cl_4 hi4, h0, tl_s, tl_n, rf_s, rf_n, cs_nil, cs_cons, cat_r, cat_i, cat_l, cat_n, cat_a, Nat.reduceAdd, Nat.reduceMul, Nat.reduceLeDiff, Nat.reduceEqDiff, Nat.reduceLT, and_self, and_true, true_and, and_false, false_and, or_true, true_or, or_false, false_or, if_true, if_false, not_true_eq_false, not_false_eq_true, reduceCtorEq, reduceIte, h1]
set_option maxRecDepth 20000 in
set_option maxHeartbeats 2000000 in
theorem x_de {u m : Nat} (hu : u < 4) (hm : m ≤ 4) (hp : Pok c u) (hc : c.1 (pU u) 8 = nI m) : Ex xs L 85 [.ref (pU u)] (hh c s) (none, hh (us_de u m c m).1 s) := by
  refine Ex_of xs L rfl ?_
  show Ev xs L _ (0, [.ref (pU u), .retAddr 1], [], hh c s) _
  simp only [e_85_0, e_85_1, e_85_4, e_85_5, e_85_6, TU hu, I_lo (lt_U hu), hc, tl_s, tl_n, rf_s, rf_n, cs_nil, cs_cons, cat_r, cat_i, cat_l, cat_n, cat_a, Nat.reduceAdd, Nat.reduceMul, Nat.reduceLeDiff, Nat.reduceEqDiff, Nat.reduceLT, and_self, and_true, true_and, and_false, false_and, or_true, true_or, or_false, false_or, if_true, if_false, not_true_eq_false, not_false_eq_true, reduceCtorEq, reduceIte]
  exact (x_del hu m c m (by omega) hm hp hc).mpr rfl
theorem k_de {u m : Nat} {K : Option Value → ix_H → Prop} (hu : u < 4) (hm : m ≤ 4) (hp : Pok c u) (hc : c.1 (pU u) 8 = nI m) : Cl xs L 85 [.ref (pU u)] (hh c s) K ↔ K none (hh (us_de u m c m).1 s) := Cl_of xs L (x_de hu hm hp hc)
def us_rt (u : Nat) (w : Int32) : Nat → CM → Nat → CM × Nat
  | 0, c, m => (c, m)
  | i + 1, c, m => if c.1 (pN u (c.2.1 (pW u) i)) 0 = w then us_rt u w i (us_rm c u i m) (m - 1) else us_rt u w i c m
set_option maxRecDepth 20000 in
set_option maxHeartbeats 2000000 in
theorem x_rtl {o : ix_O} {u : Nat} {w : Int32} (hu : u < 4) : ∀ (i : Nat) (c : CM) (m : Nat), i ≤ m → m ≤ 4 → Pok c u → c.1 (pU u) 8 = nI m → (Ev xs L 88 (7, [.ref (pU u), .int w, .int (nI i - 1)], [], hh c s) o ↔ o = (none, hh (us_rt u w i c m).1 s)) := by
  intro i
  induction i with
  | zero =>
    intro c m _ _ _ _
    have h0 : (nI 0 - 1 < 0) = True := eq_true (by decide)
    simp only [e_88_7, e_88_8, e_88_35, h0, tl_s, tl_n, rf_s, rf_n, cs_nil, cs_cons, cat_r, cat_i, cat_l, cat_n, cat_a, Nat.reduceAdd, Nat.reduceMul, Nat.reduceLeDiff, Nat.reduceEqDiff, Nat.reduceLT, and_self, and_true, true_and, and_false, false_and, or_true, true_or, or_false, false_or, if_true, if_false, not_true_eq_false, not_false_eq_true, reduceCtorEq, reduceIte, us_rt]
  | succ i ih =>
    intro c m hi hm hp hc
    have hi4 : i < 4 := by omega
    have h0 : (nI i < 0) = False := eq_false (nI_pos (by omega))
    rw [e_88_7, nI_pred]
    simp only [us_rt]
    by_cases h1 : c.1 (pN u (c.2.1 (pW u) i)) 0 = w
    · rw [if_pos h1, ← ih _ (m - 1) (by omega) (by omega) (Pok_rm hp (by omega) hm) (us_rm_8 c u i m), ← nIm1]
      simp only [e_88_8, e_88_11, e_88_12, e_88_15, e_88_16t105, e_88_17, e_88_20, e_88_21, e_88_24, e_88_25, e_88_26, e_88_29, e_88_32, k_rm hu (show i < m by omega) hm hp hc, TU hu, RUw hu, TW hu, LW hu, RW hu hi4, TN hu (hp i hi4), I_lo (lt_N hu (hp i hi4)), in4 hi4, cl_4 hi4, h0, tl_s, tl_n, rf_s, rf_n, cs_nil, cs_cons, cat_r, cat_i, cat_l, cat_n, cat_a, Nat.reduceAdd, Nat.reduceMul, Nat.reduceLeDiff, Nat.reduceEqDiff, Nat.reduceLT, and_self, and_true, true_and, and_false, false_and, or_true, true_or, or_false, false_or, if_true, if_false, not_true_eq_false, not_false_eq_true, reduceCtorEq, reduceIte, eq_true h1]
    · rw [if_neg h1, ← ih c m (by omega) hm hp hc, ← nIm1]
      simp only [e_88_8, e_88_11, e_88_12, e_88_15, e_88_16t105, e_88_17, e_88_20, e_88_21, e_88_24, e_88_25, e_88_26, e_88_29, e_88_32, TU hu, RUw hu, TW hu, LW hu, RW hu hi4, TN hu (hp i hi4), I_lo (lt_N hu (hp i hi4)), in4 hi4, cl_4 hi4, h0, tl_s, tl_n, rf_s, rf_n, cs_nil, cs_cons, cat_r, cat_i, cat_l, cat_n, cat_a, Nat.reduceAdd, Nat.reduceMul, Nat.reduceLeDiff, Nat.reduceEqDiff, Nat.reduceLT, and_self, and_true, true_and, and_false, false_and, or_true, true_or, or_false, false_or, if_true, if_false, not_true_eq_false, not_false_eq_true, reduceCtorEq, reduceIte, h1]
set_option maxRecDepth 20000 in
set_option maxHeartbeats 2000000 in
theorem x_rt {u m : Nat} {w : Int32} (hu : u < 4) (hm : m ≤ 4) (hp : Pok c u) (hc : c.1 (pU u) 8 = nI m) : Ex xs L 88 [.ref (pU u), .int w] (hh c s) (none, hh (us_rt u w m c m).1 s) := by
  refine Ex_of xs L rfl ?_
  show Ev xs L _ (0, [.ref (pU u), .int w, .retAddr 1], [], hh c s) _
  simp only [e_88_0, e_88_1, e_88_4, e_88_5, e_88_6, TU hu, I_lo (lt_U hu), hc, tl_s, tl_n, rf_s, rf_n, cs_nil, cs_cons, cat_r, cat_i, cat_l, cat_n, cat_a, Nat.reduceAdd, Nat.reduceMul, Nat.reduceLeDiff, Nat.reduceEqDiff, Nat.reduceLT, and_self, and_true, true_and, and_false, false_and, or_true, true_or, or_false, false_or, if_true, if_false, not_true_eq_false, not_false_eq_true, reduceCtorEq, reduceIte]
  exact (x_rtl hu m c m (by omega) hm hp hc).mpr rfl
theorem k_rt {u m : Nat} {w : Int32} {K : Option Value → ix_H → Prop} (hu : u < 4) (hm : m ≤ 4) (hp : Pok c u) (hc : c.1 (pU u) 8 = nI m) : Cl xs L 88 [.ref (pU u), .int w] (hh c s) K ↔ K none (hh (us_rt u w m c m).1 s) := Cl_of xs L (x_rt hu hm hp hc)
set_option maxRecDepth 20000 in
set_option maxHeartbeats 2000000 in
theorem x_ra {u : Nat} (hu : u < 4) : Ex xs L 87 [.ref (pU u)] (hh c s) (none, hh (cI c (pU u) 8 0) s) := by
  refine Ex_of xs L rfl ?_
  show Ev xs L _ (0, [.ref (pU u)], [], hh c s) _
  simp only [e_87_0, e_87_1, e_87_2, e_87_5, TU hu, sI_lo (lt_U hu), tl_s, tl_n, rf_s, rf_n, cs_nil, cs_cons, cat_r, cat_i, cat_l, cat_n, cat_a, Nat.reduceAdd, Nat.reduceMul, Nat.reduceLeDiff, Nat.reduceEqDiff, Nat.reduceLT, and_self, and_true, true_and, and_false, false_and, or_true, true_or, or_false, false_or, if_true, if_false, not_true_eq_false, not_false_eq_true, reduceCtorEq, reduceIte]
theorem k_ra {u : Nat} {K : Option Value → ix_H → Prop} (hu : u < 4) : Cl xs L 87 [.ref (pU u)] (hh c s) K ↔ K none (hh (cI c (pU u) 8 0) s) := Cl_of xs L (x_ra hu)
end CL
