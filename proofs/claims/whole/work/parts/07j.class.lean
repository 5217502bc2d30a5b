section CL
variable {xs : Nat → Int32} {L : Nat} {h : ix_H} {c : CM} {s : MM}
-- how many branches each call has
def nb (c : CM) (a : Nat) : Nat := (c.1 (pC a) 3).toNatClampNeg
def Nok (c : CM) : Prop := ∀ a, a < 4 → c.1 (pC a) 3 = nI (nb c a) ∧ nb c a ≤ 4
def fi_lv (c : CM) : Nat → Nat → Nat → Nat
  | 0, _, z => z
  | d + 1, a, z => fi_lv c d (a + 1) (z + cl_live c a (nb c a))
set_option maxRecDepth 20000 in
set_option maxHeartbeats 2000000 in
theorem x_flvl {o : ix_O} (hN : Nok c) : ∀ (d a z : Nat), a + d = 4 → (Ev xs L 17 (4, [.ref 0, .int (nI z), .int (nI a)], [], hh c s) o ↔ o = (some (.int (nI (fi_lv c d a z))), hh c s)) := by
  intro d
  induction d with
  | zero =>
    intro a z h4
    obtain rfl : a = 4 := by omega
    have q4 : (4 ≤ nI 4) = True := eq_true (by decide)
    simp only [e_17_4, e_17_5, e_17_6, e_17_27, e_17_28, q4, fi_lv, tl_s, tl_n, rf_s, rf_n, cs_nil, cs_cons, cat_r, cat_i, cat_l, cat_n, cat_a, Nat.reduceAdd, Nat.reduceMul, Nat.reduceLeDiff, Nat.reduceEqDiff, Nat.reduceLT, and_self, and_true, true_and, and_false, false_and, or_true, true_or, or_false, false_or, if_true, if_false, not_true_eq_false, not_false_eq_true, reduceCtorEq, reduceIte]
  | succ d ih =>
    intro a z h4
    have ha : a < 4 := by omega
    have hb := (hN a ha).1
    have hn := (hN a ha).2
    rw [e_17_4]
    simp only [fi_lv]
    rw [← ih (a + 1) _ (by omega)]
    simp only [e_17_5, e_17_6, e_17_9, e_17_10, e_17_11, e_17_14, e_17_15t104, e_17_16, e_17_19, e_17_20, e_17_21, e_17_24, T0, T1, T2, T4, T29, L4, L29, R0c, R0l, R0u, R0k, I_lo lt0, I_lo lt1, I_lo lt2, sI_lo lt0, sI_lo lt1, R29 ha, TC ha, k_clive ha hb hn, f_5 ha, in4 ha, cl_4 ha, ad1, nI_add, tl_s, tl_n, rf_s, rf_n, cs_nil, cs_cons, cat_r, cat_i, cat_l, cat_n, cat_a, Nat.reduceAdd, Nat.reduceMul, Nat.reduceLeDiff, Nat.reduceEqDiff, Nat.reduceLT, and_self, and_true, true_and, and_false, false_and, or_true, true_or, or_false, false_or, if_true, if_false, not_true_eq_false, not_false_eq_true, reduceCtorEq, reduceIte]
set_option maxRecDepth 20000 in
set_option maxHeartbeats 2000000 in
theorem x_flv (hN : Nok c) : Ex xs L 17 [.ref 0] (hh c s) (some (.int (nI (fi_lv c 4 0 0))), hh c s) := by
  refine Ex_of xs L rfl ?_
  show Ev xs L _ (0, [.ref 0, .retAddr 1, .retAddr 1], [], hh c s) _
  simp only [e_17_0, e_17_1, e_17_2, e_17_3, tl_s, tl_n, rf_s, rf_n, cs_nil, cs_cons, cat_r, cat_i, cat_l, cat_n, cat_a, Nat.reduceAdd, Nat.reduceMul, Nat.reduceLeDiff, Nat.reduceEqDiff, Nat.reduceLT, and_self, and_true, true_and, and_false, false_and, or_true, true_or, or_false, false_or, if_true, if_false, not_true_eq_false, not_false_eq_true, reduceCtorEq, reduceIte]
  exact (x_flvl hN 4 0 0 (by omega)).mpr rfl
theorem k_flv {K : Option Value → ix_H → Prop} (hN : Nok c) : Cl xs L 17 [.ref 0] (hh c s) K ↔ K (some (.int (nI (fi_lv c 4 0 0)))) (hh c s) := Cl_of xs L (x_flv hN)
-- what a call does leaves the others alone
def Fr (a : Nat) (c c' : CM) : Prop := (∀ q j, ¬ (30 + 35 * a ≤ q ∧ q < 65 + 35 * a) → ¬ q = 2 → c'.1 q j = c.1 q j) ∧ c'.2.1 = c.2.1
theorem Fr_r (a : Nat) (c : CM) : Fr a c c := ⟨fun _ _ _ _ => rfl, rfl⟩
theorem Fr_t {a : Nat} {c d e : CM} (h : Fr a c d) (g : Fr a d e) : Fr a c e := ⟨fun q j h1 h2 => (g.1 q j h1 h2).trans (h.1 q j h1 h2), g.2.trans h.2⟩
theorem Fr_I {a p j : Nat} {v : Int32} (h : 30 + 35 * a ≤ p ∧ p < 65 + 35 * a) : Fr a c (cI c p j v) := ⟨fun q i h1 _ => by rw [cI_at, if_neg (fun w => h1 (by rw [w.1]; exact h))], rfl⟩
theorem Fr_add {a : Nat} {x y w : Int32} : Fr a c (l_add c x y w) := ⟨fun q i _ h2 => by rw [add_at, if_neg (fun w => h2 w.1)], rfl⟩
theorem Fr_set {a p : Nat} {x : Int32} (h : 30 + 35 * a ≤ p ∧ p < 65 + 35 * a) : Fr a c (tq_set c p x) := Fr_t (Fr_I h) (Fr_I h)
theorem Fr_stp {a p : Nat} (h : 30 + 35 * a ≤ p ∧ p < 65 + 35 * a) : Fr a c (tq_stop c p) := Fr_I h
theorem in_S (a : Nat) : 30 + 35 * a ≤ pS a ∧ pS a < 65 + 35 * a := by unfold pS; omega
theorem in_C (a : Nat) : 30 + 35 * a ≤ pC a ∧ pC a < 65 + 35 * a := by unfold pC; omega
theorem in_G {a k : Nat} (h : k < 4) : 30 + 35 * a ≤ pG a k ∧ pG a k < 65 + 35 * a := by unfold pG; omega
theorem in_B {a i : Nat} (h : i < 4) : 30 + 35 * a ≤ pB a i ∧ pB a i < 65 + 35 * a := by unfold pB; omega
theorem in_T {a i k : Nat} (h : i < 4) (hk : k < 6) : 30 + 35 * a ≤ pT a i k ∧ pT a i k < 65 + 35 * a := by unfold pT; omega
theorem Fr_smv {a : Nat} {v : Int32} : Fr a c (sv_mv c a v) := by
  unfold sv_mv
  refine Fr_t (Fr_t (Fr_I (in_S a)) (?_ : Fr a (cI c (pS a) 7 v) _)) (?_ : Fr a (sv_m2 (cI c (pS a) 7 v) a v) _)
  · unfold sv_m2; split
    · exact Fr_r _ _
    · exact Fr_t (Fr_stp (in_G (by decide))) (Fr_stp (in_G (by decide)))
  · unfold sv_m5; split
    · exact Fr_t (Fr_stp (in_G (by decide))) (Fr_stp (in_G (by decide)))
    · exact Fr_r _ _
theorem Fr_tell {a : Nat} {w : Int32} : Fr a c (sv_tell c a w) := Fr_t (Fr_I (in_S a)) Fr_add
theorem Fr_again {a : Nat} : Fr a c (sv_again c a) := by
  unfold sv_again; split
  · exact Fr_tell
  · exact Fr_r _ _
theorem Fr_suc {a : Nat} : Fr a c (sv_suc c a) := Fr_t Fr_smv (Fr_set (in_G (by decide)))
theorem Fr_sfail {a : Nat} {w : Int32} : Fr a c (sv_fail c a w) := Fr_t (Fr_t (Fr_t Fr_tell Fr_smv) (Fr_set (in_G (by decide)))) (Fr_set (in_G (by decide)))
theorem Fr_conf {a : Nat} : Fr a c (sv_conf c a) := Fr_t Fr_smv (Fr_set (in_G (by decide)))
theorem Fr_srun {a : Nat} : Fr a c (sv_run c a) := by
  unfold sv_run
  refine Fr_t (?_ : Fr a c (sv_r0 c a)) ?_
  · unfold sv_r0 tq_twm; split
    · exact Fr_t Fr_tell (Fr_set (in_G (by decide)))
    · exact Fr_r _ _
  · unfold sv_r1; split
    · exact Fr_smv
    · exact Fr_r _ _
theorem Fr_bmv {a i : Nat} {v : Int32} (hi : i < 4) : Fr a c (b_mv c a i v) := by
  unfold b_mv
  refine Fr_t (Fr_t (Fr_t (Fr_I (in_B hi)) (?_ : Fr a (cI c (pB a i) 11 v) _)) (?_ : Fr a (b_mA (cI c (pB a i) 11 v) a i v) _)) (?_ : Fr a (b_mO (b_mA (cI c (pB a i) 11 v) a i v) a i v) _)
  · unfold b_mA; split
    · exact Fr_r _ _
    · exact Fr_t (Fr_stp (in_T hi (by decide))) (Fr_stp (in_T hi (by decide)))
  · unfold b_mO; split
    · exact Fr_r _ _
    · exact Fr_t (Fr_t (Fr_stp (in_T hi (by decide))) (Fr_stp (in_T hi (by decide)))) (Fr_stp (in_T hi (by decide)))
  · unfold b_mD; split
    · exact Fr_stp (in_T hi (by decide))
    · exact Fr_r _ _
theorem Fr_out {a i : Nat} {w : Int32} (hi : i < 4) : Fr a c (b_out c a i w) := Fr_t (Fr_I (in_B hi)) (Fr_bmv hi)
theorem Fr_bfail {a i : Nat} {w : Int32} (hi : i < 4) : Fr a c (b_fail c a i w) := Fr_t (Fr_t (Fr_t (Fr_I (in_B hi)) (Fr_bmv hi)) Fr_add) (Fr_set (in_T hi (by decide)))
theorem Fr_anew {a i : Nat} (hi : i < 4) : Fr a c (b_anew c a i) := by
  unfold b_anew; split
  · exact Fr_set (in_T hi (by decide))
  · exact Fr_r _ _
theorem Fr_want {a i : Nat} (hi : i < 4) : Fr a c (b_want c a i) := by
  refine ⟨fun q j h1 h2 => want_o c a i q j (fun w => h1 (by rw [w]; exact in_B hi)) (fun k hk w => h1 (by rw [w]; exact in_T hi hk)) h2, ?_⟩
  unfold b_want
  repeat' split
  all_goals rfl
theorem Fr_beg {a i : Nat} {w : Int32} (hi : i < 4) : Fr a c (b_beg c a i w) := by
  unfold b_beg b_b4
  exact Fr_t (Fr_t (Fr_t (Fr_t (Fr_t (Fr_t (Fr_t (Fr_t (Fr_I (in_B hi)) (Fr_I (in_B hi))) (Fr_I (in_B hi))) (Fr_I (in_B hi))) (Fr_bmv hi)) Fr_add) (Fr_set (in_T hi (by decide)))) (Fr_set (in_T hi (by decide)))) (Fr_set (in_T hi (by decide)))
theorem Fr_brun {a i : Nat} (hi : i < 4) : Fr a c (b_run c a i) := by
  have r0 : ∀ c, Fr a c (b_r0 c a i) := fun c => by
    unfold b_r0; split
    · exact Fr_t Fr_add (Fr_set (in_T hi (by decide)))
    · exact Fr_r _ _
  have r1 : ∀ c, Fr a c (b_r1 c a i) := fun c => by
    unfold b_r1; split
    · exact Fr_out hi
    · exact Fr_r _ _
  have r2 : ∀ c, Fr a c (b_r2 c a i) := fun c => by
    unfold b_r2; split
    · exact Fr_want hi
    · exact Fr_r _ _
  have r3 : ∀ c, Fr a c (b_r3 c a i) := fun c => by
    unfold b_r3; split
    · exact Fr_bmv hi
    · exact Fr_r _ _
  have r4 : ∀ c, Fr a c (b_r4 c a i) := fun c => by
    unfold b_r4 tq_twm; split
    · exact Fr_t Fr_add (Fr_set (in_T hi (by decide)))
    · exact Fr_r _ _
  have r5 : ∀ c, Fr a c (b_r5 c a i) := fun c => by
    unfold b_r5; split
    · exact Fr_out hi
    · exact Fr_r _ _
  exact Fr_t (Fr_t (Fr_t (Fr_t (Fr_t (r0 _) (r1 _)) (r2 _)) (r3 _)) (r4 _)) (r5 _)
theorem Fr_cnt {a i : Nat} (hi : i < 4) : Fr a c (cl_cnt c a i) := Fr_t (Fr_I (in_C a)) (Fr_I (in_B hi))
theorem Fr_all {a n : Nat} : Fr a c (cl_all c a n) := by
  unfold cl_all; split
  · split
    · exact Fr_sfail
    · exact Fr_r _ _
  · exact Fr_r _ _
theorem Fr_co {a : Nat} : ∀ (d i : Nat) (c : CM), i + d ≤ 4 → Fr a c (cl_co a d i c) := by
  intro d
  induction d with
  | zero => intro i c _; exact Fr_r _ _
  | succ d ih =>
    intro i c hi
    simp only [cl_co]
    refine Fr_t ?_ (ih (i + 1) _ (by omega))
    split
    · exact Fr_want (by omega)
    · exact Fr_r _ _
theorem Fr_rl {a n : Nat} : ∀ (d i : Nat) (c : CM), i + d ≤ 4 → Fr a c (cl_rl a n d i c) := by
  intro d
  induction d with
  | zero => intro i c _; exact Fr_r _ _
  | succ d ih =>
    intro i c hi
    simp only [cl_rl]
    refine Fr_t ?_ (ih (i + 1) _ (by omega))
    unfold cl_rb
    have hi4 : i < 4 := by omega
    split
    · exact Fr_t (Fr_t (Fr_brun hi4) (Fr_cnt hi4)) Fr_all
    · exact Fr_brun hi4
theorem Fr_run {a n : Nat} (hn : n ≤ 4) : Fr a c (cl_run c a n) := Fr_t Fr_srun (Fr_rl n 0 _ (by omega))
theorem cc_rl (a n : Nat) : ∀ (d i : Nat) (c : CM), (cl_rl a n d i c).1 (pC a) 3 = c.1 (pC a) 3 := by
  intro d
  induction d with
  | zero => intro i c; rfl
  | succ d ih =>
    intro i c
    simp only [cl_rl]
    rw [ih, cc_rb]
theorem nb_run {a b : Nat} {c : CM} (h : nb c a ≤ 4) : (cl_run c a (nb c a)).1 (pC b) 3 = c.1 (pC b) 3 := by
  by_cases hq : b = a
  · subst hq
    unfold cl_run
    rw [cc_rl, cc_srun]
  · exact (Fr_run h).1 _ _ (by unfold pC; omega) (by unfold pC; omega)
theorem Nok_run {a : Nat} (hN : Nok c) (ha : a < 4) : Nok (cl_run c a (nb c a)) := by
  intro b hb
  have e := nb_run (b := b) (hN a ha).2
  have e2 : nb (cl_run c a (nb c a)) b = nb c b := congrArg Int32.toNatClampNeg e
  rw [e2, e]
  exact hN b hb
-- all timers
def fi_rd : Nat → Nat → CM → CM
  | 0, _, c => c
  | d + 1, a, c => fi_rd d (a + 1) (if cl_live c a (nb c a) = 0 then c else cl_run c a (nb c a))
set_option maxRecDepth 20000 in
set_option maxHeartbeats 2000000 in
theorem x_frdl {o : ix_O} : ∀ (d a : Nat) (c : CM), Nok c → a + d = 4 → (Ev xs L 27 (2, [.ref 0, .int (nI a)], [], hh c s) o ↔ o = (none, hh (fi_rd d a c) s)) := by
  intro d
  induction d with
  | zero =>
    intro a c hN h4
    obtain rfl : a = 4 := by omega
    have q4 : (4 ≤ nI 4) = True := eq_true (by decide)
    simp only [e_27_2, e_27_3, e_27_4, e_27_34, q4, fi_rd, tl_s, tl_n, rf_s, rf_n, cs_nil, cs_cons, cat_r, cat_i, cat_l, cat_n, cat_a, Nat.reduceAdd, Nat.reduceMul, Nat.reduceLeDiff, Nat.reduceEqDiff, Nat.reduceLT, and_self, and_true, true_and, and_false, false_and, or_true, true_or, or_false, false_or, if_true, if_false, not_true_eq_false, not_false_eq_true, reduceCtorEq, reduceIte]
  | succ d ih =>
    intro a c hN h4
    have ha : a < 4 := by omega
    have hb := (hN a ha).1
    have hn := (hN a ha).2
    rw [e_27_2]
    simp only [fi_rd]
    by_cases hl : cl_live c a (nb c a) = 0
    · rw [if_pos hl, ← ih (a + 1) c hN (by omega)]
      simp only [e_27_3, e_27_4, e_27_7, e_27_8, e_27_11, e_27_12t104, e_27_24t104, e_27_13, e_27_16, e_27_19, e_27_20, e_27_23, e_27_25, e_27_28, e_27_31, T0, T1, T2, T4, T29, L4, L29, R0c, R0l, R0u, R0k, I_lo lt0, I_lo lt1, I_lo lt2, sI_lo lt0, sI_lo lt1, R29 ha, TC ha, k_cuse ha hb hn, hl, f_5 ha, in4 ha, cl_4 ha, ad1, tl_s, tl_n, rf_s, rf_n, cs_nil, cs_cons, cat_r, cat_i, cat_l, cat_n, cat_a, Nat.reduceAdd, Nat.reduceMul, Nat.reduceLeDiff, Nat.reduceEqDiff, Nat.reduceLT, and_self, and_true, true_and, and_false, false_and, or_true, true_or, or_false, false_or, if_true, if_false, not_true_eq_false, not_false_eq_true, reduceCtorEq, reduceIte]
    · rw [if_neg hl, ← ih (a + 1) _ (Nok_run hN ha) (by omega)]
      simp only [e_27_3, e_27_4, e_27_7, e_27_8, e_27_11, e_27_12t104, e_27_24t104, e_27_13, e_27_16, e_27_19, e_27_20, e_27_23, e_27_25, e_27_28, e_27_31, T0, T1, T2, T4, T29, L4, L29, R0c, R0l, R0u, R0k, I_lo lt0, I_lo lt1, I_lo lt2, sI_lo lt0, sI_lo lt1, R29 ha, TC ha, k_cuse ha hb hn, k_crun ha hb hn, hl, f_5 ha, in4 ha, cl_4 ha, ad1, tl_s, tl_n, rf_s, rf_n, cs_nil, cs_cons, cat_r, cat_i, cat_l, cat_n, cat_a, Nat.reduceAdd, Nat.reduceMul, Nat.reduceLeDiff, Nat.reduceEqDiff, Nat.reduceLT, and_self, and_true, true_and, and_false, false_and, or_true, true_or, or_false, false_or, if_true, if_false, not_true_eq_false, not_false_eq_true, reduceCtorEq, reduceIte, q_0_1, q_0_2, q_0_3, q_0_4, q_0_5, q_0_6, q_1_0, q_1_2, q_1_3, q_1_4, q_1_5, q_1_6, q_2_0, q_2_1, q_2_3, q_2_4, q_2_5, q_2_6, q_3_0, q_3_1, q_3_2, q_3_4, q_3_5, q_3_6, q_4_0, q_4_1, q_4_2, q_4_3, q_4_5, q_4_6, q_5_0, q_5_1, q_5_2, q_5_3, q_5_4, q_5_6, q_6_0, q_6_1, q_6_2, q_6_3, q_6_4, q_6_5]
theorem Nok_rd : ∀ (d a : Nat) (c : CM), Nok c → a + d = 4 → Nok (fi_rd d a c) := by
  intro d
  induction d with
  | zero => intro a c hN _; exact hN
  | succ d ih =>
    intro a c hN h4
    simp only [fi_rd]
    split
    · exact ih _ _ hN (by omega)
    · exact ih _ _ (Nok_run hN (by omega)) (by omega)
set_option maxRecDepth 20000 in
set_option maxHeartbeats 2000000 in
theorem x_frd (hN : Nok c) : Ex xs L 27 [.ref 0] (hh c s) (none, hh (fi_rd 4 0 c) s) := by
  refine Ex_of xs L rfl ?_
  show Ev xs L _ (0, [.ref 0, .retAddr 1], [], hh c s) _
  simp only [e_27_0, e_27_1]
  exact (x_frdl 4 0 c hN (by omega)).mpr rfl
theorem k_frd {K : Option Value → ix_H → Prop} (hN : Nok c) : Cl xs L 27 [.ref 0] (hh c s) K ↔ K none (hh (fi_rd 4 0 c) s) := Cl_of xs L (x_frd hN)
def fi_dl (c : CM) : Nat → Nat → Int32 → Int32
  | 0, _, z => z
  | d + 1, a, z => fi_dl c d (a + 1) (mn z (cl_due c a (nb c a)))
def fi_due (c : CM) : Int32 := fi_dl c 4 0 2147483647
set_option maxRecDepth 20000 in
set_option maxHeartbeats 2000000 in
theorem x_fdul {o : ix_O} (hN : Nok c) : ∀ (d a : Nat) (z : Int32), a + d = 4 → (Ev xs L 26 (5, [.ref 0, .int z, .int (nI a)], [], hh c s) o ↔ o = (some (.int (fi_dl c d a z)), hh c s)) := by
  intro d
  induction d with
  | zero =>
    intro a z h4
    obtain rfl : a = 4 := by omega
    have q4 : (4 ≤ nI 4) = True := eq_true (by decide)
    simp only [e_26_5, e_26_6, e_26_7, e_26_30, e_26_31, q4, fi_dl, tl_s, tl_n, rf_s, rf_n, cs_nil, cs_cons, cat_r, cat_i, cat_l, cat_n, cat_a, Nat.reduceAdd, Nat.reduceMul, Nat.reduceLeDiff, Nat.reduceEqDiff, Nat.reduceLT, and_self, and_true, true_and, and_false, false_and, or_true, true_or, or_false, false_or, if_true, if_false, not_true_eq_false, not_false_eq_true, reduceCtorEq, reduceIte]
  | succ d ih =>
    intro a z h4
    have ha : a < 4 := by omega
    have hb := (hN a ha).1
    have hn := (hN a ha).2
    rw [e_26_5]
    simp only [fi_dl]
    rw [← ih (a + 1) _ (by omega)]
    simp only [e_26_6, e_26_7, e_26_10, e_26_11, e_26_12, e_26_15, e_26_16t104, e_26_17, e_26_20, e_26_23, e_26_24, e_26_27, T0, T1, T2, T4, T29, L4, L29, R0c, R0l, R0u, R0k, I_lo lt0, I_lo lt1, I_lo lt2, sI_lo lt0, sI_lo lt1, R29 ha, TC ha, k_cdue ha hb hn, f_5 ha, in4 ha, cl_4 ha, ad1, mn, tl_s, tl_n, rf_s, rf_n, cs_nil, cs_cons, cat_r, cat_i, cat_l, cat_n, cat_a, Nat.reduceAdd, Nat.reduceMul, Nat.reduceLeDiff, Nat.reduceEqDiff, Nat.reduceLT, and_self, and_true, true_and, and_false, false_and, or_true, true_or, or_false, false_or, if_true, if_false, not_true_eq_false, not_false_eq_true, reduceCtorEq, reduceIte]
set_option maxRecDepth 20000 in
set_option maxHeartbeats 2000000 in
theorem x_fdu (hN : Nok c) : Ex xs L 26 [.ref 0] (hh c s) (some (.int (fi_due c)), hh c s) := by
  refine Ex_of xs L rfl ?_
  show Ev xs L _ (0, [.ref 0, .retAddr 1, .retAddr 1], [], hh c s) _
  simp only [e_26_0, e_26_2, e_26_3, e_26_4]
  exact (x_fdul hN 4 0 _ (by omega)).mpr rfl
theorem k_fdu {K : Option Value → ix_H → Prop} (hN : Nok c) : Cl xs L 26 [.ref 0] (hh c s) K ↔ K (some (.int (fi_due c))) (hh c s) := Cl_of xs L (x_fdu hN)
-- ticks
def fi_t1 (c : CM) (z : Int32) : CM := if c.1 1 1 + 1 = z then fi_rd 4 0 (cI c 1 1 (c.1 1 1 + 1)) else cI c 1 1 (c.1 1 1 + 1)
def fi_tz (c : CM) (z : Int32) : Int32 := if c.1 1 1 + 1 = z then fi_due (fi_t1 c z) else z
def fi_tl : Nat → CM → Int32 → CM
  | 0, c, _ => c
  | d + 1, c, z => fi_tl d (fi_t1 c z) (fi_tz c z)
theorem Nok_I1 {v : Int32} (hN : Nok c) : Nok (cI c 1 1 v) := by
  intro a ha
  have e : (cI c 1 1 v).1 (pC a) 3 = c.1 (pC a) 3 := by rw [cI_at, if_neg (fun w => absurd w.1 (by unfold pC; omega))]
  unfold nb
  rw [e]
  exact hN a ha
theorem Nok_t1 {z : Int32} (hN : Nok c) : Nok (fi_t1 c z) := by
  unfold fi_t1; split
  · exact Nok_rd 4 0 _ (Nok_I1 hN) (by omega)
  · exact Nok_I1 hN
set_option maxRecDepth 20000 in
set_option maxHeartbeats 2000000 in
theorem x_ftkl {o : ix_O} {n : Nat} {b : Int32} (hn : n ≤ 2000) : ∀ (d i : Nat) (c : CM) (z : Int32), Nok c → i + d = n → (Ev xs L 12 (29, [.ref 0, .int (nI n), .int b, .int z, .int (nI i)], [], hh c s) o ↔ o = (some (.int ((fi_tl d c z).1 2 2 - b)), hh (fi_tl d c z) s)) := by
  intro d
  induction d with
  | zero =>
    intro i c z hN hi
    obtain rfl : i = n := by omega
    simp only [e_12_29, e_12_31, e_12_32, e_12_74, e_12_75, e_12_78, e_12_81, e_12_82, e_12_83, T0, T1, T2, T4, T29, L4, L29, R0c, R0l, R0u, R0k, I_lo lt0, I_lo lt1, I_lo lt2, sI_lo lt0, sI_lo lt1, le_rf, fi_tl, tl_s, tl_n, rf_s, rf_n, cs_nil, cs_cons, cat_r, cat_i, cat_l, cat_n, cat_a, Nat.reduceAdd, Nat.reduceMul, Nat.reduceLeDiff, Nat.reduceEqDiff, Nat.reduceLT, and_self, and_true, true_and, and_false, false_and, or_true, true_or, or_false, false_or, if_true, if_false, not_true_eq_false, not_false_eq_true, reduceCtorEq, reduceIte]
  | succ d ih =>
    intro i c z hN hi
    have hlt : (nI n ≤ nI i) = False := eq_false (nI_ge (by omega) (by omega))
    rw [e_12_29]
    simp only [fi_tl]
    rw [← ih (i + 1) _ _ (Nok_t1 hN) (by omega)]
    have hN1 := Nok_I1 (v := c.1 1 1 + 1) hN
    unfold fi_tz fi_t1
    by_cases h1 : c.1 1 1 + 1 = z
    · have hN2 := Nok_rd 4 0 _ hN1 (by omega)
      simp only [eq_true h1, if_true]
      have hN2' : Nok (fi_rd 4 0 (cI c 1 1 z)) := by rw [← h1]; exact hN2
      have hN1' : Nok (cI c 1 1 z) := by rw [← h1]; exact hN1
      simp only [e_12_31, e_12_32, e_12_35, e_12_36, e_12_39, e_12_40, e_12_43, e_12_44, e_12_45, e_12_48, e_12_49, e_12_52, e_12_55, e_12_56, e_12_59, e_12_60, e_12_63, e_12_64, e_12_67, e_12_68, e_12_71, T0, T1, T2, T4, T29, L4, L29, R0c, R0l, R0u, R0k, I_lo lt0, I_lo lt1, I_lo lt2, sI_lo lt0, sI_lo lt1, hlt, cI_at, h1, k_frd hN1', k_fdu hN2', ad1, tl_s, tl_n, rf_s, rf_n, cs_nil, cs_cons, cat_r, cat_i, cat_l, cat_n, cat_a, Nat.reduceAdd, Nat.reduceMul, Nat.reduceLeDiff, Nat.reduceEqDiff, Nat.reduceLT, and_self, and_true, true_and, and_false, false_and, or_true, true_or, or_false, false_or, if_true, if_false, not_true_eq_false, not_false_eq_true, reduceCtorEq, reduceIte]
    · simp only [e_12_31, e_12_32, e_12_35, e_12_36, e_12_39, e_12_40, e_12_43, e_12_44, e_12_45, e_12_48, e_12_49, e_12_52, e_12_55, e_12_56, e_12_59, e_12_60, e_12_63, e_12_64, e_12_67, e_12_68, e_12_71, T0, T1, T2, T4, T29, L4, L29, R0c, R0l, R0u, R0k, I_lo lt0, I_lo lt1, I_lo lt2, sI_lo lt0, sI_lo lt1, hlt, cI_at, h1, ad1, tl_s, tl_n, rf_s, rf_n, cs_nil, cs_cons, cat_r, cat_i, cat_l, cat_n, cat_a, Nat.reduceAdd, Nat.reduceMul, Nat.reduceLeDiff, Nat.reduceEqDiff, Nat.reduceLT, and_self, and_true, true_and, and_false, false_and, or_true, true_or, or_false, false_or, if_true, if_false, not_true_eq_false, not_false_eq_true, reduceCtorEq, reduceIte]
set_option maxRecDepth 20000 in
set_option maxHeartbeats 2000000 in
theorem x_ftkN {n : Int32} (hn : n < 0 ∨ ¬ n ≤ 2000) : Ex xs L 12 [.ref 0, .int n] (hh c s) (some (.int (-1)), hh c s) := by
  refine Ex_of xs L rfl ?_
  show Ev xs L _ (0, [.ref 0, .int n, .retAddr 1, .retAddr 1, .retAddr 1], [], hh c s) _
  by_cases h1 : n < 0
  · simp only [e_12_0, e_12_1, e_12_4, e_12_5, e_12_8, e_12_11, e_12_12, eq_true h1, tl_s, tl_n, rf_s, rf_n, cs_nil, cs_cons, cat_r, cat_i, cat_l, cat_n, cat_a, Nat.reduceAdd, Nat.reduceMul, Nat.reduceLeDiff, Nat.reduceEqDiff, Nat.reduceLT, and_self, and_true, true_and, and_false, false_and, or_true, true_or, or_false, false_or, if_true, if_false, not_true_eq_false, not_false_eq_true, reduceCtorEq, reduceIte]
  · simp only [e_12_0, e_12_1, e_12_4, e_12_5, e_12_8, e_12_11, e_12_12, h1, hn.resolve_left h1, tl_s, tl_n, rf_s, rf_n, cs_nil, cs_cons, cat_r, cat_i, cat_l, cat_n, cat_a, Nat.reduceAdd, Nat.reduceMul, Nat.reduceLeDiff, Nat.reduceEqDiff, Nat.reduceLT, and_self, and_true, true_and, and_false, false_and, or_true, true_or, or_false, false_or, if_true, if_false, not_true_eq_false, not_false_eq_true, reduceCtorEq, reduceIte]
set_option maxRecDepth 20000 in
set_option maxHeartbeats 2000000 in
theorem x_ftk {n : Nat} (hn : n ≤ 2000) (hN : Nok c) : Ex xs L 12 [.ref 0, .int (nI n)] (hh c s) (some (.int ((fi_tl n c (fi_due c)).1 2 2 - c.1 2 2)), hh (fi_tl n c (fi_due c)) s) := by
  refine Ex_of xs L rfl ?_
  show Ev xs L _ (0, [.ref 0, .int (nI n), .retAddr 1, .retAddr 1, .retAddr 1], [], hh c s) _
  have h1 : (nI n < 0) = False := eq_false (nI_pos (by omega))
  have h2 : (nI n ≤ 2000) = True := eq_true (nI_le (b := 2000) hn (by decide))
  simp only [e_12_0, e_12_1, e_12_4, e_12_5, e_12_8, e_12_11, e_12_12, e_12_13, e_12_14, e_12_17, e_12_20, e_12_21, e_12_22, e_12_25, e_12_26, e_12_27, T0, T1, T2, T4, T29, L4, L29, R0c, R0l, R0u, R0k, I_lo lt0, I_lo lt1, I_lo lt2, sI_lo lt0, sI_lo lt1, h1, h2, k_fdu hN, tl_s, tl_n, rf_s, rf_n, cs_nil, cs_cons, cat_r, cat_i, cat_l, cat_n, cat_a, Nat.reduceAdd, Nat.reduceMul, Nat.reduceLeDiff, Nat.reduceEqDiff, Nat.reduceLT, and_self, and_true, true_and, and_false, false_and, or_true, true_or, or_false, false_or, if_true, if_false, not_true_eq_false, not_false_eq_true, reduceCtorEq, reduceIte]
  exact (x_ftkl hn n 0 c _ hN (by omega)).mpr rfl
end CL
