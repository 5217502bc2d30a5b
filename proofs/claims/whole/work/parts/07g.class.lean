section CL
variable {xs : Nat → Int32} {L : Nat} {h : ix_H} {c : CM} {s : MM}
-- one of the bindings in the list, by its place
def bn (c : CM) (u i : Nat) (j : Nat) : Int32 := c.1 (pN u (c.2.1 (pW u) i)) j
def us_od1 (c : CM) (u : Nat) (ct mk : Int32) (i : Nat) : Prop := ((ct = -1 ∨ ct = bn c u i 0) ∧ bn c u i 3 = sh8 mk) ∧ ¬ bn c u i 4 < (mk &&& 255)
def us_od (c : CM) (u : Nat) (ct mk : Int32) : Nat → Nat → Prop
  | 0, _ => False
  | d + 1, i => us_od1 c u ct mk i ∨ us_od c u ct mk d (i + 1)
set_option maxRecDepth 20000 in
set_option maxHeartbeats 2000000 in
theorem x_odl {o : ix_O} {u m : Nat} {ct mk : Int32} (hu : u < 4) (hm : m ≤ 4) (hp : Pok c u) (hc : c.1 (pU u) 8 = nI m) : ∀ (d i : Nat) (v4 v5 : Value), i + d = m → ((us_od c u ct mk d i → (Ev xs L 86 (2, [.ref (pU u), .int ct, .int mk, .int (nI i), v4, v5], [], hh c s) o ↔ o = (some (.int 1), hh c s))) ∧ (¬ us_od c u ct mk d i → (Ev xs L 86 (2, [.ref (pU u), .int ct, .int mk, .int (nI i), v4, v5], [], hh c s) o ↔ o = (some (.int 0), hh c s)))) := by
  intro d
  induction d with
  | zero =>
    intro i v4 v5 hi
    obtain rfl : i = m := by omega
    refine ⟨fun q => q.elim, fun _ => ?_⟩
    simp only [e_86_2, e_86_3, e_86_4, e_86_7, e_86_77, e_86_78, TU hu, I_lo (lt_U hu), hc, le_rf, tl_s, tl_n, rf_s, rf_n, cs_nil, cs_cons, cat_r, cat_i, cat_l, cat_n, cat_a, Nat.reduceAdd, Nat.reduceMul, Nat.reduceLeDiff, Nat.reduceEqDiff, Nat.reduceLT, and_self, and_true, true_and, and_false, false_and, or_true, true_or, or_false, false_or, if_true, if_false, not_true_eq_false, not_false_eq_true, reduceCtorEq, reduceIte]
  | succ d ih =>
    intro i v4 v5 hi
    have hi4 : i < 4 := by omega
    have hlt := nle (show i < m by omega) hm
    -- the place 37: touched or not
    have A : ∀ z : Int32, (z = 1 ∧ (ct = -1 ∨ ct = bn c u i 0)) ∨ (z = 0 ∧ ¬ (ct = -1 ∨ ct = bn c u i 0)) → (Ev xs L 86 (2, [.ref (pU u), .int ct, .int mk, .int (nI i), v4, v5], [], hh c s) o ↔ Ev xs L 86 (37, [.ref (pU u), .int ct, .int mk, .int (nI i), .ref (pN u (c.2.1 (pW u) i)), v5], [.int z], hh c s) o) := by
      intro z hz
      rw [e_86_2]
      by_cases h1 : ct = -1
      · rcases hz with ⟨rfl, -⟩ | ⟨-, hz⟩
        · simp only [e_86_3, e_86_4, e_86_7, e_86_10, e_86_11, e_86_14, e_86_15t105, e_86_16, e_86_16n, e_86_18, e_86_19, e_86_20, e_86_23, e_86_24, e_86_24n, e_86_26, e_86_29, e_86_32, e_86_33, e_86_36, TU hu, RUw hu, TW hu, LW hu, RW hu hi4, TN hu (hp i hi4), I_lo (lt_U hu), I_lo (lt_N hu (hp i hi4)), hc, hlt, in4 hi4, cl_4 hi4, tl_s, tl_n, rf_s, rf_n, cs_nil, cs_cons, cat_r, cat_i, cat_l, cat_n, cat_a, Nat.reduceAdd, Nat.reduceMul, Nat.reduceLeDiff, Nat.reduceEqDiff, Nat.reduceLT, and_self, and_true, true_and, and_false, false_and, or_true, true_or, or_false, false_or, if_true, if_false, not_true_eq_false, not_false_eq_true, reduceCtorEq, reduceIte, eq_true h1]
        · exact absurd (Or.inl h1) hz
      · by_cases h2 : ct = bn c u i 0
        · rcases hz with ⟨rfl, -⟩ | ⟨-, hz⟩
          · have h2' : (ct = c.1 (pN u (c.2.1 (pW u) i)) 0) = True := eq_true h2
            simp only [e_86_3, e_86_4, e_86_7, e_86_10, e_86_11, e_86_14, e_86_15t105, e_86_16, e_86_16n, e_86_18, e_86_19, e_86_20, e_86_23, e_86_24, e_86_24n, e_86_26, e_86_29, e_86_32, e_86_33, e_86_36, TU hu, RUw hu, TW hu, LW hu, RW hu hi4, TN hu (hp i hi4), I_lo (lt_U hu), I_lo (lt_N hu (hp i hi4)), hc, hlt, in4 hi4, cl_4 hi4, tl_s, tl_n, rf_s, rf_n, cs_nil, cs_cons, cat_r, cat_i, cat_l, cat_n, cat_a, Nat.reduceAdd, Nat.reduceMul, Nat.reduceLeDiff, Nat.reduceEqDiff, Nat.reduceLT, and_self, and_true, true_and, and_false, false_and, or_true, true_or, or_false, false_or, if_true, if_false, not_true_eq_false, not_false_eq_true, reduceCtorEq, reduceIte, h1, h2']
          · exact absurd (Or.inr h2) hz
        · rcases hz with ⟨-, hz⟩ | ⟨rfl, -⟩
          · exact absurd hz (fun q => q.elim h1 h2)
          · have h2' : (ct = c.1 (pN u (c.2.1 (pW u) i)) 0) = False := eq_false h2
            simp only [e_86_3, e_86_4, e_86_7, e_86_10, e_86_11, e_86_14, e_86_15t105, e_86_16, e_86_16n, e_86_18, e_86_19, e_86_20, e_86_23, e_86_24, e_86_24n, e_86_26, e_86_29, e_86_32, e_86_33, e_86_36, TU hu, RUw hu, TW hu, LW hu, RW hu hi4, TN hu (hp i hi4), I_lo (lt_U hu), I_lo (lt_N hu (hp i hi4)), hc, hlt, in4 hi4, cl_4 hi4, tl_s, tl_n, rf_s, rf_n, cs_nil, cs_cons, cat_r, cat_i, cat_l, cat_n, cat_a, Nat.reduceAdd, Nat.reduceMul, Nat.reduceLeDiff, Nat.reduceEqDiff, Nat.reduceLT, and_self, and_true, true_and, and_false, false_and, or_true, true_or, or_false, false_or, if_true, if_false, not_true_eq_false, not_false_eq_true, reduceCtorEq, reduceIte, h1, h2']
    have B : ¬ us_od1 c u ct mk i → ∃ w4 w5, (Ev xs L 86 (2, [.ref (pU u), .int ct, .int mk, .int (nI i), v4, v5], [], hh c s) o ↔ Ev xs L 86 (2, [.ref (pU u), .int ct, .int mk, .int (nI (i + 1)), w4, w5], [], hh c s) o) := by
      intro hno
      by_cases h1 : ct = -1 ∨ ct = bn c u i 0
      · refine ⟨.ref (pN u (c.2.1 (pW u) i)), .int 1, ?_⟩
        rw [A 1 (Or.inl ⟨rfl, h1⟩)]
        by_cases h2 : bn c u i 3 = sh8 mk
        · have h2' : (c.1 (pN u (c.2.1 (pW u) i)) 3 = mk >>> ((8 : Int32) &&& 31)) = True := eq_true h2
          have h3' : (c.1 (pN u (c.2.1 (pW u) i)) 4 < (mk &&& 255)) = True := eq_true (Decidable.not_not.mp (fun q => hno ⟨⟨h1, h2⟩, q⟩))
          simp only [e_86_37, e_86_39, e_86_41, e_86_44, e_86_44n, e_86_46, e_86_49, e_86_50, e_86_52, e_86_53, e_86_56, e_86_56n, e_86_58, e_86_61, e_86_62, e_86_65, e_86_66, e_86_69, e_86_70, e_86_71, e_86_74, TN hu (hp i hi4), I_lo (lt_N hu (hp i hi4)), tl_s, tl_n, rf_s, rf_n, cs_nil, cs_cons, cat_r, cat_i, cat_l, cat_n, cat_a, Nat.reduceAdd, Nat.reduceMul, Nat.reduceLeDiff, Nat.reduceEqDiff, Nat.reduceLT, and_self, and_true, true_and, and_false, false_and, or_true, true_or, or_false, false_or, if_true, if_false, not_true_eq_false, not_false_eq_true, reduceCtorEq, reduceIte, q_0_1, q_0_2, q_0_3, q_0_4, q_0_5, q_0_6, q_1_0, q_1_2, q_1_3, q_1_4, q_1_5, q_1_6, q_2_0, q_2_1, q_2_3, q_2_4, q_2_5, q_2_6, q_3_0, q_3_1, q_3_2, q_3_4, q_3_5, q_3_6, q_4_0, q_4_1, q_4_2, q_4_3, q_4_5, q_4_6, q_5_0, q_5_1, q_5_2, q_5_3, q_5_4, q_5_6, q_6_0, q_6_1, q_6_2, q_6_3, q_6_4, q_6_5, ad1, h2', h3']
        · have h2' : (c.1 (pN u (c.2.1 (pW u) i)) 3 = mk >>> ((8 : Int32) &&& 31)) = False := eq_false h2
          simp only [e_86_37, e_86_39, e_86_41, e_86_44, e_86_44n, e_86_46, e_86_49, e_86_50, e_86_52, e_86_53, e_86_56, e_86_56n, e_86_58, e_86_61, e_86_62, e_86_65, e_86_66, e_86_69, e_86_70, e_86_71, e_86_74, TN hu (hp i hi4), I_lo (lt_N hu (hp i hi4)), tl_s, tl_n, rf_s, rf_n, cs_nil, cs_cons, cat_r, cat_i, cat_l, cat_n, cat_a, Nat.reduceAdd, Nat.reduceMul, Nat.reduceLeDiff, Nat.reduceEqDiff, Nat.reduceLT, and_self, and_true, true_and, and_false, false_and, or_true, true_or, or_false, false_or, if_true, if_false, not_true_eq_false, not_false_eq_true, reduceCtorEq, reduceIte, q_0_1, q_0_2, q_0_3, q_0_4, q_0_5, q_0_6, q_1_0, q_1_2, q_1_3, q_1_4, q_1_5, q_1_6, q_2_0, q_2_1, q_2_3, q_2_4, q_2_5, q_2_6, q_3_0, q_3_1, q_3_2, q_3_4, q_3_5, q_3_6, q_4_0, q_4_1, q_4_2, q_4_3, q_4_5, q_4_6, q_5_0, q_5_1, q_5_2, q_5_3, q_5_4, q_5_6, q_6_0, q_6_1, q_6_2, q_6_3, q_6_4, q_6_5, ad1, h2']
      · refine ⟨.ref (pN u (c.2.1 (pW u) i)), .int 0, ?_⟩
        rw [A 0 (Or.inr ⟨rfl, h1⟩)]
        simp only [e_86_37, e_86_39, e_86_41, e_86_44, e_86_44n, e_86_46, e_86_49, e_86_50, e_86_52, e_86_53, e_86_56, e_86_56n, e_86_58, e_86_61, e_86_62, e_86_65, e_86_66, e_86_69, e_86_70, e_86_71, e_86_74, tl_s, tl_n, rf_s, rf_n, cs_nil, cs_cons, cat_r, cat_i, cat_l, cat_n, cat_a, Nat.reduceAdd, Nat.reduceMul, Nat.reduceLeDiff, Nat.reduceEqDiff, Nat.reduceLT, and_self, and_true, true_and, and_false, false_and, or_true, true_or, or_false, false_or, if_true, if_false, not_true_eq_false, not_false_eq_true, reduceCtorEq, reduceIte, q_0_1, q_0_2, q_0_3, q_0_4, q_0_5, q_0_6, q_1_0, q_1_2, q_1_3, q_1_4, q_1_5, q_1_6, q_2_0, q_2_1, q_2_3, q_2_4, q_2_5, q_2_6, q_3_0, q_3_1, q_3_2, q_3_4, q_3_5, q_3_6, q_4_0, q_4_1, q_4_2, q_4_3, q_4_5, q_4_6, q_5_0, q_5_1, q_5_2, q_5_3, q_5_4, q_5_6, q_6_0, q_6_1, q_6_2, q_6_3, q_6_4, q_6_5, ad1]
    refine ⟨fun q => ?_, fun q => ?_⟩
    · by_cases hy : us_od1 c u ct mk i
      · rw [A 1 (Or.inl ⟨rfl, hy.1.1⟩)]
        have h2' : (c.1 (pN u (c.2.1 (pW u) i)) 3 = mk >>> ((8 : Int32) &&& 31)) = True := eq_true hy.1.2
        have h3' : (c.1 (pN u (c.2.1 (pW u) i)) 4 < (mk &&& 255)) = False := eq_false hy.2
        simp only [e_86_37, e_86_39, e_86_41, e_86_44, e_86_44n, e_86_46, e_86_49, e_86_50, e_86_52, e_86_53, e_86_56, e_86_56n, e_86_58, e_86_61, e_86_62, e_86_65, e_86_66, e_86_69, e_86_70, TN hu (hp i hi4), I_lo (lt_N hu (hp i hi4)), tl_s, tl_n, rf_s, rf_n, cs_nil, cs_cons, cat_r, cat_i, cat_l, cat_n, cat_a, Nat.reduceAdd, Nat.reduceMul, Nat.reduceLeDiff, Nat.reduceEqDiff, Nat.reduceLT, and_self, and_true, true_and, and_false, false_and, or_true, true_or, or_false, false_or, if_true, if_false, not_true_eq_false, not_false_eq_true, reduceCtorEq, reduceIte, q_0_1, q_0_2, q_0_3, q_0_4, q_0_5, q_0_6, q_1_0, q_1_2, q_1_3, q_1_4, q_1_5, q_1_6, q_2_0, q_2_1, q_2_3, q_2_4, q_2_5, q_2_6, q_3_0, q_3_1, q_3_2, q_3_4, q_3_5, q_3_6, q_4_0, q_4_1, q_4_2, q_4_3, q_4_5, q_4_6, q_5_0, q_5_1, q_5_2, q_5_3, q_5_4, q_5_6, q_6_0, q_6_1, q_6_2, q_6_3, q_6_4, q_6_5, h2', h3']
      · obtain ⟨w4, w5, hB⟩ := B hy
        rw [hB]
        exact (ih (i + 1) w4 w5 (by omega)).1 (q.resolve_left hy)
    · obtain ⟨w4, w5, hB⟩ := B (fun w => q (Or.inl w))
      rw [hB]
      exact (ih (i + 1) w4 w5 (by omega)).2 (fun w => q (Or.inr w))
set_option maxRecDepth 20000 in
set_option maxHeartbeats 2000000 in
theorem x_od1 {u m : Nat} {ct mk : Int32} (hu : u < 4) (hm : m ≤ 4) (hp : Pok c u) (hc : c.1 (pU u) 8 = nI m) (hy : us_od c u ct mk m 0) : Ex xs L 86 [.ref (pU u), .int ct, .int mk] (hh c s) (some (.int 1), hh c s) := by
  refine Ex_of xs L rfl ?_
  show Ev xs L _ (0, [.ref (pU u), .int ct, .int mk, .retAddr 1, .retAddr 1, .retAddr 1], [], hh c s) _
  simp only [e_86_0, e_86_1]
  exact ((x_odl hu hm hp hc m 0 _ _ (by omega)).1 hy).mpr rfl
set_option maxRecDepth 20000 in
set_option maxHeartbeats 2000000 in
theorem x_od0 {u m : Nat} {ct mk : Int32} (hu : u < 4) (hm : m ≤ 4) (hp : Pok c u) (hc : c.1 (pU u) 8 = nI m) (hy : ¬ us_od c u ct mk m 0) : Ex xs L 86 [.ref (pU u), .int ct, .int mk] (hh c s) (some (.int 0), hh c s) := by
  refine Ex_of xs L rfl ?_
  show Ev xs L _ (0, [.ref (pU u), .int ct, .int mk, .retAddr 1, .retAddr 1, .retAddr 1], [], hh c s) _
  simp only [e_86_0, e_86_1]
  exact ((x_odl hu hm hp hc m 0 _ _ (by omega)).2 hy).mpr rfl
-- the place of a contact in the list
def us_fd (c : CM) (u : Nat) (ct : Int32) : Nat → Nat → Option Nat
  | 0, _ => none
  | d + 1, i => if bn c u i 0 = ct then some i else us_fd c u ct d (i + 1)
theorem us_fd_lt (c : CM) (u : Nat) (ct : Int32) : ∀ (d i t : Nat), us_fd c u ct d i = some t → i ≤ t ∧ t < i + d ∧ bn c u t 0 = ct := by
  intro d
  induction d with
  | zero => intro i t h; cases h
  | succ d ih =>
    intro i t h
    simp only [us_fd] at h
    split at h
    · next hq => cases h; exact ⟨Nat.le_refl _, by omega, hq⟩
    · have := ih (i + 1) t h
      exact ⟨by omega, by omega, this.2.2⟩
set_option maxRecDepth 20000 in
set_option maxHeartbeats 2000000 in
theorem x_fdl {o : ix_O} {u m : Nat} {ct : Int32} (hu : u < 4) (hm : m ≤ 4) (hp : Pok c u) (hc : c.1 (pU u) 8 = nI m) : ∀ (d i : Nat), i + d = m → ((∀ t, us_fd c u ct d i = some t → (Ev xs L 91 (2, [.ref (pU u), .int ct, .int (nI i)], [], hh c s) o ↔ o = (some (.ref (pN u (c.2.1 (pW u) t))), hh c s))) ∧ (us_fd c u ct d i = none → (Ev xs L 91 (2, [.ref (pU u), .int ct, .int (nI i)], [], hh c s) o ↔ Ev xs L 91 (36, [.ref (pU u), .int ct, .int (nI m)], [], hh c s) o))) := by
  intro d
  induction d with
  | zero =>
    intro i hi
    obtain rfl : i = m := by omega
    refine ⟨fun t ht => (by cases ht), fun _ => ?_⟩
    simp only [e_91_2, e_91_3, e_91_4, e_91_7, TU hu, I_lo (lt_U hu), hc, le_rf, tl_s, tl_n, rf_s, rf_n, cs_nil, cs_cons, cat_r, cat_i, cat_l, cat_n, cat_a, Nat.reduceAdd, Nat.reduceMul, Nat.reduceLeDiff, Nat.reduceEqDiff, Nat.reduceLT, and_self, and_true, true_and, and_false, false_and, or_true, true_or, or_false, false_or, if_true, if_false, not_true_eq_false, not_false_eq_true, reduceCtorEq, reduceIte]
  | succ d ih =>
    intro i hi
    have hi4 : i < 4 := by omega
    have hlt := nle (show i < m by omega) hm
    simp only [us_fd]
    rw [e_91_2]
    by_cases h1 : bn c u i 0 = ct
    · have h1' : (c.1 (pN u (c.2.1 (pW u) i)) 0 = ct) = True := eq_true h1
      rw [if_pos h1]
      refine ⟨fun t ht => ?_, fun q => (by cases q)⟩
      cases ht
      simp only [e_91_3, e_91_4, e_91_7, e_91_10, e_91_11, e_91_14, e_91_15, e_91_16, e_91_19, e_91_20, e_91_23, e_91_24, e_91_27, e_91_28, e_91_29, e_91_29n, e_91_30, e_91_33, e_91_15t105, e_91_28t105, e_91_66t105, TU hu, RUw hu, TW hu, LW hu, RW hu hi4, TN hu (hp i hi4), I_lo (lt_U hu), I_lo (lt_N hu (hp i hi4)), hc, hlt, in4 hi4, cl_4 hi4, tl_s, tl_n, rf_s, rf_n, cs_nil, cs_cons, cat_r, cat_i, cat_l, cat_n, cat_a, Nat.reduceAdd, Nat.reduceMul, Nat.reduceLeDiff, Nat.reduceEqDiff, Nat.reduceLT, and_self, and_true, true_and, and_false, false_and, or_true, true_or, or_false, false_or, if_true, if_false, not_true_eq_false, not_false_eq_true, reduceCtorEq, reduceIte, h1']
    · have h1' : (c.1 (pN u (c.2.1 (pW u) i)) 0 = ct) = False := eq_false h1
      rw [if_neg h1]
      have st : Ev xs L 91 (3, [.ref (pU u), .int ct, .int (nI i)], [.int (nI i)], hh c s) o ↔ Ev xs L 91 (2, [.ref (pU u), .int ct, .int (nI (i + 1))], [], hh c s) o := by
        simp only [e_91_3, e_91_4, e_91_7, e_91_10, e_91_11, e_91_14, e_91_15, e_91_16, e_91_19, e_91_20, e_91_23, e_91_24, e_91_27, e_91_28, e_91_29, e_91_29n, e_91_30, e_91_33, e_91_15t105, e_91_28t105, e_91_66t105, TU hu, RUw hu, TW hu, LW hu, RW hu hi4, TN hu (hp i hi4), I_lo (lt_U hu), I_lo (lt_N hu (hp i hi4)), hc, hlt, in4 hi4, cl_4 hi4, tl_s, tl_n, rf_s, rf_n, cs_nil, cs_cons, cat_r, cat_i, cat_l, cat_n, cat_a, Nat.reduceAdd, Nat.reduceMul, Nat.reduceLeDiff, Nat.reduceEqDiff, Nat.reduceLT, and_self, and_true, true_and, and_false, false_and, or_true, true_or, or_false, false_or, if_true, if_false, not_true_eq_false, not_false_eq_true, reduceCtorEq, reduceIte, ad1, h1']
      rw [st]
      exact ih (i + 1) (by omega)
def us_wr (c : CM) (p : Nat) (ct wt en mk : Int32) : CM := cI (cI (cI (cI (cI c p 0 ct) p 1 wt) p 2 (c.1 1 1 + en)) p 3 (sh8 mk)) p 4 (mk &&& 255)
theorem bd_wr {o : ix_O} {u b : Nat} {ct wt en mk : Int32} (hu : u < 4) (hb : b < 4) : Ev xs L 90 (14, [.ref (pU u), .int ct, .int wt, .int en, .int mk, .ref (pN u b)], [], hh c s) o ↔ o = (some (.int 1), hh (us_wr c (pN u b) ct wt en mk) s) := by
  simp only [e_90_14, e_90_14n, e_90_16, e_90_17, e_90_20, e_90_20n, e_90_22, e_90_23, e_90_26, e_90_26n, e_90_28, e_90_29, e_90_32, e_90_35, e_90_36, e_90_37, e_90_40, e_90_40n, e_90_42, e_90_44, e_90_46, e_90_47, e_90_50, e_90_50n, e_90_52, e_90_54, e_90_57, e_90_58, e_90_61, e_90_62, TU hu, T1, RUc hu, TN hu hb, I_lo lt1, sI_lo (lt_N hu hb), cI_at, nN1, tl_s, tl_n, rf_s, rf_n, cs_nil, cs_cons, cat_r, cat_i, cat_l, cat_n, cat_a, Nat.reduceAdd, Nat.reduceMul, Nat.reduceLeDiff, Nat.reduceEqDiff, Nat.reduceLT, and_self, and_true, true_and, and_false, false_and, or_true, true_or, or_false, false_or, if_true, if_false, not_true_eq_false, not_false_eq_true, reduceCtorEq, reduceIte, us_wr, sh8]
set_option maxRecDepth 20000 in
set_option maxHeartbeats 2000000 in
theorem x_bind1 {u m t : Nat} {ct wt en mk : Int32} (hu : u < 4) (hm : m ≤ 4) (hp : Pok c u) (hc : c.1 (pU u) 8 = nI m) (hf : us_fd c u ct m 0 = some t) : Ex xs L 90 [.ref (pU u), .int ct, .int wt, .int en, .int mk] (hh c s) (some (.int 1), hh (us_wr c (pN u (c.2.1 (pW u) t)) ct wt en mk) s) := by
  have ht := us_fd_lt c u ct m 0 t hf
  have hk : Ex xs L 91 [.ref (pU u), .int ct] (hh c s) (some (.ref (pN u (c.2.1 (pW u) t))), hh c s) := by
    refine Ex_of xs L rfl ?_
    show Ev xs L _ (0, [.ref (pU u), .int ct, .retAddr 1], [], hh c s) _
    simp only [e_91_0, e_91_1]
    exact ((x_fdl hu hm hp hc m 0 (by omega)).1 t hf).mpr rfl
  have kk : ∀ K, Cl xs L 91 [.ref (pU u), .int ct] (hh c s) K ↔ K (some (.ref (pN u (c.2.1 (pW u) t)))) (hh c s) := fun K => Cl_of xs L hk
  refine Ex_of xs L rfl ?_
  show Ev xs L _ (0, [.ref (pU u), .int ct, .int wt, .int en, .int mk, .retAddr 1], [], hh c s) _
  simp only [e_90_0, e_90_1, e_90_2, e_90_5, e_90_5n, e_90_7, e_90_7n, e_90_9, e_90_9n, e_90_12, e_90_13, kk, TU hu, tl_s, tl_n, rf_s, rf_n, cs_nil, cs_cons, cat_r, cat_i, cat_l, cat_n, cat_a, Nat.reduceAdd, Nat.reduceMul, Nat.reduceLeDiff, Nat.reduceEqDiff, Nat.reduceLT, and_self, and_true, true_and, and_false, false_and, or_true, true_or, or_false, false_or, if_true, if_false, not_true_eq_false, not_false_eq_true, reduceCtorEq, reduceIte]
  exact (bd_wr hu (hp t (by omega))).mpr rfl
set_option maxRecDepth 20000 in
set_option maxHeartbeats 2000000 in
theorem x_bind0 {u : Nat} {ct wt en mk : Int32} (hu : u < 4) (hp : Pok c u) (hc : c.1 (pU u) 8 = nI 4) (hf : us_fd c u ct 4 0 = none) : Ex xs L 90 [.ref (pU u), .int ct, .int wt, .int en, .int mk] (hh c s) (some (.int 0), hh c s) := by
  have hk : Ex xs L 91 [.ref (pU u), .int ct] (hh c s) (some .null, hh c s) := by
    refine Ex_of xs L rfl ?_
    show Ev xs L _ (0, [.ref (pU u), .int ct, .retAddr 1], [], hh c s) _
    simp only [e_91_0, e_91_1]
    refine ((x_fdl hu (Nat.le_refl 4) hp hc 4 0 (by omega)).2 hf).mpr ?_
    have h4 : (nI 4 < 4) = False := eq_false (by decide)
    simp only [e_91_36, e_91_37, e_91_40, e_91_41, e_91_44, e_91_45, e_91_45n, TU hu, I_lo (lt_U hu), hc, h4, tl_s, tl_n, rf_s, rf_n, cs_nil, cs_cons, cat_r, cat_i, cat_l, cat_n, cat_a, Nat.reduceAdd, Nat.reduceMul, Nat.reduceLeDiff, Nat.reduceEqDiff, Nat.reduceLT, and_self, and_true, true_and, and_false, false_and, or_true, true_or, or_false, false_or, if_true, if_false, not_true_eq_false, not_false_eq_true, reduceCtorEq, reduceIte]
  have kk : ∀ K, Cl xs L 91 [.ref (pU u), .int ct] (hh c s) K ↔ K (some .null) (hh c s) := fun K => Cl_of xs L hk
  refine Ex_of xs L rfl ?_
  show Ev xs L _ (0, [.ref (pU u), .int ct, .int wt, .int en, .int mk, .retAddr 1], [], hh c s) _
  simp only [e_90_0, e_90_1, e_90_2, e_90_5, e_90_5n, e_90_7, e_90_7n, e_90_9, e_90_9n, e_90_12, e_90_13, kk, TU hu, tl_s, tl_n, rf_s, rf_n, cs_nil, cs_cons, cat_r, cat_i, cat_l, cat_n, cat_a, Nat.reduceAdd, Nat.reduceMul, Nat.reduceLeDiff, Nat.reduceEqDiff, Nat.reduceLT, and_self, and_true, true_and, and_false, false_and, or_true, true_or, or_false, false_or, if_true, if_false, not_true_eq_false, not_false_eq_true, reduceCtorEq, reduceIte]
set_option maxRecDepth 20000 in
set_option maxHeartbeats 2000000 in
theorem x_bind2 {u m : Nat} {ct wt en mk : Int32} (hu : u < 4) (hm : m < 4) (hp : Pok c u) (hc : c.1 (pU u) 8 = nI m) (hf : us_fd c u ct m 0 = none) : Ex xs L 90 [.ref (pU u), .int ct, .int wt, .int en, .int mk] (hh c s) (some (.int 1), hh (us_wr (cI c (pU u) 8 (nI (m + 1))) (pN u (c.2.1 (pW u) m)) ct wt en mk) s) := by
  have hk : Ex xs L 91 [.ref (pU u), .int ct] (hh c s) (some (.ref (pN u (c.2.1 (pW u) m))), hh (cI c (pU u) 8 (nI (m + 1))) s) := by
    refine Ex_of xs L rfl ?_
    show Ev xs L _ (0, [.ref (pU u), .int ct, .retAddr 1], [], hh c s) _
    simp only [e_91_0, e_91_1]
    refine ((x_fdl hu (by omega) hp hc m 0 (by omega)).2 hf).mpr ?_
    have h4 : (nI m < 4) = True := eq_true (nI_lt (a := m) (b := 4) hm (by decide))
    simp only [e_91_36, e_91_37, e_91_40, e_91_41, e_91_44, e_91_45, e_91_45n, e_91_46, e_91_47, e_91_48, e_91_51, e_91_52, e_91_53, e_91_56, e_91_57, e_91_60, e_91_61, e_91_64, e_91_15t105, e_91_28t105, e_91_66t105, e_91_65, e_91_66, e_91_67, e_91_67n, TU hu, RUw hu, TW hu, LW hu, RW hu hm, I_lo (lt_U hu), sI_lo (lt_U hu), cI_at, cI_p, hc, h4, ad1, nI_pred, in4 hm, cl_4 hm, tl_s, tl_n, rf_s, rf_n, cs_nil, cs_cons, cat_r, cat_i, cat_l, cat_n, cat_a, Nat.reduceAdd, Nat.reduceMul, Nat.reduceLeDiff, Nat.reduceEqDiff, Nat.reduceLT, and_self, and_true, true_and, and_false, false_and, or_true, true_or, or_false, false_or, if_true, if_false, not_true_eq_false, not_false_eq_true, reduceCtorEq, reduceIte]
  have kk : ∀ K, Cl xs L 91 [.ref (pU u), .int ct] (hh c s) K ↔ K (some (.ref (pN u (c.2.1 (pW u) m)))) (hh (cI c (pU u) 8 (nI (m + 1))) s) := fun K => Cl_of xs L hk
  refine Ex_of xs L rfl ?_
  show Ev xs L _ (0, [.ref (pU u), .int ct, .int wt, .int en, .int mk, .retAddr 1], [], hh c s) _
  simp only [e_90_0, e_90_1, e_90_2, e_90_5, e_90_5n, e_90_7, e_90_7n, e_90_9, e_90_9n, e_90_12, e_90_13, kk, TU hu, tl_s, tl_n, rf_s, rf_n, cs_nil, cs_cons, cat_r, cat_i, cat_l, cat_n, cat_a, Nat.reduceAdd, Nat.reduceMul, Nat.reduceLeDiff, Nat.reduceEqDiff, Nat.reduceLT, and_self, and_true, true_and, and_false, false_and, or_true, true_or, or_false, false_or, if_true, if_false, not_true_eq_false, not_false_eq_true, reduceCtorEq, reduceIte]
  exact (bd_wr hu (hp m hm)).mpr rfl
-- ranks
def us_bf (c : CM) (u k i : Nat) : Prop := bn c u k 1 < bn c u i 1 ∨ (bn c u i 1 = bn c u k 1 ∧ i < k)
def us_bfD (c : CM) (u k i : Nat) : Decidable (us_bf c u k i) := inferInstanceAs (Decidable (_ ∨ (_ ∧ _)))
def us_rk (c : CM) (u k : Nat) : Nat → Nat → Nat → Nat
  | 0, _, z => z
  | d + 1, i, z => us_rk c u k d (i + 1) (@ite _ (us_bf c u k i) (us_bfD c u k i) (z + 1) z)
set_option maxRecDepth 20000 in
set_option maxHeartbeats 2000000 in
theorem x_urkl {o : ix_O} {u m k : Nat} (hu : u < 4) (hm : m ≤ 4) (hk : k < m) (hp : Pok c u) (hc : c.1 (pU u) 8 = nI m) : ∀ (d i z : Nat) (v5 : Value), i + d = m → (Ev xs L 93 (15, [.ref (pU u), .int (nI k), .int (bn c u k 1), .int (nI z), .int (nI i), v5], [], hh c s) o ↔ o = (some (.int (nI (us_rk c u k d i z))), hh c s)) := by
  intro d
  induction d with
  | zero =>
    intro i z v5 hi
    obtain rfl : i = m := by omega
    simp only [e_93_15, e_93_17, e_93_18, e_93_21, e_93_63, e_93_64, TU hu, I_lo (lt_U hu), hc, le_rf, tl_s, tl_n, rf_s, rf_n, cs_nil, cs_cons, cat_r, cat_i, cat_l, cat_n, cat_a, Nat.reduceAdd, Nat.reduceMul, Nat.reduceLeDiff, Nat.reduceEqDiff, Nat.reduceLT, and_self, and_true, true_and, and_false, false_and, or_true, true_or, or_false, false_or, if_true, if_false, not_true_eq_false, not_false_eq_true, reduceCtorEq, reduceIte, us_rk]
  | succ d ih =>
    intro i z v5 hi
    have hi4 : i < 4 := by omega
    have hlt := nle (show i < m by omega) hm
    have A : ∀ o, Ev xs L 93 (15, [.ref (pU u), .int (nI k), .int (bn c u k 1), .int (nI z), .int (nI i), v5], [], hh c s) o ↔ Ev xs L 93 (36, [.ref (pU u), .int (nI k), .int (bn c u k 1), .int (nI z), .int (nI i), .int (bn c u i 1)], [], hh c s) o := by
      intro o
      simp only [e_93_15, e_93_17, e_93_18, e_93_21, e_93_24, e_93_25, e_93_28, e_93_5t105, e_93_30t105, e_93_31, e_93_34, TU hu, RUw hu, TW hu, LW hu, RW hu hi4, TN hu (hp i hi4), I_lo (lt_U hu), I_lo (lt_N hu (hp i hi4)), hc, hlt, in4 hi4, cl_4 hi4, tl_s, tl_n, rf_s, rf_n, cs_nil, cs_cons, cat_r, cat_i, cat_l, cat_n, cat_a, Nat.reduceAdd, Nat.reduceMul, Nat.reduceLeDiff, Nat.reduceEqDiff, Nat.reduceLT, and_self, and_true, true_and, and_false, false_and, or_true, true_or, or_false, false_or, if_true, if_false, not_true_eq_false, not_false_eq_true, reduceCtorEq, reduceIte, bn]
    rw [A]
    simp only [us_rk]
    by_cases g1 : bn c u k 1 < bn c u i 1
    · rw [@if_pos _ (us_bfD c u k i) (Or.inl g1)]
      simp only [e_93_36, e_93_38, e_93_39, e_93_42, e_93_44, e_93_45, e_93_48, e_93_50, e_93_51, e_93_54, e_93_57, e_93_60, tl_s, tl_n, rf_s, rf_n, cs_nil, cs_cons, cat_r, cat_i, cat_l, cat_n, cat_a, Nat.reduceAdd, Nat.reduceMul, Nat.reduceLeDiff, Nat.reduceEqDiff, Nat.reduceLT, and_self, and_true, true_and, and_false, false_and, or_true, true_or, or_false, false_or, if_true, if_false, not_true_eq_false, not_false_eq_true, reduceCtorEq, reduceIte, ad1, eq_true g1]
      exact ih (i + 1) (z + 1) _ (by omega)
    · by_cases g2 : bn c u i 1 = bn c u k 1
      · by_cases g3 : i < k
        · have g4 : (nI k ≤ nI i) = False := eq_false (nI_ge g3 (by omega))
          rw [@if_pos _ (us_bfD c u k i) (Or.inr ⟨g2, g3⟩)]
          simp only [e_93_36, e_93_38, e_93_39, e_93_42, e_93_44, e_93_45, e_93_48, e_93_50, e_93_51, e_93_54, e_93_57, e_93_60, tl_s, tl_n, rf_s, rf_n, cs_nil, cs_cons, cat_r, cat_i, cat_l, cat_n, cat_a, Nat.reduceAdd, Nat.reduceMul, Nat.reduceLeDiff, Nat.reduceEqDiff, Nat.reduceLT, and_self, and_true, true_and, and_false, false_and, or_true, true_or, or_false, false_or, if_true, if_false, not_true_eq_false, not_false_eq_true, reduceCtorEq, reduceIte, ad1, g1, eq_true g2, g4]
          exact ih (i + 1) (z + 1) _ (by omega)
        · have g4 : (nI k ≤ nI i) = True := eq_true (nI_le (by omega) (by omega))
          rw [@if_neg _ (us_bfD c u k i) (fun q => q.elim g1 (fun q => g3 q.2))]
          simp only [e_93_36, e_93_38, e_93_39, e_93_42, e_93_44, e_93_45, e_93_48, e_93_50, e_93_51, e_93_54, e_93_57, e_93_60, tl_s, tl_n, rf_s, rf_n, cs_nil, cs_cons, cat_r, cat_i, cat_l, cat_n, cat_a, Nat.reduceAdd, Nat.reduceMul, Nat.reduceLeDiff, Nat.reduceEqDiff, Nat.reduceLT, and_self, and_true, true_and, and_false, false_and, or_true, true_or, or_false, false_or, if_true, if_false, not_true_eq_false, not_false_eq_true, reduceCtorEq, reduceIte, ad1, g1, eq_true g2, g4]
          exact ih (i + 1) z _ (by omega)
      · rw [@if_neg _ (us_bfD c u k i) (fun q => q.elim g1 (fun q => g2 q.1))]
        simp only [e_93_36, e_93_38, e_93_39, e_93_42, e_93_44, e_93_45, e_93_48, e_93_50, e_93_51, e_93_54, e_93_57, e_93_60, tl_s, tl_n, rf_s, rf_n, cs_nil, cs_cons, cat_r, cat_i, cat_l, cat_n, cat_a, Nat.reduceAdd, Nat.reduceMul, Nat.reduceLeDiff, Nat.reduceEqDiff, Nat.reduceLT, and_self, and_true, true_and, and_false, false_and, or_true, true_or, or_false, false_or, if_true, if_false, not_true_eq_false, not_false_eq_true, reduceCtorEq, reduceIte, ad1, g1, g2]
        exact ih (i + 1) z _ (by omega)
set_option maxRecDepth 20000 in
set_option maxHeartbeats 2000000 in
theorem x_urk {u m k : Nat} (hu : u < 4) (hm : m ≤ 4) (hk : k < m) (hp : Pok c u) (hc : c.1 (pU u) 8 = nI m) : Ex xs L 93 [.ref (pU u), .int (nI k)] (hh c s) (some (.int (nI (us_rk c u k m 0 0))), hh c s) := by
  refine Ex_of xs L rfl ?_
  show Ev xs L _ (0, [.ref (pU u), .int (nI k), .retAddr 1, .retAddr 1, .retAddr 1, .retAddr 1], [], hh c s) _
  have hk4 : k < 4 := by omega
  simp only [e_93_0, e_93_1, e_93_4, e_93_5t105, e_93_30t105, e_93_6, e_93_9, e_93_10, e_93_11, e_93_12, e_93_13, TU hu, RUw hu, TW hu, LW hu, RW hu hk4, TN hu (hp k hk4), I_lo (lt_N hu (hp k hk4)), in4 hk4, cl_4 hk4, tl_s, tl_n, rf_s, rf_n, cs_nil, cs_cons, cat_r, cat_i, cat_l, cat_n, cat_a, Nat.reduceAdd, Nat.reduceMul, Nat.reduceLeDiff, Nat.reduceEqDiff, Nat.reduceLT, and_self, and_true, true_and, and_false, false_and, or_true, true_or, or_false, false_or, if_true, if_false, not_true_eq_false, not_false_eq_true, reduceCtorEq, reduceIte]
  exact (x_urkl hu hm hk hp hc m 0 0 _ (by omega)).mpr rfl
theorem k_urk {u m k : Nat} {K : Option Value → ix_H → Prop} (hu : u < 4) (hm : m ≤ 4) (hk : k < m) (hp : Pok c u) (hc : c.1 (pU u) 8 = nI m) : Cl xs L 93 [.ref (pU u), .int (nI k)] (hh c s) K ↔ K (some (.int (nI (us_rk c u k m 0 0)))) (hh c s) := Cl_of xs L (x_urk hu hm hk hp hc)
def us_rd (c : CM) (u m : Nat) (w : Int32) : Nat → Nat → Option Nat
  | 0, _ => none
  | d + 1, i => if nI (us_rk c u i m 0 0) = w then some i else us_rd c u m w d (i + 1)
theorem us_rd_lt (c : CM) (u m : Nat) (w : Int32) : ∀ (d i t : Nat), us_rd c u m w d i = some t → i ≤ t ∧ t < i + d ∧ nI (us_rk c u t m 0 0) = w := by
  intro d
  induction d with
  | zero => intro i t h; cases h
  | succ d ih =>
    intro i t h
    simp only [us_rd] at h
    split at h
    · next hq => cases h; exact ⟨Nat.le_refl _, by omega, hq⟩
    · have := ih (i + 1) t h
      exact ⟨by omega, by omega, this.2.2⟩
def us_rv (c : CM) (u : Nat) (t : Option Nat) : Value := match t with
  | some t => .ref (pN u (c.2.1 (pW u) t))
  | none => .null
set_option maxRecDepth 20000 in
set_option maxHeartbeats 2000000 in
theorem x_urdl {o : ix_O} {u m : Nat} {w : Int32} (hu : u < 4) (hm : m ≤ 4) (hp : Pok c u) (hc : c.1 (pU u) 8 = nI m) : ∀ (d i : Nat), i + d = m → (Ev xs L 92 (2, [.ref (pU u), .int w, .int (nI i)], [], hh c s) o ↔ o = (some (us_rv c u (us_rd c u m w d i)), hh c s)) := by
  intro d
  induction d with
  | zero =>
    intro i hi
    obtain rfl : i = m := by omega
    simp only [e_92_2, e_92_3, e_92_4, e_92_7, e_92_32, e_92_33, e_92_33n, TU hu, I_lo (lt_U hu), hc, le_rf, tl_s, tl_n, rf_s, rf_n, cs_nil, cs_cons, cat_r, cat_i, cat_l, cat_n, cat_a, Nat.reduceAdd, Nat.reduceMul, Nat.reduceLeDiff, Nat.reduceEqDiff, Nat.reduceLT, and_self, and_true, true_and, and_false, false_and, or_true, true_or, or_false, false_or, if_true, if_false, not_true_eq_false, not_false_eq_true, reduceCtorEq, reduceIte, us_rd, us_rv]
  | succ d ih =>
    intro i hi
    have hi4 : i < 4 := by omega
    have him : i < m := by omega
    have hlt := nle him hm
    rw [e_92_2]
    simp only [us_rd]
    by_cases h1 : nI (us_rk c u i m 0 0) = w
    · rw [if_pos h1]
      simp only [e_92_3, e_92_4, e_92_7, e_92_10, e_92_11, e_92_12, e_92_15, e_92_16, e_92_19, e_92_20, e_92_23, e_92_24, e_92_25, e_92_25n, e_92_26, e_92_29, e_92_24t105, k_urk hu hm him hp hc, TU hu, RUw hu, TW hu, LW hu, RW hu hi4, I_lo (lt_U hu), hc, hlt, in4 hi4, cl_4 hi4, tl_s, tl_n, rf_s, rf_n, cs_nil, cs_cons, cat_r, cat_i, cat_l, cat_n, cat_a, Nat.reduceAdd, Nat.reduceMul, Nat.reduceLeDiff, Nat.reduceEqDiff, Nat.reduceLT, and_self, and_true, true_and, and_false, false_and, or_true, true_or, or_false, false_or, if_true, if_false, not_true_eq_false, not_false_eq_true, reduceCtorEq, reduceIte, eq_true h1, us_rv]
    · rw [if_neg h1]
      simp only [e_92_3, e_92_4, e_92_7, e_92_10, e_92_11, e_92_12, e_92_15, e_92_16, e_92_19, e_92_20, e_92_23, e_92_24, e_92_25, e_92_25n, e_92_26, e_92_29, k_urk hu hm him hp hc, TU hu, I_lo (lt_U hu), hc, hlt, tl_s, tl_n, rf_s, rf_n, cs_nil, cs_cons, cat_r, cat_i, cat_l, cat_n, cat_a, Nat.reduceAdd, Nat.reduceMul, Nat.reduceLeDiff, Nat.reduceEqDiff, Nat.reduceLT, and_self, and_true, true_and, and_false, false_and, or_true, true_or, or_false, false_or, if_true, if_false, not_true_eq_false, not_false_eq_true, reduceCtorEq, reduceIte, ad1, h1]
      exact ih (i + 1) (by omega)
set_option maxRecDepth 20000 in
set_option maxHeartbeats 2000000 in
theorem x_urd {u m : Nat} {w : Int32} (hu : u < 4) (hm : m ≤ 4) (hp : Pok c u) (hc : c.1 (pU u) 8 = nI m) : Ex xs L 92 [.ref (pU u), .int w] (hh c s) (some (us_rv c u (us_rd c u m w m 0)), hh c s) := by
  refine Ex_of xs L rfl ?_
  show Ev xs L _ (0, [.ref (pU u), .int w, .retAddr 1], [], hh c s) _
  simp only [e_92_0, e_92_1]
  exact (x_urdl hu hm hp hc m 0 (by omega)).mpr rfl
theorem k_urd {u m : Nat} {w : Int32} {K : Option Value → ix_H → Prop} (hu : u < 4) (hm : m ≤ 4) (hp : Pok c u) (hc : c.1 (pU u) 8 = nI m) : Cl xs L 92 [.ref (pU u), .int w] (hh c s) K ↔ K (some (us_rv c u (us_rd c u m w m 0))) (hh c s) := Cl_of xs L (x_urd hu hm hp hc)
end CL
