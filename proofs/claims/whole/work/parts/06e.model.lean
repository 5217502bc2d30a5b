section MO
variable {xs : Nat → Int32} {L : Nat} {h : ix_H} {c : CM} {s : MM}
theorem my_sd0 (s : MM) (i k : Nat) : (m_sd0 s i).1 185 k = s.1 185 k := by
  unfold m_sd0
  split
  · simp only [mI_at, my_tell, Nat.reduceEqDiff, false_and, if_false]
  · rfl
theorem my_sdue (s : MM) (i k : Nat) : (m_sdue s i).1 185 k = s.1 185 k := by
  unfold m_sdue m_sd1
  split
  · rw [my_serve, my_sd0]
  · exact my_sd0 s i k
theorem mt_sdue (s : MM) (i k : Nat) (h : ¬ k = 30) : (m_sdue s i).1 170 k = s.1 170 k := by
  have h0 : (m_sd0 s i).1 170 k = s.1 170 k := by
    unfold m_sd0
    split
    · simp only [mI_at, mt_tell _ _ _ _ h, Nat.reduceEqDiff, false_and, if_false]
    · rfl
  unfold m_sdue m_sd1
  split
  · rw [serve_at, h0]
  · exact h0
-- a branch's timers
def m_d0 (s : MM) (i j : Nat) : MM := if s.1 192 (6 * (4 * i + j)) = s.1 170 1 then mI (mI (m_send s (nI i) (nI j) 1) 193 (4 * i + j) (2 * s.1 193 (4 * i + j))) 192 (6 * (4 * i + j)) (s.1 170 1 + 2 * s.1 193 (4 * i + j)) else s
def m_d1 (s : MM) (i j n : Nat) : MM := if s.1 192 (6 * (4 * i + j) + 1) = s.1 170 1 then m_timeout s i j n else s
def m_d2 (s : MM) (i j : Nat) : MM := if s.1 192 (6 * (4 * i + j) + 2) = s.1 170 1 then m_stop s i j else s
def m_d3 (s : MM) (i j : Nat) : MM := if s.1 192 (6 * (4 * i + j) + 3) = s.1 170 1 then m_become s (4 * i + j) 4 else s
def m_d4 (s : MM) (i j : Nat) : MM := if s.1 192 (6 * (4 * i + j) + 4) = s.1 170 1 then mI (mI (m_send s (nI i) (nI j) 2) 194 (4 * i + j) (m_twice s (s.1 194 (4 * i + j)))) 192 (6 * (4 * i + j) + 4) (s.1 170 1 + m_twice s (s.1 194 (4 * i + j))) else s
def m_d5 (s : MM) (i j n : Nat) : MM := if s.1 192 (6 * (4 * i + j) + 5) = s.1 170 1 then m_timeout s i j n else s
def m_bdue (s : MM) (i j n : Nat) : MM := m_d5 (m_d4 (m_d3 (m_d2 (m_d1 (m_d0 s i j) i j n) i j) i j) i j) i j n
theorem my_d0 (s : MM) (i j k : Nat) : (m_d0 s i j).1 185 k = s.1 185 k := by
  unfold m_d0
  split
  · simp only [mI_at, my_send, Nat.reduceEqDiff, false_and, if_false]
  · rfl
theorem my_d1 (s : MM) (i j n k : Nat) : (m_d1 s i j n).1 185 k = s.1 185 k := by
  unfold m_d1
  split
  · exact my_timeout _ _ _ _ _
  · rfl
theorem my_d2 (s : MM) (i j k : Nat) : (m_d2 s i j).1 185 k = s.1 185 k := by
  unfold m_d2
  split
  · exact my_stop _ _ _ _
  · rfl
theorem my_d3 (s : MM) (i j k : Nat) : (m_d3 s i j).1 185 k = s.1 185 k := by
  unfold m_d3
  split
  · exact my_become _ _ _ _
  · rfl
theorem my_d4 (s : MM) (i j k : Nat) : (m_d4 s i j).1 185 k = s.1 185 k := by
  unfold m_d4
  split
  · simp only [mI_at, my_send, Nat.reduceEqDiff, false_and, if_false]
  · rfl
theorem my_d5 (s : MM) (i j n k : Nat) : (m_d5 s i j n).1 185 k = s.1 185 k := by
  unfold m_d5
  split
  · exact my_timeout _ _ _ _ _
  · rfl
theorem my_bdue (s : MM) (i j n k : Nat) : (m_bdue s i j n).1 185 k = s.1 185 k := by
  unfold m_bdue
  rw [my_d5, my_d4, my_d3, my_d2, my_d1, my_d0]
theorem twice_send (s : MM) (a b w d : Int32) : m_twice (m_send s a b w) d = m_twice s d := by
  unfold m_twice
  rw [mt_send _ _ _ _ _ (by decide)]
theorem bd_0 {o : ix_O} {i j : Nat} (hb : 4 * i + j < 16) : Ev xs L 131 (12, [.ref 170, .int (nI i), .int (nI j), .int (nI (4 * i + j)), .int (nI (6 * (4 * i + j)))], [], hh c s) o ↔ Ev xs L 131 (65, [.ref 170, .int (nI i), .int (nI j), .int (nI (4 * i + j)), .int (nI (6 * (4 * i + j)))], [], hh c (m_d0 s i j)) o := by
  unfold m_d0
  generalize 4 * i + j = b at hb
  have a0 : 6 * b < 96 := by omega
  by_cases h1 : s.1 192 (6 * b) = s.1 170 1
  · simp only [e_131_12, e_131_13, e_131_16, e_131_18, e_131_19, e_131_20, e_131_23, e_131_26, e_131_27, e_131_28, e_131_29, e_131_30, e_131_33, e_131_34, e_131_37, e_131_38, e_131_39, e_131_40, e_131_43, e_131_44, e_131_45, e_131_46, e_131_47, e_131_48, e_131_51, e_131_53, e_131_54, e_131_57, e_131_58, e_131_61, e_131_62, e_131_63, e_131_64, k_send, Tm, J_195, sJ_195, I_hi, sI_hi, Tm_secret, Lm_secret, Rm_secret, Tm_admitted, Lm_admitted, Rm_admitted, Tm_hasNonce, Lm_hasNonce, Rm_hasNonce, Tm_nonce, Lm_nonce, Rm_nonce, Tm_madeAt, Lm_madeAt, Rm_madeAt, Tm_used, Lm_used, Rm_used, Tm_end, Lm_end, Rm_end, Tm_heavy, Lm_heavy, Rm_heavy, Tm_first, Lm_first, Rm_first, Tm_mark, Lm_mark, Rm_mark, Tm_server, Lm_server, Rm_server, Tm_shown, Lm_shown, Rm_shown, Tm_serverTimer, Lm_serverTimer, Rm_serverTimer, Tm_setG, Lm_setG, Rm_setG, Tm_many, Lm_many, Rm_many, Tm_state, Lm_state, Rm_state, Tm_contact, Lm_contact, Rm_contact, Tm_wanted, Lm_wanted, Rm_wanted, Tm_cancelSent, Lm_cancelSent, Rm_cancelSent, Tm_result, Lm_result, Rm_result, Tm_came, Lm_came, Rm_came, Tm_timer, Lm_timer, Rm_timer, Tm_setA, Lm_setA, Rm_setA, Tm_setE, Lm_setE, Rm_setE, Tm_log, Lm_log, Rm_log, tl_s, tl_n, rf_s, rf_n, cs_nil, cs_cons, cat_r, cat_i, cat_l, cat_n, cat_a, Nat.reduceAdd, Nat.reduceMul, Nat.reduceLeDiff, Nat.reduceEqDiff, Nat.reduceLT, and_self, and_true, true_and, and_false, false_and, or_true, true_or, or_false, false_or, if_true, if_false, not_true_eq_false, not_false_eq_true, reduceCtorEq, reduceIte, ml4, ml6, ml16, nI_add, ad0, ad1, ad2, ad3, ad4, ad5, mI_at, mJ_1, send_at, Int32.reduceLT, Int32.reduceLE, Int32.reduceAdd, q_0_1, q_0_2, q_0_3, q_0_4, q_0_5, q_0_6, q_1_0, q_1_2, q_1_3, q_1_4, q_1_5, q_1_6, q_2_0, q_2_1, q_2_3, q_2_4, q_2_5, q_2_6, q_3_0, q_3_1, q_3_2, q_3_4, q_3_5, q_3_6, q_4_0, q_4_1, q_4_2, q_4_3, q_4_5, q_4_6, q_5_0, q_5_1, q_5_2, q_5_3, q_5_4, q_5_6, q_6_0, q_6_1, q_6_2, q_6_3, q_6_4, q_6_5, in16 hb, cl_16 hb, in96 a0, cl_96 a0, h1]
  · simp only [e_131_12, e_131_13, e_131_16, e_131_18, e_131_19, e_131_20, e_131_23, e_131_26, e_131_27, e_131_28, e_131_29, e_131_30, e_131_33, e_131_34, e_131_37, e_131_38, e_131_39, e_131_40, e_131_43, e_131_44, e_131_45, e_131_46, e_131_47, e_131_48, e_131_51, e_131_53, e_131_54, e_131_57, e_131_58, e_131_61, e_131_62, e_131_63, e_131_64, Tm, J_195, sJ_195, I_hi, sI_hi, Tm_secret, Lm_secret, Rm_secret, Tm_admitted, Lm_admitted, Rm_admitted, Tm_hasNonce, Lm_hasNonce, Rm_hasNonce, Tm_nonce, Lm_nonce, Rm_nonce, Tm_madeAt, Lm_madeAt, Rm_madeAt, Tm_used, Lm_used, Rm_used, Tm_end, Lm_end, Rm_end, Tm_heavy, Lm_heavy, Rm_heavy, Tm_first, Lm_first, Rm_first, Tm_mark, Lm_mark, Rm_mark, Tm_server, Lm_server, Rm_server, Tm_shown, Lm_shown, Rm_shown, Tm_serverTimer, Lm_serverTimer, Rm_serverTimer, Tm_setG, Lm_setG, Rm_setG, Tm_many, Lm_many, Rm_many, Tm_state, Lm_state, Rm_state, Tm_contact, Lm_contact, Rm_contact, Tm_wanted, Lm_wanted, Rm_wanted, Tm_cancelSent, Lm_cancelSent, Rm_cancelSent, Tm_result, Lm_result, Rm_result, Tm_came, Lm_came, Rm_came, Tm_timer, Lm_timer, Rm_timer, Tm_setA, Lm_setA, Rm_setA, Tm_setE, Lm_setE, Rm_setE, Tm_log, Lm_log, Rm_log, tl_s, tl_n, rf_s, rf_n, cs_nil, cs_cons, cat_r, cat_i, cat_l, cat_n, cat_a, Nat.reduceAdd, Nat.reduceMul, Nat.reduceLeDiff, Nat.reduceEqDiff, Nat.reduceLT, and_self, and_true, true_and, and_false, false_and, or_true, true_or, or_false, false_or, if_true, if_false, not_true_eq_false, not_false_eq_true, reduceCtorEq, reduceIte, in16 hb, cl_16 hb, in96 a0, cl_96 a0, h1]
theorem bd_1 {o : ix_O} {i j n : Nat} (hi : i < 4) (hj : j < 4) (hm : s.1 185 i = nI n) (hn : n ≤ 4) : Ev xs L 131 (65, [.ref 170, .int (nI i), .int (nI j), .int (nI (4 * i + j)), .int (nI (6 * (4 * i + j)))], [], hh c s) o ↔ Ev xs L 131 (87, [.ref 170, .int (nI i), .int (nI j), .int (nI (4 * i + j)), .int (nI (6 * (4 * i + j)))], [], hh c (m_d1 s i j n)) o := by
  unfold m_d1
  have a0 : 6 * (4 * i + j) + 1 < 96 := by omega
  by_cases h1 : s.1 192 (6 * (4 * i + j) + 1) = s.1 170 1
  · simp only [e_131_65, e_131_66, e_131_69, e_131_71, e_131_72, e_131_73, e_131_74, e_131_75, e_131_78, e_131_81, e_131_82, e_131_83, e_131_84, k_timeout hi hj hm hn, Tm, J_195, sJ_195, I_hi, sI_hi, Tm_secret, Lm_secret, Rm_secret, Tm_admitted, Lm_admitted, Rm_admitted, Tm_hasNonce, Lm_hasNonce, Rm_hasNonce, Tm_nonce, Lm_nonce, Rm_nonce, Tm_madeAt, Lm_madeAt, Rm_madeAt, Tm_used, Lm_used, Rm_used, Tm_end, Lm_end, Rm_end, Tm_heavy, Lm_heavy, Rm_heavy, Tm_first, Lm_first, Rm_first, Tm_mark, Lm_mark, Rm_mark, Tm_server, Lm_server, Rm_server, Tm_shown, Lm_shown, Rm_shown, Tm_serverTimer, Lm_serverTimer, Rm_serverTimer, Tm_setG, Lm_setG, Rm_setG, Tm_many, Lm_many, Rm_many, Tm_state, Lm_state, Rm_state, Tm_contact, Lm_contact, Rm_contact, Tm_wanted, Lm_wanted, Rm_wanted, Tm_cancelSent, Lm_cancelSent, Rm_cancelSent, Tm_result, Lm_result, Rm_result, Tm_came, Lm_came, Rm_came, Tm_timer, Lm_timer, Rm_timer, Tm_setA, Lm_setA, Rm_setA, Tm_setE, Lm_setE, Rm_setE, Tm_log, Lm_log, Rm_log, tl_s, tl_n, rf_s, rf_n, cs_nil, cs_cons, cat_r, cat_i, cat_l, cat_n, cat_a, Nat.reduceAdd, Nat.reduceMul, Nat.reduceLeDiff, Nat.reduceEqDiff, Nat.reduceLT, and_self, and_true, true_and, and_false, false_and, or_true, true_or, or_false, false_or, if_true, if_false, not_true_eq_false, not_false_eq_true, reduceCtorEq, reduceIte, ad1, in96 a0, cl_96 a0, h1]
  · simp only [e_131_65, e_131_66, e_131_69, e_131_71, e_131_72, e_131_73, e_131_74, e_131_75, e_131_78, e_131_81, e_131_82, e_131_83, e_131_84, Tm, J_195, sJ_195, I_hi, sI_hi, Tm_secret, Lm_secret, Rm_secret, Tm_admitted, Lm_admitted, Rm_admitted, Tm_hasNonce, Lm_hasNonce, Rm_hasNonce, Tm_nonce, Lm_nonce, Rm_nonce, Tm_madeAt, Lm_madeAt, Rm_madeAt, Tm_used, Lm_used, Rm_used, Tm_end, Lm_end, Rm_end, Tm_heavy, Lm_heavy, Rm_heavy, Tm_first, Lm_first, Rm_first, Tm_mark, Lm_mark, Rm_mark, Tm_server, Lm_server, Rm_server, Tm_shown, Lm_shown, Rm_shown, Tm_serverTimer, Lm_serverTimer, Rm_serverTimer, Tm_setG, Lm_setG, Rm_setG, Tm_many, Lm_many, Rm_many, Tm_state, Lm_state, Rm_state, Tm_contact, Lm_contact, Rm_contact, Tm_wanted, Lm_wanted, Rm_wanted, Tm_cancelSent, Lm_cancelSent, Rm_cancelSent, Tm_result, Lm_result, Rm_result, Tm_came, Lm_came, Rm_came, Tm_timer, Lm_timer, Rm_timer, Tm_setA, Lm_setA, Rm_setA, Tm_setE, Lm_setE, Rm_setE, Tm_log, Lm_log, Rm_log, tl_s, tl_n, rf_s, rf_n, cs_nil, cs_cons, cat_r, cat_i, cat_l, cat_n, cat_a, Nat.reduceAdd, Nat.reduceMul, Nat.reduceLeDiff, Nat.reduceEqDiff, Nat.reduceLT, and_self, and_true, true_and, and_false, false_and, or_true, true_or, or_false, false_or, if_true, if_false, not_true_eq_false, not_false_eq_true, reduceCtorEq, reduceIte, ad1, in96 a0, cl_96 a0, h1]
theorem bd_2 {o : ix_O} {i j : Nat} (hi : i < 4) (hj : j < 4) : Ev xs L 131 (87, [.ref 170, .int (nI i), .int (nI j), .int (nI (4 * i + j)), .int (nI (6 * (4 * i + j)))], [], hh c s) o ↔ Ev xs L 131 (109, [.ref 170, .int (nI i), .int (nI j), .int (nI (4 * i + j)), .int (nI (6 * (4 * i + j)))], [], hh c (m_d2 s i j)) o := by
  unfold m_d2
  have a0 : 6 * (4 * i + j) + 2 < 96 := by omega
  by_cases h1 : s.1 192 (6 * (4 * i + j) + 2) = s.1 170 1
  · simp only [e_131_87, e_131_88, e_131_91, e_131_93, e_131_94, e_131_95, e_131_96, e_131_97, e_131_100, e_131_103, e_131_104, e_131_105, e_131_106, k_stop hi hj, Tm, J_195, sJ_195, I_hi, sI_hi, Tm_secret, Lm_secret, Rm_secret, Tm_admitted, Lm_admitted, Rm_admitted, Tm_hasNonce, Lm_hasNonce, Rm_hasNonce, Tm_nonce, Lm_nonce, Rm_nonce, Tm_madeAt, Lm_madeAt, Rm_madeAt, Tm_used, Lm_used, Rm_used, Tm_end, Lm_end, Rm_end, Tm_heavy, Lm_heavy, Rm_heavy, Tm_first, Lm_first, Rm_first, Tm_mark, Lm_mark, Rm_mark, Tm_server, Lm_server, Rm_server, Tm_shown, Lm_shown, Rm_shown, Tm_serverTimer, Lm_serverTimer, Rm_serverTimer, Tm_setG, Lm_setG, Rm_setG, Tm_many, Lm_many, Rm_many, Tm_state, Lm_state, Rm_state, Tm_contact, Lm_contact, Rm_contact, Tm_wanted, Lm_wanted, Rm_wanted, Tm_cancelSent, Lm_cancelSent, Rm_cancelSent, Tm_result, Lm_result, Rm_result, Tm_came, Lm_came, Rm_came, Tm_timer, Lm_timer, Rm_timer, Tm_setA, Lm_setA, Rm_setA, Tm_setE, Lm_setE, Rm_setE, Tm_log, Lm_log, Rm_log, tl_s, tl_n, rf_s, rf_n, cs_nil, cs_cons, cat_r, cat_i, cat_l, cat_n, cat_a, Nat.reduceAdd, Nat.reduceMul, Nat.reduceLeDiff, Nat.reduceEqDiff, Nat.reduceLT, and_self, and_true, true_and, and_false, false_and, or_true, true_or, or_false, false_or, if_true, if_false, not_true_eq_false, not_false_eq_true, reduceCtorEq, reduceIte, ad2, in96 a0, cl_96 a0, h1]
  · simp only [e_131_87, e_131_88, e_131_91, e_131_93, e_131_94, e_131_95, e_131_96, e_131_97, e_131_100, e_131_103, e_131_104, e_131_105, e_131_106, Tm, J_195, sJ_195, I_hi, sI_hi, Tm_secret, Lm_secret, Rm_secret, Tm_admitted, Lm_admitted, Rm_admitted, Tm_hasNonce, Lm_hasNonce, Rm_hasNonce, Tm_nonce, Lm_nonce, Rm_nonce, Tm_madeAt, Lm_madeAt, Rm_madeAt, Tm_used, Lm_used, Rm_used, Tm_end, Lm_end, Rm_end, Tm_heavy, Lm_heavy, Rm_heavy, Tm_first, Lm_first, Rm_first, Tm_mark, Lm_mark, Rm_mark, Tm_server, Lm_server, Rm_server, Tm_shown, Lm_shown, Rm_shown, Tm_serverTimer, Lm_serverTimer, Rm_serverTimer, Tm_setG, Lm_setG, Rm_setG, Tm_many, Lm_many, Rm_many, Tm_state, Lm_state, Rm_state, Tm_contact, Lm_contact, Rm_contact, Tm_wanted, Lm_wanted, Rm_wanted, Tm_cancelSent, Lm_cancelSent, Rm_cancelSent, Tm_result, Lm_result, Rm_result, Tm_came, Lm_came, Rm_came, Tm_timer, Lm_timer, Rm_timer, Tm_setA, Lm_setA, Rm_setA, Tm_setE, Lm_setE, Rm_setE, Tm_log, Lm_log, Rm_log, tl_s, tl_n, rf_s, rf_n, cs_nil, cs_cons, cat_r, cat_i, cat_l, cat_n, cat_a, Nat.reduceAdd, Nat.reduceMul, Nat.reduceLeDiff, Nat.reduceEqDiff, Nat.reduceLT, and_self, and_true, true_and, and_false, false_and, or_true, true_or, or_false, false_or, if_true, if_false, not_true_eq_false, not_false_eq_true, reduceCtorEq, reduceIte, ad2, in96 a0, cl_96 a0, h1]
theorem bd_3 {o : ix_O} {i j : Nat} (hb : 4 * i + j < 16) : Ev xs L 131 (109, [.ref 170, .int (nI i), .int (nI j), .int (nI (4 * i + j)), .int (nI (6 * (4 * i + j)))], [], hh c s) o ↔ Ev xs L 131 (131, [.ref 170, .int (nI i), .int (nI j), .int (nI (4 * i + j)), .int (nI (6 * (4 * i + j)))], [], hh c (m_d3 s i j)) o := by
  unfold m_d3
  have a0 : 6 * (4 * i + j) + 3 < 96 := by omega
  by_cases h1 : s.1 192 (6 * (4 * i + j) + 3) = s.1 170 1
  · simp only [e_131_109, e_131_110, e_131_113, e_131_115, e_131_116, e_131_117, e_131_118, e_131_119, e_131_122, e_131_125, e_131_126, e_131_127, e_131_128, k_become hb, Tm, J_195, sJ_195, I_hi, sI_hi, Tm_secret, Lm_secret, Rm_secret, Tm_admitted, Lm_admitted, Rm_admitted, Tm_hasNonce, Lm_hasNonce, Rm_hasNonce, Tm_nonce, Lm_nonce, Rm_nonce, Tm_madeAt, Lm_madeAt, Rm_madeAt, Tm_used, Lm_used, Rm_used, Tm_end, Lm_end, Rm_end, Tm_heavy, Lm_heavy, Rm_heavy, Tm_first, Lm_first, Rm_first, Tm_mark, Lm_mark, Rm_mark, Tm_server, Lm_server, Rm_server, Tm_shown, Lm_shown, Rm_shown, Tm_serverTimer, Lm_serverTimer, Rm_serverTimer, Tm_setG, Lm_setG, Rm_setG, Tm_many, Lm_many, Rm_many, Tm_state, Lm_state, Rm_state, Tm_contact, Lm_contact, Rm_contact, Tm_wanted, Lm_wanted, Rm_wanted, Tm_cancelSent, Lm_cancelSent, Rm_cancelSent, Tm_result, Lm_result, Rm_result, Tm_came, Lm_came, Rm_came, Tm_timer, Lm_timer, Rm_timer, Tm_setA, Lm_setA, Rm_setA, Tm_setE, Lm_setE, Rm_setE, Tm_log, Lm_log, Rm_log, tl_s, tl_n, rf_s, rf_n, cs_nil, cs_cons, cat_r, cat_i, cat_l, cat_n, cat_a, Nat.reduceAdd, Nat.reduceMul, Nat.reduceLeDiff, Nat.reduceEqDiff, Nat.reduceLT, and_self, and_true, true_and, and_false, false_and, or_true, true_or, or_false, false_or, if_true, if_false, not_true_eq_false, not_false_eq_true, reduceCtorEq, reduceIte, ad3, in96 a0, cl_96 a0, h1]
  · simp only [e_131_109, e_131_110, e_131_113, e_131_115, e_131_116, e_131_117, e_131_118, e_131_119, e_131_122, e_131_125, e_131_126, e_131_127, e_131_128, Tm, J_195, sJ_195, I_hi, sI_hi, Tm_secret, Lm_secret, Rm_secret, Tm_admitted, Lm_admitted, Rm_admitted, Tm_hasNonce, Lm_hasNonce, Rm_hasNonce, Tm_nonce, Lm_nonce, Rm_nonce, Tm_madeAt, Lm_madeAt, Rm_madeAt, Tm_used, Lm_used, Rm_used, Tm_end, Lm_end, Rm_end, Tm_heavy, Lm_heavy, Rm_heavy, Tm_first, Lm_first, Rm_first, Tm_mark, Lm_mark, Rm_mark, Tm_server, Lm_server, Rm_server, Tm_shown, Lm_shown, Rm_shown, Tm_serverTimer, Lm_serverTimer, Rm_serverTimer, Tm_setG, Lm_setG, Rm_setG, Tm_many, Lm_many, Rm_many, Tm_state, Lm_state, Rm_state, Tm_contact, Lm_contact, Rm_contact, Tm_wanted, Lm_wanted, Rm_wanted, Tm_cancelSent, Lm_cancelSent, Rm_cancelSent, Tm_result, Lm_result, Rm_result, Tm_came, Lm_came, Rm_came, Tm_timer, Lm_timer, Rm_timer, Tm_setA, Lm_setA, Rm_setA, Tm_setE, Lm_setE, Rm_setE, Tm_log, Lm_log, Rm_log, tl_s, tl_n, rf_s, rf_n, cs_nil, cs_cons, cat_r, cat_i, cat_l, cat_n, cat_a, Nat.reduceAdd, Nat.reduceMul, Nat.reduceLeDiff, Nat.reduceEqDiff, Nat.reduceLT, and_self, and_true, true_and, and_false, false_and, or_true, true_or, or_false, false_or, if_true, if_false, not_true_eq_false, not_false_eq_true, reduceCtorEq, reduceIte, ad3, in96 a0, cl_96 a0, h1]
theorem bd_4 {o : ix_O} {i j : Nat} (hb : 4 * i + j < 16) : Ev xs L 131 (131, [.ref 170, .int (nI i), .int (nI j), .int (nI (4 * i + j)), .int (nI (6 * (4 * i + j)))], [], hh c s) o ↔ Ev xs L 131 (190, [.ref 170, .int (nI i), .int (nI j), .int (nI (4 * i + j)), .int (nI (6 * (4 * i + j)))], [], hh c (m_d4 s i j)) o := by
  unfold m_d4
  generalize 4 * i + j = b at hb
  have a0 : 6 * b + 4 < 96 := by omega
  by_cases h1 : s.1 192 (6 * b + 4) = s.1 170 1
  · simp only [e_131_131, e_131_132, e_131_135, e_131_137, e_131_138, e_131_139, e_131_140, e_131_141, e_131_144, e_131_147, e_131_148, e_131_149, e_131_150, e_131_151, e_131_154, e_131_155, e_131_158, e_131_159, e_131_160, e_131_161, e_131_164, e_131_165, e_131_166, e_131_169, e_131_170, e_131_171, e_131_174, e_131_176, e_131_177, e_131_178, e_131_179, e_131_182, e_131_183, e_131_186, e_131_187, e_131_188, e_131_189, k_send, k_twice, twice_send, Tm, J_195, sJ_195, I_hi, sI_hi, Tm_secret, Lm_secret, Rm_secret, Tm_admitted, Lm_admitted, Rm_admitted, Tm_hasNonce, Lm_hasNonce, Rm_hasNonce, Tm_nonce, Lm_nonce, Rm_nonce, Tm_madeAt, Lm_madeAt, Rm_madeAt, Tm_used, Lm_used, Rm_used, Tm_end, Lm_end, Rm_end, Tm_heavy, Lm_heavy, Rm_heavy, Tm_first, Lm_first, Rm_first, Tm_mark, Lm_mark, Rm_mark, Tm_server, Lm_server, Rm_server, Tm_shown, Lm_shown, Rm_shown, Tm_serverTimer, Lm_serverTimer, Rm_serverTimer, Tm_setG, Lm_setG, Rm_setG, Tm_many, Lm_many, Rm_many, Tm_state, Lm_state, Rm_state, Tm_contact, Lm_contact, Rm_contact, Tm_wanted, Lm_wanted, Rm_wanted, Tm_cancelSent, Lm_cancelSent, Rm_cancelSent, Tm_result, Lm_result, Rm_result, Tm_came, Lm_came, Rm_came, Tm_timer, Lm_timer, Rm_timer, Tm_setA, Lm_setA, Rm_setA, Tm_setE, Lm_setE, Rm_setE, Tm_log, Lm_log, Rm_log, tl_s, tl_n, rf_s, rf_n, cs_nil, cs_cons, cat_r, cat_i, cat_l, cat_n, cat_a, Nat.reduceAdd, Nat.reduceMul, Nat.reduceLeDiff, Nat.reduceEqDiff, Nat.reduceLT, and_self, and_true, true_and, and_false, false_and, or_true, true_or, or_false, false_or, if_true, if_false, not_true_eq_false, not_false_eq_true, reduceCtorEq, reduceIte, ml4, ml6, ml16, nI_add, ad0, ad1, ad2, ad3, ad4, ad5, mI_at, mJ_1, send_at, Int32.reduceLT, Int32.reduceLE, Int32.reduceAdd, q_0_1, q_0_2, q_0_3, q_0_4, q_0_5, q_0_6, q_1_0, q_1_2, q_1_3, q_1_4, q_1_5, q_1_6, q_2_0, q_2_1, q_2_3, q_2_4, q_2_5, q_2_6, q_3_0, q_3_1, q_3_2, q_3_4, q_3_5, q_3_6, q_4_0, q_4_1, q_4_2, q_4_3, q_4_5, q_4_6, q_5_0, q_5_1, q_5_2, q_5_3, q_5_4, q_5_6, q_6_0, q_6_1, q_6_2, q_6_3, q_6_4, q_6_5, in16 hb, cl_16 hb, in96 a0, cl_96 a0, h1]
  · simp only [e_131_131, e_131_132, e_131_135, e_131_137, e_131_138, e_131_139, e_131_140, e_131_141, e_131_144, e_131_147, e_131_148, e_131_149, e_131_150, e_131_151, e_131_154, e_131_155, e_131_158, e_131_159, e_131_160, e_131_161, e_131_164, e_131_165, e_131_166, e_131_169, e_131_170, e_131_171, e_131_174, e_131_176, e_131_177, e_131_178, e_131_179, e_131_182, e_131_183, e_131_186, e_131_187, e_131_188, e_131_189, Tm, J_195, sJ_195, I_hi, sI_hi, Tm_secret, Lm_secret, Rm_secret, Tm_admitted, Lm_admitted, Rm_admitted, Tm_hasNonce, Lm_hasNonce, Rm_hasNonce, Tm_nonce, Lm_nonce, Rm_nonce, Tm_madeAt, Lm_madeAt, Rm_madeAt, Tm_used, Lm_used, Rm_used, Tm_end, Lm_end, Rm_end, Tm_heavy, Lm_heavy, Rm_heavy, Tm_first, Lm_first, Rm_first, Tm_mark, Lm_mark, Rm_mark, Tm_server, Lm_server, Rm_server, Tm_shown, Lm_shown, Rm_shown, Tm_serverTimer, Lm_serverTimer, Rm_serverTimer, Tm_setG, Lm_setG, Rm_setG, Tm_many, Lm_many, Rm_many, Tm_state, Lm_state, Rm_state, Tm_contact, Lm_contact, Rm_contact, Tm_wanted, Lm_wanted, Rm_wanted, Tm_cancelSent, Lm_cancelSent, Rm_cancelSent, Tm_result, Lm_result, Rm_result, Tm_came, Lm_came, Rm_came, Tm_timer, Lm_timer, Rm_timer, Tm_setA, Lm_setA, Rm_setA, Tm_setE, Lm_setE, Rm_setE, Tm_log, Lm_log, Rm_log, tl_s, tl_n, rf_s, rf_n, cs_nil, cs_cons, cat_r, cat_i, cat_l, cat_n, cat_a, Nat.reduceAdd, Nat.reduceMul, Nat.reduceLeDiff, Nat.reduceEqDiff, Nat.reduceLT, and_self, and_true, true_and, and_false, false_and, or_true, true_or, or_false, false_or, if_true, if_false, not_true_eq_false, not_false_eq_true, reduceCtorEq, reduceIte, ad4, in16 hb, cl_16 hb, in96 a0, cl_96 a0, h1]
theorem bd_5 {o : ix_O} {i j n : Nat} (hi : i < 4) (hj : j < 4) (hm : s.1 185 i = nI n) (hn : n ≤ 4) : Ev xs L 131 (190, [.ref 170, .int (nI i), .int (nI j), .int (nI (4 * i + j)), .int (nI (6 * (4 * i + j)))], [], hh c s) o ↔ o = (none, hh c (m_d5 s i j n)) := by
  unfold m_d5
  have a0 : 6 * (4 * i + j) + 5 < 96 := by omega
  by_cases h1 : s.1 192 (6 * (4 * i + j) + 5) = s.1 170 1
  · simp only [e_131_190, e_131_191, e_131_194, e_131_196, e_131_197, e_131_198, e_131_199, e_131_200, e_131_203, e_131_206, e_131_207, e_131_208, e_131_209, e_131_212, k_timeout hi hj hm hn, Tm, J_195, sJ_195, I_hi, sI_hi, Tm_secret, Lm_secret, Rm_secret, Tm_admitted, Lm_admitted, Rm_admitted, Tm_hasNonce, Lm_hasNonce, Rm_hasNonce, Tm_nonce, Lm_nonce, Rm_nonce, Tm_madeAt, Lm_madeAt, Rm_madeAt, Tm_used, Lm_used, Rm_used, Tm_end, Lm_end, Rm_end, Tm_heavy, Lm_heavy, Rm_heavy, Tm_first, Lm_first, Rm_first, Tm_mark, Lm_mark, Rm_mark, Tm_server, Lm_server, Rm_server, Tm_shown, Lm_shown, Rm_shown, Tm_serverTimer, Lm_serverTimer, Rm_serverTimer, Tm_setG, Lm_setG, Rm_setG, Tm_many, Lm_many, Rm_many, Tm_state, Lm_state, Rm_state, Tm_contact, Lm_contact, Rm_contact, Tm_wanted, Lm_wanted, Rm_wanted, Tm_cancelSent, Lm_cancelSent, Rm_cancelSent, Tm_result, Lm_result, Rm_result, Tm_came, Lm_came, Rm_came, Tm_timer, Lm_timer, Rm_timer, Tm_setA, Lm_setA, Rm_setA, Tm_setE, Lm_setE, Rm_setE, Tm_log, Lm_log, Rm_log, tl_s, tl_n, rf_s, rf_n, cs_nil, cs_cons, cat_r, cat_i, cat_l, cat_n, cat_a, Nat.reduceAdd, Nat.reduceMul, Nat.reduceLeDiff, Nat.reduceEqDiff, Nat.reduceLT, and_self, and_true, true_and, and_false, false_and, or_true, true_or, or_false, false_or, if_true, if_false, not_true_eq_false, not_false_eq_true, reduceCtorEq, reduceIte, ad5, in96 a0, cl_96 a0, h1]
  · simp only [e_131_190, e_131_191, e_131_194, e_131_196, e_131_197, e_131_198, e_131_199, e_131_200, e_131_203, e_131_206, e_131_207, e_131_208, e_131_209, e_131_212, Tm, J_195, sJ_195, I_hi, sI_hi, Tm_secret, Lm_secret, Rm_secret, Tm_admitted, Lm_admitted, Rm_admitted, Tm_hasNonce, Lm_hasNonce, Rm_hasNonce, Tm_nonce, Lm_nonce, Rm_nonce, Tm_madeAt, Lm_madeAt, Rm_madeAt, Tm_used, Lm_used, Rm_used, Tm_end, Lm_end, Rm_end, Tm_heavy, Lm_heavy, Rm_heavy, Tm_first, Lm_first, Rm_first, Tm_mark, Lm_mark, Rm_mark, Tm_server, Lm_server, Rm_server, Tm_shown, Lm_shown, Rm_shown, Tm_serverTimer, Lm_serverTimer, Rm_serverTimer, Tm_setG, Lm_setG, Rm_setG, Tm_many, Lm_many, Rm_many, Tm_state, Lm_state, Rm_state, Tm_contact, Lm_contact, Rm_contact, Tm_wanted, Lm_wanted, Rm_wanted, Tm_cancelSent, Lm_cancelSent, Rm_cancelSent, Tm_result, Lm_result, Rm_result, Tm_came, Lm_came, Rm_came, Tm_timer, Lm_timer, Rm_timer, Tm_setA, Lm_setA, Rm_setA, Tm_setE, Lm_setE, Rm_setE, Tm_log, Lm_log, Rm_log, tl_s, tl_n, rf_s, rf_n, cs_nil, cs_cons, cat_r, cat_i, cat_l, cat_n, cat_a, Nat.reduceAdd, Nat.reduceMul, Nat.reduceLeDiff, Nat.reduceEqDiff, Nat.reduceLT, and_self, and_true, true_and, and_false, false_and, or_true, true_or, or_false, false_or, if_true, if_false, not_true_eq_false, not_false_eq_true, reduceCtorEq, reduceIte, ad5, in96 a0, cl_96 a0, h1]
set_option maxRecDepth 20000 in
set_option maxHeartbeats 2000000 in
theorem x_bdue {i j n : Nat} (hi : i < 4) (hj : j < 4) (hm : s.1 185 i = nI n) (hn : n ≤ 4) : Ex xs L 131 [.ref 170, .int (nI i), .int (nI j)] (hh c s) (none, hh c (m_bdue s i j n)) := by
  refine Ex_of xs L rfl ?_
  show Ev xs L _ (0, [.ref 170, .int (nI i), .int (nI j), .retAddr 1, .retAddr 1], [], hh c s) _
  have hb : 4 * i + j < 16 := by omega
  simp only [e_131_0, e_131_1, e_131_2, e_131_3, e_131_4, e_131_5, e_131_6, e_131_8, e_131_9, e_131_10, tl_s, tl_n, rf_s, rf_n, cs_nil, cs_cons, cat_r, cat_i, cat_l, cat_n, cat_a, Nat.reduceAdd, Nat.reduceMul, Nat.reduceLeDiff, Nat.reduceEqDiff, Nat.reduceLT, and_self, and_true, true_and, and_false, false_and, or_true, true_or, or_false, false_or, if_true, if_false, not_true_eq_false, not_false_eq_true, reduceCtorEq, reduceIte, ml4, ml6, nI_add]
  rw [bd_0 hb, bd_1 hi hj (by rw [my_d0]; exact hm) hn, bd_2 hi hj, bd_3 hb, bd_4 hb]
  exact (bd_5 hi hj (by rw [my_d4, my_d3, my_d2, my_d1, my_d0]; exact hm) hn).mpr rfl
theorem k_bdue {i j n : Nat} {K : Option Value → ix_H → Prop} (hi : i < 4) (hj : j < 4) (hm : s.1 185 i = nI n) (hn : n ≤ 4) : Cl xs L 131 [.ref 170, .int (nI i), .int (nI j)] (hh c s) K ↔ K none (hh c (m_bdue s i j n)) := Cl_of xs L (x_bdue hi hj hm hn)
-- one tick of one call, of all calls
def m_tb (i n : Nat) : Nat → Nat → MM → MM
  | 0, _, s => s
  | d + 1, j, s => m_tb i n d (j + 1) (if m_on s i n = 0 then s else m_bdue s i j n)
def m_tc (s : MM) (i n : Nat) : MM := m_tb i n n 0 (if m_on s i n = 0 then s else m_sdue s i)
theorem my_tb (i n k : Nat) : ∀ (d j : Nat) (s : MM), (m_tb i n d j s).1 185 k = s.1 185 k := by
  intro d
  induction d with
  | zero => intro j s; rfl
  | succ d ih =>
    intro j s
    simp only [m_tb]
    rw [ih]
    split
    · rfl
    · exact my_bdue _ _ _ _ _
theorem my_tc (s : MM) (i n k : Nat) : (m_tc s i n).1 185 k = s.1 185 k := by
  unfold m_tc
  rw [my_tb]
  split
  · rfl
  · exact my_sdue _ _ _
def m_t4 (s : MM) (f : Nat → Nat) : MM := m_tc (m_tc (m_tc (m_tc s 0 (f 0)) 1 (f 1)) 2 (f 2)) 3 (f 3)
def m_t1 (s : MM) (f : Nat → Nat) : MM := m_t4 (mI s 170 1 (s.1 170 1 + 1)) f
def m_tn (f : Nat → Nat) : Nat → MM → MM
  | 0, s => s
  | d + 1, s => m_tn f d (m_t1 s f)
def Mok (s : MM) (f : Nat → Nat) : Prop := ∀ i, i < 4 → s.1 185 i = nI (f i) ∧ f i ≤ 4
set_option maxRecDepth 20000 in
set_option maxHeartbeats 2000000 in
theorem x_tbl {o : ix_O} {u v w : Int32} {i n : Nat} (hi : i < 4) (hn : n ≤ 4) : ∀ (d j : Nat) (s : MM), s.1 185 i = nI n → j + d = n → (Ev xs L 132 (62, [.ref 170, .int u, .int v, .int w, .int (nI i), .int (nI j)], [], hh c s) o ↔ Ev xs L 132 (38, [.ref 170, .int u, .int v, .int w, .int (nI (i + 1)), .int (nI n)], [], hh c (m_tb i n d j s)) o) := by
  intro d
  induction d with
  | zero =>
    intro j s hm hj
    obtain rfl : j = n := by omega
    simp only [e_132_62, e_132_64, e_132_65, e_132_68, e_132_70, e_132_71, e_132_97, e_132_100, Tm, J_195, sJ_195, I_hi, sI_hi, Tm_secret, Lm_secret, Rm_secret, Tm_admitted, Lm_admitted, Rm_admitted, Tm_hasNonce, Lm_hasNonce, Rm_hasNonce, Tm_nonce, Lm_nonce, Rm_nonce, Tm_madeAt, Lm_madeAt, Rm_madeAt, Tm_used, Lm_used, Rm_used, Tm_end, Lm_end, Rm_end, Tm_heavy, Lm_heavy, Rm_heavy, Tm_first, Lm_first, Rm_first, Tm_mark, Lm_mark, Rm_mark, Tm_server, Lm_server, Rm_server, Tm_shown, Lm_shown, Rm_shown, Tm_serverTimer, Lm_serverTimer, Rm_serverTimer, Tm_setG, Lm_setG, Rm_setG, Tm_many, Lm_many, Rm_many, Tm_state, Lm_state, Rm_state, Tm_contact, Lm_contact, Rm_contact, Tm_wanted, Lm_wanted, Rm_wanted, Tm_cancelSent, Lm_cancelSent, Rm_cancelSent, Tm_result, Lm_result, Rm_result, Tm_came, Lm_came, Rm_came, Tm_timer, Lm_timer, Rm_timer, Tm_setA, Lm_setA, Rm_setA, Tm_setE, Lm_setE, Rm_setE, Tm_log, Lm_log, Rm_log, tl_s, tl_n, rf_s, rf_n, cs_nil, cs_cons, cat_r, cat_i, cat_l, cat_n, cat_a, Nat.reduceAdd, Nat.reduceMul, Nat.reduceLeDiff, Nat.reduceEqDiff, Nat.reduceLT, and_self, and_true, true_and, and_false, false_and, or_true, true_or, or_false, false_or, if_true, if_false, not_true_eq_false, not_false_eq_true, reduceCtorEq, reduceIte, ad1, in4 hi, cl_4 hi, hm, le_rf, m_tb]
  | succ d ih =>
    intro j s hm hj
    have hlt := nle (show j < n by omega) hn
    rw [e_132_62]
    by_cases h1 : m_on s i n = 0
    · simp only [e_132_64, e_132_65, e_132_68, e_132_70, e_132_71, e_132_74, e_132_75, e_132_77, e_132_80, e_132_83, e_132_84, e_132_86, e_132_88, e_132_91, e_132_94, k_inUse hi hm hn, Tm, J_195, sJ_195, I_hi, sI_hi, Tm_secret, Lm_secret, Rm_secret, Tm_admitted, Lm_admitted, Rm_admitted, Tm_hasNonce, Lm_hasNonce, Rm_hasNonce, Tm_nonce, Lm_nonce, Rm_nonce, Tm_madeAt, Lm_madeAt, Rm_madeAt, Tm_used, Lm_used, Rm_used, Tm_end, Lm_end, Rm_end, Tm_heavy, Lm_heavy, Rm_heavy, Tm_first, Lm_first, Rm_first, Tm_mark, Lm_mark, Rm_mark, Tm_server, Lm_server, Rm_server, Tm_shown, Lm_shown, Rm_shown, Tm_serverTimer, Lm_serverTimer, Rm_serverTimer, Tm_setG, Lm_setG, Rm_setG, Tm_many, Lm_many, Rm_many, Tm_state, Lm_state, Rm_state, Tm_contact, Lm_contact, Rm_contact, Tm_wanted, Lm_wanted, Rm_wanted, Tm_cancelSent, Lm_cancelSent, Rm_cancelSent, Tm_result, Lm_result, Rm_result, Tm_came, Lm_came, Rm_came, Tm_timer, Lm_timer, Rm_timer, Tm_setA, Lm_setA, Rm_setA, Tm_setE, Lm_setE, Rm_setE, Tm_log, Lm_log, Rm_log, tl_s, tl_n, rf_s, rf_n, cs_nil, cs_cons, cat_r, cat_i, cat_l, cat_n, cat_a, Nat.reduceAdd, Nat.reduceMul, Nat.reduceLeDiff, Nat.reduceEqDiff, Nat.reduceLT, and_self, and_true, true_and, and_false, false_and, or_true, true_or, or_false, false_or, if_true, if_false, not_true_eq_false, not_false_eq_true, reduceCtorEq, reduceIte, ad1, in4 hi, cl_4 hi, hm, hlt, h1, m_tb]
      exact ih (j + 1) s hm (by omega)
    · simp only [e_132_64, e_132_65, e_132_68, e_132_70, e_132_71, e_132_74, e_132_75, e_132_77, e_132_80, e_132_83, e_132_84, e_132_86, e_132_88, e_132_91, e_132_94, k_inUse hi hm hn, k_bdue hi (show j < 4 by omega) hm hn, Tm, J_195, sJ_195, I_hi, sI_hi, Tm_secret, Lm_secret, Rm_secret, Tm_admitted, Lm_admitted, Rm_admitted, Tm_hasNonce, Lm_hasNonce, Rm_hasNonce, Tm_nonce, Lm_nonce, Rm_nonce, Tm_madeAt, Lm_madeAt, Rm_madeAt, Tm_used, Lm_used, Rm_used, Tm_end, Lm_end, Rm_end, Tm_heavy, Lm_heavy, Rm_heavy, Tm_first, Lm_first, Rm_first, Tm_mark, Lm_mark, Rm_mark, Tm_server, Lm_server, Rm_server, Tm_shown, Lm_shown, Rm_shown, Tm_serverTimer, Lm_serverTimer, Rm_serverTimer, Tm_setG, Lm_setG, Rm_setG, Tm_many, Lm_many, Rm_many, Tm_state, Lm_state, Rm_state, Tm_contact, Lm_contact, Rm_contact, Tm_wanted, Lm_wanted, Rm_wanted, Tm_cancelSent, Lm_cancelSent, Rm_cancelSent, Tm_result, Lm_result, Rm_result, Tm_came, Lm_came, Rm_came, Tm_timer, Lm_timer, Rm_timer, Tm_setA, Lm_setA, Rm_setA, Tm_setE, Lm_setE, Rm_setE, Tm_log, Lm_log, Rm_log, tl_s, tl_n, rf_s, rf_n, cs_nil, cs_cons, cat_r, cat_i, cat_l, cat_n, cat_a, Nat.reduceAdd, Nat.reduceMul, Nat.reduceLeDiff, Nat.reduceEqDiff, Nat.reduceLT, and_self, and_true, true_and, and_false, false_and, or_true, true_or, or_false, false_or, if_true, if_false, not_true_eq_false, not_false_eq_true, reduceCtorEq, reduceIte, ad1, in4 hi, cl_4 hi, hm, hlt, h1, m_tb]
      exact ih (j + 1) _ (by rw [my_bdue]; exact hm) (by omega)
set_option maxRecDepth 20000 in
set_option maxHeartbeats 2000000 in
theorem x_tc {o : ix_O} {u v w : Int32} {i n : Nat} {v5 : Value} (hi : i < 4) (hn : n ≤ 4) (hm : s.1 185 i = nI n) : Ev xs L 132 (38, [.ref 170, .int u, .int v, .int w, .int (nI i), v5], [], hh c s) o ↔ Ev xs L 132 (38, [.ref 170, .int u, .int v, .int w, .int (nI (i + 1)), .int (nI n)], [], hh c (m_tc s i n)) o := by
  have h4 : (4 ≤ nI i) = False := eq_false (nI_ge (a := i) (b := 4) hi (by decide))
  unfold m_tc
  rw [e_132_38]
  by_cases h1 : m_on s i n = 0
  · simp only [e_132_40, e_132_41, e_132_44, e_132_45, e_132_47, e_132_50, e_132_53, e_132_54, e_132_56, e_132_59, e_132_60, k_inUse hi hm hn, Tm, J_195, sJ_195, I_hi, sI_hi, Tm_secret, Lm_secret, Rm_secret, Tm_admitted, Lm_admitted, Rm_admitted, Tm_hasNonce, Lm_hasNonce, Rm_hasNonce, Tm_nonce, Lm_nonce, Rm_nonce, Tm_madeAt, Lm_madeAt, Rm_madeAt, Tm_used, Lm_used, Rm_used, Tm_end, Lm_end, Rm_end, Tm_heavy, Lm_heavy, Rm_heavy, Tm_first, Lm_first, Rm_first, Tm_mark, Lm_mark, Rm_mark, Tm_server, Lm_server, Rm_server, Tm_shown, Lm_shown, Rm_shown, Tm_serverTimer, Lm_serverTimer, Rm_serverTimer, Tm_setG, Lm_setG, Rm_setG, Tm_many, Lm_many, Rm_many, Tm_state, Lm_state, Rm_state, Tm_contact, Lm_contact, Rm_contact, Tm_wanted, Lm_wanted, Rm_wanted, Tm_cancelSent, Lm_cancelSent, Rm_cancelSent, Tm_result, Lm_result, Rm_result, Tm_came, Lm_came, Rm_came, Tm_timer, Lm_timer, Rm_timer, Tm_setA, Lm_setA, Rm_setA, Tm_setE, Lm_setE, Rm_setE, Tm_log, Lm_log, Rm_log, tl_s, tl_n, rf_s, rf_n, cs_nil, cs_cons, cat_r, cat_i, cat_l, cat_n, cat_a, Nat.reduceAdd, Nat.reduceMul, Nat.reduceLeDiff, Nat.reduceEqDiff, Nat.reduceLT, and_self, and_true, true_and, and_false, false_and, or_true, true_or, or_false, false_or, if_true, if_false, not_true_eq_false, not_false_eq_true, reduceCtorEq, reduceIte, h4, h1]
    exact x_tbl hi hn n 0 s hm (by omega)
  · simp only [e_132_40, e_132_41, e_132_44, e_132_45, e_132_47, e_132_50, e_132_53, e_132_54, e_132_56, e_132_59, e_132_60, k_inUse hi hm hn, k_sdue hi, Tm, J_195, sJ_195, I_hi, sI_hi, Tm_secret, Lm_secret, Rm_secret, Tm_admitted, Lm_admitted, Rm_admitted, Tm_hasNonce, Lm_hasNonce, Rm_hasNonce, Tm_nonce, Lm_nonce, Rm_nonce, Tm_madeAt, Lm_madeAt, Rm_madeAt, Tm_used, Lm_used, Rm_used, Tm_end, Lm_end, Rm_end, Tm_heavy, Lm_heavy, Rm_heavy, Tm_first, Lm_first, Rm_first, Tm_mark, Lm_mark, Rm_mark, Tm_server, Lm_server, Rm_server, Tm_shown, Lm_shown, Rm_shown, Tm_serverTimer, Lm_serverTimer, Rm_serverTimer, Tm_setG, Lm_setG, Rm_setG, Tm_many, Lm_many, Rm_many, Tm_state, Lm_state, Rm_state, Tm_contact, Lm_contact, Rm_contact, Tm_wanted, Lm_wanted, Rm_wanted, Tm_cancelSent, Lm_cancelSent, Rm_cancelSent, Tm_result, Lm_result, Rm_result, Tm_came, Lm_came, Rm_came, Tm_timer, Lm_timer, Rm_timer, Tm_setA, Lm_setA, Rm_setA, Tm_setE, Lm_setE, Rm_setE, Tm_log, Lm_log, Rm_log, tl_s, tl_n, rf_s, rf_n, cs_nil, cs_cons, cat_r, cat_i, cat_l, cat_n, cat_a, Nat.reduceAdd, Nat.reduceMul, Nat.reduceLeDiff, Nat.reduceEqDiff, Nat.reduceLT, and_self, and_true, true_and, and_false, false_and, or_true, true_or, or_false, false_or, if_true, if_false, not_true_eq_false, not_false_eq_true, reduceCtorEq, reduceIte, h4, h1]
    exact x_tbl hi hn n 0 _ (by rw [my_sdue]; exact hm) (by omega)
theorem my_t4 (s : MM) (f : Nat → Nat) (k : Nat) : (m_t4 s f).1 185 k = s.1 185 k := by
  unfold m_t4
  rw [my_tc, my_tc, my_tc, my_tc]
theorem my_t1 (s : MM) (f : Nat → Nat) (k : Nat) : (m_t1 s f).1 185 k = s.1 185 k := by
  unfold m_t1
  rw [my_t4]
  simp only [mI_at, Nat.reduceEqDiff, false_and, if_false]
set_option maxRecDepth 20000 in
set_option maxHeartbeats 2000000 in
theorem x_t1 {o : ix_O} {u v w : Int32} {v4 v5 : Value} {f : Nat → Nat} (hw : ¬ u ≤ w) (hM : Mok s f) : Ev xs L 132 (20, [.ref 170, .int u, .int v, .int w, v4, v5], [], hh c s) o ↔ Ev xs L 132 (20, [.ref 170, .int u, .int v, .int (w + 1), .int 4, .int (nI (f 3))], [], hh c (m_t1 s f)) o := by
  have hM2 : Mok (mI s 170 1 (s.1 170 1 + 1)) f := fun i hi => by
    simp only [mI_at, Nat.reduceEqDiff, false_and, if_false]
    exact hM i hi
  unfold m_t1
  rw [e_132_20]
  simp only [e_132_21, e_132_22, e_132_25, e_132_26, e_132_27, e_132_30, e_132_31, e_132_32, e_132_35, e_132_36, Tm, J_195, sJ_195, I_hi, sI_hi, Tm_secret, Lm_secret, Rm_secret, Tm_admitted, Lm_admitted, Rm_admitted, Tm_hasNonce, Lm_hasNonce, Rm_hasNonce, Tm_nonce, Lm_nonce, Rm_nonce, Tm_madeAt, Lm_madeAt, Rm_madeAt, Tm_used, Lm_used, Rm_used, Tm_end, Lm_end, Rm_end, Tm_heavy, Lm_heavy, Rm_heavy, Tm_first, Lm_first, Rm_first, Tm_mark, Lm_mark, Rm_mark, Tm_server, Lm_server, Rm_server, Tm_shown, Lm_shown, Rm_shown, Tm_serverTimer, Lm_serverTimer, Rm_serverTimer, Tm_setG, Lm_setG, Rm_setG, Tm_many, Lm_many, Rm_many, Tm_state, Lm_state, Rm_state, Tm_contact, Lm_contact, Rm_contact, Tm_wanted, Lm_wanted, Rm_wanted, Tm_cancelSent, Lm_cancelSent, Rm_cancelSent, Tm_result, Lm_result, Rm_result, Tm_came, Lm_came, Rm_came, Tm_timer, Lm_timer, Rm_timer, Tm_setA, Lm_setA, Rm_setA, Tm_setE, Lm_setE, Rm_setE, Tm_log, Lm_log, Rm_log, tl_s, tl_n, rf_s, rf_n, cs_nil, cs_cons, cat_r, cat_i, cat_l, cat_n, cat_a, Nat.reduceAdd, Nat.reduceMul, Nat.reduceLeDiff, Nat.reduceEqDiff, Nat.reduceLT, and_self, and_true, true_and, and_false, false_and, or_true, true_or, or_false, false_or, if_true, if_false, not_true_eq_false, not_false_eq_true, reduceCtorEq, reduceIte, hw]
  generalize mI s 170 1 (s.1 170 1 + 1) = s1 at hM2
  unfold m_t4
  have h0 := hM2 0 (by decide)
  have h1 := hM2 1 (by decide)
  have h2 := hM2 2 (by decide)
  have h3 := hM2 3 (by decide)
  have z0 : (0 : Int32) = nI 0 := nI_0.symm
  rw [z0, x_tc (by decide) h0.2 h0.1, x_tc (by decide) h1.2 (by rw [my_tc]; exact h1.1), x_tc (by decide) h2.2 (by rw [my_tc, my_tc]; exact h2.1), x_tc (by decide) h3.2 (by rw [my_tc, my_tc, my_tc]; exact h3.1)]
  have h4 : ((4 : Int32) ≤ nI (3 + 1)) = True := eq_true (by decide)
  simp only [e_132_38, e_132_40, e_132_41, e_132_103, e_132_106, tl_s, tl_n, rf_s, rf_n, cs_nil, cs_cons, cat_r, cat_i, cat_l, cat_n, cat_a, Nat.reduceAdd, Nat.reduceMul, Nat.reduceLeDiff, Nat.reduceEqDiff, Nat.reduceLT, and_self, and_true, true_and, and_false, false_and, or_true, true_or, or_false, false_or, if_true, if_false, not_true_eq_false, not_false_eq_true, reduceCtorEq, reduceIte, h4]
  exact Iff.rfl
set_option maxRecDepth 20000 in
set_option maxHeartbeats 2000000 in
theorem x_tnl {o : ix_O} {v : Int32} {N : Nat} {f : Nat → Nat} (hN : N ≤ 2000) : ∀ (d j : Nat) (s : MM) (v4 v5 : Value), Mok s f → j + d = N → (Ev xs L 132 (20, [.ref 170, .int (nI N), .int v, .int (nI j), v4, v5], [], hh c s) o ↔ o = (some (.int ((m_tn f d s).1 170 30 - v)), hh c (m_tn f d s))) := by
  intro d
  induction d with
  | zero =>
    intro j s v4 v5 hM hj
    obtain rfl : j = N := by omega
    simp only [e_132_20, e_132_21, e_132_22, e_132_109, e_132_110, e_132_113, e_132_114, e_132_115, Tm, J_195, sJ_195, I_hi, sI_hi, Tm_secret, Lm_secret, Rm_secret, Tm_admitted, Lm_admitted, Rm_admitted, Tm_hasNonce, Lm_hasNonce, Rm_hasNonce, Tm_nonce, Lm_nonce, Rm_nonce, Tm_madeAt, Lm_madeAt, Rm_madeAt, Tm_used, Lm_used, Rm_used, Tm_end, Lm_end, Rm_end, Tm_heavy, Lm_heavy, Rm_heavy, Tm_first, Lm_first, Rm_first, Tm_mark, Lm_mark, Rm_mark, Tm_server, Lm_server, Rm_server, Tm_shown, Lm_shown, Rm_shown, Tm_serverTimer, Lm_serverTimer, Rm_serverTimer, Tm_setG, Lm_setG, Rm_setG, Tm_many, Lm_many, Rm_many, Tm_state, Lm_state, Rm_state, Tm_contact, Lm_contact, Rm_contact, Tm_wanted, Lm_wanted, Rm_wanted, Tm_cancelSent, Lm_cancelSent, Rm_cancelSent, Tm_result, Lm_result, Rm_result, Tm_came, Lm_came, Rm_came, Tm_timer, Lm_timer, Rm_timer, Tm_setA, Lm_setA, Rm_setA, Tm_setE, Lm_setE, Rm_setE, Tm_log, Lm_log, Rm_log, tl_s, tl_n, rf_s, rf_n, cs_nil, cs_cons, cat_r, cat_i, cat_l, cat_n, cat_a, Nat.reduceAdd, Nat.reduceMul, Nat.reduceLeDiff, Nat.reduceEqDiff, Nat.reduceLT, and_self, and_true, true_and, and_false, false_and, or_true, true_or, or_false, false_or, if_true, if_false, not_true_eq_false, not_false_eq_true, reduceCtorEq, reduceIte, le_rf, m_tn]
  | succ d ih =>
    intro j s v4 v5 hM hj
    rw [x_t1 (nI_ge (show j < N by omega) (by omega)) hM, ad1]
    simp only [m_tn]
    exact ih (j + 1) _ _ _ (fun i hi => by rw [my_t1]; exact hM i hi) (by omega)
set_option maxRecDepth 20000 in
set_option maxHeartbeats 2000000 in
theorem x_tick {N : Nat} {f : Nat → Nat} (hN : N ≤ 2000) (hM : Mok s f) : Ex xs L 132 [.ref 170, .int (nI N)] (hh c s) (some (.int ((m_tn f N s).1 170 30 - s.1 170 30)), hh c (m_tn f N s)) := by
  refine Ex_of xs L rfl ?_
  show Ev xs L _ (0, [.ref 170, .int (nI N), .retAddr 1, .retAddr 1, .retAddr 1, .retAddr 1], [], hh c s) _
  have h0 : ¬ nI N < 0 := nI_pos (by omega)
  have h3 : ¬ 2000 < nI N := nI_nlt (a := 2000) (b := N) (by omega) (by omega)
  have hz : zb (¬ nI N < 0 ∧ ¬ 2000 < nI N) = 1 := zb_t ⟨h0, h3⟩
  simp only [e_132_0, e_132_1, e_132_2, e_132_5, e_132_8, e_132_11, e_132_12, e_132_13, e_132_14, e_132_17, e_132_18, e_132_19, k_within, hz, Tm, J_195, sJ_195, I_hi, sI_hi, Tm_secret, Lm_secret, Rm_secret, Tm_admitted, Lm_admitted, Rm_admitted, Tm_hasNonce, Lm_hasNonce, Rm_hasNonce, Tm_nonce, Lm_nonce, Rm_nonce, Tm_madeAt, Lm_madeAt, Rm_madeAt, Tm_used, Lm_used, Rm_used, Tm_end, Lm_end, Rm_end, Tm_heavy, Lm_heavy, Rm_heavy, Tm_first, Lm_first, Rm_first, Tm_mark, Lm_mark, Rm_mark, Tm_server, Lm_server, Rm_server, Tm_shown, Lm_shown, Rm_shown, Tm_serverTimer, Lm_serverTimer, Rm_serverTimer, Tm_setG, Lm_setG, Rm_setG, Tm_many, Lm_many, Rm_many, Tm_state, Lm_state, Rm_state, Tm_contact, Lm_contact, Rm_contact, Tm_wanted, Lm_wanted, Rm_wanted, Tm_cancelSent, Lm_cancelSent, Rm_cancelSent, Tm_result, Lm_result, Rm_result, Tm_came, Lm_came, Rm_came, Tm_timer, Lm_timer, Rm_timer, Tm_setA, Lm_setA, Rm_setA, Tm_setE, Lm_setE, Rm_setE, Tm_log, Lm_log, Rm_log, tl_s, tl_n, rf_s, rf_n, cs_nil, cs_cons, cat_r, cat_i, cat_l, cat_n, cat_a, Nat.reduceAdd, Nat.reduceMul, Nat.reduceLeDiff, Nat.reduceEqDiff, Nat.reduceLT, and_self, and_true, true_and, and_false, false_and, or_true, true_or, or_false, false_or, if_true, if_false, not_true_eq_false, not_false_eq_true, reduceCtorEq, reduceIte, q_1_0]
  exact (x_tnl hN N 0 s _ _ hM (by omega)).mpr rfl
set_option maxRecDepth 20000 in
set_option maxHeartbeats 2000000 in
theorem x_tickN {u : Int32} (hu : u < 0 ∨ 2000 < u) : Ex xs L 132 [.ref 170, .int u] (hh c s) (some (.int (-1)), hh c s) := by
  refine Ex_of xs L rfl ?_
  show Ev xs L _ (0, [.ref 170, .int u, .retAddr 1, .retAddr 1, .retAddr 1, .retAddr 1], [], hh c s) _
  have hz : zb (¬ u < 0 ∧ ¬ 2000 < u) = 0 := zb_f (fun q => hu.elim q.1 q.2)
  simp only [e_132_0, e_132_1, e_132_2, e_132_5, e_132_8, e_132_11, e_132_12, k_within, hz, Tm, J_195, sJ_195, I_hi, sI_hi, Tm_secret, Lm_secret, Rm_secret, Tm_admitted, Lm_admitted, Rm_admitted, Tm_hasNonce, Lm_hasNonce, Rm_hasNonce, Tm_nonce, Lm_nonce, Rm_nonce, Tm_madeAt, Lm_madeAt, Rm_madeAt, Tm_used, Lm_used, Rm_used, Tm_end, Lm_end, Rm_end, Tm_heavy, Lm_heavy, Rm_heavy, Tm_first, Lm_first, Rm_first, Tm_mark, Lm_mark, Rm_mark, Tm_server, Lm_server, Rm_server, Tm_shown, Lm_shown, Rm_shown, Tm_serverTimer, Lm_serverTimer, Rm_serverTimer, Tm_setG, Lm_setG, Rm_setG, Tm_many, Lm_many, Rm_many, Tm_state, Lm_state, Rm_state, Tm_contact, Lm_contact, Rm_contact, Tm_wanted, Lm_wanted, Rm_wanted, Tm_cancelSent, Lm_cancelSent, Rm_cancelSent, Tm_result, Lm_result, Rm_result, Tm_came, Lm_came, Rm_came, Tm_timer, Lm_timer, Rm_timer, Tm_setA, Lm_setA, Rm_setA, Tm_setE, Lm_setE, Rm_setE, Tm_log, Lm_log, Rm_log, tl_s, tl_n, rf_s, rf_n, cs_nil, cs_cons, cat_r, cat_i, cat_l, cat_n, cat_a, Nat.reduceAdd, Nat.reduceMul, Nat.reduceLeDiff, Nat.reduceEqDiff, Nat.reduceLT, and_self, and_true, true_and, and_false, false_and, or_true, true_or, or_false, false_or, if_true, if_false, not_true_eq_false, not_false_eq_true, reduceCtorEq, reduceIte]
end MO
