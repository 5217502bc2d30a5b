def zb (p : Prop) [Decidable p] : Int32 := if p then 1 else 0
theorem zb_0 (p : Prop) [Decidable p] : (zb p = 0) = ¬ p := by
  unfold zb
  by_cases h : p <;> simp [h]
theorem zb_01 (p : Prop) [Decidable p] : zb p = 0 ∨ zb p = 1 := by
  unfold zb
  by_cases h : p <;> simp [h]
theorem zb_t {p : Prop} [Decidable p] (h : p) : zb p = 1 := if_pos h
theorem zb_f {p : Prop} [Decidable p] (h : ¬ p) : zb p = 0 := if_neg h
theorem zz_0 : ((0 : Int32) = 0 ∨ (0 : Int32) = 1) = True := by simp
theorem zz_1 : ((1 : Int32) = 0 ∨ (1 : Int32) = 1) = True := by simp
theorem one_ne : ((1 : Int32) = 0) = False := by simp
section MO
variable {xs : Nat → Int32} {L : Nat} {h : ix_H} {c : CM} {s : MM}
theorem x_within {x a b : Int32} : Ex xs L 95 [.int x, .int a, .int b] h (some (.int (zb (¬ x < a ∧ ¬ b < x))), h) := by
  refine Ex_of xs L rfl ?_
  show Ev xs L _ (0, [.int x, .int a, .int b], [], h) _
  by_cases h1 : x < a
  · rw [zb_f (p := ¬ x < a ∧ ¬ b < x) (fun q => q.1 h1)]
    simp only [e_95_0, e_95_1, e_95_2, e_95_5, e_95_6, e_95_7, e_95_10, e_95_11, e_95_14, e_95_15, h1, if_true, true_or, or_true]
  · by_cases h2 : b < x
    · rw [zb_f (p := ¬ x < a ∧ ¬ b < x) (fun q => q.2 h2)]
      simp only [e_95_0, e_95_1, e_95_2, e_95_5, e_95_6, e_95_7, e_95_10, e_95_11, e_95_14, e_95_15, h1, h2, if_true, if_false, true_or, or_true]
    · rw [zb_t (p := ¬ x < a ∧ ¬ b < x) ⟨h1, h2⟩]
      simp only [e_95_0, e_95_1, e_95_2, e_95_5, e_95_6, e_95_7, e_95_10, e_95_11, e_95_14, e_95_15, h1, h2, if_false, true_or, or_true]
theorem k_within {x a b : Int32} {K : Option Value → ix_H → Prop} : Cl xs L 95 [.int x, .int a, .int b] h K ↔ K (some (.int (zb (¬ x < a ∧ ¬ b < x)))) h := Cl_of xs L x_within
def m_send (s : MM) (a b w : Int32) : MM := mI (mJ s (s.1 170 30 &&& 63).toNatClampNeg ((((s.1 170 1).toInt64 * 4 + a.toInt64) * 8 + b.toInt64) * 1024 + w.toInt64)) 170 30 (s.1 170 30 + 1)
theorem in63 (x : Int32) : vp_in (x &&& 63) 64 := pk_andIn x 6 (by decide +kernel) (by decide)
theorem x_send {a b w : Int32} : Ex xs L 107 [.ref 170, .int a, .int b, .int w] (hh c s) (none, hh c (m_send s a b w)) := by
  refine Ex_of xs L rfl ?_
  show Ev xs L _ (0, [.ref 170, .int a, .int b, .int w, .retAddr 1, .retAddr 1], [], hh c s) _
  simp only [e_107_0, e_107_1, e_107_4, e_107_5, e_107_8, e_107_9, e_107_10, e_107_11, e_107_12, e_107_15, e_107_16, e_107_17, e_107_18, e_107_19, e_107_21, e_107_22, e_107_25, e_107_26, e_107_29, e_107_31, e_107_32, e_107_34, e_107_37, e_107_38, e_107_39, e_107_40, e_107_41, e_107_42, e_107_43, e_107_44, e_107_47, e_107_48, e_107_49, e_107_52, Tm, J_195, sJ_195, I_hi, sI_hi, Tm_secret, Lm_secret, Rm_secret, Tm_admitted, Lm_admitted, Rm_admitted, Tm_hasNonce, Lm_hasNonce, Rm_hasNonce, Tm_nonce, Lm_nonce, Rm_nonce, Tm_madeAt, Lm_madeAt, Rm_madeAt, Tm_used, Lm_used, Rm_used, Tm_end, Lm_end, Rm_end, Tm_heavy, Lm_heavy, Rm_heavy, Tm_first, Lm_first, Rm_first, Tm_mark, Lm_mark, Rm_mark, Tm_server, Lm_server, Rm_server, Tm_shown, Lm_shown, Rm_shown, Tm_serverTimer, Lm_serverTimer, Rm_serverTimer, Tm_setG, Lm_setG, Rm_setG, Tm_many, Lm_many, Rm_many, Tm_state, Lm_state, Rm_state, Tm_contact, Lm_contact, Rm_contact, Tm_wanted, Lm_wanted, Rm_wanted, Tm_cancelSent, Lm_cancelSent, Rm_cancelSent, Tm_result, Lm_result, Rm_result, Tm_came, Lm_came, Rm_came, Tm_timer, Lm_timer, Rm_timer, Tm_setA, Lm_setA, Rm_setA, Tm_setE, Lm_setE, Rm_setE, Tm_log, Lm_log, Rm_log, tl_s, tl_n, rf_s, rf_n, cs_nil, cs_cons, cat_r, cat_i, cat_l, cat_n, cat_a, Nat.reduceAdd, Nat.reduceMul, Nat.reduceLeDiff, Nat.reduceEqDiff, Nat.reduceLT, and_self, and_true, true_and, and_false, false_and, or_true, true_or, or_false, false_or, if_true, if_false, not_true_eq_false, not_false_eq_true, reduceCtorEq, reduceIte, in63, mJ_1, m_send]
theorem k_send {a b w : Int32} {K : Option Value → ix_H → Prop} : Cl xs L 107 [.ref 170, .int a, .int b, .int w] (hh c s) K ↔ K none (hh c (m_send s a b w)) := Cl_of xs L x_send
end MO
