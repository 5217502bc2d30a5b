theorem mI_id {s : MM} {p j : Nat} {v : Int32} (h : s.1 p j = v) : mI s p j v = s := by
  refine Prod.ext (funext fun q => funext fun i => ?_) rfl
  rw [mI_at]
  split
  · next e => rw [e.1, e.2, h]
  · rfl
theorem RV_4 {τ : Nat → Nat} {t : Nat} {r : Nat → Nat} {sa se : Nat} {st cs x0 x4 : Int32} (h : RV τ t r sa se st cs x0 x4) (h4 : r 4 ≤ τ 4) : r 4 = 0 := by
  rcases h with w | w | w | w
  · exact w.2.2.2.2.2.2.2.2.2.1
  · rcases w.2.2.2.2 with v | v
    · exact v.2.1
    · apply Classical.byContradiction
      intro n
      have := (v.2.2 n).1
      omega
  · exact w.2.2.2.2.1
  · exact w.2.2
-- the answer to a cancel has come
theorem RB_cd {τ : Nat → Nat} {t M : Nat} {r : Nat → Nat} {sa se : Nat} {c : CM} {s : MM} {a i : Nat} (h : RB τ t M r sa se c s a i) : RB τ t M (a_r r 4 0) sa se (tq_stop c (pT a i 4)) (mI s 192 (6 * (4 * a + i) + 4) 0) a i := by
  obtain ⟨⟨g1, g2, g3, g4, g5⟩, g6, ⟨g7, g8⟩, g9⟩ := h
  refine ⟨⟨?_, ?_, ?_, ?_, ?_⟩, ?_, ⟨?_, ?_⟩, ?_⟩
  · simp only [cI_at, set_at, stop_t, add_at, nBT, nTB, nB2, nT2, n2B, n2T, nB1, nT1, n1B, n1T, n12, n21, pT_e, mI_at, send_at, e60, e6k, eq_self, true_and, and_true, false_and, and_false, and_self, if_true, if_false, Nat.reduceEqDiff, reduceIte, Nat.reduceAdd]; exact g1
  · simp only [cI_at, set_at, stop_t, add_at, nBT, nTB, nB2, nT2, n2B, n2T, nB1, nT1, n1B, n1T, n12, n21, pT_e, mI_at, send_at, e60, e6k, eq_self, true_and, and_true, false_and, and_false, and_self, if_true, if_false, Nat.reduceEqDiff, reduceIte, Nat.reduceAdd]; exact g2
  · simp only [cI_at, set_at, stop_t, add_at, nBT, nTB, nB2, nT2, n2B, n2T, nB1, nT1, n1B, n1T, n12, n21, pT_e, mI_at, send_at, e60, e6k, eq_self, true_and, and_true, false_and, and_false, and_self, if_true, if_false, Nat.reduceEqDiff, reduceIte, Nat.reduceAdd]; exact g3
  · simp only [cI_at, set_at, stop_t, add_at, nBT, nTB, nB2, nT2, n2B, n2T, nB1, nT1, n1B, n1T, n12, n21, pT_e, mI_at, send_at, e60, e6k, eq_self, true_and, and_true, false_and, and_false, and_self, if_true, if_false, Nat.reduceEqDiff, reduceIte, Nat.reduceAdd]; exact g4
  · simp only [cI_at, set_at, stop_t, add_at, nBT, nTB, nB2, nT2, n2B, n2T, nB1, nT1, n1B, n1T, n12, n21, pT_e, mI_at, send_at, e60, e6k, eq_self, true_and, and_true, false_and, and_false, and_self, if_true, if_false, Nat.reduceEqDiff, reduceIte, Nat.reduceAdd]; exact g5
  · intro k hk
    rcases k6 hk with rfl | rfl | rfl | rfl | rfl | rfl
    · simp only [cI_at, set_at, stop_t, add_at, nBT, nTB, nB2, nT2, n2B, n2T, nB1, nT1, n1B, n1T, n12, n21, pT_e, mI_at, send_at, e60, e6k, eq_self, true_and, and_true, false_and, and_false, and_self, if_true, if_false, Nat.reduceEqDiff, reduceIte, Nat.reduceAdd, a_r]; exact g6 0 hk
    · simp only [cI_at, set_at, stop_t, add_at, nBT, nTB, nB2, nT2, n2B, n2T, nB1, nT1, n1B, n1T, n12, n21, pT_e, mI_at, send_at, e60, e6k, eq_self, true_and, and_true, false_and, and_false, and_self, if_true, if_false, Nat.reduceEqDiff, reduceIte, Nat.reduceAdd, a_r]; exact g6 1 hk
    · simp only [cI_at, set_at, stop_t, add_at, nBT, nTB, nB2, nT2, n2B, n2T, nB1, nT1, n1B, n1T, n12, n21, pT_e, mI_at, send_at, e60, e6k, eq_self, true_and, and_true, false_and, and_false, and_self, if_true, if_false, Nat.reduceEqDiff, reduceIte, Nat.reduceAdd, a_r]; exact g6 2 hk
    · simp only [cI_at, set_at, stop_t, add_at, nBT, nTB, nB2, nT2, n2B, n2T, nB1, nT1, n1B, n1T, n12, n21, pT_e, mI_at, send_at, e60, e6k, eq_self, true_and, and_true, false_and, and_false, and_self, if_true, if_false, Nat.reduceEqDiff, reduceIte, Nat.reduceAdd, a_r]; exact g6 3 hk
    · simp only [cI_at, set_at, stop_t, add_at, nBT, nTB, nB2, nT2, n2B, n2T, nB1, nT1, n1B, n1T, n12, n21, pT_e, mI_at, send_at, e60, e6k, eq_self, true_and, and_true, false_and, and_false, and_self, if_true, if_false, Nat.reduceEqDiff, reduceIte, Nat.reduceAdd, a_r]; exact ⟨rfl, zT⟩
    · simp only [cI_at, set_at, stop_t, add_at, nBT, nTB, nB2, nT2, n2B, n2T, nB1, nT1, n1B, n1T, n12, n21, pT_e, mI_at, send_at, e60, e6k, eq_self, true_and, and_true, false_and, and_false, and_self, if_true, if_false, Nat.reduceEqDiff, reduceIte, Nat.reduceAdd, a_r]; exact g6 5 hk
  · simp only [cI_at, set_at, stop_t, add_at, nBT, nTB, nB2, nT2, n2B, n2T, nB1, nT1, n1B, n1T, n12, n21, pT_e, mI_at, send_at, e60, e6k, eq_self, true_and, and_true, false_and, and_false, and_self, if_true, if_false, Nat.reduceEqDiff, reduceIte, Nat.reduceAdd]; exact g7
  · simp only [cI_at, set_at, stop_t, add_at, nBT, nTB, nB2, nT2, n2B, n2T, nB1, nT1, n1B, n1T, n12, n21, pT_e, mI_at, send_at, e60, e6k, eq_self, true_and, and_true, false_and, and_false, and_self, if_true, if_false, Nat.reduceEqDiff, reduceIte, Nat.reduceAdd]; exact g8
  · simp only [cI_at, set_at, stop_t, add_at, nBT, nTB, nB2, nT2, n2B, n2T, nB1, nT1, n1B, n1T, n12, n21, pT_e, mI_at, send_at, e60, e6k, eq_self, true_and, and_true, false_and, and_false, and_self, if_true, if_false, Nat.reduceEqDiff, reduceIte, Nat.reduceAdd]
    have e : ∀ k, ¬ k = 4 → a_r r 4 0 k = r k := fun k hk => by unfold a_r; rw [if_neg hk]
    have e4 : a_r r 4 0 4 = 0 := rfl
    unfold RV at g9 ⊢
    rw [e 0 (by decide), e 1 (by decide), e 2 (by decide), e 3 (by decide), e 5 (by decide), e4]
    rcases g9 with w | w | w | w
    · obtain ⟨w1, w2, w3, w4, w5, w6, w7, w8, w9, w10, w11⟩ := w
      exact Or.inl ⟨w1, w2, w3, w4, w5, w6, w7, w8, w9, rfl, w11⟩
    · obtain ⟨w1, w2, w3, w4, w5⟩ := w
      refine Or.inr (Or.inl ⟨w1, w2, w3, w4, ?_⟩)
      rcases w5 with v | v
      · exact Or.inl ⟨v.1, rfl, v.2.2⟩
      · exact Or.inr ⟨v.1, v.2.1, fun n => absurd rfl n⟩
    · obtain ⟨w1, w2, w3, w4, w5, w6⟩ := w
      exact Or.inr (Or.inr (Or.inl ⟨w1, w2, w3, w4, rfl, w6⟩))
    · refine Or.inr (Or.inr (Or.inr ⟨w.1, fun k hk => ?_, rfl⟩))
      by_cases q : k = 4
      · rw [q, e4]; exact Nat.zero_le _
      · rw [e k q]; exact w.2.1 k hk
theorem SN_cd {N t M a n r i : Nat} {c : CM} {s : MM} (h : SN N t M a n r c s) (hi : i < n) : SN N t M a n r (tq_stop c (pT a i 4)) (mI s 192 (6 * (4 * a + i) + 4) 0) ∧ Fr a c (tq_stop c (pT a i 4)) ∧ Fm a s (mI s 192 (6 * (4 * a + i) + 4) 0) := by
  obtain ⟨r0, sa, se, hB⟩ := h.1.2.1.2.2.2.2.1 i hi
  have hs : Td (QB (4 * a + i)) s (mI s 192 (6 * (4 * a + i) + 4) 0) := Td_I (QB_t (by decide))
  have hg : (m_going (mI s 192 (6 * (4 * a + i) + 4) 0) (4 * a + i) ↔ m_going s (4 * a + i)) ∧ (mI s 192 (6 * (4 * a + i) + 4) 0).1 190 (4 * a + i) = s.1 190 (4 * a + i) ∧ (mI s 192 (6 * (4 * a + i) + 4) 0).1 191 (4 * a + i) = s.1 191 (4 * a + i) := by
    unfold m_going
    simp only [mI_at, Nat.reduceEqDiff, false_and, if_false, and_self]
  obtain ⟨q1, q2, q3⟩ := SB_b (τ' := fun _ => N) h.1 hi (RG_m (RG_stp h.1.1 g3T) (by decide)) (Tc_stp (PB_T (by decide))) hs ⟨_, _, _, RB_cd hB⟩ ⟨by simp only [cI_at, set_at, stop_t, add_at, nBT, nTB, nB2, nT2, n2B, n2T, nB1, nT1, n1B, n1T, n12, n21, pT_e, mI_at, send_at, e60, e6k, eq_self, true_and, and_true, false_and, and_false, and_self, if_true, if_false, Nat.reduceEqDiff, reduceIte, Nat.reduceAdd], by simp only [cI_at, set_at, stop_t, add_at, nBT, nTB, nB2, nT2, n2B, n2T, nB1, nT1, n1B, n1T, n12, n21, pT_e, mI_at, send_at, e60, e6k, eq_self, true_and, and_true, false_and, and_false, and_self, if_true, if_false, Nat.reduceEqDiff, reduceIte, Nat.reduceAdd], by simp only [cI_at, set_at, stop_t, add_at, nBT, nTB, nB2, nT2, n2B, n2T, nB1, nT1, n1B, n1T, n12, n21, pT_e, mI_at, send_at, e60, e6k, eq_self, true_and, and_true, false_and, and_false, and_self, if_true, if_false, Nat.reduceEqDiff, reduceIte, Nat.reduceAdd]⟩ hg
  rw [show (fun j => if j = i then (fun _ => N) else (fun (_ _ : Nat) => N) j) = fun _ _ => N by funext j; split <;> rfl] at q1
  exact ⟨⟨q1, Q1_b h.2 hs ⟨hg.1, hg.2.1⟩⟩, q2, q3⟩
theorem SN_co {N t M a n r : Nat} {c : CM} {s : MM} (h : SN N t M a n r c s) (hM : N + 200 * t ≤ M) (ht : 1 ≤ t) : SN N t M a n r (fi_ca c a n) (m_canc s a n) ∧ Fr a c (fi_ca c a n) ∧ Fm a s (m_canc s a n) := by
  unfold fi_ca m_canc
  obtain ⟨q, sg, hS⟩ := h.1.2.1.2.1
  have e := RS_n (v := 1) hS (by decide) (by decide)
  by_cases h1 : s.1 181 a = 1
  · rw [if_pos (e.mpr h1), if_pos h1]
    obtain ⟨q1, q2, q3, q4⟩ := SB_co (but := -1) h.1 (fun _ _ => Nat.le_refl _) hM ht (fun i hi w => by
      have n4 := h.1.2.1.1.2.2.1
      have i4 : i < 4 := by omega
      exfalso
      have a1 : (nI i).toInt = i := nI_toInt (by omega)
      rw [w] at a1
      have a2 : (-1 : Int32).toInt = -1 := by decide
      omega)
    exact ⟨⟨q1, RQ1_eq h.2 (fun w => by rw [← q4.2.2.2.1]; exact w) (fun i hi => ⟨(q4.2.2.1 i hi).1, (q4.2.2.1 i hi).2.1⟩)⟩, q2, q3⟩
  · rw [if_neg (fun w => h1 (e.mp w)), if_neg h1]
    exact ⟨h, Fr_r _ _, Fm_r⟩
theorem SN_ack {N t M a n r : Nat} {c : CM} {s : MM} (h : SN N t M a n r c s) (hM : N + 200 * t ≤ M) (ht : 1 ≤ t) (h2 : s.1 181 a = 2) : SN N t M a n r (sv_conf c a) (mI (m_serve s a 3) 183 (4 * a + 2) (s.1 170 1 + 8 * s.1 170 0)) ∧ Fr a c (sv_conf c a) ∧ Fm a s (mI (m_serve s a 3) 183 (4 * a + 2) (s.1 170 1 + 8 * s.1 170 0)) := by
  obtain ⟨q, sg, hS⟩ := h.1.2.1.2.1
  have h3 : q 3 ≤ N := by
    have w := hS.2.2.2
    rw [h2] at w
    rcases w with w | w | w | w | w | w
    · exact absurd w.1 (by decide)
    · exact absurd w.1 (by decide)
    · exact w.2.2.2.2.2.2.2
    · exact absurd w.1 (by decide)
    · exact absurd w.1 (by decide)
    · exact absurd w.1 (by decide)
  obtain ⟨a1, a2⟩ := RS_conf h.1.1 hS h3 (fun _ => Nat.le_refl _) (by omega) ht
  have s3 : (mI (m_serve s a 3) 183 (4 * a + 2) (s.1 170 1 + 8 * s.1 170 0)).1 181 a = 3 := by
    unfold m_serve
    rw [if_neg (by decide)]
    simp only [mI_at, Nat.reduceEqDiff, false_and, and_self, if_true, if_false]
  have hd : Td (QS a) s (mI (m_serve s a 3) 183 (4 * a + 2) (s.1 170 1 + 8 * s.1 170 0)) := Td_t Td_serve (Td_I (QS_t (by decide)))
  obtain ⟨q1, q2, q3⟩ := SB_sv h.1 a1 Ts_conf hd ⟨_, _, a2⟩ (fun w => by rw [s3] at w; exact absurd w (by decide))
  exact ⟨⟨q1, Q1_s h.2 hd (fun w => by rw [s3] at w; exact absurd w (by decide))⟩, q2, q3⟩
theorem SN_iv {N t M a n r : Nat} {c : CM} {s : MM} (h : SN N t M a n r c s) : SN N t M a n r (sv_again c a) (m_iv1 s a) ∧ Fr a c (sv_again c a) ∧ Fm a s (m_iv1 s a) := by
  unfold sv_again m_iv1
  obtain ⟨q, sg, hS⟩ := h.1.2.1.2.1
  have e1 := RS_n (v := 1) hS (by decide) (by decide)
  have e2 := RS_n (v := 2) hS (by decide) (by decide)
  by_cases h1 : s.1 181 a = 1 ∨ s.1 181 a = 2
  · rw [if_pos (show c.1 (pS a) 7 = 1 ∨ c.1 (pS a) 7 = 2 by rw [e1, e2]; exact h1), if_pos h1, hS.1.2.1]
    exact SN_tell h (Or.inr rfl)
  · rw [if_neg (show ¬ (c.1 (pS a) 7 = 1 ∨ c.1 (pS a) 7 = 2) by rw [e1, e2]; exact h1), if_neg h1]
    exact ⟨h, Fr_r _ _, Fm_r⟩
section OP
variable {xs : Nat → Int32} {L C : Nat} {c : CM} {s : MM}
theorem st_cd {x b : Int32} (h : Rel C c s) (hC : C < 512) : St xs L 9 126 [.int x, .int b] C c s := by
  obtain ⟨N, t, r, A, h⟩ := h
  rcases at_nb (xs := xs) (L := L) h x b with ⟨h1, h2⟩ | ⟨a, i, ha, rfl, hi, rfl, hl, ho⟩
  · exact ⟨0, c, s, x_fcd0 h1, x_cdN (h2 c), N, t, r, A, RE_up h hC⟩
  · obtain ⟨b1, b2, b3⟩ := QA_nb h.2.1 ha
    obtain ⟨n1, n2, n3, n4, n5, n6⟩ := RE_N h
    obtain ⟨r0, sa, se, hB⟩ := (h.2.1.2.2 a ha).1.2.2.2.2.1 i hi
    have z := hB.2.1 4 (by decide)
    by_cases e : N < r0 4
    · have zc : c.1 (pT a i 4) 2 = nI (r0 4) := by rw [z.2.1, if_pos e]
      have y := x_cd (xs := xs) (L := L) (c := tq_stop c (pT a i 4)) ha b3 b2 ho hi
      rw [if_neg (show ¬ s.1 192 (6 * (4 * a + i) + 4) = 0 by
        rw [z.1]; intro w
        have := (nI_eq (a := r0 4) (b := 0) (by omega) (by omega)).mp w
        omega)] at y
      obtain ⟨q1, q2, q3⟩ := SN_cd (RE_SN h ha) hi
      refine ⟨1, _, _, x_fcd ha b1 b2 hl hi ?_, y, N, t, r, A, RE_call h hC ha (Nat.le_refl _) (by omega) q1 q2 q3⟩
      rw [zc]
      intro w
      have := (nI_eq (a := r0 4) (b := 2147483647) (by omega) (by omega)).mp w
      omega
    · have zc : c.1 (pT a i 4) 2 = NV := by rw [z.2.1, if_neg e]
      have z0 : s.1 192 (6 * (4 * a + i) + 4) = 0 := by rw [z.1, RV_4 hB.2.2.2 (show r0 4 ≤ N by omega)]; rfl
      have y := x_cd (xs := xs) (L := L) (c := c) ha b3 b2 ho hi
      rw [if_pos z0, mI_id z0] at y
      exact ⟨0, c, s, x_fcd1 ha b1 b2 hl hi zc, y, N, t, r, A, RE_up h hC⟩
theorem st_ca {x : Int32} (h : Rel C c s) (hC : C < 512) : St xs L 10 127 [.int x] C c s := by
  obtain ⟨N, t, r, A, h⟩ := h
  rcases at_nc (xs := xs) (L := L) h x with ⟨h1, h2⟩ | ⟨a, ha, rfl, hl, ho⟩
  · exact ⟨-1, c, s, x_fca0 h1, x_cancN (h2 c), N, t, r, A, RE_up h hC⟩
  · obtain ⟨b1, b2, b3⟩ := QA_nb h.2.1 ha
    obtain ⟨n1, n2, n3, n4, n5, n6⟩ := RE_N h
    obtain ⟨q1, q2, q3⟩ := SN_co (RE_SN h ha) n5 n3
    have y := x_canc (xs := xs) (L := L) (c := fi_ca c a (nb c a)) ha b3 b2 ho
    rw [← q1.1.1.2.2.1.1, ← h.2.1.1.2.2.1.1] at y
    exact ⟨_, _, _, x_fca ha b1 b2 hl, y, N, t, r, A, RE_call h hC ha (Nat.le_refl _) (by omega) q1 q2 q3⟩
theorem st_ak {x : Int32} (h : Rel C c s) (hC : C < 512) : St xs L 11 128 [.int x] C c s := by
  obtain ⟨N, t, r, A, h⟩ := h
  rcases at_nc (xs := xs) (L := L) h x with ⟨h1, h2⟩ | ⟨a, ha, rfl, hl, ho⟩
  · exact ⟨0, c, s, x_fak0 h1, x_ackN (h2 c), N, t, r, A, RE_up h hC⟩
  · obtain ⟨b1, b2, b3⟩ := QA_nb h.2.1 ha
    obtain ⟨n1, n2, n3, n4, n5, n6⟩ := RE_N h
    obtain ⟨q, sg, hS⟩ := (h.2.1.2.2 a ha).1.2.1
    have e2 := RS_n (v := 2) hS (by decide) (by decide)
    by_cases h2 : s.1 181 a = 2
    · obtain ⟨q1, q2, q3⟩ := SN_ack (RE_SN h ha) n5 n3 h2
      exact ⟨1, _, _, x_fak ha b1 b2 hl (e2.mpr h2), x_ack1 ha b3 b2 ho h2, N, t, r, A, RE_call h hC ha (Nat.le_refl _) (by omega) q1 q2 q3⟩
    · exact ⟨0, c, s, x_fak1 ha b1 b2 hl (fun w => h2 (e2.mp w)), x_ack0 ha b3 b2 ho h2, N, t, r, A, RE_up h hC⟩
theorem st_tk {x : Int32} (h : Rel C c s) (hC : C < 512) : St xs L 12 132 [.int x] C c s := by
  obtain ⟨N, t, r, A, h⟩ := h
  by_cases hx : x < 0 ∨ 2000 < x
  · refine ⟨-1, c, s, x_ftkN ?_, x_tickN hx, N, t, r, A, RE_up h hC⟩
    rcases hx with hx | hx
    · exact Or.inl hx
    · exact Or.inr (Int32.not_le.mpr hx)
  · have h1 : ¬ x < 0 := fun w => hx (Or.inl w)
    have h2 : ¬ 2000 < x := fun w => hx (Or.inr w)
    rw [Int32.lt_iff_toInt_lt] at h1 h2
    have e1 : (0 : Int32).toInt = 0 := by decide
    have e2 : (2000 : Int32).toInt = 2000 := by decide
    obtain ⟨n, hn, rfl⟩ := in_n (x := x) (b := 2001) (by omega) (by omega) (by omega)
    obtain ⟨n1, n2, n3, n4, n5, n6⟩ := RE_N h
    have hb := h.1
    obtain ⟨U, hU⟩ : ∃ U, N + n = U := ⟨_, rfl⟩
    obtain ⟨r', q1, q2, q3⟩ := QA_tl (U := U) (R := 1000000000) (f := nb c) n3 n4 (by omega) (by omega) n N r c s hU (by omega) h.2.1 (fun _ _ => rfl)
    have y := x_tick (xs := xs) (L := L) (c := fi_tl n c (fi_due c)) (N := n) (by omega) (QA_Mok h.2.1)
    rw [← q1.1.2.2.1.1, ← h.2.1.1.2.2.1.1] at y
    refine ⟨_, _, _, x_ftk (by omega) (QA_Nok h.2.1), y, U, t, r', A, ⟨n3, n4, by omega, by omega, by omega, by omega⟩, q1, q3.2.2.2.trans h.2.2.1, fun v hv => ?_⟩
    exact UR_eq (h.2.2.2 v hv) (by omega) (by omega) (Nat.le_refl _) (fun q j w1 w2 => q3.1 q j (by unfold pU at *; omega) (by unfold pU at *; omega)) (fun j => by rw [q3.2.1]) (fun p p1 p2 => q3.2.2.1 p v (by omega) (by omega)) (fun p x p1 p2 hx => q3.2.2.1 p _ (by omega) (by omega))
end OP
