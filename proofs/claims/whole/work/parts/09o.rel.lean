theorem ri_1 {c : CM} {a i : Nat} (h : ¬ c.1 (pT a i 1) 2 = c.1 1 1) : b_r1 c a i = c := if_neg h
theorem ri_2 {c : CM} {a i : Nat} (h : ¬ c.1 (pT a i 2) 2 = c.1 1 1) : b_r2 c a i = c := if_neg h
theorem ri_3 {c : CM} {a i : Nat} (h : ¬ c.1 (pT a i 3) 2 = c.1 1 1) : b_r3 c a i = c := if_neg h
theorem ri_4 {c : CM} {a i : Nat} (h : ¬ c.1 (pT a i 4) 2 = c.1 1 1) : b_r4 c a i = c := if_neg h
theorem ri_5 {c : CM} {a i : Nat} (h : ¬ c.1 (pT a i 5) 2 = c.1 1 1) : b_r5 c a i = c := if_neg h
theorem di_1 {s : MM} {a i n : Nat} (h : ¬ s.1 192 (6 * (4 * a + i) + 1) = s.1 170 1) : m_d1 s a i n = s := if_neg h
theorem di_2 {s : MM} {a i : Nat} (h : ¬ s.1 192 (6 * (4 * a + i) + 2) = s.1 170 1) : m_d2 s a i = s := if_neg h
theorem di_3 {s : MM} {a i : Nat} (h : ¬ s.1 192 (6 * (4 * a + i) + 3) = s.1 170 1) : m_d3 s a i = s := if_neg h
theorem di_4 {s : MM} {a i : Nat} (h : ¬ s.1 192 (6 * (4 * a + i) + 4) = s.1 170 1) : m_d4 s a i = s := if_neg h
theorem di_5 {s : MM} {a i n : Nat} (h : ¬ s.1 192 (6 * (4 * a + i) + 5) = s.1 170 1) : m_d5 s a i n = s := if_neg h
theorem NV_N {N : Nat} (h : N < 2147483647) : ¬ NV = nI N := fun e => by
  have : NV = nI 2147483647 := by decide
  rw [this, nI_eq (by omega) (by omega)] at e
  omega
theorem z_N {N : Nat} (h1 : 1 ≤ N) (h : N < 2147483647) : ¬ (0 : Int32) = nI N := fun e => by
  have : (0 : Int32) = nI 0 := by decide
  rw [this, nI_eq (by omega) (by omega)] at e
  omega
theorem out_1 {c : CM} {a i : Nat} {w : Int32} : (b_out c a i w).1 1 1 = c.1 1 1 := by
  unfold b_out
  rw [bmv_1]
  simp only [cI_at, set_at, stop_t, add_at, nBT, nTB, nB2, nT2, n2B, n2T, nB1, nT1, n1B, n1T, n12, n21, pT_e, mI_at, send_at, e60, e6k, eq_self, true_and, and_true, false_and, and_false, and_self, if_true, if_false, Nat.reduceEqDiff, reduceIte, Nat.reduceAdd]
theorem up_b {τ : Nat → Nat} {j N : Nat} (h : ∀ k, τ k + 1 = N ∨ τ k = N) : ∀ k, up τ j N k + 1 = N ∨ up τ j N k = N := fun k => by
  unfold up
  split
  · exact Or.inr rfl
  · exact h k
theorem up_l {τ : Nat → Nat} {N : Nat} (h : ∀ k, τ k + 1 = N ∨ τ k = N) : ∀ k, τ k ≤ N := fun k => by have := h k; omega
theorem SQ_bdue {τs : Nat → Nat} {τb : Nat → Nat → Nat} {T N t M a n r i : Nat} {c : CM} {s : MM} (h : SQ τs τb N t M a n r c s) (hi : i < n) (hτ : τb i = fun _ => T) (hN : T + 1 = N) (hs : ∀ k, τs k ≤ N) (hM : N + 200 * t ≤ M) (hM2 : M < 2147483647) (ht : 1 ≤ t) (ht2 : t ≤ 100) (hr : r + 1 < 2147483647) : ∃ r', SQ τs (ub τb i (fun _ => N)) N t M a n r' (cl_rb c a i n) (m_bdue s a i n) ∧ r ≤ r' ∧ r' ≤ r + 1 ∧ Fr a c (cl_rb c a i n) ∧ Fm a s (m_bdue s a i n) := by
  have hn := h.1.2.1.1.2.2.1
  have i4 : i < 4 := by omega
  have hst0 := RC_st h.1.2.1 hi
  have uT : ∀ k : Nat, (fun _ : Nat => T) k + 1 = N ∨ (fun _ : Nat => T) k = N := fun _ => Or.inl hN
  -- A
  have S0 : SQ τs (ub τb i (up (fun _ => T) 0 N)) N t M a n r (b_r0 c a i) (m_d0 s a i) ∧ Fr a c (b_r0 c a i) ∧ Fm a s (m_d0 s a i) := by
    obtain ⟨⟨g1, g2, g3, g4⟩, q1⟩ := h
    obtain ⟨r0, sa, se, hB⟩ := g2.2.2.2.2.1 i hi
    rw [hτ] at hB
    obtain ⟨hG1, ⟨r1, sa1, hB1⟩, -⟩ := RB_d0 g1 hB (g2.2.2.2.1 i i4) hN hN hM hM2 ht
    refine SQ_b ⟨⟨g1, g2, g3, g4⟩, q1⟩ hi hG1 Tb_r0 Td_d0 ⟨r1, sa1, se, hB1⟩ ⟨r0_B, r0_B, r0_B⟩ ⟨?_, d0_s (by omega), d0_s (by omega)⟩
    unfold m_going; rw [d0_s (by omega)]
  have e0 : (m_d0 s a i).1 186 (4 * a + i) = s.1 186 (4 * a + i) := d0_s (by omega)
  obtain ⟨S0, F0, M0⟩ := S0
  have eR : b_run c a i = b_r5 (b_r4 (b_r3 (b_r2 (b_r1 (b_r0 c a i) a i) a i) a i) a i) a i := rfl
  have eD : m_bdue s a i n = m_d5 (m_d4 (m_d3 (m_d2 (m_d1 (m_d0 s a i) a i n) a i) a i) a i) a i n := rfl
  generalize b_r0 c a i = c0 at *
  generalize m_d0 s a i = s0 at *
  obtain ⟨r0, sa0, se0, hB0⟩ := S0.1.2.1.2.2.2.2.1 i hi
  rw [ub_i] at hB0
  have hG0 := S0.1.1
  have z1 := hB0.2.1 1 (by decide)
  have c1 := du_c z1.2.1 (show up (fun _ => T) 0 N 1 + 1 = N from hN) (by omega) (by omega)
  have m1 : s0.1 192 (6 * (4 * a + i) + 1) = nI N ↔ r0 1 = N := by rw [z1.1]; exact nI_eq (by omega) (by omega)
  by_cases h1 : r0 1 = N
  · -- B is due
    have hs1 : s0.1 186 (4 * a + i) = 1 := by
      have u1 : up (fun _ => T) 0 N 1 = T := rfl
      rcases hB0.2.2.2 with w | w | w | w
      · exact w.1
      · have := w.2.2.1; omega
      · have := w.2.2.1; omega
      · have := w.2.1 1 (by decide); omega
    have ho0 : b_op c0 a i := Or.inl (hB0.1.1.trans hs1)
    have d3 : ¬ s0.1 192 (6 * (4 * a + i) + 3) = nI N := by
      rw [(hB0.2.1 3 (by decide)).1, nI_eq (by have := (hB0.2.1 3 (by decide)).2.2; omega) (by omega)]
      have := (RV_open hB0.2.2.2 (Or.inl hs1)).1
      have u3 : up (fun _ => T) 0 N 3 = T := rfl
      omega
    obtain ⟨Z1, Z2, Z3, Z4, Z5, Z6, Z7⟩ := SQ_to S0 hi ho0 (by rw [ub_i]; exact up_l (up_b uT)) hs hM ht hr (by omega) hM2 (by rw [ub_i]; exact up_b uT)
    rw [ub_ub] at Z1
    have x1 : b_r1 c0 a i = b_out c0 a i 408 := if_pos (by rw [hG0.2.1.1]; exact c1.mpr h1)
    have y1 : m_d1 s0 a i n = m_timeout s0 a i n := if_pos (by rw [hG0.2.1.2]; exact m1.mpr h1)
    have tc : (b_out c0 a i 408).1 1 1 = nI N := out_1.trans hG0.2.1.1
    have tm : (m_timeout s0 a i n).1 170 1 = nI N := Z1.1.1.2.1.2
    have nv : ∀ k, k < 6 → ¬ (b_out c0 a i 408).1 (pT a i k) 2 = (b_out c0 a i 408).1 1 1 := fun k hk => by rw [Z5 k hk, tc]; exact NV_N (by omega)
    have nm : ∀ k, k < 6 → ¬ (m_timeout s0 a i n).1 192 (6 * (4 * a + i) + k) = (m_timeout s0 a i n).1 170 1 := fun k hk => by
      rw [tm]
      by_cases e : k = 3
      · rw [e, Z6]; exact d3
      · rw [Z4 k hk e]; exact z_N (by omega) (by omega)
    have E1 : b_run c a i = b_out c0 a i 408 := by
      rw [eR, x1, ri_2 (nv 2 (by decide)), ri_3 (nv 3 (by decide)), ri_4 (nv 4 (by decide)), ri_5 (nv 5 (by decide))]
    have E2 : m_bdue s a i n = m_timeout s0 a i n := by
      rw [eD, y1, di_2 (nm 2 (by decide)), di_3 (nm 3 (by decide)), di_4 (nm 4 (by decide)), di_5 (nm 5 (by decide))]
    have hend : b_ended c a i := ⟨Or.inl (hst0.trans (e0.symm.trans hs1)), by rw [E1]; exact Z7⟩
    have E3 : cl_rb c a i n = cl_all (cl_cnt (b_out c0 a i 408) a i) a n := by
      unfold cl_rb
      rw [@if_pos _ (b_endedD c a i) hend, E1]
    rw [E2, E3]
    exact ⟨r + 1, Z1, by omega, Nat.le_refl _, Fr_t F0 Z2, Fm_t M0 Z3⟩
  · -- B is not due
    have x1 : b_r1 c0 a i = c0 := ri_1 (by rw [hG0.2.1.1]; exact fun w => h1 (c1.mp w))
    have y1 : m_d1 s0 a i n = s0 := di_1 (by rw [hG0.2.1.2]; exact fun w => h1 (m1.mp w))
    rw [x1] at eR
    rw [y1] at eD
    have hB1 := RB_mono hB0 (up_mono (show up (fun _ => T) 0 N 1 + 1 = N from hN) h1)
    -- C
    obtain ⟨hG2, r2, se2, hB2⟩ := RB_d2 hG0 hB1 (S0.1.2.1.2.2.2.1 i i4) (show up (up (fun _ => T) 0 N) 1 N 2 + 1 = N from hN) (show N ≤ up (up (fun _ => T) 0 N) 1 N 1 + 1 from by show N ≤ N + 1; omega) (up_l (up_b (up_b uT))) hM hM2 ht
    have S2 := SQ_b S0 hi hG2 Tb_r2 Td_d2 ⟨r2, sa0, se2, hB2⟩ r2_B ⟨by unfold m_going; rw [d2_s.1], d2_s.2.1, d2_s.2.2⟩
    rw [ub_ub] at S2
    have e2 : (m_d2 s0 a i).1 186 (4 * a + i) = s.1 186 (4 * a + i) := d2_s.1.trans e0
    obtain ⟨S2, F2, M2⟩ := S2
    generalize b_r2 c0 a i = c2 at *
    generalize m_d2 s0 a i = s2 at *
    -- D
    obtain ⟨hG3, r3, hB3⟩ := RB_d3 hG2 hB2 (show up (up (up (fun _ => T) 0 N) 1 N) 2 N 3 + 1 = N from hN) hM hM2
    have e3 : (m_d3 s2 a i).1 186 (4 * a + i) = s.1 186 (4 * a + i) ∨ (s.1 186 (4 * a + i) = 3 ∧ (m_d3 s2 a i).1 186 (4 * a + i) = 4) := by
      unfold m_d3
      by_cases hd : s2.1 192 (6 * (4 * a + i) + 3) = s2.1 170 1
      · rw [if_pos hd]
        refine Or.inr ⟨?_, be_4.1⟩
        rw [hG2.2.1.2, (hB2.2.1 3 (by decide)).1, nI_eq (by have := (hB2.2.1 3 (by decide)).2.2; omega) (by omega)] at hd
        have u3 : up (up (up (fun _ => T) 0 N) 1 N) 2 N 3 = T := rfl
        rw [← e2]
        rcases hB2.2.2.2 with w | w | w | w
        · have := w.2.2.2.2.2.2.2.2.1; omega
        · have := w.2.2.2.1; omega
        · exact w.1
        · have := w.2.1 3 (by decide); omega
      · rw [if_neg hd]; exact Or.inl e2
    have g3 : m_going (m_d3 s2 a i) (4 * a + i) ↔ m_going s2 (4 * a + i) := by
      unfold m_going
      rw [e2]
      rcases e3 with e3 | ⟨e3, e3'⟩
      · rw [e3]
      · rw [e3, e3']; decide
    have S3 := SQ_b S2 hi hG3 Tb_r3 Td_d3 ⟨r3, sa0, se2, hB3⟩ ⟨r3_B (by decide), r3_B (by decide), r3_B (by decide)⟩ ⟨g3, d3_s.1, d3_s.2⟩
    rw [ub_ub] at S3
    obtain ⟨S3, F3, M3⟩ := S3
    generalize b_r3 c2 a i = c3 at *
    generalize m_d3 s2 a i = s3 at *
    -- E
    obtain ⟨hG4, r4, se4, hB4⟩ := RB_d4 hG3 hB3 (S3.1.2.1.2.2.2.1 i i4) (show up (up (up (up (fun _ => T) 0 N) 1 N) 2 N) 3 N 4 + 1 = N from hN) hM hM2 ht ht2
    have S4 := SQ_b S3 hi hG4 Tb_r4 Td_d4 ⟨r4, sa0, se4, hB4⟩ ⟨r4_B, r4_B, r4_B⟩ ⟨by unfold m_going; rw [d4_s (by omega)], d4_s (by omega), d4_s (by omega)⟩
    rw [ub_ub] at S4
    have e4 : (m_d4 s3 a i).1 186 (4 * a + i) = s3.1 186 (4 * a + i) := d4_s (by omega)
    obtain ⟨S4, F4, M4⟩ := S4
    generalize b_r4 c3 a i = c4 at *
    generalize m_d4 s3 a i = s4 at *
    have FF : Fr a c c4 := Fr_t (Fr_t (Fr_t F0 F2) F3) F4
    have MM' : Fm a s s4 := Fm_t (Fm_t (Fm_t M0 M2) M3) M4
    -- F
    have z5 := hB4.2.1 5 (by decide)
    have u5 : up (up (up (up (up (fun _ => T) 0 N) 1 N) 2 N) 3 N) 4 N 5 = T := rfl
    have c5 := du_c z5.2.1 (show up (up (up (up (up (fun _ => T) 0 N) 1 N) 2 N) 3 N) 4 N 5 + 1 = N from hN) (by omega) (by omega)
    have m5 : s4.1 192 (6 * (4 * a + i) + 5) = nI N ↔ r4 5 = N := by rw [z5.1]; exact nI_eq (by omega) (by omega)
    by_cases h5 : r4 5 = N
    · have hs4 : s4.1 186 (4 * a + i) = 2 := by
        rcases hB4.2.2.2 with w | w | w | w
        · have := w.2.2.2.2.2.2.2.2.2.2; omega
        · exact w.1
        · have := w.2.2.2.2.2; omega
        · have := w.2.1 5 (by decide); omega
      have ho4 : b_op c4 a i := Or.inr (hB4.1.1.trans hs4)
      obtain ⟨Z1, Z2, Z3, Z4, Z5, Z6, Z7⟩ := SQ_to S4 hi ho4 (by rw [ub_i]; exact up_l (up_b (up_b (up_b (up_b (up_b uT)))))) hs hM ht hr (by omega) hM2 (by rw [ub_i]; exact up_b (up_b (up_b (up_b (up_b uT)))))
      rw [ub_ub] at Z1
      have x5 : b_r5 c4 a i = b_out c4 a i 408 := if_pos (by rw [hG4.2.1.1]; exact c5.mpr h5)
      have y5 : m_d5 s4 a i n = m_timeout s4 a i n := if_pos (by rw [hG4.2.1.2]; exact m5.mpr h5)
      have E1 : b_run c a i = b_out c4 a i 408 := eR.trans x5
      have E2 : m_bdue s a i n = m_timeout s4 a i n := eD.trans y5
      have hsS : s.1 186 (4 * a + i) = 2 := by
        rcases e3 with e3 | ⟨e3, e3'⟩
        · rw [← e3, ← e4]; exact hs4
        · rw [e4, e3'] at hs4; exact absurd hs4 (by decide)
      have hend : b_ended c a i := ⟨Or.inr (hst0.trans hsS), by rw [E1]; exact Z7⟩
      have E3 : cl_rb c a i n = cl_all (cl_cnt (b_out c4 a i 408) a i) a n := by
        unfold cl_rb
        rw [@if_pos _ (b_endedD c a i) hend, E1]
      rw [E2, E3]
      exact ⟨r + 1, Z1, by omega, Nat.le_refl _, Fr_t FF Z2, Fm_t MM' Z3⟩
    · have x5 : b_r5 c4 a i = c4 := ri_5 (by rw [hG4.2.1.1]; exact fun w => h5 (c5.mp w))
      have y5 : m_d5 s4 a i n = s4 := di_5 (by rw [hG4.2.1.2]; exact fun w => h5 (m5.mp w))
      have E1 : b_run c a i = c4 := eR.trans x5
      have E2 : m_bdue s a i n = s4 := eD.trans y5
      have hend : ¬ b_ended c a i := fun w => by
        refine w.2 ?_
        rw [E1]
        have w1 := w.1
        unfold b_op at w1 ⊢
        rw [hst0] at w1
        rw [hB4.1.1, e4]
        rcases e3 with e3 | ⟨e3, e3'⟩
        · rw [e3]; exact w1
        · rw [e3] at w1; exact absurd w1 (by decide)
      have E3 : cl_rb c a i n = c4 := by
        unfold cl_rb
        rw [@if_neg _ (b_endedD c a i) hend, E1]
      rw [E2, E3]
      have hB5 : RB (fun _ => N) t M r4 sa0 se4 c4 s4 a i := by
        refine RB_mono hB4 (fun k hk => ?_)
        rcases k6 hk with rfl | rfl | rfl | rfl | rfl | rfl
        · exact Iff.rfl
        · exact Iff.rfl
        · exact Iff.rfl
        · exact Iff.rfl
        · exact Iff.rfl
        · show T < r4 5 ↔ N < r4 5
          omega
      have S5 := SQ_b S4 hi hG4 (Tc_r (P := PB a i)) (Td_r (P := QB (4 * a + i))) ⟨r4, sa0, se4, hB5⟩ ⟨rfl, rfl, rfl⟩ ⟨Iff.rfl, rfl, rfl⟩
      rw [ub_ub] at S5
      exact ⟨r, S5.1, Nat.le_refl _, by omega, FF, MM'⟩
