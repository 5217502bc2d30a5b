theorem bit01 (y : Int32) : y &&& 1 = 0 ∨ y &&& 1 = 1 := by
  have h : vp_in (y &&& 1) (2 ^ 1) := pk_andIn y 1 (by decide +kernel) (by decide)
  have h1 : ¬ (y &&& 1) < 0 := fun w => h (Or.inl w)
  have h2 : ¬ 2 ^ 1 ≤ (y &&& 1).toNatClampNeg := fun w => h (Or.inr w)
  rw [Int32.lt_iff_toInt_lt] at h1
  have e : (0 : Int32).toInt = 0 := by decide
  have e2 : (y &&& 1).toNatClampNeg = (y &&& 1).toInt.toNat := rfl
  obtain ⟨i, hi, ei⟩ := in_n (x := y &&& 1) (b := 2) (by omega) (by omega) (by omega)
  rcases (show i = 0 ∨ i = 1 by omega) with rfl | rfl
  · exact Or.inl ei
  · exact Or.inr ei
theorem RE_drop {C N t r A u : Nat} {c c' : CM} {s : MM} (h : RE C N t r A c s) (hu : u < 4) (hF : Fud u c c') (hU : UR N A c' s u) : RE C N t r A c' s := by
  obtain ⟨b, h1, h2, h3⟩ := h
  have g := Gu_d (s := s) hF
  refine ⟨b, QA_user h1 hu g (by rw [hF.1 0 4 (by unfold pU; omega)]; exact h1.1.2.2.2), h2, fun v hv => ?_⟩
  by_cases e : v = u
  · rw [e]; exact hU
  · exact UR_eq (h3 v hv) (Nat.le_refl _) (by omega) (Nat.le_refl _) (fun q j q1 q2 => hF.1 q j (by unfold pU at *; omega)) (fun j => hF.2.1 _ j (by unfold pW; omega)) (fun _ _ _ => rfl) (fun _ _ _ _ _ => rfl)
theorem RE_log {C N t r A : Nat} {c : CM} {s : MM} {x y w : Int32} (h : RE C N t r A c s) (hC : C < 512) : RE (C + 1) N t r A (l_add c x y w) (m_send s x y w) := by
  obtain ⟨⟨b1, b2, b3, b4, b5, b6⟩, ⟨h1, h2, h3⟩, h4, h5⟩ := h
  refine ⟨⟨b1, b2, by omega, by omega, by omega, by omega⟩, ⟨RG_add h1, ?_, fun a ha => CQ_eq (h3 a ha) (Nat.le_refl _) (fun q j hq => ?_) (fun p j hp => ?_)⟩, ?_, fun v hv => UR_eq (h5 v hv) (Nat.le_refl _) (by omega) (Nat.le_refl _) (fun q j q1 q2 => ?_) (fun j => rfl) (fun p p1 p2 => ?_) (fun p x p1 p2 hx => ?_)⟩
  · rw [send_at, if_neg (by omega)]; exact h2
  · rw [add_at, if_neg (by omega)]
  · rw [send_at, if_neg (by unfold MA at hp; omega)]
  · rw [send_at, if_neg (by omega)]; exact h4
  · rw [add_at, if_neg (by unfold pU at *; omega)]
  · rw [send_at, if_neg (by omega)]
  · rw [send_at, if_neg (by omega)]
theorem sub1 (x : Int32) : x + 1 - x = 1 := by rw [Int32.add_comm, Int32.add_sub_cancel]
theorem ans_n {s : MM} {a : Nat} {w : Int32} : (m_answer (m_ivA s a) a w).1 170 30 = s.1 170 30 + 1 := by
  unfold m_answer m_serve m_tell m_ivA m_z4
  rw [if_pos rfl]
  by_cases h : w < 200 ∨ 299 < w
  · rw [if_pos h]
    simp only [mI_at, send_at, Nat.reduceEqDiff, false_and, and_self, if_true, if_false]
  · rw [if_neg h]
    simp only [mI_at, send_at, Nat.reduceEqDiff, false_and, and_self, if_true, if_false]
section OP
variable {xs : Nat → Int32} {L C : Nat} {c : CM} {s : MM}
theorem inv_ref {N t r A a : Nat} {c1 : CM} {u hp vi w z : Int32} {v : Value} {kn : Prop} [Decidable kn] (h : RE C N t r A c s) (h1 : RE C N t r A c1 s) (hC : C < 512) (h22 : c1.1 2 2 = c.1 2 2) (hnb : nb c1 a = nb c a) (ha : a < 4) (hl : cl_live c a (nb c a) = 0) (hw0 : ¬ w = 0) (hw : ¬ w ≤ 0) (hw2 : w < 200 ∨ 299 < w) (hv : v = .null ∨ ∃ p, v = .ref p) (x1 : Ex xs L 20 [.ref 0, .int u] (hh c s) (some v, hh c s)) (x2 : Ex xs L 24 [.ref 0, .int u, .int hp, .int vi] (hh c s) (some (.int w), hh c1 s)) (hk : zb (¬ u < 0 ∧ ¬ 3 < u) = zb kn) (hz : ∀ c', Ex xs L 103 [.ref 170, .int u] (hh c' s) (some (.int z), hh c' s)) (hc : ivcode kn u hp vi z = w) : St xs L 7 124 [.int (nI a), .int u, .int hp, .int vi] C c s := by
  obtain ⟨b1, b2, b3⟩ := QA_nb h.2.1 ha
  obtain ⟨n1, n2, n3, n4, n5, n6⟩ := RE_N h
  have ho : m_on s a (nb c1 a) = 0 := by rw [hnb]; exact (RE_on h ha).mpr hl
  have hl1 : cl_live c1 a (nb c1 a) = 0 := (RE_on h1 ha).mp ho
  have x3 := x_op0 (xs := xs) (L := L) (s := s) (w := w) ha hv hw0 (QA_Nok h1.2.1)
  have x4 := x_fin (hp := hp) (vi := vi) ha b1 b2 hl hv x1 x2 x3
  have e30 := h.2.1.1.2.2.1.1
  have elv := RE_lv h1
  unfold fi_op0 at x4
  by_cases hf : nI (fi_lv c1 4 0 0) + 1 ≤ 12
  · rw [if_pos hf] at x4
    obtain ⟨q1, q2, q3⟩ := SN_ref (w := w) (RE_SN h1 ha) hl1 n5 n3 hw2
    have y := x_ivD (xs := xs) (L := L) (c := cl_ref c1 a w) (kn := kn) (hp := hp) (vi := vi) ha (QA_Mok h1.2.1) rfl ho hk (hz _) (by rw [hc]; exact hw) (by rw [elv]; exact hf)
    rw [hc] at y
    have e1 : (cl_ref c1 a w).1 2 2 - c.1 2 2 = 1 := by
      rw [q1.1.1.2.2.1.1, ans_n, e30, sub1]
    rw [e1] at x4
    exact ⟨1, _, _, x4, y, N, t, r, A, RE_call h1 hC ha (Nat.le_refl _) (by omega) q1 q2 q3⟩
  · rw [if_neg hf, (h1.2.1.2.2 a ha).1.1.2.2.2] at x4
    have y := x_ivC (xs := xs) (L := L) (c := l_add c1 (nI a) 7 503) (kn := kn) (hp := hp) (vi := vi) ha (QA_Mok h1.2.1) rfl ho hk (hz _) (by rw [hc]; exact hw) (by rw [elv]; exact hf)
    have e1 : (l_add c1 (nI a) 7 503).1 2 2 - c.1 2 2 = 1 := by
      rw [add_at, if_pos ⟨rfl, rfl⟩, h22, sub1]
    rw [e1] at x4
    exact ⟨1, _, _, x4, y, N, t, r, A, RE_log h1 hC⟩
theorem st_in {x u hp vi : Int32} (h : Rel C c s) (hC : C < 512) : St xs L 7 124 [.int x, .int u, .int hp, .int vi] C c s := by
  obtain ⟨N, t, r, A, h⟩ := h
  rcases u4 x with hx | ⟨a, ha, rfl⟩
  · exact ⟨-1, c, s, x_finN hx, x_ivN hx, N, t, r, A, RE_up h hC⟩
  · obtain ⟨b1, b2, b3⟩ := QA_nb h.2.1 ha
    obtain ⟨n1, n2, n3, n4, n5, n6⟩ := RE_N h
    by_cases hl : cl_live c a (nb c a) = 0
    · rcases u4 u with hu | ⟨i, hi, rfl⟩
      · have hk : zb (¬ u < 0 ∧ ¬ 3 < u) = zb False := by
          rw [zb_f (p := False) (fun w => w), zb_f]
          rintro ⟨w1, w2⟩
          rcases hu with hu | hu
          · exact w1 hu
          · exact w2 hu
        by_cases h1 : 1 ≤ hp
        · exact inv_ref (w := 404) (kn := False) h h hC rfl rfl ha hl (by decide) (by decide) (Or.inr (by decide)) (Or.inl rfl) (x_uaN hu) (x_rf2 h1 hu) hk (fun c' => x_bndN hu) (by unfold ivcode; rw [if_pos h1, if_neg (fun w => w)])
        · exact inv_ref (w := 483) (kn := False) h h hC rfl rfl ha hl (by decide) (by decide) (Or.inr (by decide)) (Or.inl rfl) (x_uaN hu) (x_rf1 h1) hk (fun c' => x_bndN hu) (by unfold ivcode; rw [if_neg h1])
      · have hk : zb (¬ nI i < 0 ∧ ¬ 3 < nI i) = zb True := by
          rw [zb_t (p := True) trivial, zb_t]
          exact ⟨nI_nlt (a := i) (b := 0) (by omega) (by omega), nI_nlt (a := 3) (b := i) (by omega) (by omega)⟩
        have hv : (Value.ref (pU i) : Value) = .null ∨ ∃ p, (Value.ref (pU i) : Value) = .ref p := Or.inr ⟨_, rfl⟩
        by_cases h1 : 1 ≤ hp
        · by_cases h2 : (vi >>> (nI i &&& 31)) &&& 1 = 0
          · obtain ⟨m, a1, a2, a3, a4, ⟨k, f, a5⟩, a6⟩ := UR_de (h.2.2.2 i hi) h.2.1.1.2.1.1
            have hz : ∀ c', Ex xs L 103 [.ref 170, .int (nI i)] (hh c' s) (some (.int (nI (us_de i m c m).2)), hh c' s) := fun c' => by
              have y := x_bnd (xs := xs) (L := L) (c := c') (s := s) hi
              rw [UF_bc a5 h.2.1.1.2.1.2] at y
              exact y
            have x2 := x_rf4 (xs := xs) (L := L) (s := s) h1 hi h2 a2 a3 a1
            have h1' : RE C N t r A (us_de i m c m).1 s := RE_drop h hi a6 ⟨a4, _, k, f, a5.1⟩
            have e22 : (us_de i m c m).1.1 2 2 = c.1 2 2 := a6.1 2 2 (by unfold pU; omega)
            have enb : nb (us_de i m c m).1 a = nb c a := by unfold nb; rw [a6.1 (pC a) 3 (by unfold pC pU; omega)]
            have ic : ivcode True (nI i) hp vi (nI (us_de i m c m).2) = if nI (us_de i m c m).2 = 0 then 480 else 0 := by
              unfold ivcode
              rw [if_pos h1, if_pos trivial, if_neg (by rw [h2]; decide)]
            by_cases hm : nI (us_de i m c m).2 = 0
            · rw [if_pos hm] at x2 ic
              exact inv_ref (w := 480) (kn := True) h h1' hC e22 enb ha hl (by decide) (by decide) (Or.inr (by decide)) hv (x_ua hi) x2 hk hz ic
            · rw [if_neg hm] at x2 ic
              have m4 : (us_de i m c m).2 ≤ 4 := a5.1.1.2.1
              have ho : m_on s a (nb (us_de i m c m).1 a) = 0 := by rw [enb]; exact (RE_on h ha).mpr hl
              have hl1 := (RE_on h1' ha).mp ho
              have x3 := x_op1 (xs := xs) (L := L) (s := s) ha hi m4 a5.1.1.2.2.1 a5.1.1.1 (QA_Nok h1'.2.1)
              have x4 := x_fin (hp := hp) (vi := vi) ha b1 b2 hl hv (x_ua hi) x2 x3
              have e30 := h.2.1.1.2.2.1.1
              have elv := RE_lv h1'
              unfold fi_op1 at x4
              generalize us_de i m c m = D at *
              by_cases hf : nI (fi_lv D.1 4 0 0) + (1 + nI D.2) ≤ 12
              · rw [if_pos hf] at x4
                have hb := h.1
                obtain ⟨q1, q2, q3⟩ := SN_fork (RE_SN h1' ha) hl1 a5 hi (by omega) (by omega) n5 n3
                have y := x_ivF (xs := xs) (L := L) (c := cl_fork D.1 a i D.2) (kn := True) (hp := hp) (vi := vi) ha hi m4 (QA_Mok h1'.2.1) rfl ho hk (hz _) ic (by rw [elv]; exact hf)
                rw [← q1.1.1.2.2.1.1, ← e30] at y
                exact ⟨_, _, _, x4, y, N, t, r, A, RE_call h1' hC ha (Nat.le_refl _) (by omega) q1 q2 q3⟩
              · rw [if_neg hf, (h1'.2.1.2.2 a ha).1.1.2.2.2] at x4
                have y := x_ivE (xs := xs) (L := L) (c := l_add D.1 (nI a) 7 503) (kn := True) (hp := hp) (vi := vi) ha (QA_Mok h1'.2.1) rfl ho hk (hz _) ic (by rw [elv]; exact hf)
                have e1 : (l_add D.1 (nI a) 7 503).1 2 2 - c.1 2 2 = 1 := by
                  rw [add_at, if_pos ⟨rfl, rfl⟩, e22, sub1]
                rw [e1] at x4
                exact ⟨1, _, _, x4, y, N, t, r, A, RE_log h1' hC⟩
          · refine inv_ref (w := 482) (kn := True) h h hC rfl rfl ha hl (by decide) (by decide) (Or.inr (by decide)) hv (x_ua hi) (x_rf3 h1 hi h2) hk (fun c' => x_bnd hi) ?_
            unfold ivcode
            rw [if_pos h1, if_pos trivial, if_pos]
            rcases bit01 (vi >>> (nI i &&& 31)) with w | w
            · exact absurd w h2
            · exact w
        · exact inv_ref (w := 483) (kn := True) h h hC rfl rfl ha hl (by decide) (by decide) (Or.inr (by decide)) hv (x_ua hi) (x_rf1 h1) hk (fun c' => x_bnd hi) (by unfold ivcode; rw [if_neg h1])
    · obtain ⟨q1, q2, q3⟩ := SN_iv (RE_SN h ha)
      have y := x_iv1 (xs := xs) (L := L) (c := sv_again c a) (u := u) (hp := hp) (vi := vi) ha b3 b2 (fun w => hl ((RE_on h ha).mp w))
      rw [← q1.1.1.2.2.1.1, ← h.2.1.1.2.2.1.1] at y
      exact ⟨_, _, _, x_finU ha b1 b2 hl, y, N, t, r, A, RE_call h hC ha (Nat.le_refl _) (by omega) q1 q2 q3⟩
end OP
