theorem Gu_t {u : Nat} {c d e : CM} {s v w : MM} (h : Gu u c d s v) (g : Gu u d e v w) : Gu u c e s w := ⟨fun q j x y => (g.1 q j x y).trans (h.1 q j x y), fun q j x => (g.2.1 q j x).trans (h.2.1 q j x), g.2.2.1.trans h.2.2.1, fun p j x => (g.2.2.2.1 p j x).trans (h.2.2.2.1 p j x), g.2.2.2.2.trans h.2.2.2.2⟩
section UT
variable {xs : Nat → Int32} {L C : Nat} {c : CM} {s : MM}
theorem st_rg {u ct wt en mk : Int32} (h : Rel C c s) (hC : C < 512) : St xs L 4 102 [.int u, .int ct, .int wt, .int en, .int mk] C c s := by
  obtain ⟨N, t, r, A, h⟩ := h
  rcases u4 u with hu | ⟨i, hi, rfl⟩
  · refine ⟨400, c, s, x_frgN hu, x_regN (fun w => ?_), N, t, r, A, RE_up h hC⟩
    obtain ⟨⟨⟨⟨⟨w1, w2⟩, _⟩, _⟩, _⟩, _⟩ := w
    rcases hu with hu | hu
    · exact w1 hu
    · exact w2 hu
  · have hb := h.1
    have hT := h.2.1.1.2.1
    have h04 := h.2.1.1.2.2.2
    have hAd := h.2.2.1
    have hU := h.2.2.2 i hi
    have hU1 : UR N A (cI c (pU i) 2 0) (mI s 172 i 0) i := by
      obtain ⟨hS, m, k, f, hB⟩ := hU
      refine ⟨?_, m, k, f, UB_eq hB (Nat.le_refl _) (by omega) (Nat.le_refl _) ?_ (fun b j hb => ?_) (fun j => rfl) (fun p x p1 p2 hx => ?_)⟩
      · unfold US at hS ⊢
        simp only [cI_at, mI_at, Nat.reduceEqDiff, true_and, and_true, false_and, and_false, if_true, if_false, eq_self]
        exact ⟨hS.1, hS.2.2⟩
      · rw [cI_at, if_neg (by omega)]
      · rw [cI_at, if_neg (by unfold pN pU; omega)]
      · rw [mI_at, if_neg (by omega)]
    have T1 : (cI c (pU i) 2 0).1 1 1 = nI N := by rw [cI_at, if_neg (by unfold pU; omega)]; exact hT.1
    have T2 : (mI s 172 i 0).1 170 1 = nI N := by rw [mI_at, if_neg (by omega)]; exact hT.2
    have T3 : (mI s 172 i 0).1 170 13 = nI A := by rw [mI_at, if_neg (by omega)]; exact hAd
    obtain ⟨m, a1, a2, a3, a4, ⟨k, f, a5⟩, a6⟩ := UR_de hU1 T1
    have a1' : c.1 (pU i) 8 = nI m := by rw [cI_at, if_neg (by omega)] at a1; exact a1
    have y := x_frg (xs := xs) (L := L) (s := s) (ct := ct) (wt := wt) (en := en) (mk := mk) hi a2 (show Pok c i from a3) a1'
    unfold fi_reg at y
    by_cases hr : fi_rg ct wt en
    · have hr2 := (rg_ok hi).mp hr
      rw [@if_pos _ (fi_rgD ct wt en) hr] at y
      by_cases ha : c.1 (pU i) 2 = 0
      · rw [if_pos ha] at y
        exact ⟨401, c, s, y, x_reg401 hi hr2 (by rw [← hU.1.2.1]; exact ha), N, t, r, A, RE_up h hC⟩
      · rw [if_neg ha] at y
        have ha2 : ¬ s.1 172 i = 0 := by rw [← hU.1.2.1]; exact ha
        have TC : (us_de i m (cI c (pU i) 2 0) m).1.1 1 1 = nI N := by rw [a6.1 1 1 (by unfold pU; omega)]; exact T1
        have gA : Gu i c (cI c (pU i) 2 0) s (mI s 172 i 0) := Gu_e (fun q j h1 h2 => by rw [cI_at, if_neg (by unfold pU at *; omega)]) rfl (fun p j h1 => by rw [mI_at, if_neg (by omega)]) rfl
        have g0 : Gu i c (us_de i m (cI c (pU i) 2 0) m).1 s (mI s 172 i 0) := Gu_t gA (Gu_d a6)
        have c04 : (us_de i m (cI c (pU i) 2 0) m).1.1 0 4 = (mI s 172 i 0).1 170 2 := by rw [a6.1 0 4 (by unfold pU; omega), cI_at, if_neg (by unfold pU; omega), mI_at, if_neg (by omega)]; exact h04
        generalize us_de i m (cI c (pU i) 2 0) m = D at y a4 a5 a6 TC g0 c04
        unfold fi_r2 at y
        by_cases ho : us_od D.1 i ct mk D.2 0
        · rw [@if_pos _ (us_odD D.1 i ct mk D.2 0) ho] at y
          exact ⟨500, _, _, y, x_reg500 hi hr2 ha2 ((UF_od a5 T2).mp ho), N, t, r, A, RE_user h hC hi g0 c04 T3 (Nat.le_refl _) (by omega) ⟨a4, _, k, f, a5.1⟩⟩
        · rw [@if_neg _ (us_odD D.1 i ct mk D.2 0) ho] at y
          have ho2 : ¬ m_rs (mI s 172 i 0) i ct mk 16 0 := fun w => ho ((UF_od a5 T2).mpr w)
          by_cases h1 : ct = -1
          · rw [if_pos h1] at y
            rw [h1] at hr2 ho2 y ⊢
            refine ⟨200, _, _, y, x_regA hi hr2 ha2 ho2, N, t, r, A, RE_user h hC hi (Gu_t g0 ⟨fun q j q1 q2 => ?_, fun _ _ _ => rfl, rfl, fun p j hp => ?_, z16_l _ _ _⟩) ?_ ?_ (Nat.le_refl _) (by omega) ⟨US_f a4 (fun j hj => ?_) (fun p p1 p2 => ?_), _, k, f, UB_clear a5.1 (by omega)⟩⟩
            · rw [cI_at, if_neg (by omega)]
            · rw [z16_at, if_neg (by omega)]
            · rw [cI_at, if_neg (by unfold pU; omega), z16_at, if_neg (by omega)]; exact c04
            · rw [z16_at, if_neg (by omega)]; exact T3
            · rw [cI_at, if_neg (by omega)]
            · rw [z16_at, if_neg (by omega)]
          · rw [if_neg h1] at y
            obtain ⟨x, hx, rfl⟩ := ct_16 hr h1
            have z := x_regB (xs := xs) (L := L) (c := c) hi hx hr2 ha2 ho2
            by_cases he : en = 0
            · rw [if_pos he] at y
              obtain ⟨b1, b2, b3, b4, b5, b6, b7⟩ := G2_zero a5 a4 T3 (by omega) hx
              have z2 := x_regB (xs := xs) (L := L) (c := (us_rt i (nI x) D.2 D.1 D.2).1) hi hx hr2 ha2 ho2
              unfold m_reg2 at z2
              rw [if_pos he] at z2
              exact ⟨200, _, _, y, z2, N, t, r, A, RE_user h hC hi (Gu_t g0 b4) (by rw [b6, b7]; exact c04) b5 b1 b2 b3⟩
            · rw [if_neg he] at y
              obtain ⟨A', ⟨b1, b2, b3, b4, b5, b6, b7⟩, b8⟩ := G2_bind (wt := wt) (en := en) (mk := mk) a5 a4 ⟨TC, T2⟩ T3 (by omega) hx he
              have z2 := x_regB (xs := xs) (L := L) (c := (us_bd D.1 i D.2 (nI x) wt en mk).1) hi hx hr2 ha2 ho2
              rw [← b8] at z2
              exact ⟨_, _, _, y, z2, N, t, r, A', RE_user h hC hi (Gu_t g0 b4) (by rw [b6, b7]; exact c04) b5 b1 b2 b3⟩
    · rw [@if_neg _ (fi_rgD ct wt en) hr] at y
      exact ⟨400, c, s, y, x_regN (fun w => hr ((rg_ok hi).mpr w)), N, t, r, A, RE_up h hC⟩
end UT
