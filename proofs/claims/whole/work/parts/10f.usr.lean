theorem Gu_d {u : Nat} {c c' : CM} {s : MM} (h : Fud u c c') : Gu u c c' s s := ⟨fun q j h1 h2 => h.1 q j (by omega), h.2.1, h.2.2, fun _ _ _ => rfl, rfl⟩
theorem US_d {u : Nat} {c c' : CM} {s : MM} (h : US c s u) (g : Fud u c c') : US c' s u := by
  unfold US at h ⊢
  rw [g.1 (pU u) 1 (by omega), g.1 (pU u) 2 (by omega), g.1 (pU u) 3 (by omega), g.1 (pU u) 4 (by omega), g.1 (pU u) 5 (by omega), g.1 (pU u) 6 (by omega)]
  exact h
theorem UR_de {N A u : Nat} {c : CM} {s : MM} (h : UR N A c s u) (hT : c.1 1 1 = nI N) : ∃ m, c.1 (pU u) 8 = nI m ∧ m ≤ 4 ∧ Pok c u ∧ US (us_de u m c m).1 s u ∧ (∃ k f, UF N A (us_de u m c m).1 s u (us_de u m c m).2 k f) ∧ Fud u c (us_de u m c m).1 := by
  obtain ⟨hS, m, k, f, hB⟩ := h
  obtain ⟨k', f', a1, a2, a3⟩ := UB_de m c m k f (Nat.le_refl _) hT hB (fun j h1 h2 => by omega)
  exact ⟨m, hB.1.1, hB.1.2.1, hB.1.2.2.1, US_d hS a3, ⟨k', f', a1, a2⟩, a3⟩
theorem RE_d {C N t r A u : Nat} {c c' : CM} {s : MM} (h : RE C N t r A c s) (hC : C < 512) (hu : u < 4) (hF : Fud u c c') (hU : UR N A c' s u) : RE (C + 1) N t r A c' s := RE_user h hC hu (Gu_d hF) (by rw [hF.1 0 4 (by unfold pU; omega)]; exact h.2.1.1.2.2.2) h.2.2.1 (Nat.le_refl _) (by omega) hU
section UT
variable {xs : Nat → Int32} {L C : Nat} {c : CM} {s : MM}
theorem st_bs {u : Int32} (h : Rel C c s) (hC : C < 512) : St xs L 5 103 [.int u] C c s := by
  obtain ⟨N, t, r, A, h⟩ := h
  rcases u4 u with hu | ⟨i, hi, rfl⟩
  · exact ⟨0, c, s, x_fbsN hu, x_bndN hu, N, t, r, A, RE_up h hC⟩
  · obtain ⟨m, a1, a2, a3, a4, ⟨k, f, a5⟩, a6⟩ := UR_de (h.2.2.2 i hi) h.2.1.1.2.1.1
    have y := x_bnd (xs := xs) (L := L) (c := (us_de i m c m).1) (s := s) hi
    rw [UF_bc a5 h.2.1.1.2.1.2] at y
    exact ⟨_, _, _, x_fbs hi a2 a3 a1, y, N, t, r, A, RE_d h hC hi a6 ⟨a4, _, k, f, a5.1⟩⟩
theorem st_bg {u w : Int32} (h : Rel C c s) (hC : C < 512) : St xs L 6 106 [.int u, .int w] C c s := by
  obtain ⟨N, t, r, A, h⟩ := h
  rcases u4 u with hu | ⟨i, hi, rfl⟩
  · exact ⟨-1, c, s, x_fbgN hu, x_bgN hu, N, t, r, A, RE_up h hC⟩
  · obtain ⟨m, a1, a2, a3, a4, ⟨k, f, a5⟩, a6⟩ := UR_de (h.2.2.2 i hi) h.2.1.1.2.1.1
    have hT := h.2.1.1.2.1
    have hA : A < 2147483647 := by have := h.1; omega
    have z := RE_d h hC hi a6 ⟨a4, _, k, f, a5.1⟩
    have y := x_fbg (xs := xs) (L := L) (s := s) (w := w) hi a2 a3 a1
    cases e : us_rd (us_de i m c m).1 i (us_de i m c m).2 w (us_de i m c m).2 0 with
    | none =>
      rw [e] at y
      exact ⟨_, _, _, y, x_bg0 hi (UF_rdN a5 hT.2 hA e), N, t, r, A, z⟩
    | some q =>
      obtain ⟨b1, b2⟩ := UF_rd a5 hT.2 hA e
      have b3 := a5.1.2.1 q b2
      rw [e] at y
      have y2 := x_bg1 (xs := xs) (L := L) (c := (us_de i m c m).1) hi b3.1 b1
      rw [hT.2, ← hT.1, ← a6.1 1 1 (by unfold pU; omega), ← b3.2.2.2.1, ← b3.2.1] at y2
      exact ⟨_, _, _, y, y2, N, t, r, A, z⟩
end UT
theorem rg_ok {u : Nat} {ct wt en : Int32} (hu : u < 4) : fi_rg ct wt en ↔ regOk (nI u) ct wt en := by
  unfold fi_rg regOk
  have e1 : ¬ nI u < 0 := nI_nlt (a := u) (b := 0) (by omega) (by omega)
  have e2 : ¬ 3 < nI u := nI_nlt (a := 3) (b := u) (by omega) (by omega)
  simp only [e1, e2, Int32.not_lt, not_false_eq_true, true_and, and_self]
  constructor
  · rintro ⟨⟨⟨a1, a2⟩, ⟨a3, a4⟩, a5, a6⟩, a7⟩
    exact ⟨⟨⟨⟨a1, a2⟩, a3, a4⟩, a5, a6⟩, fun e => by rcases a7 with a7 | a7; exact absurd e a7; exact a7⟩
  · rintro ⟨⟨⟨⟨a1, a2⟩, a3, a4⟩, a5, a6⟩, a7⟩
    refine ⟨⟨⟨a1, a2⟩, ⟨a3, a4⟩, a5, a6⟩, ?_⟩
    by_cases e : ct = -1
    · exact Or.inr (a7 e)
    · exact Or.inl e
theorem fd_none {c : CM} {u : Nat} {ct : Int32} : ∀ (d i : Nat), us_fd c u ct d i = none → ∀ j, i ≤ j → j < i + d → ¬ bn c u j 0 = ct := by
  intro d
  induction d with
  | zero => intro i _ j h1 h2; omega
  | succ d ih =>
    intro i h j h1 h2
    rw [us_fd] at h
    by_cases e : bn c u i 0 = ct
    · rw [if_pos e] at h; exact absurd h (by simp)
    · rw [if_neg e] at h
      by_cases e2 : j = i
      · rw [e2]; exact e
      · exact ih (i + 1) h j (by omega) (by omega)
theorem ct_16 {ct wt en : Int32} (h : fi_rg ct wt en) (hn : ¬ ct = -1) : ∃ x, x < 16 ∧ ct = nI x := by
  obtain ⟨⟨⟨h1, h2⟩, _⟩, _⟩ := h
  rw [Int32.lt_iff_toInt_lt] at h1
  rw [Int32.le_iff_toInt_le] at h2
  have e : (-1 : Int32).toInt = -1 := by decide
  have e2 : (15 : Int32).toInt = 15 := by decide
  have e3 : ¬ ct.toInt = -1 := fun w => hn (Int32.toInt_inj.mp (by rw [w, e]))
  exact in_n (by omega) (by omega) (by omega)
