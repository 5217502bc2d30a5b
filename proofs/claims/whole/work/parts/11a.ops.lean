theorem RE_N {C N t r A : Nat} {c : CM} {s : MM} (h : RE C N t r A c s) : N < 1100000 ∧ r < 100000000 ∧ 1 ≤ t ∧ t ≤ 100 ∧ N + 200 * t ≤ Mx N ∧ Mx N < 2147483647 := by
  obtain ⟨⟨b1, b2, b3, b4, b5, b6⟩, _⟩ := h
  have : Mx N = N + 20000 := Eq.trans rfl rfl
  omega
theorem RE_SN {C N t r A a : Nat} {c : CM} {s : MM} (h : RE C N t r A c s) (ha : a < 4) : SN N t (Mx N) a (nb c a) r c s := QA_get h.2.1 ha
theorem RE_on {C N t r A a : Nat} {c : CM} {s : MM} (h : RE C N t r A c s) (ha : a < 4) : m_on s a (nb c a) = 0 ↔ cl_live c a (nb c a) = 0 := RC_use (h.2.1.2.2 a ha).1
section OP
variable {xs : Nat → Int32} {L C : Nat} {c : CM} {s : MM}
theorem at_nc {N t r A : Nat} (h : RE C N t r A c s) (x : Int32) : (fi_nc c x ∧ ∀ c', Ex xs L 109 [.ref 170, .int x] (hh c' s) (some (.int 0), hh c' s)) ∨ ∃ a, a < 4 ∧ x = nI a ∧ ¬ cl_live c a (nb c a) = 0 ∧ ¬ m_on s a (nb c a) = 0 := by
  rcases u4 x with hx | ⟨a, ha, rfl⟩
  · exact Or.inl ⟨Or.inl hx, fun c' => x_inUseN hx⟩
  · obtain ⟨b1, b2, b3⟩ := QA_nb h.2.1 ha
    by_cases hl : cl_live c a (nb c a) = 0
    · refine Or.inl ⟨Or.inr ⟨a, nb c a, ha, rfl, b1, b2, hl⟩, fun c' => ?_⟩
      have y := x_inUse (xs := xs) (L := L) (c := c') ha b3 b2
      rw [(RE_on h ha).mpr hl] at y
      exact y
    · exact Or.inr ⟨a, ha, rfl, hl, fun w => hl ((RE_on h ha).mp w)⟩
theorem at_nb {N t r A : Nat} (h : RE C N t r A c s) (x b : Int32) : (fi_nb c x b ∧ ∀ c', NoHas xs L c' s x b) ∨ ∃ a i, a < 4 ∧ x = nI a ∧ i < nb c a ∧ b = nI i ∧ ¬ cl_live c a (nb c a) = 0 ∧ ¬ m_on s a (nb c a) = 0 := by
  rcases u4 x with hx | ⟨a, ha, rfl⟩
  · exact Or.inl ⟨Or.inl hx, fun c' => x_has0a hx⟩
  · obtain ⟨b1, b2, b3⟩ := QA_nb h.2.1 ha
    by_cases hl : cl_live c a (nb c a) = 0
    · exact Or.inl ⟨Or.inr ⟨a, nb c a, ha, rfl, b1, b2, Or.inl hl⟩, fun c' => x_has0b ha b3 b2 ((RE_on h ha).mpr hl)⟩
    · have ho : ¬ m_on s a (nb c a) = 0 := fun w => hl ((RE_on h ha).mp w)
      by_cases hb : noB (nb c a) b
      · refine Or.inl ⟨Or.inr ⟨a, nb c a, ha, rfl, b1, b2, Or.inr hb⟩, fun c' => x_has0c ha b3 b2 ho ?_⟩
        rcases hb with hb | hb
        · exact Or.inl hb
        · exact Or.inr (Int32.not_lt.mp hb)
      · have h1 : ¬ b < 0 := fun w => hb (Or.inl w)
        have h2 : b < nI (nb c a) := Classical.byContradiction (fun w => hb (Or.inr w))
        rw [Int32.lt_iff_toInt_lt] at h1 h2
        rw [nI_toInt (by omega)] at h2
        have e : (0 : Int32).toInt = 0 := by decide
        obtain ⟨i, hi, rfl⟩ := in_n (x := b) (b := nb c a) (by omega) (by omega) h2
        exact Or.inr ⟨a, i, ha, rfl, hi, rfl, hl, ho⟩
theorem st_now (h : Rel C c s) (hC : C < 512) : St xs L 13 133 [] C c s := by
  obtain ⟨N, t, r, A, h⟩ := h
  have y := x_now (xs := xs) (L := L) (c := c) (s := s)
  rw [h.2.1.1.2.1.2, ← h.2.1.1.2.1.1] at y
  exact ⟨_, c, s, x_fnow, y, N, t, r, A, RE_up h hC⟩
theorem st_sent (h : Rel C c s) (hC : C < 512) : St xs L 18 138 [] C c s := by
  obtain ⟨N, t, r, A, h⟩ := h
  have y := x_sent (xs := xs) (L := L) (c := c) (s := s)
  rw [← h.2.1.1.2.2.1.1] at y
  exact ⟨_, c, s, x_fsent, y, N, t, r, A, RE_up h hC⟩
theorem RE_lv {N t r A : Nat} (h : RE C N t r A c s) : m_live s (nb c) = nI (fi_lv c 4 0 0) := by
  have e := fun a (ha : a < 4) z => RC_lc (h.2.1.2.2 a ha).1 z
  unfold m_live
  rw [show (0 : Int32) = nI 0 from rfl, e 0 (by decide), e 1 (by decide), e 2 (by decide), e 3 (by decide)]
  simp only [fi_lv]
theorem st_live (h : Rel C c s) (hC : C < 512) : St xs L 17 137 [] C c s := by
  obtain ⟨N, t, r, A, h⟩ := h
  have y := x_live (xs := xs) (L := L) (c := c) (QA_Mok h.2.1)
  rw [RE_lv h] at y
  exact ⟨_, c, s, x_flv (QA_Nok h.2.1), y, N, t, r, A, RE_up h hC⟩
theorem lat_msg {N t : Nat} {u : Int32} (h : RG N t c s) : m_msg s u = l_lat c u := by
  unfold m_msg l_lat
  rw [h.2.2.1.1, h.2.2.1.2]
  have e : (63 < u) = (64 ≤ u) := by
    rw [Int32.lt_iff_toInt_lt, Int32.le_iff_toInt_le]
    have a : (63 : Int32).toInt = 63 := by decide
    have b : (64 : Int32).toInt = 64 := by decide
    apply propext
    omega
  simp only [e]
theorem st_msg {u : Int32} (h : Rel C c s) (hC : C < 512) : ∃ x, Ex xs L 19 [.ref 0, .int u] (hh c s) (some (.long x), hh c s) ∧ Ex xs L 139 [.ref 170, .int u] (hh c s) (some (.long x), hh c s) ∧ Rel (C + 1) c s := by
  obtain ⟨N, t, r, A, h⟩ := h
  have y := x_msg (xs := xs) (L := L) (c := c) (s := s) (u := u)
  rw [lat_msg h.2.1.1] at y
  exact ⟨_, x_fmsg, y, N, t, r, A, RE_up h hC⟩
theorem on_z {a n : Nat} (h : ¬ m_on s a n = 0) : ¬ s.1 181 a = 0 := fun w => h (by unfold m_on; rw [if_pos w])
theorem st_sv {x : Int32} (h : Rel C c s) (hC : C < 512) : St xs L 14 134 [.int x] C c s := by
  obtain ⟨N, t, r, A, h⟩ := h
  rcases at_nc (xs := xs) (L := L) h x with ⟨h1, h2⟩ | ⟨a, ha, rfl, hl, ho⟩
  · exact ⟨0, c, s, x_fsv0 h1, x_srvN (h2 c), N, t, r, A, RE_up h hC⟩
  · obtain ⟨b1, b2, b3⟩ := QA_nb h.2.1 ha
    have y := x_srv (xs := xs) (L := L) (c := c) ha b3 b2 ho
    obtain ⟨q, sg, hS⟩ := (h.2.1.2.2 a ha).1.2.1
    have e := hS.1.1
    rw [if_neg (on_z ho)] at e
    rw [← e, ← hS.1.2.1] at y
    exact ⟨_, c, s, x_fsv ha b1 b2 hl, y, N, t, r, A, RE_up h hC⟩
theorem st_br {x b : Int32} (h : Rel C c s) (hC : C < 512) : St xs L 15 135 [.int x, .int b] C c s := by
  obtain ⟨N, t, r, A, h⟩ := h
  rcases at_nb (xs := xs) (L := L) h x b with ⟨h1, h2⟩ | ⟨a, i, ha, rfl, hi, rfl, hl, ho⟩
  · exact ⟨0, c, s, x_fbr0 h1, x_brN (h2 c), N, t, r, A, RE_up h hC⟩
  · obtain ⟨b1, b2, b3⟩ := QA_nb h.2.1 ha
    have y := x_br (xs := xs) (L := L) (c := c) ha b3 b2 ho hi
    obtain ⟨q, sa, se, hB⟩ := (h.2.1.2.2 a ha).1.2.2.2.2.1 i hi
    rw [← hB.1.1, ← hB.1.2.1, ← hB.1.2.2.1] at y
    exact ⟨_, c, s, x_fbr ha b1 b2 hl hi, y, N, t, r, A, RE_up h hC⟩
theorem st_rs {x b : Int32} (h : Rel C c s) (hC : C < 512) : St xs L 16 136 [.int x, .int b] C c s := by
  obtain ⟨N, t, r, A, h⟩ := h
  rcases at_nb (xs := xs) (L := L) h x b with ⟨h1, h2⟩ | ⟨a, i, ha, rfl, hi, rfl, hl, ho⟩
  · exact ⟨0, c, s, x_frs0 h1, x_resN (h2 c), N, t, r, A, RE_up h hC⟩
  · obtain ⟨b1, b2, b3⟩ := QA_nb h.2.1 ha
    have y := x_res (xs := xs) (L := L) (c := c) ha b3 b2 ho hi
    obtain ⟨q, sa, se, hB⟩ := (h.2.1.2.2 a ha).1.2.2.2.2.1 i hi
    rw [← hB.1.2.2.2.2] at y
    exact ⟨_, c, s, x_frs ha b1 b2 hl hi, y, N, t, r, A, RE_up h hC⟩
theorem st_rp {x b w : Int32} (h : Rel C c s) (hC : C < 512) : St xs L 8 125 [.int x, .int b, .int w] C c s := by
  obtain ⟨N, t, r, A, h⟩ := h
  rcases at_nb (xs := xs) (L := L) h x b with ⟨h1, h2⟩ | ⟨a, i, ha, rfl, hi, rfl, hl, ho⟩
  · exact ⟨-1, c, s, x_frp0 h1, x_replyN (h2 c), N, t, r, A, RE_up h hC⟩
  · obtain ⟨b1, b2, b3⟩ := QA_nb h.2.1 ha
    by_cases hw : w < 100 ∨ 699 < w
    · refine ⟨-1, c, s, x_frp1 ha b1 b2 hl hi ?_, x_replyW ha b3 b2 ho hi hw, N, t, r, A, RE_up h hC⟩
      rcases hw with hw | hw
      · exact Or.inl hw
      · exact Or.inr (Int32.not_le.mpr hw)
    · have w1 : ¬ w < 100 := fun q => hw (Or.inl q)
      have w2 : ¬ 699 < w := fun q => hw (Or.inr q)
      obtain ⟨n1, n2, n3, n4, n5, n6⟩ := RE_N h
      obtain ⟨r', q1, q2, q3, q4, q5⟩ := SN_code (RE_SN h ha) hi n5 n3 (by omega) (Int32.not_lt.mp w2)
      have y := x_reply (xs := xs) (L := L) (c := cl_code c a i (nb c a) w) ha b3 b2 ho hi w1 w2
      rw [← q1.1.1.2.2.1.1, ← h.2.1.1.2.2.1.1] at y
      exact ⟨_, _, _, x_frp ha b1 b2 hl hi w1 (Int32.not_lt.mp w2), y, N, t, r', A, RE_call h hC ha q2 q3 q1 q4 q5⟩
end OP
