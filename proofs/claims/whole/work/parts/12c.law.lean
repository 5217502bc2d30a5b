section LX
variable {xs : Nat → Int32} {L : Nat}
def cel (xs : Nat → Int32) (L k : Nat) : Int32 := if k < L then xs k else 0
set_option maxRecDepth 20000 in
set_option maxHeartbeats 2000000 in
theorem x_cell {k : Nat} {h : ix_H} (hL : L ≤ 3074) (hk : k < 3000) : Ex xs L 140 [.retAddr 0, .int (nI k)] h (some (.int (cel xs L k)), h) := by
  refine Ex_of xs L rfl ?_
  show Ev xs L _ (0, [.retAddr 0, .int (nI k)], [], h) _
  have e : (Int32.ofNat L ≤ nI k) ↔ L ≤ k := by
    rw [Int32.le_iff_toInt_le, nI_toInt (by omega), show Int32.ofNat L = nI L from rfl, nI_toInt (by omega)]
    omega
  unfold cel
  by_cases hz : k < L
  · have v0 : vp_in (nI k) L := nI_in hz (by omega)
    have w0 : (nI k).toNatClampNeg = k := nI_clamp (by omega)
    rw [if_pos hz, e_140_0, e_140_1s, e_140_2s, e_140_3, if_neg (fun w => by have := e.mp w; omega), e_140_6s, e_140_7, e_140_8s v0, w0, e_140_9, e_140_13]
  · rw [if_neg hz, e_140_0, e_140_1s, e_140_2s, e_140_3, if_pos (e.mpr (by omega)), e_140_12, e_140_13]
theorem k_cell0 {h : ix_H} {K : Option Value → ix_H → Prop} (hL : L ≤ 3074) : Cl xs L 140 [.retAddr 0, .int 0] h K ↔ K (some (.int (cel xs L 0))) h := Cl_of xs L (x_cell (k := 0) hL (by omega))
theorem k_cell1 {h : ix_H} {K : Option Value → ix_H → Prop} (hL : L ≤ 3074) : Cl xs L 140 [.retAddr 0, .int 1] h K ↔ K (some (.int (cel xs L 1))) h := Cl_of xs L (x_cell (k := 1) hL (by omega))
set_option maxRecDepth 20000 in
set_option maxHeartbeats 2000000 in
theorem law_ev (hL : L ≤ 3074) : ∃ c' s', Ev xs L 141 (0, [.retAddr 0, .retAddr 1, .retAddr 1, .retAddr 1], [], hc 0 0 (fun _ _ => 0) (fun _ _ => none)) (some (.int 1), hh c' s') := by
  obtain ⟨x, hx⟩ : ∃ x, x = cel xs L 0 := ⟨_, rfl⟩
  obtain ⟨y, hy⟩ : ∃ y, y = cel xs L 1 := ⟨_, rfl⟩
  obtain ⟨c', s', h⟩ := law_l (xs := xs) hL 513 0 2 (c_0 x y) (s_0 x y) rfl rfl (Rel_0 x y)
  refine ⟨c', s', ?_⟩
  have n1 : hs_new (hc 0 0 (fun _ _ => 0) (fun _ _ => none)) 0 0 5 = hc (0 + 1) (0 + 5) (fun _ _ => 0) (fun _ _ => none) := hc_new (by decide) (by decide) (fun q _ => rfl) (fun q _ => rfl)
  have F := F_fi x y
  have n2 : hs_new (hc 170 (5 + 873) (fiI x y) fiR) 9 0 31 = hc (170 + 1) (5 + 873 + 31) (fiI x y) fiR := hc_new (by decide) (by decide) F.1 F.2
  have kf : ∀ (K : Option Value → ix_H → Prop), Cl xs L 0 [.ref 0, .int x, .int y] (hc 1 5 (fun _ _ => 0) (fun _ _ => none)) K ↔ K none (hc 170 (5 + 873) (fiI x y) fiR) := fun K => Cl_of xs L x_fii
  have km : ∀ (K : Option Value → ix_H → Prop), Cl xs L 94 [.ref 170, .int x, .int y] (hc 171 909 (fiI x y) fiR) K ↔ K none (hc 196 (909 + 600) (moI (fiI x y) x y) (moR fiR)) := fun K => Cl_of xs L (x_moi (FI_s F.1 (by omega)) (FR_s F.2 (by omega)))
  have t0 : TT 0 = 0 := by decide
  have t9 : TT 170 = 9 := by decide
  simp only [e_141_0, e_141_3, e_141_4, e_141_4s, e_141_5, e_141_6, e_141_9, e_141_9s, e_141_10, e_141_11, e_141_14, hc_N, n1, hc_T, t0, k_cell0 hL, k_cell1 hL, ← hx, ← hy, kf, tl_s, tl_n, rf_s, rf_n, cs_nil, cs_cons, cat_r, cat_i, cat_l, cat_n, cat_a, Nat.reduceAdd, Nat.reduceMul, Nat.reduceLeDiff, Nat.reduceEqDiff, Nat.reduceLT, and_self, and_true, true_and, and_false, false_and, or_true, true_or, or_false, false_or, if_true, if_false, not_true_eq_false, not_false_eq_true, reduceCtorEq, reduceIte]
  simp only [e_141_17, e_141_17s, e_141_18, e_141_21, e_141_22, e_141_22s, e_141_23, e_141_24, e_141_27, e_141_27s, e_141_28, e_141_29, e_141_32, e_141_35, e_141_35s, e_141_36, e_141_37, hc_N, hc_T, n2, t9, k_cell0 hL, k_cell1 hL, ← hx, ← hy, km, made, tl_s, tl_n, rf_s, rf_n, cs_nil, cs_cons, cat_r, cat_i, cat_l, cat_n, cat_a, Nat.reduceAdd, Nat.reduceMul, Nat.reduceLeDiff, Nat.reduceEqDiff, Nat.reduceLT, and_self, and_true, true_and, and_false, false_and, or_true, true_or, or_false, false_or, if_true, if_false, not_true_eq_false, not_false_eq_true, reduceCtorEq, reduceIte]
  exact h
end LX
