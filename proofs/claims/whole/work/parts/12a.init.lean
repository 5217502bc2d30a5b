theorem wI_e (I : HI) (p j q i : Nat) (v : Int32) : wI I p j v q i = if q = p ∧ i = j then v else I q i := by
  unfold wI va_up
  by_cases h : q = p
  · by_cases g : i = j
    · simp only [h, g, if_true, and_self]
    · simp only [h, g, if_true, if_false, and_false]
  · simp only [h, if_false, false_and]
def AG (I J : HI) : Prop := ∀ p j, ¬ (p = 1 ∧ j = 0) → I p j = J p j
theorem AG_w {I J : HI} {p j : Nat} {v : Int32} (h : AG I J) : AG (wI I p j v) (wI J p j v) := fun q i hq => by
  rw [wI_e, wI_e, h q i hq]
theorem AG_tm {I J : HI} {p : Nat} (h : AG I J) : AG (tmI I p) (tmI J p) := AG_w h
theorem AG_sv {I J : HI} {p : Nat} {x y : Int32} (h : AG I J) : AG (serverI I p x y) (serverI J p x y) := AG_tm (AG_tm (AG_tm (AG_tm (AG_w (AG_w h)))))
theorem AG_br {I J : HI} {p : Nat} {x y : Int32} (h : AG I J) : AG (branchI I p x y) (branchI J p x y) := AG_tm (AG_tm (AG_tm (AG_tm (AG_tm (AG_tm (AG_w (AG_w (AG_w h))))))))
theorem AG_cl {p : Nat} {x : Int32} : ∀ (d i : Nat) (I J : HI), AG I J → AG (clIl p x d i I) (clIl p x d i J) := by
  intro d
  induction d with
  | zero => intro i I J h; exact h
  | succ d ih => intro i I J h; rw [clIl, clIl]; exact ih (i + 1) _ _ (AG_br h)
theorem AG_ck {I J : HI} {p : Nat} {x : Int32} (h : AG I J) : AG (ckI I p x) (ckI J p x) := AG_cl 4 0 _ _ (AG_sv (AG_w h))
theorem AG_fc : ∀ (d a : Nat) (I J : HI), AG I J → AG (fcI d a I) (fcI d a J) := by
  intro d
  induction d with
  | zero => intro i I J h; exact h
  | succ d ih => intro i I J h; rw [fcI, fcI]; exact ih (i + 1) _ _ (AG_ck h)
def ZZ : HI := fcI 4 0 (fun _ _ => 0)
-- the first memory
def I0 (x y : Int32) : HI := moI (fiI x y) x y
theorem I0_e {x y : Int32} {p j : Nat} (h : ¬ (p = 1 ∧ j = 0)) (h1 : ¬ (p = 0 ∧ j = 4)) (h2 : ¬ (p = 170 ∧ (j = 0 ∨ j = 2))) : I0 x y p j = ZZ p j := by
  unfold I0 moI fiI
  rw [wI_e, if_neg (by omega), wI_e, if_neg (by omega), wI_e, if_neg (by omega)]
  exact AG_fc 4 0 _ _ (fun q i hq => by rw [wI_e, if_neg hq]) p j h
theorem I0_hi {x y : Int32} {p j : Nat} (h : 170 < p ∨ (p = 170 ∧ ¬ j = 0 ∧ ¬ j = 2)) : I0 x y p j = 0 := by
  unfold I0 moI
  rw [wI_e, if_neg (by omega), wI_e, if_neg (by omega), (F_fi x y).1 p (by omega)]
theorem ZZ_c : ∀ a, a < 4 → ZZ (30 + 35 * a) 3 = 0 ∧ ZZ (30 + 35 * a) 0 = nI a ∧ ZZ (32 + 35 * a) 7 = 5 ∧ ZZ (32 + 35 * a) 8 = 0 ∧ ZZ (32 + 35 * a) 2 = nI a ∧ (∀ k, k < 4 → ZZ (33 + 35 * a + k) 2 = 2147483647) ∧ ∀ i, i < 4 → ZZ (37 + 35 * a + 7 * i) 2 = nI a ∧ ZZ (37 + 35 * a + 7 * i) 3 = nI i ∧ ZZ (37 + 35 * a + 7 * i) 11 = 4 ∧ ∀ k, k < 6 → ZZ (38 + 35 * a + 7 * i + k) 2 = 2147483647 := by decide +kernel
theorem ZZ_u : ∀ u, u < 4 → ∀ j, j < 9 → ZZ (5 + 6 * u) j = 0 := by decide +kernel
theorem ZZ_1 : ZZ 1 1 = 0 ∧ ZZ 2 2 = 0 := by decide +kernel
def LOW (b : Nat) (I J : HI) : Prop := ∀ p j, p < b → I p j = J p j
theorem LOW_w {b p j : Nat} {I J : HI} {v : Int32} (h : LOW b I J) (hp : b ≤ p) : LOW b (wI I p j v) J := fun q i hq => by
  rw [wI_e, if_neg (by omega)]; exact h q i hq
theorem LOW_tm {b p : Nat} {I J : HI} (h : LOW b I J) (hp : b ≤ p) : LOW b (tmI I p) J := LOW_w h hp
theorem LOW_sv {b p : Nat} {I J : HI} {x y : Int32} (h : LOW b I J) (hp : b ≤ p) : LOW b (serverI I p x y) J := LOW_tm (LOW_tm (LOW_tm (LOW_tm (LOW_w (LOW_w h hp) hp) (by omega)) (by omega)) (by omega)) (by omega)
theorem LOW_br {b p : Nat} {I J : HI} {x y : Int32} (h : LOW b I J) (hp : b ≤ p) : LOW b (branchI I p x y) J := LOW_tm (LOW_tm (LOW_tm (LOW_tm (LOW_tm (LOW_tm (LOW_w (LOW_w (LOW_w h hp) hp) hp) (by omega)) (by omega)) (by omega)) (by omega)) (by omega)) (by omega)
theorem LOW_cl {b p : Nat} {x : Int32} (hp : b ≤ p) : ∀ (d i : Nat) (I J : HI), LOW b I J → LOW b (clIl p x d i I) J := by
  intro d
  induction d with
  | zero => intro i I J h; exact h
  | succ d ih => intro i I J h; rw [clIl]; exact ih (i + 1) _ _ (LOW_br h (by omega))
theorem LOW_fc {b : Nat} (hb : b ≤ 30) : ∀ (d a : Nat) (I J : HI), LOW b I J → LOW b (fcI d a I) J := by
  intro d
  induction d with
  | zero => intro i I J h; exact h
  | succ d ih => intro i I J h; rw [fcI]; exact ih (i + 1) _ _ (LOW_cl (by omega) 4 0 _ _ (LOW_sv (LOW_w h (by omega)) (by omega)))
theorem fcI_1 {v : Int32} : fcI 4 0 (wI (fun _ _ => 0) 1 0 v) 1 0 = v := (LOW_fc (b := 30) (by omega) 4 0 _ _ (fun _ _ _ => rfl) 1 0 (by omega)).trans (by rw [wI_e, if_pos ⟨rfl, rfl⟩])
theorem c0_I {x y : Int32} : (c_0 x y).1 = I0 x y := Eq.trans rfl rfl
theorem s0_I {x y : Int32} : (s_0 x y).1 = I0 x y := Eq.trans rfl rfl
theorem I0_10 {x y : Int32} : I0 x y 1 0 = t1c x := by
  unfold I0 moI fiI
  rw [wI_e, if_neg (by omega), wI_e, if_neg (by omega), wI_e, if_neg (by omega), fcI_1]
theorem I0_04 {x y : Int32} : I0 x y 0 4 = y ∧ I0 x y 170 2 = y ∧ I0 x y 170 0 = (if x < 1 then 1 else if 100 < x then 100 else x) := by
  unfold I0 moI fiI
  refine ⟨?_, ?_, ?_⟩
  · rw [wI_e, if_neg (by omega), wI_e, if_neg (by omega), wI_e, if_pos ⟨rfl, rfl⟩]
  · rw [wI_e, if_pos ⟨rfl, rfl⟩]
  · rw [wI_e, if_neg (by omega), wI_e, if_pos ⟨rfl, rfl⟩]
theorem t1_n (x : Int32) : ∃ t, 1 ≤ t ∧ t ≤ 100 ∧ t1c x = nI t ∧ (if x < 1 then 1 else if 100 < x then 100 else x) = nI t := by
  unfold t1c
  have e1 : (1 : Int32).toInt = 1 := by decide
  have e2 : (100 : Int32).toInt = 100 := by decide
  by_cases h1 : x < 1
  · refine ⟨1, by omega, by omega, ?_, by rw [if_pos h1]; rfl⟩
    have h2 : x < 100 := by rw [Int32.lt_iff_toInt_lt] at *; omega
    rw [if_pos h2, if_neg (by rw [Int32.lt_iff_toInt_lt] at *; omega)]; rfl
  · by_cases h2 : 100 < x
    · refine ⟨100, by omega, by omega, ?_, by rw [if_neg h1, if_pos h2]; rfl⟩
      have h3 : ¬ x < 100 := by rw [Int32.lt_iff_toInt_lt] at *; omega
      rw [if_neg h3, if_pos (by decide)]; rfl
    · rw [if_neg h1, if_neg h2]
      rw [Int32.lt_iff_toInt_lt] at h1 h2
      obtain ⟨t, ht, rfl⟩ := in_n (x := x) (b := 101) (by omega) (by omega) (by omega)
      rw [nI_toInt (by omega)] at h1 h2
      refine ⟨t, by omega, by omega, ?_, rfl⟩
      by_cases h3 : nI t < 100
      · rw [if_pos h3]
        by_cases h4 : (1 : Int32) < nI t
        · rw [if_pos h4]
        · rw [if_neg h4]
          rw [Int32.lt_iff_toInt_lt, nI_toInt (by omega)] at h4
          rw [show t = 1 by omega]; rfl
      · rw [if_neg h3, if_pos (by decide)]
        rw [Int32.lt_iff_toInt_lt, nI_toInt (by omega)] at h3
        rw [show t = 100 by omega]; rfl
theorem Rel_0 (x y : Int32) : Rel 0 (c_0 x y) (s_0 x y) := by
  obtain ⟨t, t1, t2, t3, t4⟩ := t1_n x
  have ec : ∀ p j, ¬ (p = 1 ∧ j = 0) → ¬ (p = 0 ∧ j = 4) → ¬ (p = 170 ∧ (j = 0 ∨ j = 2)) → (c_0 x y).1 p j = ZZ p j := fun p j h1 h2 h3 => by rw [c0_I]; exact I0_e h1 h2 h3
  have es : ∀ p j, 170 < p ∨ (p = 170 ∧ ¬ j = 0 ∧ ¬ j = 2) → (s_0 x y).1 p j = 0 := fun p j h => by rw [s0_I]; exact I0_hi h
  refine ⟨0, t, 0, 0, ⟨t1, t2, by omega, by omega, by omega, by omega⟩, ⟨⟨⟨?_, ?_⟩, ⟨?_, ?_⟩, ⟨?_, rfl⟩, ?_⟩, ?_, fun a ha => ?_⟩, ?_, fun u hu => ?_⟩
  · rw [c0_I, I0_10]; exact t3
  · rw [s0_I, I0_04.2.2]; exact t4
  · rw [ec 1 1 (by omega) (by omega) (by omega)]; exact ZZ_1.1
  · exact es 170 1 (by omega)
  · rw [ec 2 2 (by omega) (by omega) (by omega), es 170 30 (by omega)]; exact ZZ_1.2
  · rw [c0_I, s0_I, I0_04.1, I0_04.2.1]
  · exact es 170 28 (by omega)
  · obtain ⟨z1, z2, z3, z4, z5, z6, z7⟩ := ZZ_c a ha
    have k3 : (c_0 x y).1 (pC a) 3 = nI 0 := (ec _ _ (by unfold pC; omega) (by unfold pC; omega) (by unfold pC; omega)).trans z1
    have n0 : nb (c_0 x y) a = 0 := nb_of k3 (by omega)
    unfold CQ
    rw [n0]
    refine ⟨⟨⟨k3, es _ _ (by omega), by omega, (ec _ _ (by unfold pC; omega) (by unfold pC; omega) (by unfold pC; omega)).trans z2⟩, ⟨fun _ => 0, 0, ⟨?_, ?_, ?_⟩, fun k hk => ⟨?_, ?_, Nat.zero_le _⟩, ?_, Or.inl ⟨?_, fun _ _ => Nat.le_refl _⟩⟩, fun _ => rfl, fun i hi => ⟨?_, ?_⟩, fun i hi => by omega, fun i _ hi => ⟨?_, fun k hk => ?_⟩⟩, ⟨fun _ => 0, fun _ => 0, Or.inl rfl, fun i hi => by omega, fun i hi => by omega, fun i j hi => by omega⟩, fun _ i hi => by omega⟩
    · rw [es 181 a (by omega), if_pos rfl]
      exact (ec _ _ (by unfold pS; omega) (by unfold pS; omega) (by unfold pS; omega)).trans z3
    · rw [es 182 a (by omega)]
      exact (ec _ _ (by unfold pS; omega) (by unfold pS; omega) (by unfold pS; omega)).trans z4
    · exact (ec _ _ (by unfold pS; omega) (by unfold pS; omega) (by unfold pS; omega)).trans z5
    · exact es 183 _ (by omega)
    · rw [if_neg (Nat.lt_irrefl 0)]
      exact (ec _ _ (by unfold pG; omega) (by unfold pG; omega) (by unfold pG; omega)).trans (z6 k hk)
    · exact es 184 a (by omega)
    · exact es 181 a (by omega)
    · exact (ec _ _ (by unfold pB; omega) (by unfold pB; omega) (by unfold pB; omega)).trans (z7 i hi).1
    · exact (ec _ _ (by unfold pB; omega) (by unfold pB; omega) (by unfold pB; omega)).trans (z7 i hi).2.1
    · exact (ec _ _ (by unfold pB; omega) (by unfold pB; omega) (by unfold pB; omega)).trans (z7 i hi).2.2.1
    · exact (ec _ _ (by unfold pT; omega) (by unfold pT; omega) (by unfold pT; omega)).trans ((z7 i hi).2.2.2 k hk)
  · exact es 170 13 (by omega)
  · have zu : ∀ j, j < 9 → (c_0 x y).1 (pU u) j = 0 := fun j hj => (ec _ _ (by unfold pU; omega) (by unfold pU; omega) (by unfold pU; omega)).trans (ZZ_u u hu j hj)
    refine ⟨?_, 0, fun _ => 0, fun _ => 0, ⟨zu 8 (by omega), by omega, fun j hj => hj, fun i j _ _ e => e⟩, fun i hi => by omega, fun i j _ hj => by omega, fun k hk _ => ?_⟩
    · unfold US
      rw [zu 1 (by omega), zu 2 (by omega), zu 3 (by omega), zu 4 (by omega), zu 5 (by omega), zu 6 (by omega), es 171 u (by omega), es 172 u (by omega), es 173 u (by omega), es 174 u (by omega), es 175 u (by omega), es 176 u (by omega)]
      exact ⟨rfl, rfl, rfl, rfl, rfl, rfl⟩
    · rw [es 177 _ (by omega)]; exact nn0 (by omega)
