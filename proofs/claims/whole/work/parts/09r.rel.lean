theorem nI_NV {T : Nat} (h : T < 2147483647) : nI T < NV := nI_lt (a := T) (b := 2147483647) h (by decide)
theorem QA_G {T N t M r a k : Nat} {c : CM} {s : MM} (h : QA (fun _ => T) N t M r c s) (hT : T < 2147483647) (hM : M < 2147483647) (ha : a < 4) (hk : k < 4) : nI T < c.1 (pG a k) 2 := by
  obtain ⟨q, sg, hS⟩ := (h.2.2 a ha).1.2.1
  have z := hS.2.1 k hk
  rw [z.2.1]
  by_cases e : T < q k
  · rw [if_pos e]; exact nI_lt e (by omega)
  · rw [if_neg e]; exact nI_NV hT
theorem QA_T {T N t M r a i k : Nat} {c : CM} {s : MM} (h : QA (fun _ => T) N t M r c s) (hT : T < 2147483647) (hM : M < 2147483647) (ha : a < 4) (hi : i < nb c a) (hk : k < 6) : nI T < c.1 (pT a i k) 2 := by
  obtain ⟨q, sa, se, hB⟩ := (h.2.2 a ha).1.2.2.2.2.1 i hi
  have z := hB.2.1 k hk
  rw [z.2.1]
  by_cases e : T < q k
  · rw [if_pos e]; exact nI_lt e (by omega)
  · rw [if_neg e]; exact nI_NV hT
theorem QA_due {T N t M r : Nat} {c : CM} {s : MM} (h : QA (fun _ => T) N t M r c s) (hT : T < 2147483647) (hM : M < 2147483647) : nI T < fi_due c := by
  refine fi_dl_gt 4 0 _ (nI_NV hT) (fun a _ ha => ?_)
  refine cl_dl_gt _ 0 _ (sv_due_gt (fun k hk => QA_G h hT hM (by omega) hk)) (fun i _ hi => b_due_gt (fun k hk => QA_T h hT hM (by omega) (by omega) hk))
theorem due_G {c : CM} {a k : Nat} (ha : a < 4) (hk : k < 4) : fi_due c ≤ c.1 (pG a k) 2 := Int32.le_trans ((fi_dl_le 4 0 _).2 a (by omega) (by omega)) (Int32.le_trans (cl_dl_le _ 0 _).1 (sv_due_le hk))
theorem due_T {c : CM} {a i k : Nat} (ha : a < 4) (hi : i < nb c a) (hk : k < 6) : fi_due c ≤ c.1 (pT a i k) 2 := Int32.le_trans ((fi_dl_le 4 0 _).2 a (by omega) (by omega)) (Int32.le_trans ((cl_dl_le _ 0 _).2 i (by omega) (by omega)) (b_due_le hk))
theorem between {T : Nat} {z : Int32} (hT : T + 1 < 2147483647) (h1 : nI T < z) (h2 : z ≤ nI (T + 1)) : nI (T + 1) = z := by
  have a : (nI T).toInt = T := nI_toInt (by omega)
  have b : (nI (T + 1)).toInt = (T + 1 : Nat) := nI_toInt (by omega)
  rw [Int32.lt_iff_toInt_lt] at h1
  rw [Int32.le_iff_toInt_le] at h2
  apply Int32.toInt_inj.mp
  omega
theorem due_eq {c c' : CM} (h : ∀ q j, 30 ≤ q → c'.1 q j = c.1 q j) : fi_due c' = fi_due c := by
  have eG : ∀ a k, c'.1 (pG a k) 2 = c.1 (pG a k) 2 := fun a k => h _ _ (by unfold pG; omega)
  have eT : ∀ a i k, c'.1 (pT a i k) 2 = c.1 (pT a i k) 2 := fun a i k => h _ _ (by unfold pT; omega)
  have en : ∀ a, nb c' a = nb c a := fun a => by unfold nb; rw [h _ _ (by unfold pC; omega)]
  have eb : ∀ a i, b_due c' a i = b_due c a i := fun a i => by unfold b_due; simp only [eT]
  have ed : ∀ a d i z, cl_dl c' a d i z = cl_dl c a d i z := by
    intro a d
    induction d with
    | zero => intro i z; rfl
    | succ d ih => intro i z; simp only [cl_dl]; rw [eb, ih]
  have ec : ∀ a n, cl_due c' a n = cl_due c a n := fun a n => by
    unfold cl_due sv_due
    rw [ed, eG, eG, eG, eG]
  have ef : ∀ d a z, fi_dl c' d a z = fi_dl c d a z := by
    intro d
    induction d with
    | zero => intro i z; rfl
    | succ d ih => intro i z; simp only [fi_dl]; rw [ec, en, ih]
  exact ef 4 0 _
theorem QA_none {T N t M r : Nat} {c : CM} {s : MM} {f : Nat → Nat} (hN : T + 1 = N) (hM2 : M < 2147483647) (hN2 : N < 2147483647) (h : QA (fun _ => T) N t M r c s) (hz : ¬ nI N = fi_due c) (hf : ∀ a, a < 4 → nb c a = f a) : QA (fun _ => N) N t M r c s ∧ m_t4 s f = s := by
  have hd := QA_due h (by omega) hM2
  have no : ∀ x, fi_due c ≤ x → ¬ x = nI N := fun x hx e => hz (by
    rw [e, ← hN] at hx
    rw [← hN]; exact between (by omega) hd hx)
  have H : ∀ a, a < 4 → SQ (fun _ => N) (fun _ _ => N) N t M a (nb c a) r c s ∧ m_tc s a (nb c a) = s := fun a ha => SQ_none hN hM2 hN2 (QA_get h ha) (fun k hk => no _ (due_G ha hk)) (fun i k hi hk => no _ (due_T ha hi hk))
  refine ⟨⟨h.1, h.2.1, fun a ha => ⟨(H a ha).1.1.2.1, (H a ha).1.1.2.2.1, (H a ha).1.2⟩⟩, ?_⟩
  unfold m_t4
  rw [← hf 0 (by decide), ← hf 1 (by decide), ← hf 2 (by decide), ← hf 3 (by decide), (H 0 (by decide)).2, (H 1 (by decide)).2, (H 2 (by decide)).2, (H 3 (by decide)).2]
theorem QA_t1 {T N t r : Nat} {c : CM} {s : MM} {f : Nat → Nat} (hN : T + 1 = N) (hN2 : N < 1100000) (ht : 1 ≤ t) (ht2 : t ≤ 100) (hr : r + 16 < 2147483647) (h : QA (fun _ => T) T t (T + 20000) r c s) (hf : ∀ a, a < 4 → nb c a = f a) : ∃ r', QA (fun _ => N) N t (N + 20000) r' (fi_t1 c (fi_due c)) (m_t1 s f) ∧ r' ≤ r + 16 ∧ (∀ a, a < 4 → nb (fi_t1 c (fi_due c)) a = f a) ∧ fi_tz c (fi_due c) = fi_due (fi_t1 c (fi_due c)) ∧ Fz c (fi_t1 c (fi_due c)) s (m_t1 s f) := by
  have h1 := QA_time (QA_M h (show T + 20000 ≤ N + 20000 by omega)) hN
  have e1 : fi_due (cI c 1 1 (c.1 1 1 + 1)) = fi_due c := due_eq (fun q j hq => by rw [cI_at, if_neg (by omega)])
  have e2 : ∀ a, a < 4 → nb (cI c 1 1 (c.1 1 1 + 1)) a = f a := fun a ha => by
    rw [← hf a ha]; unfold nb; rw [cI_at, if_neg (by unfold pC; omega)]
  have e3 : c.1 1 1 + 1 = nI N := by rw [h.1.2.1.1, ad1, hN]
  unfold fi_t1 fi_tz m_t1
  by_cases hz : c.1 1 1 + 1 = fi_due c
  · rw [if_pos hz, if_pos hz]
    obtain ⟨r', a1, a2, a3, a4⟩ := QA_four hN (by omega) (by omega) ht ht2 hr h1 e2
    refine ⟨r', a1, a2, a3, ?_, Fz_t Fz_1 a4⟩
    unfold fi_t1
    rw [if_pos hz]
  · rw [if_neg hz, if_neg hz]
    obtain ⟨a1, a2⟩ := QA_none hN (by omega) (by omega) h1 (by rw [e1, ← e3]; exact hz) e2
    rw [a2]
    exact ⟨r, a1, by omega, e2, e1.symm, Fz_1⟩
def Mx (N : Nat) : Nat := N + 20000
theorem QA_t2 {T N R t r : Nat} {c : CM} {s : MM} {f : Nat → Nat} (hN : T + 1 = N) (hN2 : N < 1100000) (ht : 1 ≤ t) (ht2 : t ≤ 100) (hr : r + 16 ≤ R) (hR : R < 2147483647) (h : QA (fun _ => T) T t (Mx T) r c s) (hf : ∀ a, a < 4 → nb c a = f a) : ∃ r', QA (fun _ => N) N t (Mx N) r' (fi_t1 c (fi_due c)) (m_t1 s f) ∧ r' ≤ r + 16 ∧ (∀ a, a < 4 → nb (fi_t1 c (fi_due c)) a = f a) ∧ fi_tz c (fi_due c) = fi_due (fi_t1 c (fi_due c)) ∧ Fz c (fi_t1 c (fi_due c)) s (m_t1 s f) := QA_t1 hN hN2 ht ht2 (by omega) h hf
theorem QA_tl {t U R : Nat} {f : Nat → Nat} (ht : 1 ≤ t) (ht2 : t ≤ 100) (hU : U < 1100000) (hR : R < 2147483647) : ∀ (d T r : Nat) (c : CM) (s : MM), T + d = U → r + 16 * d ≤ R → QA (fun _ => T) T t (Mx T) r c s → (∀ a, a < 4 → nb c a = f a) → ∃ r', QA (fun _ => U) U t (Mx U) r' (fi_tl d c (fi_due c)) (m_tn f d s) ∧ r' ≤ r + 16 * d ∧ Fz c (fi_tl d c (fi_due c)) s (m_tn f d s) := by
  intro d
  induction d with
  | zero =>
    intro T r c s hT _ h _
    have e : T = U := hT
    rw [e] at h
    rw [fi_tl, m_tn]
    exact ⟨r, h, Nat.le_add_right _ _, Fz_r⟩
  | succ d ih =>
    intro T r c s hT hr h hf
    obtain ⟨N, hN⟩ : ∃ N, T + 1 = N := ⟨_, rfl⟩
    have hN2 : N < 1100000 := by omega
    have hr2 : r + 16 ≤ R := by omega
    obtain ⟨r1, h1, b1, f1, z1, y1⟩ := QA_t2 hN hN2 ht ht2 hr2 hR h hf
    have hN3 : N + d = U := by omega
    have hr3 : r1 + 16 * d ≤ R := by omega
    obtain ⟨r2, h2, b2, y2⟩ := ih N r1 _ _ hN3 hr3 h1 f1
    have hr4 : r2 ≤ r + 16 * (d + 1) := by omega
    rw [fi_tl, m_tn, z1]
    exact ⟨r2, h2, hr4, Fz_t y1 y2⟩
