def RO (p j : Nat) : Option Nat := if ua p = true then (if j < 4 then some (p + 1 + j) else none) else RR p j
def SR (R : HR) : Prop := ∀ q j, 12 ≤ j → R q j = none
theorem SR_w {R : HR} {p j b : Nat} (h : SR R) (hj : j < 12) : SR (wR R p j b) := by
  intro q i hi
  rw [wR_at, if_neg (by omega)]
  exact h q i hi
theorem SR_server {R : HR} {p : Nat} (h : SR R) : SR (serverR R p) := by
  unfold serverR tmR
  repeat' first | exact h | refine SR_w ?_ (by decide)
theorem SR_branch {R : HR} {p : Nat} (h : SR R) : SR (branchR R p) := by
  unfold branchR tmR
  repeat' first | exact h | refine SR_w ?_ (by decide)
theorem SR_cl {p : Nat} : ∀ (d i : Nat) (R : HR), i + d ≤ 4 → SR R → SR (clRl p d i R) := by
  intro d
  induction d with
  | zero => intro i R _ h; exact h
  | succ d ih => intro i R hi h; exact ih (i + 1) _ (by omega) (SR_w (SR_branch h) (by omega))
theorem SR_ck {R : HR} {p : Nat} (h : SR R) : SR (ckR R p) := SR_cl 4 0 _ (by decide) (SR_w (SR_server (SR_w h (by decide))) (by decide))
theorem SR_usl {p : Nat} : ∀ (d i : Nat) (R : HR), i + d ≤ 4 → SR R → SR (usRl p d i R) := by
  intro d
  induction d with
  | zero => intro i R _ h; exact h
  | succ d ih => intro i R hi h; exact ih (i + 1) _ (by omega) (SR_w h (by omega))
theorem SR_user {R : HR} {p : Nat} (h : SR R) : SR (userR R p) := SR_usl 4 0 _ (by decide) (SR_w (SR_w h (by decide)) (by decide))
theorem SR_fu : ∀ (d u : Nat) (R : HR), u + d ≤ 4 → SR R → SR (fuR d u R) := by
  intro d
  induction d with
  | zero => intro u R _ h; exact h
  | succ d ih => intro u R hu h; exact ih (u + 1) _ (by omega) (SR_w (SR_user h) (by omega))
theorem SR_fc : ∀ (d a : Nat) (R : HR), a + d ≤ 4 → SR R → SR (fcR d a R) := by
  intro d
  induction d with
  | zero => intro a R _ h; exact h
  | succ d ih => intro a R ha h; exact ih (a + 1) _ (by omega) (SR_w (SR_ck h) (by omega))
theorem SR_2 : SR fiR2 := by
  unfold fiR2
  exact SR_w (SR_w (SR_w (SR_w (SR_w (fun q j _ => rfl) (by decide)) (by decide)) (by decide)) (by decide)) (by decide)
theorem SR_fi : SR fiR := SR_fc 4 0 _ (by decide) (SR_w (SR_fu 4 0 _ (by decide) SR_2) (by decide))
-- same row, in both
def rowEq (f g : Nat → Option Nat) : Nat → Bool
  | 0 => true
  | j + 1 => (match f j, g j with
    | none, none => true
    | some x, some y => Nat.beq x y
    | _, _ => false) && rowEq f g j
theorem rowEq_ok {f g : Nat → Option Nat} : ∀ n, rowEq f g n = true → ∀ j, j < n → f j = g j := by
  intro n
  induction n with
  | zero => intro _ j hj; exact absurd hj (Nat.not_lt_zero _)
  | succ n ih =>
    intro h j hj
    simp only [rowEq, Bool.and_eq_true] at h
    by_cases e : j = n
    · subst e
      have h1 := h.1
      cases hf : f j with
      | none =>
        cases hg : g j with
        | none => rfl
        | some y => rw [hf, hg] at h1; exact absurd h1 Bool.false_ne_true
      | some x =>
        cases hg : g j with
        | none => rw [hf, hg] at h1; exact absurd h1 Bool.false_ne_true
        | some y => rw [hf, hg] at h1; rw [Nat.eq_of_beq_eq_true h1]
    · exact ih h.2 j (by omega)
def rowsEq (f g : Nat → Nat → Option Nat) : Nat → Nat → Bool
  | _, 0 => true
  | a, d + 1 => rowEq (f a) (g a) 12 && rowsEq f g (a + 1) d
theorem rowsEq_ok {f g : Nat → Nat → Option Nat} : ∀ d a, rowsEq f g a d = true → ∀ q, a ≤ q → q < a + d → ∀ j, j < 12 → f q j = g q j := by
  intro d
  induction d with
  | zero => intro a _ q h1 h2; omega
  | succ d ih =>
    intro a h q h1 h2 j hj
    simp only [rowsEq, Bool.and_eq_true] at h
    by_cases e : q = a
    · subst e; exact rowEq_ok 12 h.1 j hj
    · exact ih (a + 1) h.2 q (by omega) (by omega) j hj
theorem rw_a : rowsEq fiR RO 0 170 = true := by decide +kernel
theorem rw_b : rowEq (moR fiR 170) (RO 170) 32 = true := by decide +kernel
theorem rw_c : ∀ p, p < 196 → ¬ p = 170 → (rr_l.getD p []).length ≤ 12 := by decide +kernel
theorem rw_d : ∀ p, p < 196 → 170 < p → rr_l.getD p [] = [] ∧ ua p = false := by decide +kernel
theorem rw_e : (rr_l.getD 170 []).length ≤ 32 ∧ ua 170 = false := by decide +kernel
theorem rw_f : rr_l.length = 196 := by decide +kernel
theorem moR_lo {R : HR} {q : Nat} (h : ¬ q = 170) : moR R q = R q := by
  unfold moR
  repeat rw [wR_lo h]
theorem moR_hi {R : HR} {j : Nat} (hj : 32 ≤ j) : moR R 170 j = R 170 j := by
  unfold moR
  repeat rw [wR_at, if_neg (fun w => absurd w.2 (by omega))]
theorem gD_hi {l : List (Option Nat)} {j : Nat} (h : l.length ≤ j) : l.getD j none = none := by
  rw [List.getD_eq_getElem?_getD, List.getElem?_eq_none h]
  rfl
theorem ua_lo {p : Nat} (h : 25 ≤ p) : ua p = false := by
  unfold ua
  have e : ∀ n, n < 25 → Nat.beq p n = false := fun n hn => by
    cases hb : Nat.beq p n with
    | false => rfl
    | true => have := Nat.eq_of_beq_eq_true hb; omega
  rw [e 6 (by decide), e 12 (by decide), e 18 (by decide), e 24 (by decide)]
  rfl
theorem R_all (x y : Int32) : moR fiR = RO := by
  funext p j
  have hF := (F_fi x y).2
  by_cases h1 : p < 170
  · rw [moR_lo (by omega)]
    by_cases hj : j < 12
    · exact rowsEq_ok 170 0 rw_a p (Nat.zero_le _) (by omega) j hj
    · rw [SR_fi p j (by omega)]
      unfold RO RR
      rw [gD_hi (Nat.le_trans (rw_c p (by omega) (by omega)) (by omega)), if_neg (show ¬ j < 4 by omega)]
      split <;> rfl
  · by_cases h2 : p = 170
    · subst h2
      by_cases hj : j < 32
      · exact rowEq_ok 32 rw_b j hj
      · rw [moR_hi (by omega), hF 170 (Nat.le_refl _)]
        unfold RO RR
        rw [rw_e.2, gD_hi (Nat.le_trans rw_e.1 (by omega)), if_neg Bool.false_ne_true]
    · rw [moR_lo h2, hF p (by omega)]
      unfold RO RR
      rw [ua_lo (by omega), if_neg Bool.false_ne_true]
      by_cases h3 : p < 196
      · rw [(rw_d p h3 (by omega)).1]; rfl
      · have e : rr_l.getD p [] = [] := by rw [List.getD_eq_getElem?_getD, List.getElem?_eq_none (by rw [rw_f]; omega)]; rfl
        rw [e]; rfl
-- both made: the heap
def c_0 (x y : Int32) : CM := (moI (fiI x y) x y, fun _ j => j, fun _ => 0)
def s_0 (x y : Int32) : MM := (moI (fiI x y) x y, fun _ => 0)
theorem made (x y : Int32) : hc 196 1509 (moI (fiI x y) x y) (moR fiR) = hh (c_0 x y) (s_0 x y) := by
  have eT : TcN 196 = TT := by
    funext p
    unfold TcN
    by_cases h : p < 196
    · rw [if_pos h]
    · rw [if_neg h]
      unfold TT
      rw [List.getD_eq_getElem?_getD, List.getElem?_eq_none (by rw [show tt_l.length = 196 by decide +kernel]; omega)]; rfl
  have eL : LcN 196 = LL := by
    funext p
    unfold LcN
    by_cases h : p < 196
    · rw [if_pos h]
    · rw [if_neg h]
      unfold LL
      rw [List.getD_eq_getElem?_getD, List.getElem?_eq_none (by rw [show ll_l.length = 196 by decide +kernel]; omega)]; rfl
  unfold hc hh
  rw [R_all x y, eT, eL]
  refine congrArg (fun f => ((196, 1509, TT, LL, f) : ix_H)) ?_
  refine Prod.ext ?_ (Prod.ext ?_ ?_)
  · funext p i
    show moI (fiI x y) x y p i = if p < 170 then moI (fiI x y) x y p i else moI (fiI x y) x y p i
    split <;> rfl
  · rfl
  · funext p i
    show (0 : Int64) = if p = 3 then 0 else if p = 195 then 0 else 0
    split
    · rfl
    · split <;> rfl
