def tt_l : List Nat := [0, 4, 5, 102, 103, 8, 105, 1, 1, 1, 1, 8, 105, 1, 1, 1, 1, 8, 105, 1, 1, 1, 1, 8, 105, 1, 1, 1, 1, 104, 3, 106, 6, 7, 7, 7, 7, 2, 7, 7, 7, 7, 7, 7, 2, 7, 7, 7, 7, 7, 7, 2, 7, 7, 7, 7, 7, 7, 2, 7, 7, 7, 7, 7, 7, 3, 106, 6, 7, 7, 7, 7, 2, 7, 7, 7, 7, 7, 7, 2, 7, 7, 7, 7, 7, 7, 2, 7, 7, 7, 7, 7, 7, 2, 7, 7, 7, 7, 7, 7, 3, 106, 6, 7, 7, 7, 7, 2, 7, 7, 7, 7, 7, 7, 2, 7, 7, 7, 7, 7, 7, 2, 7, 7, 7, 7, 7, 7, 2, 7, 7, 7, 7, 7, 7, 3, 106, 6, 7, 7, 7, 7, 2, 7, 7, 7, 7, 7, 7, 2, 7, 7, 7, 7, 7, 7, 2, 7, 7, 7, 7, 7, 7, 2, 7, 7, 7, 7, 7, 7, 9, 100, 101, 101, 100, 100, 100, 100, 100, 100, 100, 100, 100, 100, 100, 100, 100, 100, 101, 101, 100, 100, 100, 100, 100, 102]
def ll_l : List Nat := [0, 0, 0, 64, 4, 0, 4, 0, 0, 0, 0, 0, 4, 0, 0, 0, 0, 0, 4, 0, 0, 0, 0, 0, 4, 0, 0, 0, 0, 4, 0, 4, 0, 0, 0, 0, 0, 0, 0, 0, 0, 0, 0, 0, 0, 0, 0, 0, 0, 0, 0, 0, 0, 0, 0, 0, 0, 0, 0, 0, 0, 0, 0, 0, 0, 0, 4, 0, 0, 0, 0, 0, 0, 0, 0, 0, 0, 0, 0, 0, 0, 0, 0, 0, 0, 0, 0, 0, 0, 0, 0, 0, 0, 0, 0, 0, 0, 0, 0, 0, 0, 4, 0, 0, 0, 0, 0, 0, 0, 0, 0, 0, 0, 0, 0, 0, 0, 0, 0, 0, 0, 0, 0, 0, 0, 0, 0, 0, 0, 0, 0, 0, 0, 0, 0, 0, 4, 0, 0, 0, 0, 0, 0, 0, 0, 0, 0, 0, 0, 0, 0, 0, 0, 0, 0, 0, 0, 0, 0, 0, 0, 0, 0, 0, 0, 0, 0, 0, 0, 0, 0, 4, 4, 4, 4, 4, 4, 64, 64, 64, 64, 4, 4, 16, 4, 4, 16, 16, 16, 16, 16, 16, 96, 16, 16, 64]
def rr_l : List (List (Option Nat)) := [[some 1, some 2, some 4, some 29], [], [some 1, some 3], [], [some 5, some 11, some 17, some 23], [some 1, none, none, none, none, none, none, some 6], [], [], [], [], [], [some 1, none, none, none, none, none, none, some 12], [], [], [], [], [], [some 1, none, none, none, none, none, none, some 18], [], [], [], [], [], [some 1, none, none, none, none, none, none, some 24], [], [], [], [], [], [some 30, some 65, some 100, some 135], [none, some 32, some 31], [some 37, some 44, some 51, some 58], [some 1, some 2, none, some 33, some 34, some 35, some 36], [some 1], [some 1], [some 1], [some 1], [some 1, some 2, none, none, some 38, some 39, some 40, some 41, some 42, some 43], [some 1], [some 1], [some 1], [some 1], [some 1], [some 1], [some 1, some 2, none, none, some 45, some 46, some 47, some 48, some 49, some 50], [some 1], [some 1], [some 1], [some 1], [some 1], [some 1], [some 1, some 2, none, none, some 52, some 53, some 54, some 55, some 56, some 57], [some 1], [some 1], [some 1], [some 1], [some 1], [some 1], [some 1, some 2, none, none, some 59, some 60, some 61, some 62, some 63, some 64], [some 1], [some 1], [some 1], [some 1], [some 1], [some 1], [none, some 67, some 66], [some 72, some 79, some 86, some 93], [some 1, some 2, none, some 68, some 69, some 70, some 71], [some 1], [some 1], [some 1], [some 1], [some 1, some 2, none, none, some 73, some 74, some 75, some 76, some 77, some 78], [some 1], [some 1], [some 1], [some 1], [some 1], [some 1], [some 1, some 2, none, none, some 80, some 81, some 82, some 83, some 84, some 85], [some 1], [some 1], [some 1], [some 1], [some 1], [some 1], [some 1, some 2, none, none, some 87, some 88, some 89, some 90, some 91, some 92], [some 1], [some 1], [some 1], [some 1], [some 1], [some 1], [some 1, some 2, none, none, some 94, some 95, some 96, some 97, some 98, some 99], [some 1], [some 1], [some 1], [some 1], [some 1], [some 1], [none, some 102, some 101], [some 107, some 114, some 121, some 128], [some 1, some 2, none, some 103, some 104, some 105, some 106], [some 1], [some 1], [some 1], [some 1], [some 1, some 2, none, none, some 108, some 109, some 110, some 111, some 112, some 113], [some 1], [some 1], [some 1], [some 1], [some 1], [some 1], [some 1, some 2, none, none, some 115, some 116, some 117, some 118, some 119, some 120], [some 1], [some 1], [some 1], [some 1], [some 1], [some 1], [some 1, some 2, none, none, some 122, some 123, some 124, some 125, some 126, some 127], [some 1], [some 1], [some 1], [some 1], [some 1], [some 1], [some 1, some 2, none, none, some 129, some 130, some 131, some 132, some 133, some 134], [some 1], [some 1], [some 1], [some 1], [some 1], [some 1], [none, some 137, some 136], [some 142, some 149, some 156, some 163], [some 1, some 2, none, some 138, some 139, some 140, some 141], [some 1], [some 1], [some 1], [some 1], [some 1, some 2, none, none, some 143, some 144, some 145, some 146, some 147, some 148], [some 1], [some 1], [some 1], [some 1], [some 1], [some 1], [some 1, some 2, none, none, some 150, some 151, some 152, some 153, some 154, some 155], [some 1], [some 1], [some 1], [some 1], [some 1], [some 1], [some 1, some 2, none, none, some 157, some 158, some 159, some 160, some 161, some 162], [some 1], [some 1], [some 1], [some 1], [some 1], [some 1], [some 1, some 2, none, none, some 164, some 165, some 166, some 167, some 168, some 169], [some 1], [some 1], [some 1], [some 1], [some 1], [some 1], [none, none, none, some 171, some 172, some 173, some 174, some 175, some 176, some 177, some 178, some 179, some 180, none, some 181, some 182, some 183, some 184, some 185, some 186, some 187, some 188, some 189, some 190, some 191, some 192, some 193, some 194, none, some 195], [], [], [], [], [], [], [], [], [], [], [], [], [], [], [], [], [], [], [], [], [], [], [], [], []]
theorem cat_r (p : Nat) : (Value.ref p).category = 1 := Eq.trans rfl rfl
theorem cat_i (x : Int32) : (Value.int x).category = 1 := Eq.trans rfl rfl
theorem cat_l (x : Int64) : (Value.long x).category = 2 := Eq.trans rfl rfl
theorem cat_n : Value.null.category = 1 := Eq.trans rfl rfl
theorem cat_a (n : Nat) : (Value.retAddr n).category = 1 := Eq.trans rfl rfl
theorem cs_nil : ix_cs [] = 0 := Eq.trans rfl rfl
theorem cs_cons (v : Value) (r : List Value) : ix_cs (v :: r) = v.category + ix_cs r := by
  unfold ix_cs
  rw [List.map_cons, List.sum_cons]
theorem tl_s (v : Value) (r : List Value) : (some v).toList ++ r = v :: r := Eq.trans rfl rfl
theorem tl_n (r : List Value) : (none : Option Value).toList ++ r = r := Eq.trans rfl rfl
theorem rf_s (q : Nat) : va_rf (some q) = .ref q := Eq.trans rfl rfl
theorem rf_n : va_rf none = .null := Eq.trans rfl rfl
def TT (p : Nat) : Nat := tt_l.getD p 9999
def LL (p : Nat) : Nat := ll_l.getD p 0
def RR (p j : Nat) : Option Nat := (rr_l.getD p []).getD j none
-- the class's ints by place and slot, the order of each user's bindings, the kept messages; the reference's ints by place and slot, its log
abbrev CM : Type := (Nat → Nat → Int32) × (Nat → Nat → Nat) × (Nat → Int64)
abbrev MM : Type := (Nat → Nat → Int32) × (Nat → Int64)
def ua (p : Nat) : Bool := Nat.beq p 6 || Nat.beq p 12 || Nat.beq p 18 || Nat.beq p 24
def hh (c : CM) (s : MM) : ix_H := (196, 1509, TT, LL, (fun p i => if p < 170 then c.1 p i else s.1 p i), (fun p j => if ua p = true then (if j < 4 then some (p + 1 + c.2.1 p j) else none) else RR p j), fun p i => if p = 3 then c.2.2 i else if p = 195 then s.2 i else 0)
def cI (c : CM) (p j : Nat) (v : Int32) : CM := (va_up c.1 p (va_up (c.1 p) j v), c.2.1, c.2.2)
def cP (c : CM) (p j q : Nat) : CM := (c.1, va_up c.2.1 p (va_up (c.2.1 p) j q), c.2.2)
def cJ (c : CM) (j : Nat) (v : Int64) : CM := (c.1, c.2.1, va_up c.2.2 j v)
def mI (s : MM) (p j : Nat) (v : Int32) : MM := (va_up s.1 p (va_up (s.1 p) j v), s.2)
def mJ (s : MM) (j : Nat) (v : Int64) : MM := (s.1, va_up s.2 j v)
theorem T_hh (c : CM) (s : MM) : ha_T (hh c s) = TT := Eq.trans rfl rfl
theorem L_hh (c : CM) (s : MM) : ha_L (hh c s) = LL := Eq.trans rfl rfl
theorem N_hh (c : CM) (s : MM) : ha_N (hh c s) = 196 := Eq.trans rfl rfl
theorem I_lo {c : CM} {s : MM} {p j : Nat} (h : p < 170) : ha_I (hh c s) p j = c.1 p j := if_pos h
theorem I_lo' {c : CM} {s : MM} {p j : Nat} (h : p < 170) : (fun p i => if p < 170 then c.1 p i else s.1 p i) p j = c.1 p j := if_pos h
theorem I_hi {c : CM} {s : MM} {p j : Nat} (h : 170 ≤ p) : ha_I (hh c s) p j = s.1 p j := if_neg (Nat.not_lt.mpr h)
theorem sI_lo {c : CM} {s : MM} {p j : Nat} {v : Int32} (h : p < 170) : hs_I (hh c s) p j v = hh (cI c p j v) s := by
  unfold hs_I hh
  refine congrArg (fun f => ((196, 1509, TT, LL, f, _, _) : ix_H)) ?_
  funext q i
  show va_up (fun p i => if p < 170 then c.1 p i else s.1 p i) p (va_up (fun i => if p < 170 then c.1 p i else s.1 p i) j v) q i = if q < 170 then va_up c.1 p (va_up (c.1 p) j v) q i else s.1 q i
  simp only [up_at]
  by_cases hq : q = p
  · subst hq
    simp only [if_true, h, up_at]
  · simp only [hq, if_false]
theorem sI_hi {c : CM} {s : MM} {p j : Nat} {v : Int32} (h : 170 ≤ p) : hs_I (hh c s) p j v = hh c (mI s p j v) := by
  unfold hs_I hh
  refine congrArg (fun f => ((196, 1509, TT, LL, f, _, _) : ix_H)) ?_
  funext q i
  have h' : ¬ p < 170 := by omega
  show va_up (fun p i => if p < 170 then c.1 p i else s.1 p i) p (va_up (fun i => if p < 170 then c.1 p i else s.1 p i) j v) q i = if q < 170 then c.1 q i else va_up s.1 p (va_up (s.1 p) j v) q i
  simp only [up_at]
  by_cases hq : q = p
  · subst hq
    simp only [if_true, h', if_false, up_at]
  · simp only [hq, if_false]
theorem J_3 {c : CM} {s : MM} {j : Nat} : ha_J (hh c s) 3 j = c.2.2 j := Eq.trans rfl rfl
theorem J_195 {c : CM} {s : MM} {j : Nat} : ha_J (hh c s) 195 j = s.2 j := Eq.trans rfl rfl
theorem sJ_3 {c : CM} {s : MM} {j : Nat} {v : Int64} : hs_J (hh c s) 3 j v = hh (cJ c j v) s := by
  unfold hs_J hh
  refine congrArg (fun f => ((196, 1509, TT, LL, _, _, f) : ix_H)) ?_
  funext q i
  show va_up (fun p i => if p = 3 then c.2.2 i else if p = 195 then s.2 i else 0) 3 (va_up (fun i => if 3 = 3 then c.2.2 i else if 3 = 195 then s.2 i else 0) j v) q i = if q = 3 then va_up c.2.2 j v i else if q = 195 then s.2 i else 0
  simp only [up_at]
  by_cases hq : q = 3
  · subst hq
    simp only [if_true, up_at]
  · simp only [hq, if_false]
theorem sJ_195 {c : CM} {s : MM} {j : Nat} {v : Int64} : hs_J (hh c s) 195 j v = hh c (mJ s j v) := by
  unfold hs_J hh
  refine congrArg (fun f => ((196, 1509, TT, LL, _, _, f) : ix_H)) ?_
  funext q i
  show va_up (fun p i => if p = 3 then c.2.2 i else if p = 195 then s.2 i else 0) 195 (va_up (fun i => if 195 = 3 then c.2.2 i else if 195 = 195 then s.2 i else 0) j v) q i = if q = 3 then c.2.2 i else if q = 195 then va_up s.2 j v i else 0
  simp only [up_at]
  by_cases hq : q = 195
  · subst hq
    simp [up_at]
  · simp only [hq, if_false]
theorem R_hh {c : CM} {s : MM} {p j : Nat} (h : ua p = false) : ha_R (hh c s) p j = RR p j := if_neg (by rw [h]; decide)
theorem R_ua {c : CM} {s : MM} {p j : Nat} (h : ua p = true) (hj : j < 4) : ha_R (hh c s) p j = some (p + 1 + c.2.1 p j) := (if_pos h).trans (if_pos hj)
theorem cI_at (c : CM) (p j q i : Nat) (v : Int32) : (cI c p j v).1 q i = if q = p ∧ i = j then v else c.1 q i := by
  show va_up c.1 p (va_up (c.1 p) j v) q i = _
  rw [up_at]
  by_cases h1 : q = p
  · subst h1
    rw [if_pos rfl, up_at]
    by_cases h2 : i = j <;> simp [h2]
  · rw [if_neg h1, if_neg (fun q => h1 q.1)]
theorem mI_at (c : MM) (p j q i : Nat) (v : Int32) : (mI c p j v).1 q i = if q = p ∧ i = j then v else c.1 q i := by
  show va_up c.1 p (va_up (c.1 p) j v) q i = _
  rw [up_at]
  by_cases h1 : q = p
  · subst h1
    rw [if_pos rfl, up_at]
    by_cases h2 : i = j <;> simp [h2]
  · rw [if_neg h1, if_neg (fun q => h1 q.1)]
theorem mJ_1 (s : MM) (j : Nat) (v : Int64) : (mJ s j v).1 = s.1 := Eq.trans rfl rfl
theorem mI_2 (s : MM) (p j : Nat) (v : Int32) : (mI s p j v).2 = s.2 := Eq.trans rfl rfl
theorem mJ_at (s : MM) (j i : Nat) (v : Int64) : (mJ s j v).2 i = if i = j then v else s.2 i := Eq.trans rfl rfl
theorem cJ_1 (c : CM) (j : Nat) (v : Int64) : (cJ c j v).1 = c.1 := Eq.trans rfl rfl
theorem cJ_2 (c : CM) (j : Nat) (v : Int64) : (cJ c j v).2.1 = c.2.1 := Eq.trans rfl rfl
theorem cJ_at (c : CM) (j i : Nat) (v : Int64) : (cJ c j v).2.2 i = if i = j then v else c.2.2 i := Eq.trans rfl rfl
theorem cI_2 (c : CM) (p j : Nat) (v : Int32) : (cI c p j v).2 = c.2 := Eq.trans rfl rfl
theorem cP_1 (c : CM) (p j q : Nat) : (cP c p j q).1 = c.1 := Eq.trans rfl rfl
theorem cP_3 (c : CM) (p j q : Nat) : (cP c p j q).2.2 = c.2.2 := Eq.trans rfl rfl
theorem Tm (c : CM) (s : MM) : ha_T (hh c s) 170 = 9 := Eq.trans rfl rfl
theorem Tm_secret (c : CM) (s : MM) : ha_T (hh c s) 171 = 100 := Eq.trans rfl rfl
theorem Lm_secret (c : CM) (s : MM) : ha_L (hh c s) 171 = 4 := Eq.trans rfl rfl
theorem Rm_secret (c : CM) (s : MM) : ha_R (hh c s) 170 3 = some 171 := Eq.trans rfl rfl
theorem Tm_admitted (c : CM) (s : MM) : ha_T (hh c s) 172 = 101 := Eq.trans rfl rfl
theorem Lm_admitted (c : CM) (s : MM) : ha_L (hh c s) 172 = 4 := Eq.trans rfl rfl
theorem Rm_admitted (c : CM) (s : MM) : ha_R (hh c s) 170 4 = some 172 := Eq.trans rfl rfl
theorem Tm_hasNonce (c : CM) (s : MM) : ha_T (hh c s) 173 = 101 := Eq.trans rfl rfl
theorem Lm_hasNonce (c : CM) (s : MM) : ha_L (hh c s) 173 = 4 := Eq.trans rfl rfl
theorem Rm_hasNonce (c : CM) (s : MM) : ha_R (hh c s) 170 5 = some 173 := Eq.trans rfl rfl
theorem Tm_nonce (c : CM) (s : MM) : ha_T (hh c s) 174 = 100 := Eq.trans rfl rfl
theorem Lm_nonce (c : CM) (s : MM) : ha_L (hh c s) 174 = 4 := Eq.trans rfl rfl
theorem Rm_nonce (c : CM) (s : MM) : ha_R (hh c s) 170 6 = some 174 := Eq.trans rfl rfl
theorem Tm_madeAt (c : CM) (s : MM) : ha_T (hh c s) 175 = 100 := Eq.trans rfl rfl
theorem Lm_madeAt (c : CM) (s : MM) : ha_L (hh c s) 175 = 4 := Eq.trans rfl rfl
theorem Rm_madeAt (c : CM) (s : MM) : ha_R (hh c s) 170 7 = some 175 := Eq.trans rfl rfl
theorem Tm_used (c : CM) (s : MM) : ha_T (hh c s) 176 = 100 := Eq.trans rfl rfl
theorem Lm_used (c : CM) (s : MM) : ha_L (hh c s) 176 = 4 := Eq.trans rfl rfl
theorem Rm_used (c : CM) (s : MM) : ha_R (hh c s) 170 8 = some 176 := Eq.trans rfl rfl
theorem Tm_end (c : CM) (s : MM) : ha_T (hh c s) 177 = 100 := Eq.trans rfl rfl
theorem Lm_end (c : CM) (s : MM) : ha_L (hh c s) 177 = 64 := Eq.trans rfl rfl
theorem Rm_end (c : CM) (s : MM) : ha_R (hh c s) 170 9 = some 177 := Eq.trans rfl rfl
theorem Tm_heavy (c : CM) (s : MM) : ha_T (hh c s) 178 = 100 := Eq.trans rfl rfl
theorem Lm_heavy (c : CM) (s : MM) : ha_L (hh c s) 178 = 64 := Eq.trans rfl rfl
theorem Rm_heavy (c : CM) (s : MM) : ha_R (hh c s) 170 10 = some 178 := Eq.trans rfl rfl
theorem Tm_first (c : CM) (s : MM) : ha_T (hh c s) 179 = 100 := Eq.trans rfl rfl
theorem Lm_first (c : CM) (s : MM) : ha_L (hh c s) 179 = 64 := Eq.trans rfl rfl
theorem Rm_first (c : CM) (s : MM) : ha_R (hh c s) 170 11 = some 179 := Eq.trans rfl rfl
theorem Tm_mark (c : CM) (s : MM) : ha_T (hh c s) 180 = 100 := Eq.trans rfl rfl
theorem Lm_mark (c : CM) (s : MM) : ha_L (hh c s) 180 = 64 := Eq.trans rfl rfl
theorem Rm_mark (c : CM) (s : MM) : ha_R (hh c s) 170 12 = some 180 := Eq.trans rfl rfl
theorem Tm_server (c : CM) (s : MM) : ha_T (hh c s) 181 = 100 := Eq.trans rfl rfl
theorem Lm_server (c : CM) (s : MM) : ha_L (hh c s) 181 = 4 := Eq.trans rfl rfl
theorem Rm_server (c : CM) (s : MM) : ha_R (hh c s) 170 14 = some 181 := Eq.trans rfl rfl
theorem Tm_shown (c : CM) (s : MM) : ha_T (hh c s) 182 = 100 := Eq.trans rfl rfl
theorem Lm_shown (c : CM) (s : MM) : ha_L (hh c s) 182 = 4 := Eq.trans rfl rfl
theorem Rm_shown (c : CM) (s : MM) : ha_R (hh c s) 170 15 = some 182 := Eq.trans rfl rfl
theorem Tm_serverTimer (c : CM) (s : MM) : ha_T (hh c s) 183 = 100 := Eq.trans rfl rfl
theorem Lm_serverTimer (c : CM) (s : MM) : ha_L (hh c s) 183 = 16 := Eq.trans rfl rfl
theorem Rm_serverTimer (c : CM) (s : MM) : ha_R (hh c s) 170 16 = some 183 := Eq.trans rfl rfl
theorem Tm_setG (c : CM) (s : MM) : ha_T (hh c s) 184 = 100 := Eq.trans rfl rfl
theorem Lm_setG (c : CM) (s : MM) : ha_L (hh c s) 184 = 4 := Eq.trans rfl rfl
theorem Rm_setG (c : CM) (s : MM) : ha_R (hh c s) 170 17 = some 184 := Eq.trans rfl rfl
theorem Tm_many (c : CM) (s : MM) : ha_T (hh c s) 185 = 100 := Eq.trans rfl rfl
theorem Lm_many (c : CM) (s : MM) : ha_L (hh c s) 185 = 4 := Eq.trans rfl rfl
theorem Rm_many (c : CM) (s : MM) : ha_R (hh c s) 170 18 = some 185 := Eq.trans rfl rfl
theorem Tm_state (c : CM) (s : MM) : ha_T (hh c s) 186 = 100 := Eq.trans rfl rfl
theorem Lm_state (c : CM) (s : MM) : ha_L (hh c s) 186 = 16 := Eq.trans rfl rfl
theorem Rm_state (c : CM) (s : MM) : ha_R (hh c s) 170 19 = some 186 := Eq.trans rfl rfl
theorem Tm_contact (c : CM) (s : MM) : ha_T (hh c s) 187 = 100 := Eq.trans rfl rfl
theorem Lm_contact (c : CM) (s : MM) : ha_L (hh c s) 187 = 16 := Eq.trans rfl rfl
theorem Rm_contact (c : CM) (s : MM) : ha_R (hh c s) 170 20 = some 187 := Eq.trans rfl rfl
theorem Tm_wanted (c : CM) (s : MM) : ha_T (hh c s) 188 = 101 := Eq.trans rfl rfl
theorem Lm_wanted (c : CM) (s : MM) : ha_L (hh c s) 188 = 16 := Eq.trans rfl rfl
theorem Rm_wanted (c : CM) (s : MM) : ha_R (hh c s) 170 21 = some 188 := Eq.trans rfl rfl
theorem Tm_cancelSent (c : CM) (s : MM) : ha_T (hh c s) 189 = 101 := Eq.trans rfl rfl
theorem Lm_cancelSent (c : CM) (s : MM) : ha_L (hh c s) 189 = 16 := Eq.trans rfl rfl
theorem Rm_cancelSent (c : CM) (s : MM) : ha_R (hh c s) 170 22 = some 189 := Eq.trans rfl rfl
theorem Tm_result (c : CM) (s : MM) : ha_T (hh c s) 190 = 100 := Eq.trans rfl rfl
theorem Lm_result (c : CM) (s : MM) : ha_L (hh c s) 190 = 16 := Eq.trans rfl rfl
theorem Rm_result (c : CM) (s : MM) : ha_R (hh c s) 170 23 = some 190 := Eq.trans rfl rfl
theorem Tm_came (c : CM) (s : MM) : ha_T (hh c s) 191 = 100 := Eq.trans rfl rfl
theorem Lm_came (c : CM) (s : MM) : ha_L (hh c s) 191 = 16 := Eq.trans rfl rfl
theorem Rm_came (c : CM) (s : MM) : ha_R (hh c s) 170 24 = some 191 := Eq.trans rfl rfl
theorem Tm_timer (c : CM) (s : MM) : ha_T (hh c s) 192 = 100 := Eq.trans rfl rfl
theorem Lm_timer (c : CM) (s : MM) : ha_L (hh c s) 192 = 96 := Eq.trans rfl rfl
theorem Rm_timer (c : CM) (s : MM) : ha_R (hh c s) 170 25 = some 192 := Eq.trans rfl rfl
theorem Tm_setA (c : CM) (s : MM) : ha_T (hh c s) 193 = 100 := Eq.trans rfl rfl
theorem Lm_setA (c : CM) (s : MM) : ha_L (hh c s) 193 = 16 := Eq.trans rfl rfl
theorem Rm_setA (c : CM) (s : MM) : ha_R (hh c s) 170 26 = some 193 := Eq.trans rfl rfl
theorem Tm_setE (c : CM) (s : MM) : ha_T (hh c s) 194 = 100 := Eq.trans rfl rfl
theorem Lm_setE (c : CM) (s : MM) : ha_L (hh c s) 194 = 16 := Eq.trans rfl rfl
theorem Rm_setE (c : CM) (s : MM) : ha_R (hh c s) 170 27 = some 194 := Eq.trans rfl rfl
theorem Tm_log (c : CM) (s : MM) : ha_T (hh c s) 195 = 102 := Eq.trans rfl rfl
theorem Lm_log (c : CM) (s : MM) : ha_L (hh c s) 195 = 64 := Eq.trans rfl rfl
theorem Rm_log (c : CM) (s : MM) : ha_R (hh c s) 170 29 = some 195 := Eq.trans rfl rfl
