def ix_cv (b scr : Nat) : Value → Value
  | .ref p => .ref (b + p)
  | .retAddr _ => .ref scr
  | v => v
theorem cv_cat (b scr : Nat) (v : Value) : (ix_cv b scr v).category = v.category := by cases v <;> rfl
theorem cv_cs (b scr : Nat) (vs : List Value) : ((vs.map (ix_cv b scr)).map (fun v => v.category)).sum = ix_cs vs := by
  unfold ix_cs
  induction vs with
  | nil => rfl
  | cons v vs ih => simp only [List.map_cons, List.sum_cons, cv_cat, ih]
theorem cv_rf (b scr : Nat) (q : Option Nat) : ix_cv b scr (va_rf q) = va_rf (q.map (fun x => b + x)) := by cases q <;> rfl
theorem ii_inv {f : Int32 → Int32 → Value} {st st' : List Value} (h : ix_ii f st = some st') : ∃ x y r, st = .int y :: .int x :: r ∧ st' = f x y :: r := by
  unfold ix_ii at h
  split at h
  · exact ⟨_, _, _, rfl, (Option.some.inj h).symm⟩
  · cases h
theorem ll_inv {f : Int64 → Int64 → Value} {st st' : List Value} (h : ix_ll f st = some st') : ∃ x y r, st = .long y :: .long x :: r ∧ st' = f x y :: r := by
  unfold ix_ll at h
  split at h
  · exact ⟨_, _, _, rfl, (Option.some.inj h).symm⟩
  · cases h
theorem li_inv {f : Int64 → Int32 → Value} {st st' : List Value} (h : ix_li f st = some st') : ∃ x y r, st = .int y :: .long x :: r ∧ st' = f x y :: r := by
  unfold ix_li at h
  split at h
  · exact ⟨_, _, _, rfl, (Option.some.inj h).symm⟩
  · cases h
theorem i1_inv {f : Int32 → Value} {st st' : List Value} (h : ix_i1 f st = some st') : ∃ x r, st = .int x :: r ∧ st' = f x :: r := by
  unfold ix_i1 at h
  split at h
  · exact ⟨_, _, rfl, (Option.some.inj h).symm⟩
  · cases h
theorem l1_inv {f : Int64 → Value} {st st' : List Value} (h : ix_l1 f st = some st') : ∃ x r, st = .long x :: r ∧ st' = f x :: r := by
  unfold ix_l1 at h
  split at h
  · exact ⟨_, _, rfl, (Option.some.inj h).symm⟩
  · cases h
theorem iz_inv {f : Int32 → Int32 → Value} {st st' : List Value} (h : ix_iz f st = some st') : ∃ x y r, st = .int y :: .int x :: r ∧ ¬ y = 0 ∧ st' = f x y :: r := by
  unfold ix_iz at h
  split at h
  · split at h
    · cases h
    · next hz => exact ⟨_, _, _, rfl, hz, (Option.some.inj h).symm⟩
  · cases h
theorem lz_inv {f : Int64 → Int64 → Value} {st st' : List Value} (h : ix_lz f st = some st') : ∃ x y r, st = .long y :: .long x :: r ∧ ¬ y = 0 ∧ st' = f x y :: r := by
  unfold ix_lz at h
  split at h
  · split at h
    · cases h
    · next hz => exact ⟨_, _, _, rfl, hz, (Option.some.inj h).symm⟩
  · cases h
theorem v1_inv {f : Value → List Value} {st st' : List Value} (h : ix_v1 f st = some st') : ∃ v r, st = v :: r ∧ v.category = 1 ∧ st' = f v ++ r := by
  unfold ix_v1 at h
  split at h
  · split at h
    · next hz => exact ⟨_, _, rfl, hz, (Option.some.inj h).symm⟩
    · cases h
  · cases h
theorem v2_inv {f : Value → Value → List Value} {st st' : List Value} (h : ix_v2 f st = some st') : ∃ v w r, st = v :: w :: r ∧ v.category = 1 ∧ w.category = 1 ∧ st' = f v w ++ r := by
  unfold ix_v2 at h
  split at h
  · split at h
    · next hz => exact ⟨_, _, _, rfl, hz.1, hz.2, (Option.some.inj h).symm⟩
    · cases h
  · cases h
theorem v3_inv {f : Value → Value → Value → List Value} {st st' : List Value} (h : ix_v3 f st = some st') : ∃ v w z r, st = v :: w :: z :: r ∧ v.category = 1 ∧ w.category = 1 ∧ z.category = 1 ∧ st' = f v w z ++ r := by
  unfold ix_v3 at h
  split at h
  · split at h
    · next hz => exact ⟨_, _, _, _, rfl, hz.1, hz.2.1, hz.2.2, (Option.some.inj h).symm⟩
    · cases h
  · cases h
theorem cb_inv {P : Prop} {d : Decidable P} {pc t : Nat} {off : Int} {r st' : List Value} (h : ix_cb P d pc off r = some (t, st')) : st' = r ∧ (pc : Int) + off = (ix_tg pc off : Nat) ∧ t = @ite Nat P d (ix_tg pc off) (pc + 3) := by
  unfold ix_cb at h
  split at h
  · next hz =>
    simp only [Option.some.injEq, Prod.mk.injEq] at h
    exact ⟨h.2.symm, (Int.toNat_of_nonneg hz).symm, h.1.symm⟩
  · cases h
section GR
variable {p : Program} {l : Launch} {e : Env} {R : Room} {s : State} {m : MethodId} {args : Array Value} {below : List Frame} {meth : Method} {c : Code} {H : Heap} {locs : List Loc} {cells slots : Nat} {Q : State → Prop} {cc : ByteArray} {pc t n b scr : Nat} {ls : Array Slot} {st st' : List Value} {i : Instr} {cp : Nat → Nat × Nat × Nat} {own : String}
set_option maxHeartbeats 1000000 in
theorem ix_aluW (hx : p.tables.exec = Jvm.exec) (hb : c.code = cc) (hd : decode cc pc = .ok (i, n)) (hn : ix_len i n = true) (hown : s.vm.findClass own = some m.cls) (hci : ∀ x, (cp x).1 = 1 → (Jvm.Cond.constant own x (Int32.ofNat (cp x).2.1)).before args s = true) (hcj : ∀ x, (cp x).1 = 2 → (Jvm.Cond.constantLong own x (Int64.ofNat (cp x).2.1)).before args s = true) (ha : ix_alu cp i st = some st') (kk : W p l e R s m args below meth c H locs cells slots Q (F0 m (pc + n) ls (st'.map (ix_cv b scr)))) : W p l e R s m args below meth c H locs cells slots Q (F0 m pc ls (st.map (ix_cv b scr))) := by
  cases i with
  | iconst z => (obtain rfl : n = 1 := eq_of_beq hn; obtain rfl := Option.some.inj ha; exact lv_iconst hx hb hd rfl kk)
  | bipush z => (obtain rfl : n = 2 := eq_of_beq hn; obtain rfl := Option.some.inj ha; exact lv_bipush hx hb hd rfl kk)
  | sipush z => (obtain rfl : n = 3 := eq_of_beq hn; obtain rfl := Option.some.inj ha; exact lv_sipush hx hb hd rfl kk)
  | lconst z => (obtain rfl : n = 1 := eq_of_beq hn; obtain rfl := Option.some.inj ha; exact lv_lconst hx hb hd rfl kk)
  | aconst_null => (obtain rfl : n = 1 := eq_of_beq hn; obtain rfl := Option.some.inj ha; exact lv_null hx hb hd kk)
  | ldc z =>
    obtain rfl : n = 2 := eq_of_beq hn
    simp only [ix_alu] at ha
    split at ha
    · next hz =>
      obtain rfl := Option.some.inj ha
      exact lv_ldc hx hb hown (hci z hz) hd kk
    · cases ha
  | ldc_w z =>
    obtain rfl : n = 3 := eq_of_beq hn
    simp only [ix_alu] at ha
    split at ha
    · next hz =>
      obtain rfl := Option.some.inj ha
      exact lv_ldcw hx hb hown (hci z hz) hd kk
    · cases ha
  | ldc2_w z =>
    obtain rfl : n = 3 := eq_of_beq hn
    simp only [ix_alu] at ha
    split at ha
    · next hz =>
      obtain rfl := Option.some.inj ha
      exact lv_ldc2 hx hb hown (hcj z hz) hd kk
    · cases ha
  | iadd => (obtain rfl : n = 1 := eq_of_beq hn; obtain ⟨x, y, r, rfl, rfl⟩ := ii_inv ha; exact lv_iadd hx hb hd kk)
  | isub => (obtain rfl : n = 1 := eq_of_beq hn; obtain ⟨x, y, r, rfl, rfl⟩ := ii_inv ha; exact lv_isub hx hb hd kk)
  | imul => (obtain rfl : n = 1 := eq_of_beq hn; obtain ⟨x, y, r, rfl, rfl⟩ := ii_inv ha; exact lv_imul hx hb hd kk)
  | iand => (obtain rfl : n = 1 := eq_of_beq hn; obtain ⟨x, y, r, rfl, rfl⟩ := ii_inv ha; exact lv_iand hx hb hd kk)
  | ior => (obtain rfl : n = 1 := eq_of_beq hn; obtain ⟨x, y, r, rfl, rfl⟩ := ii_inv ha; exact lv_ior hx hb hd kk)
  | ixor => (obtain rfl : n = 1 := eq_of_beq hn; obtain ⟨x, y, r, rfl, rfl⟩ := ii_inv ha; exact lv_ixor hx hb hd kk)
  | ishl => (obtain rfl : n = 1 := eq_of_beq hn; obtain ⟨x, y, r, rfl, rfl⟩ := ii_inv ha; exact lv_ishl hx hb hd kk)
  | ishr => (obtain rfl : n = 1 := eq_of_beq hn; obtain ⟨x, y, r, rfl, rfl⟩ := ii_inv ha; exact lv_ishr hx hb hd kk)
  | iushr => (obtain rfl : n = 1 := eq_of_beq hn; obtain ⟨x, y, r, rfl, rfl⟩ := ii_inv ha; exact lv_iushr hx hb hd rfl kk)
  | idiv => (obtain rfl : n = 1 := eq_of_beq hn; obtain ⟨x, y, r, rfl, hz, rfl⟩ := iz_inv ha; exact lv_idiv hx hb hd hz kk)
  | irem => (obtain rfl : n = 1 := eq_of_beq hn; obtain ⟨x, y, r, rfl, hz, rfl⟩ := iz_inv ha; exact lv_irem hx hb hd hz kk)
  | ldiv => (obtain rfl : n = 1 := eq_of_beq hn; obtain ⟨x, y, r, rfl, hz, rfl⟩ := lz_inv ha; exact lv_ldiv hx hb hd hz kk)
  | lrem => (obtain rfl : n = 1 := eq_of_beq hn; obtain ⟨x, y, r, rfl, hz, rfl⟩ := lz_inv ha; exact lv_lrem hx hb hd hz kk)
  | ineg => (obtain rfl : n = 1 := eq_of_beq hn; obtain ⟨x, r, rfl, rfl⟩ := i1_inv ha; exact lv_ineg hx hb hd kk)
  | ladd => (obtain rfl : n = 1 := eq_of_beq hn; obtain ⟨x, y, r, rfl, rfl⟩ := ll_inv ha; exact lv_ladd hx hb hd kk)
  | lsub => (obtain rfl : n = 1 := eq_of_beq hn; obtain ⟨x, y, r, rfl, rfl⟩ := ll_inv ha; exact lv_lsub hx hb hd kk)
  | lmul => (obtain rfl : n = 1 := eq_of_beq hn; obtain ⟨x, y, r, rfl, rfl⟩ := ll_inv ha; exact lv_lmul hx hb hd kk)
  | land => (obtain rfl : n = 1 := eq_of_beq hn; obtain ⟨x, y, r, rfl, rfl⟩ := ll_inv ha; exact lv_land hx hb hd kk)
  | lor => (obtain rfl : n = 1 := eq_of_beq hn; obtain ⟨x, y, r, rfl, rfl⟩ := ll_inv ha; exact lv_lor hx hb hd kk)
  | lxor => (obtain rfl : n = 1 := eq_of_beq hn; obtain ⟨x, y, r, rfl, rfl⟩ := ll_inv ha; exact lv_lxor hx hb hd kk)
  | lcmp => (obtain rfl : n = 1 := eq_of_beq hn; obtain ⟨x, y, r, rfl, rfl⟩ := ll_inv ha; exact W.lcmp hx hb hd kk)
  | lshl => (obtain rfl : n = 1 := eq_of_beq hn; obtain ⟨x, y, r, rfl, rfl⟩ := li_inv ha; exact lv_lshl hx hb hd rfl kk)
  | lshr => (obtain rfl : n = 1 := eq_of_beq hn; obtain ⟨x, y, r, rfl, rfl⟩ := li_inv ha; exact lv_lshr hx hb hd rfl kk)
  | lushr => (obtain rfl : n = 1 := eq_of_beq hn; obtain ⟨x, y, r, rfl, rfl⟩ := li_inv ha; exact lv_lushr hx hb hd rfl kk)
  | i2l => (obtain rfl : n = 1 := eq_of_beq hn; obtain ⟨x, r, rfl, rfl⟩ := i1_inv ha; exact lv_i2l hx hb hd rfl kk)
  | l2i => (obtain rfl : n = 1 := eq_of_beq hn; obtain ⟨x, r, rfl, rfl⟩ := l1_inv ha; exact lv_l2i hx hb hd rfl kk)
  | dup => (obtain rfl : n = 1 := eq_of_beq hn; obtain ⟨v, r, rfl, hv, rfl⟩ := v1_inv ha; exact lv_dup hx hb hd (by rw [cv_cat]; exact hv) kk)
  | pop => (obtain rfl : n = 1 := eq_of_beq hn; obtain ⟨v, r, rfl, hv, rfl⟩ := v1_inv ha; exact lv_pop hx hb hd (by rw [cv_cat]; exact hv) kk)
  | dup_x1 => (obtain rfl : n = 1 := eq_of_beq hn; obtain ⟨v, w, r, rfl, hv, hw, rfl⟩ := v2_inv ha; exact lv_dup_x1 hx hb hd (by rw [cv_cat]; exact hv) (by rw [cv_cat]; exact hw) kk)
  | dup_x2 => (obtain rfl : n = 1 := eq_of_beq hn; obtain ⟨v, w, z, r, rfl, hv, hw, hz, rfl⟩ := v3_inv ha; exact lv_dup_x2 hx hb hd (by rw [cv_cat]; exact hv) (by rw [cv_cat]; exact hw) (by rw [cv_cat]; exact hz) kk)
  | dup2 => (obtain rfl : n = 1 := eq_of_beq hn; obtain ⟨v, w, r, rfl, hv, hw, rfl⟩ := v2_inv ha; exact lv_dup2_11 hx hb hd (by rw [cv_cat]; exact hv) (by rw [cv_cat]; exact hw) kk)
  | _ => exact nomatch (show (none : Option (List Value)) = some st' from ha)
set_option maxHeartbeats 1000000 in
theorem ix_brW (hx : p.tables.exec = Jvm.exec) (hb : c.code = cc) (hd : decode cc pc = .ok (i, n)) (hn : ix_len i n = true) (ha : ix_br i pc st = some (t, st')) (kk : W p l e R s m args below meth c H locs cells slots Q (F0 m t ls (st'.map (ix_cv b scr)))) : W p l e R s m args below meth c H locs cells slots Q (F0 m pc ls (st.map (ix_cv b scr))) := by
  cases i with
  | goto off => (obtain rfl : n = 3 := eq_of_beq hn; obtain ⟨rfl, ht, h2⟩ := cb_inv ha; rw [if_pos trivial] at h2; subst h2; exact lv_goto hx hb hd ht kk)
  | ifCond cd off =>
    obtain rfl : n = 3 := eq_of_beq hn
    simp only [ix_br] at ha
    split at ha
    · obtain ⟨rfl, ht, h2⟩ := cb_inv ha
      subst h2
      cases cd with
      | eq => exact lv_if_eq hx hb hd ht (fun hc => by rw [if_pos (c := ix_c1 Jvm.ClassFile.Cond.eq _) hc] at kk; exact kk) (fun hc => by rw [if_neg (c := ix_c1 Jvm.ClassFile.Cond.eq _) hc] at kk; exact kk)
      | ne => exact lv_if_ne hx hb hd ht (fun hc => by rw [if_pos (c := ix_c1 Jvm.ClassFile.Cond.ne _) hc] at kk; exact kk) (fun hc => by rw [if_neg (c := ix_c1 Jvm.ClassFile.Cond.ne _) (fun q => q hc)] at kk; exact kk)
      | lt => exact lv_if_lt hx hb hd ht (fun hc => by rw [if_pos (c := ix_c1 Jvm.ClassFile.Cond.lt _) hc] at kk; exact kk) (fun hc => by rw [if_neg (c := ix_c1 Jvm.ClassFile.Cond.lt _) hc] at kk; exact kk)
      | ge => exact lv_if_ge hx hb hd ht (fun hc => by rw [if_pos (c := ix_c1 Jvm.ClassFile.Cond.ge _) hc] at kk; exact kk) (fun hc => by rw [if_neg (c := ix_c1 Jvm.ClassFile.Cond.ge _) hc] at kk; exact kk)
      | gt => exact lv_if_gt hx hb hd ht (fun hc => by rw [if_pos (c := ix_c1 Jvm.ClassFile.Cond.gt _) hc] at kk; exact kk) (fun hc => by rw [if_neg (c := ix_c1 Jvm.ClassFile.Cond.gt _) hc] at kk; exact kk)
      | le => exact lv_if_le hx hb hd ht (fun hc => by rw [if_pos (c := ix_c1 Jvm.ClassFile.Cond.le _) hc] at kk; exact kk) (fun hc => by rw [if_neg (c := ix_c1 Jvm.ClassFile.Cond.le _) hc] at kk; exact kk)
    · cases ha
  | if_icmp cd off =>
    obtain rfl : n = 3 := eq_of_beq hn
    simp only [ix_br] at ha
    split at ha
    · obtain ⟨rfl, ht, h2⟩ := cb_inv ha
      subst h2
      cases cd with
      | eq => exact lv_icmp_eq hx hb hd ht (fun hc => by rw [if_pos (c := ix_c2 Jvm.ClassFile.Cond.eq _ _) hc] at kk; exact kk) (fun hc => by rw [if_neg (c := ix_c2 Jvm.ClassFile.Cond.eq _ _) hc] at kk; exact kk)
      | ne => exact lv_icmp_ne hx hb hd ht (fun hc => by rw [if_pos (c := ix_c2 Jvm.ClassFile.Cond.ne _ _) hc] at kk; exact kk) (fun hc => by rw [if_neg (c := ix_c2 Jvm.ClassFile.Cond.ne _ _) (fun q => q hc)] at kk; exact kk)
      | lt => exact lv_icmp_lt hx hb hd ht (fun hc => by rw [if_pos (c := ix_c2 Jvm.ClassFile.Cond.lt _ _) hc] at kk; exact kk) (fun hc => by rw [if_neg (c := ix_c2 Jvm.ClassFile.Cond.lt _ _) hc] at kk; exact kk)
      | ge => exact lv_icmp_ge hx hb hd ht (fun hc => by rw [if_pos (c := ix_c2 Jvm.ClassFile.Cond.ge _ _) hc] at kk; exact kk) (fun hc => by rw [if_neg (c := ix_c2 Jvm.ClassFile.Cond.ge _ _) hc] at kk; exact kk)
      | gt => exact lv_icmp_gt hx hb hd ht (fun hc => by rw [if_pos (c := ix_c2 Jvm.ClassFile.Cond.gt _ _) hc] at kk; exact kk) (fun hc => by rw [if_neg (c := ix_c2 Jvm.ClassFile.Cond.gt _ _) hc] at kk; exact kk)
      | le => exact lv_icmp_le hx hb hd ht (fun hc => by rw [if_pos (c := ix_c2 Jvm.ClassFile.Cond.le _ _) hc] at kk; exact kk) (fun hc => by rw [if_neg (c := ix_c2 Jvm.ClassFile.Cond.le _ _) hc] at kk; exact kk)
    · cases ha
  | ifnull off =>
    obtain rfl : n = 3 := eq_of_beq hn
    simp only [ix_br] at ha
    split at ha
    · obtain ⟨rfl, ht, h2⟩ := cb_inv ha
      rw [if_pos trivial] at h2
      subst h2
      exact lv_ifnullN hx hb hd ht kk
    · simp only [Option.some.injEq, Prod.mk.injEq] at ha
      obtain ⟨rfl, rfl⟩ := ha
      exact lv_ifnull hx hb hd kk
    · cases ha
  | ifnonnull off =>
    obtain rfl : n = 3 := eq_of_beq hn
    simp only [ix_br] at ha
    split at ha
    · simp only [Option.some.injEq, Prod.mk.injEq] at ha
      obtain ⟨rfl, rfl⟩ := ha
      exact lv_ifnonnullN hx hb hd kk
    · obtain ⟨rfl, ht, h2⟩ := cb_inv ha
      rw [if_pos trivial] at h2
      subst h2
      exact lv_ifnonnull hx hb hd ht kk
    · cases ha
  | lookupswitch d ps =>
    simp only [ix_br] at ha
    split at ha
    · split at ha
      · next hz =>
        simp only [Option.some.injEq, Prod.mk.injEq] at ha
        obtain ⟨rfl, rfl⟩ := ha
        exact lv_lookup hx hb hd hz.2 rfl (Int.toNat_of_nonneg hz.1).symm kk
      · cases ha
    · cases ha
  | tableswitch d lo hi os =>
    simp only [ix_br] at ha
    split at ha
    · split at ha
      · next hc =>
        split at ha
        · next hz =>
          simp only [Option.some.injEq, Prod.mk.injEq] at ha
          obtain ⟨rfl, rfl⟩ := ha
          exact lv_tableOut hx hb hd hc (Int.toNat_of_nonneg hz).symm kk
        · cases ha
      · next hc =>
        split at ha
        · next o ho2 =>
          split at ha
          · next hz =>
            simp only [Option.some.injEq, Prod.mk.injEq] at ha
            obtain ⟨rfl, rfl⟩ := ha
            exact lv_tableIn hx hb hd (fun h => hc (Or.inl h)) (fun h => hc (Or.inr h)) ho2 (Int.toNat_of_nonneg hz).symm kk
          · cases ha
        · cases ha
    · cases ha
  | _ => exact nomatch (show (none : Option (Nat × List Value)) = some (t, st') from ha)
end GR
def ix_nu (v : Value) : Bool := match v with
  | .retAddr (_ + 1) => true
  | _ => false
def ix_pr (b scr : Nat) (lv : List Value) : List (Nat × Value) := (List.range lv.length).filterMap (fun i => (lv[i]?).bind (fun v => if ix_nu v = true then none else some (i, ix_cv b scr v)))
theorem pr_mem {b scr : Nat} {lv : List Value} {q : Nat × Value} : q ∈ ix_pr b scr lv ↔ ∃ v, lv[q.1]? = some v ∧ ix_nu v = false ∧ q.2 = ix_cv b scr v := by
  unfold ix_pr
  rw [List.mem_filterMap]
  constructor
  · rintro ⟨i, hi, h⟩
    cases hv : lv[i]? with
    | none => rw [hv] at h; cases h
    | some v =>
      rw [hv, Option.bind_some] at h
      split at h
      · cases h
      · next hz =>
        cases h
        exact ⟨v, hv, by simpa using hz, rfl⟩
  · rintro ⟨v, hv, hz, h⟩
    refine ⟨q.1, List.mem_range.mpr (List.getElem?_eq_some_iff.mp hv).1, ?_⟩
    rw [hv, Option.bind_some, if_neg (by rw [hz]; decide), ← h]
def ix_lh (ls : Array Slot) (nL b scr : Nat) (lg : List Nat) (lv : List Value) : Prop := lv_has ls nL (ix_pr b scr lv) ∧ lv.length = nL ∧ ∀ (j : Nat) (w : Value), lv[j]? = some w → w.category = 2 → j ∈ lg
theorem lh_at {ls : Array Slot} {nL b scr i : Nat} {lg : List Nat} {lv : List Value} {v : Value} (h : ix_lh ls nL b scr lg lv) (hv : lv[i]? = some v) (hn : ix_nu v = false) : ls[i]? = some (.val (ix_cv b scr v)) := h.1.2.2 (i, ix_cv b scr v) (pr_mem.mpr ⟨v, hv, hn, rfl⟩)
theorem lh_p1 {ls' : Array Slot} {nL b scr i : Nat} {lg : List Nat} {lv : List Value} {v : Value} (hl : lv.length = nL) (hg : ∀ (j : Nat) (w : Value), lv[j]? = some w → w.category = 2 → j ∈ lg) (hc : v.category = 1) (hi : i < lv.length) (h2 : ∀ g ∈ lg, ¬ g + 1 = i)
    (h' : lv_has ls' nL ((i, ix_cv b scr v) :: (ix_pr b scr lv).filter (fun q => !(q.1 == i) && !(q.1 + 1 == i && q.2.category == 2)))) : ix_lh ls' nL b scr lg (lv.set i v) := by
  refine ⟨⟨h'.1, h'.2.1, fun q hq => ?_⟩, by rw [List.length_set]; exact hl, fun j w hj hw => ?_⟩
  · obtain ⟨w, hw, hz, he⟩ := pr_mem.mp hq
    by_cases hqi : q.1 = i
    · rw [hqi, List.getElem?_set_self hi] at hw
      cases hw
      have := h'.2.2 (i, ix_cv b scr v) List.mem_cons_self
      rw [hqi, he]
      exact this
    · rw [List.getElem?_set_ne (Ne.symm hqi)] at hw
      refine h'.2.2 q (List.mem_cons_of_mem _ (List.mem_filter.mpr ⟨pr_mem.mpr ⟨w, hw, hz, he⟩, ?_⟩))
      have h3 : ¬ (q.1 + 1 = i ∧ q.2.category = 2) := by
        rintro ⟨z1, z2⟩
        rw [he, cv_cat] at z2
        exact h2 _ (hg _ _ hw z2) z1
      simp only [Bool.and_eq_true, Bool.not_eq_true', beq_eq_false_iff_ne, ne_eq, Bool.and_eq_false_iff, hqi, not_false_eq_true, true_and]
      by_cases z1 : q.1 + 1 = i
      · exact Or.inr (fun z2 => h3 ⟨z1, z2⟩)
      · exact Or.inl z1
  · by_cases hji : j = i
    · subst hji
      rw [List.getElem?_set_self hi] at hj
      cases hj
      omega
    · rw [List.getElem?_set_ne (Ne.symm hji)] at hj
      exact hg j w hj hw
theorem lh_p2 {ls' : Array Slot} {nL b scr i : Nat} {lg : List Nat} {lv : List Value} {v : Value} (hl : lv.length = nL) (hg : ∀ (j : Nat) (w : Value), lv[j]? = some w → w.category = 2 → j ∈ lg) (hi : i + 1 < lv.length) (h0 : i ∈ lg) (h2 : ∀ g ∈ lg, ¬ g + 1 = i)
    (h' : lv_has ls' nL ((i, ix_cv b scr v) :: (ix_pr b scr lv).filter (fun q => !(q.1 == i) && (!(q.1 == i + 1) && !(q.1 + 1 == i && q.2.category == 2))))) : ix_lh ls' nL b scr lg ((lv.set i v).set (i + 1) (.retAddr 1)) := by
  refine ⟨⟨h'.1, h'.2.1, fun q hq => ?_⟩, by rw [List.length_set, List.length_set]; exact hl, fun j w hj hw => ?_⟩
  · obtain ⟨w, hw, hz, he⟩ := pr_mem.mp hq
    by_cases hq1 : q.1 = i + 1
    · rw [hq1, List.getElem?_set_self (by rw [List.length_set]; exact hi)] at hw
      cases hw
      cases hz
    · rw [List.getElem?_set_ne (Ne.symm hq1)] at hw
      by_cases hqi : q.1 = i
      · rw [hqi, List.getElem?_set_self (by omega)] at hw
        cases hw
        have := h'.2.2 (i, ix_cv b scr v) List.mem_cons_self
        rw [hqi, he]
        exact this
      · rw [List.getElem?_set_ne (Ne.symm hqi)] at hw
        refine h'.2.2 q (List.mem_cons_of_mem _ (List.mem_filter.mpr ⟨pr_mem.mpr ⟨w, hw, hz, he⟩, ?_⟩))
        have h3 : ¬ (q.1 + 1 = i ∧ q.2.category = 2) := by
          rintro ⟨z1, z2⟩
          rw [he, cv_cat] at z2
          exact h2 _ (hg _ _ hw z2) z1
        simp only [Bool.and_eq_true, Bool.not_eq_true', beq_eq_false_iff_ne, ne_eq, Bool.and_eq_false_iff, hqi, hq1, not_false_eq_true, true_and]
        by_cases z1 : q.1 + 1 = i
        · exact Or.inr (fun z2 => h3 ⟨z1, z2⟩)
        · exact Or.inl z1
  · by_cases hj1 : j = i + 1
    · subst hj1
      rw [List.getElem?_set_self (by rw [List.length_set]; exact hi)] at hj
      cases hj
      cases hw
    · rw [List.getElem?_set_ne (Ne.symm hj1)] at hj
      by_cases hji : j = i
      · subst hji; exact h0
      · rw [List.getElem?_set_ne (Ne.symm hji)] at hj
        exact hg j w hj hw
theorem ga_inv {o : Option Value} {w : Value} (h : ix_ga o = some w) : o = some w ∧ ((∃ x, w = .ref x) ∨ w = .null ∨ w = .retAddr 0) := by
  unfold ix_ga at h
  split at h
  · cases h; exact ⟨rfl, Or.inl ⟨_, rfl⟩⟩
  · cases h; exact ⟨rfl, Or.inr (Or.inl rfl)⟩
  · cases h; exact ⟨rfl, Or.inr (Or.inr rfl)⟩
  · cases h
theorem gi_inv {o : Option Value} {w : Value} (h : ix_gi o = some w) : o = some w ∧ ∃ x, w = .int x := by
  unfold ix_gi at h
  split at h
  · cases h; exact ⟨rfl, ⟨_, rfl⟩⟩
  · cases h
theorem gl_inv {o : Option Value} {w : Value} (h : ix_gl o = some w) : o = some w ∧ ∃ x, w = .long x := by
  unfold ix_gl at h
  split at h
  · cases h; exact ⟨rfl, ⟨_, rfl⟩⟩
  · cases h
theorem ld_inv {lv st lv' st' : List Value} {o : Option Value} (h : ix_ld lv st o = some (lv', st')) : ∃ w, o = some w ∧ lv' = lv ∧ st' = w :: st := by
  unfold ix_ld at h
  split at h
  · simp only [Option.some.injEq, Prod.mk.injEq] at h
    exact ⟨_, rfl, h.1.symm, h.2.symm⟩
  · cases h
theorem p1_inv {lg : List Nat} {lv r lv' st' : List Value} {i : Nat} {v : Value} (h : ix_p1 lg lv i v r = some (lv', st')) : i < lv.length ∧ i ∉ lg ∧ (∀ g ∈ lg, ¬ g + 1 = i) ∧ lv' = lv.set i v ∧ st' = r := by
  unfold ix_p1 at h
  split at h
  · next hz =>
    simp only [Option.some.injEq, Prod.mk.injEq] at h
    exact ⟨hz.1, hz.2.1, hz.2.2, h.1.symm, h.2.symm⟩
  · cases h
theorem sa_inv {lg : List Nat} {lv st lv' st' : List Value} {i : Nat} {g : Option Value → Option Value} (h : ix_sa lg lv i g st = some (lv', st')) : ∃ v r w, st = v :: r ∧ g (some v) = some w ∧ ix_p1 lg lv i w r = some (lv', st') := by
  unfold ix_sa at h
  split at h
  · split at h
    · next hz => exact ⟨_, _, _, rfl, hz, h⟩
    · cases h
  · cases h
theorem sl_inv {lg : List Nat} {lv st lv' st' : List Value} {i : Nat} (h : ix_sl lg lv i st = some (lv', st')) : ∃ x r, st = .long x :: r ∧ i + 1 < lv.length ∧ i ∈ lg ∧ (∀ g ∈ lg, ¬ g + 1 = i) ∧ lv' = (lv.set i (.long x)).set (i + 1) (.retAddr 1) ∧ st' = r := by
  unfold ix_sl ix_p2 at h
  split at h
  · split at h
    · next hz =>
      simp only [Option.some.injEq, Prod.mk.injEq] at h
      exact ⟨_, _, rfl, hz.1, hz.2.1, hz.2.2.2, h.1.symm, h.2.symm⟩
    · cases h
  · cases h
section GL
variable {p : Program} {l : Launch} {e : Env} {R : Room} {s : State} {m : MethodId} {args : Array Value} {below : List Frame} {meth : Method} {c : Code} {H : Heap} {locs : List Loc} {cells slots : Nat} {Q : State → Prop} {cc : ByteArray} {pc n b scr nL : Nat} {ls : Array Slot} {lv lv' st st' : List Value} {i : Instr} {lg : List Nat}
set_option maxHeartbeats 1000000 in
theorem ix_lcW (hx : p.tables.exec = Jvm.exec) (hb : c.code = cc) (hd : decode cc pc = .ok (i, n)) (hn : ix_len i n = true) (hl : ix_lh ls nL b scr lg lv) (ha : ix_lc lg i lv st = some (lv', st')) (kk : ∀ ls' : Array Slot, ix_lh ls' nL b scr lg lv' → W p l e R s m args below meth c H locs cells slots Q (F0 m (pc + n) ls' (st'.map (ix_cv b scr)))) : W p l e R s m args below meth c H locs cells slots Q (F0 m pc ls (st.map (ix_cv b scr))) := by
  cases i with
  | iload_n z => (obtain rfl : n = 1 := eq_of_beq hn; obtain ⟨w, hw, rfl, rfl⟩ := ld_inv ha; obtain ⟨hw, x, rfl⟩ := gi_inv hw; exact lv_iload_n hx hb hd rfl (lh_at hl hw rfl) (kk ls hl))
  | iload z => (obtain rfl : n = 2 := eq_of_beq hn; obtain ⟨w, hw, rfl, rfl⟩ := ld_inv ha; obtain ⟨hw, x, rfl⟩ := gi_inv hw; exact lv_iload hx hb hd (lh_at hl hw rfl) (kk ls hl))
  | lload_n z => (obtain rfl : n = 1 := eq_of_beq hn; obtain ⟨w, hw, rfl, rfl⟩ := ld_inv ha; obtain ⟨hw, x, rfl⟩ := gl_inv hw; exact lv_lload_n hx hb hd rfl (lh_at hl hw rfl) (kk ls hl))
  | lload z => (obtain rfl : n = 2 := eq_of_beq hn; obtain ⟨w, hw, rfl, rfl⟩ := ld_inv ha; obtain ⟨hw, x, rfl⟩ := gl_inv hw; exact lv_lload hx hb hd (lh_at hl hw rfl) (kk ls hl))
  | aload_n z =>
    obtain rfl : n = 1 := eq_of_beq hn
    obtain ⟨w, hw, rfl, rfl⟩ := ld_inv ha
    obtain ⟨hw, ⟨x, rfl⟩ | rfl | rfl⟩ := ga_inv hw
    · exact lv_aload_n hx hb hd rfl (lh_at hl hw rfl) (kk ls hl)
    · exact lv_aload_nN hx hb hd rfl (lh_at hl hw rfl) (kk ls hl)
    · exact lv_aload_n hx hb hd rfl (lh_at hl hw rfl) (kk ls hl)
  | aload z =>
    obtain rfl : n = 2 := eq_of_beq hn
    obtain ⟨w, hw, rfl, rfl⟩ := ld_inv ha
    obtain ⟨hw, ⟨x, rfl⟩ | rfl | rfl⟩ := ga_inv hw
    · exact lv_aload hx hb hd (lh_at hl hw rfl) (kk ls hl)
    · exact lv_aloadN hx hb hd (lh_at hl hw rfl) (kk ls hl)
    · exact lv_aload hx hb hd (lh_at hl hw rfl) (kk ls hl)
  | istore_n z => (obtain rfl : n = 1 := eq_of_beq hn; obtain ⟨v, r, w, rfl, hw, hp⟩ := sa_inv ha; obtain ⟨hw, x, rfl⟩ := gi_inv hw; cases hw; obtain ⟨h1, h2, h3, rfl, rfl⟩ := p1_inv hp; exact lv_istore_n hx hb hd rfl hl.1 (by rw [← hl.2.1]; exact h1) rfl (fun ls' h' => kk ls' (lh_p1 hl.2.1 hl.2.2 rfl h1 h3 h')))
  | istore z => (obtain rfl : n = 2 := eq_of_beq hn; obtain ⟨v, r, w, rfl, hw, hp⟩ := sa_inv ha; obtain ⟨hw, x, rfl⟩ := gi_inv hw; cases hw; obtain ⟨h1, h2, h3, rfl, rfl⟩ := p1_inv hp; exact lv_istore hx hb hd hl.1 (by rw [← hl.2.1]; exact h1) rfl (fun ls' h' => kk ls' (lh_p1 hl.2.1 hl.2.2 rfl h1 h3 h')))
  | astore_n z =>
    obtain rfl : n = 1 := eq_of_beq hn
    obtain ⟨v, r, w, rfl, hw, hp⟩ := sa_inv ha
    obtain ⟨h1, h2, h3, rfl, rfl⟩ := p1_inv hp
    obtain ⟨hw, ⟨x, rfl⟩ | rfl | rfl⟩ := ga_inv hw
    · cases hw
      exact lv_astore_n hx hb hd rfl hl.1 (by rw [← hl.2.1]; exact h1) rfl (fun ls' h' => kk ls' (lh_p1 hl.2.1 hl.2.2 rfl h1 h3 h'))
    · cases hw
      exact lv_astore_nN hx hb hd rfl hl.1 (by rw [← hl.2.1]; exact h1) rfl (fun ls' h' => kk ls' (lh_p1 hl.2.1 hl.2.2 rfl h1 h3 h'))
    · cases hw
      exact lv_astore_n hx hb hd rfl hl.1 (by rw [← hl.2.1]; exact h1) rfl (fun ls' h' => kk ls' (lh_p1 hl.2.1 hl.2.2 rfl h1 h3 h'))
  | astore z =>
    obtain rfl : n = 2 := eq_of_beq hn
    obtain ⟨v, r, w, rfl, hw, hp⟩ := sa_inv ha
    obtain ⟨h1, h2, h3, rfl, rfl⟩ := p1_inv hp
    obtain ⟨hw, ⟨x, rfl⟩ | rfl | rfl⟩ := ga_inv hw
    · cases hw
      exact lv_astore hx hb hd hl.1 (by rw [← hl.2.1]; exact h1) rfl (fun ls' h' => kk ls' (lh_p1 hl.2.1 hl.2.2 rfl h1 h3 h'))
    · cases hw
      exact lv_astoreN hx hb hd hl.1 (by rw [← hl.2.1]; exact h1) rfl (fun ls' h' => kk ls' (lh_p1 hl.2.1 hl.2.2 rfl h1 h3 h'))
    · cases hw
      exact lv_astore hx hb hd hl.1 (by rw [← hl.2.1]; exact h1) rfl (fun ls' h' => kk ls' (lh_p1 hl.2.1 hl.2.2 rfl h1 h3 h'))
  | lstore_n z => (obtain rfl : n = 1 := eq_of_beq hn; obtain ⟨x, r, rfl, h1, h2, h3, rfl, rfl⟩ := sl_inv ha; exact lv_lstore_n hx hb hd rfl hl.1 (by rw [← hl.2.1]; exact h1) rfl (fun ls' h' => kk ls' (lh_p2 hl.2.1 hl.2.2 h1 h2 h3 h')))
  | lstore z => (obtain rfl : n = 2 := eq_of_beq hn; obtain ⟨x, r, rfl, h1, h2, h3, rfl, rfl⟩ := sl_inv ha; exact lv_lstore hx hb hd hl.1 (by rw [← hl.2.1]; exact h1) rfl (fun ls' h' => kk ls' (lh_p2 hl.2.1 hl.2.2 h1 h2 h3 h')))
  | iinc z w =>
    obtain rfl : n = 3 := eq_of_beq hn
    simp only [ix_lc] at ha
    split at ha
    · next x hv =>
      obtain ⟨h1, h2, h3, rfl, rfl⟩ := p1_inv ha
      obtain ⟨j, hj⟩ := List.getElem?_of_mem (pr_mem (b := b) (scr := scr).mpr ⟨.int x, hv, rfl, rfl⟩ : (z, Value.int x) ∈ ix_pr b scr lv)
      exact lv_iinc hx hb hd hl.1 hj rfl (by rw [← hl.2.1]; exact h1) rfl (fun ls' h' => kk ls' (lh_p1 hl.2.1 hl.2.2 rfl h1 h3 h'))
    · cases ha
  | _ => exact nomatch (show (none : Option (List Value × List Value)) = some (lv', st') from ha)
end GL
