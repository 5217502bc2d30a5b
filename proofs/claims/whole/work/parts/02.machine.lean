abbrev ix_H : Type := Nat × Nat × (Nat → Nat) × (Nat → Nat) × (Nat → Nat → Int32) × (Nat → Nat → Option Nat) × (Nat → Nat → Int64)
def ha_N (h : ix_H) : Nat := h.1
def ha_S (h : ix_H) : Nat := h.2.1
def ha_T (h : ix_H) : Nat → Nat := h.2.2.1
def ha_L (h : ix_H) : Nat → Nat := h.2.2.2.1
def ha_I (h : ix_H) : Nat → Nat → Int32 := h.2.2.2.2.1
def ha_R (h : ix_H) : Nat → Nat → Option Nat := h.2.2.2.2.2.1
def ha_J (h : ix_H) : Nat → Nat → Int64 := h.2.2.2.2.2.2
def hs_I (h : ix_H) (p j : Nat) (v : Int32) : ix_H := (ha_N h, ha_S h, ha_T h, ha_L h, va_up (ha_I h) p (va_up (ha_I h p) j v), ha_R h, ha_J h)
def hs_R (h : ix_H) (p j : Nat) (v : Option Nat) : ix_H := (ha_N h, ha_S h, ha_T h, ha_L h, ha_I h, va_up (ha_R h) p (va_up (ha_R h p) j v), ha_J h)
def hs_J (h : ix_H) (p j : Nat) (v : Int64) : ix_H := (ha_N h, ha_S h, ha_T h, ha_L h, ha_I h, ha_R h, va_up (ha_J h) p (va_up (ha_J h p) j v))
def hs_new (h : ix_H) (t len sl : Nat) : ix_H := (ha_N h + 1, ha_S h + sl, va_up (ha_T h) (ha_N h) t, va_up (ha_L h) (ha_N h) len, va_up (ha_I h) (ha_N h) (fun _ => 0), va_up (ha_R h) (ha_N h) (fun _ => none), va_up (ha_J h) (ha_N h) (fun _ => 0))
theorem up_at {α : Type} (f : Nat → α) (k j : Nat) (v : α) : va_up f k v j = if j = k then v else f j := rfl
-- reads behind writes
theorem hI_I (h : ix_H) (p j q i : Nat) (v : Int32) : ha_I (hs_I h p j v) q i = if q = p ∧ i = j then v else ha_I h q i := by
  show va_up (ha_I h) p (va_up (ha_I h p) j v) q i = _
  rw [up_at]
  by_cases h1 : q = p
  · subst h1
    rw [if_pos rfl, up_at]
    by_cases h2 : i = j <;> simp [h2]
  · rw [if_neg h1, if_neg (fun q => h1 q.1)]
theorem hR_R (h : ix_H) (p j q i : Nat) (v : Option Nat) : ha_R (hs_R h p j v) q i = if q = p ∧ i = j then v else ha_R h q i := by
  show va_up (ha_R h) p (va_up (ha_R h p) j v) q i = _
  rw [up_at]
  by_cases h1 : q = p
  · subst h1
    rw [if_pos rfl, up_at]
    by_cases h2 : i = j <;> simp [h2]
  · rw [if_neg h1, if_neg (fun q => h1 q.1)]
theorem hJ_J (h : ix_H) (p j q i : Nat) (v : Int64) : ha_J (hs_J h p j v) q i = if q = p ∧ i = j then v else ha_J h q i := by
  show va_up (ha_J h) p (va_up (ha_J h p) j v) q i = _
  rw [up_at]
  by_cases h1 : q = p
  · subst h1
    rw [if_pos rfl, up_at]
    by_cases h2 : i = j <;> simp [h2]
  · rw [if_neg h1, if_neg (fun q => h1 q.1)]
theorem hI_R (h : ix_H) (p j : Nat) (v : Option Nat) : ha_I (hs_R h p j v) = ha_I h := rfl
theorem hI_J (h : ix_H) (p j : Nat) (v : Int64) : ha_I (hs_J h p j v) = ha_I h := rfl
theorem hR_I (h : ix_H) (p j : Nat) (v : Int32) : ha_R (hs_I h p j v) = ha_R h := rfl
theorem hR_J (h : ix_H) (p j : Nat) (v : Int64) : ha_R (hs_J h p j v) = ha_R h := rfl
theorem hJ_I (h : ix_H) (p j : Nat) (v : Int32) : ha_J (hs_I h p j v) = ha_J h := rfl
theorem hJ_R (h : ix_H) (p j : Nat) (v : Option Nat) : ha_J (hs_R h p j v) = ha_J h := rfl
theorem hT_I (h : ix_H) (p j : Nat) (v : Int32) : ha_T (hs_I h p j v) = ha_T h := rfl
theorem hT_R (h : ix_H) (p j : Nat) (v : Option Nat) : ha_T (hs_R h p j v) = ha_T h := rfl
theorem hT_J (h : ix_H) (p j : Nat) (v : Int64) : ha_T (hs_J h p j v) = ha_T h := rfl
theorem hL_I (h : ix_H) (p j : Nat) (v : Int32) : ha_L (hs_I h p j v) = ha_L h := rfl
theorem hL_R (h : ix_H) (p j : Nat) (v : Option Nat) : ha_L (hs_R h p j v) = ha_L h := rfl
theorem hL_J (h : ix_H) (p j : Nat) (v : Int64) : ha_L (hs_J h p j v) = ha_L h := rfl
theorem hN_I (h : ix_H) (p j : Nat) (v : Int32) : ha_N (hs_I h p j v) = ha_N h := rfl
theorem hN_R (h : ix_H) (p j : Nat) (v : Option Nat) : ha_N (hs_R h p j v) = ha_N h := rfl
theorem hN_J (h : ix_H) (p j : Nat) (v : Int64) : ha_N (hs_J h p j v) = ha_N h := rfl
theorem hS_I (h : ix_H) (p j : Nat) (v : Int32) : ha_S (hs_I h p j v) = ha_S h := rfl
theorem hS_R (h : ix_H) (p j : Nat) (v : Option Nat) : ha_S (hs_R h p j v) = ha_S h := rfl
theorem hS_J (h : ix_H) (p j : Nat) (v : Int64) : ha_S (hs_J h p j v) = ha_S h := rfl
theorem hN_new (h : ix_H) (t len sl : Nat) : ha_N (hs_new h t len sl) = ha_N h + 1 := rfl
theorem hS_new (h : ix_H) (t len sl : Nat) : ha_S (hs_new h t len sl) = ha_S h + sl := rfl
theorem hT_new (h : ix_H) (t len sl q : Nat) : ha_T (hs_new h t len sl) q = if q = ha_N h then t else ha_T h q := rfl
theorem hL_new (h : ix_H) (t len sl q : Nat) : ha_L (hs_new h t len sl) q = if q = ha_N h then len else ha_L h q := rfl
theorem hI_new (h : ix_H) (t len sl q i : Nat) : ha_I (hs_new h t len sl) q i = if q = ha_N h then 0 else ha_I h q i := by
  show va_up (ha_I h) (ha_N h) (fun _ => 0) q i = _
  rw [up_at]
  by_cases h1 : q = ha_N h
  · rw [if_pos h1, if_pos h1]
  · rw [if_neg h1, if_neg h1]
theorem hR_new (h : ix_H) (t len sl q i : Nat) : ha_R (hs_new h t len sl) q i = if q = ha_N h then none else ha_R h q i := by
  show va_up (ha_R h) (ha_N h) (fun _ => none) q i = _
  rw [up_at]
  by_cases h1 : q = ha_N h
  · rw [if_pos h1, if_pos h1]
  · rw [if_neg h1, if_neg h1]
theorem hJ_new (h : ix_H) (t len sl q i : Nat) : ha_J (hs_new h t len sl) q i = if q = ha_N h then 0 else ha_J h q i := by
  show va_up (ha_J h) (ha_N h) (fun _ => 0) q i = _
  rw [up_at]
  by_cases h1 : q = ha_N h
  · rw [if_pos h1, if_pos h1]
  · rw [if_neg h1, if_neg h1]
-- a step
abbrev ix_F : Type := Nat × List Value × List Value × ix_H
abbrev ix_O : Type := Option Value × ix_H
abbrev ix_Q : Type := Nat × List Value × ix_F
def ix_av (t j : Nat) (h : ix_H) (p : Nat) : Value := match ix_fk t j with
  | 1 => va_rf (ha_R h p j)
  | 2 => .long (ha_J h p j)
  | _ => .int (ha_I h p j)
def ix_la : List Value → List Value
  | [] => []
  | v :: vs => if v.category = 2 then v :: .retAddr 1 :: ix_la vs else v :: ix_la vs
def ix_l0 (as : List Value) (n : Nat) : List Value := ix_la as ++ List.replicate (n - (ix_la as).length) (.retAddr 1)
def ix_ii (f : Int32 → Int32 → Value) (st : List Value) : Option (List Value) := match st with
  | .int y :: .int x :: r => some (f x y :: r)
  | _ => none
def ix_iz (f : Int32 → Int32 → Value) (st : List Value) : Option (List Value) := match st with
  | .int y :: .int x :: r => if y = 0 then none else some (f x y :: r)
  | _ => none
def ix_i1 (f : Int32 → Value) (st : List Value) : Option (List Value) := match st with
  | .int x :: r => some (f x :: r)
  | _ => none
def ix_ll (f : Int64 → Int64 → Value) (st : List Value) : Option (List Value) := match st with
  | .long y :: .long x :: r => some (f x y :: r)
  | _ => none
def ix_lz (f : Int64 → Int64 → Value) (st : List Value) : Option (List Value) := match st with
  | .long y :: .long x :: r => if y = 0 then none else some (f x y :: r)
  | _ => none
def ix_li (f : Int64 → Int32 → Value) (st : List Value) : Option (List Value) := match st with
  | .int y :: .long x :: r => some (f x y :: r)
  | _ => none
def ix_l1 (f : Int64 → Value) (st : List Value) : Option (List Value) := match st with
  | .long x :: r => some (f x :: r)
  | _ => none
def ix_v1 (f : Value → List Value) (st : List Value) : Option (List Value) := match st with
  | v :: r => if v.category = 1 then some (f v ++ r) else none
  | _ => none
def ix_v2 (f : Value → Value → List Value) (st : List Value) : Option (List Value) := match st with
  | v :: w :: r => if v.category = 1 ∧ w.category = 1 then some (f v w ++ r) else none
  | _ => none
def ix_v3 (f : Value → Value → Value → List Value) (st : List Value) : Option (List Value) := match st with
  | v :: w :: z :: r => if v.category = 1 ∧ w.category = 1 ∧ z.category = 1 then some (f v w z ++ r) else none
  | _ => none
/-- what only the operand stack sees -/
def ix_alu (cp : Nat → Nat × Nat × Nat) (i : Instr) (st : List Value) : Option (List Value) := match i with
  | .iconst n => some (.int (Int32.ofInt n) :: st)
  | .bipush n => some (.int (Int8.ofInt n).toInt32 :: st)
  | .sipush n => some (.int (Int16.ofInt n).toInt32 :: st)
  | .lconst n => some (.long (Int64.ofNat (n : Nat)) :: st)
  | .aconst_null => some (.null :: st)
  | .ldc x => if (cp x).1 = 1 then some (.int (Int32.ofNat (cp x).2.1) :: st) else none
  | .ldc_w x => if (cp x).1 = 1 then some (.int (Int32.ofNat (cp x).2.1) :: st) else none
  | .ldc2_w x => if (cp x).1 = 2 then some (.long (Int64.ofNat (cp x).2.1) :: st) else none
  | .iadd => ix_ii (fun x y => .int (x + y)) st
  | .isub => ix_ii (fun x y => .int (x - y)) st
  | .imul => ix_ii (fun x y => .int (x * y)) st
  | .idiv => ix_iz (fun x y => .int (x / y)) st
  | .irem => ix_iz (fun x y => .int (x - x / y * y)) st
  | .ineg => ix_i1 (fun x => .int (-x)) st
  | .iand => ix_ii (fun x y => .int (x &&& y)) st
  | .ior => ix_ii (fun x y => .int (x ||| y)) st
  | .ixor => ix_ii (fun x y => .int (x ^^^ y)) st
  | .ishl => ix_ii (fun x y => .int (x <<< (y &&& 31))) st
  | .ishr => ix_ii (fun x y => .int (x >>> (y &&& 31))) st
  | .iushr => ix_ii (fun x y => .int (x.toUInt32 >>> (y.toUInt32 &&& Int32.toUInt32 31)).toInt32) st
  | .ladd => ix_ll (fun x y => .long (x + y)) st
  | .lsub => ix_ll (fun x y => .long (x - y)) st
  | .lmul => ix_ll (fun x y => .long (x * y)) st
  | .ldiv => ix_lz (fun x y => .long (x / y)) st
  | .lrem => ix_lz (fun x y => .long (x - x / y * y)) st
  | .land => ix_ll (fun x y => .long (x &&& y)) st
  | .lor => ix_ll (fun x y => .long (x ||| y)) st
  | .lxor => ix_ll (fun x y => .long (x ^^^ y)) st
  | .lshl => ix_li (fun x y => .long (x <<< (y.toInt64 &&& 63))) st
  | .lshr => ix_li (fun x y => .long (x >>> (y.toInt64 &&& 63))) st
  | .lushr => ix_li (fun x y => .long (x.toUInt64 >>> (y.toInt64.toUInt64 &&& Int64.toUInt64 63)).toInt64) st
  | .lcmp => ix_ll (fun x y => .int (lg_cmp x y)) st
  | .i2l => ix_i1 (fun x => .long x.toInt64) st
  | .l2i => ix_l1 (fun x => .int x.toInt32) st
  | .dup => ix_v1 (fun v => [v, v]) st
  | .pop => ix_v1 (fun _ => []) st
  | .dup_x1 => ix_v2 (fun v w => [v, w, v]) st
  | .dup_x2 => ix_v3 (fun v w z => [v, w, z, v]) st
  | .dup2 => ix_v2 (fun v w => [v, w, v, w]) st
  | _ => none
def ix_c1 (c : Jvm.ClassFile.Cond) (x : Int32) : Prop := match c with
  | .eq => x = 0 | .ne => ¬ x = 0 | .lt => x < 0 | .ge => 0 ≤ x | .gt => 0 < x | .le => x ≤ 0
def ix_c2 (c : Jvm.ClassFile.Cond) (x y : Int32) : Prop := match c with
  | .eq => x = y | .ne => ¬ x = y | .lt => x < y | .ge => y ≤ x | .gt => y < x | .le => x ≤ y
def ix_d1 (c : Jvm.ClassFile.Cond) (x : Int32) : Decidable (ix_c1 c x) := match c with
  | .eq => inferInstanceAs (Decidable (x = 0)) | .ne => inferInstanceAs (Decidable (¬ x = 0)) | .lt => inferInstanceAs (Decidable (x < 0)) | .ge => inferInstanceAs (Decidable (0 ≤ x)) | .gt => inferInstanceAs (Decidable (0 < x)) | .le => inferInstanceAs (Decidable (x ≤ 0))
def ix_d2 (c : Jvm.ClassFile.Cond) (x y : Int32) : Decidable (ix_c2 c x y) := match c with
  | .eq => inferInstanceAs (Decidable (x = y)) | .ne => inferInstanceAs (Decidable (¬ x = y)) | .lt => inferInstanceAs (Decidable (x < y)) | .ge => inferInstanceAs (Decidable (y ≤ x)) | .gt => inferInstanceAs (Decidable (y < x)) | .le => inferInstanceAs (Decidable (x ≤ y))
/-- where a branch goes -/
def ix_tg (pc : Nat) (off : Int) : Nat := ((pc : Int) + off).toNat
def ix_cb (P : Prop) (d : Decidable P) (pc : Nat) (off : Int) (r : List Value) : Option (Nat × List Value) := if 0 ≤ (pc : Int) + off then some (@ite Nat P d (ix_tg pc off) (pc + 3), r) else none
def ix_br (i : Instr) (pc : Nat) (st : List Value) : Option (Nat × List Value) := match i with
  | .goto off => ix_cb True (inferInstanceAs (Decidable True)) pc off st
  | .ifCond c off => match st with | .int x :: r => ix_cb (ix_c1 c x) (ix_d1 c x) pc off r | _ => none
  | .if_icmp c off => match st with | .int y :: .int x :: r => ix_cb (ix_c2 c x y) (ix_d2 c x y) pc off r | _ => none
  | .ifnull off => match st with | .null :: r => ix_cb True (inferInstanceAs (Decidable True)) pc off r | .ref _ :: r => some (pc + 3, r) | _ => none
  | .ifnonnull off => match st with | .null :: r => some (pc + 3, r) | .ref _ :: r => ix_cb True (inferInstanceAs (Decidable True)) pc off r | _ => none
  | .lookupswitch d ps => match st with | .int x :: r => if 0 ≤ (pc : Int) + Op.lookupswitch.offset ps.toList d x.toInt ∧ (ps.toList.zip (ps.toList.drop 1)).all (fun (a, next) => a.1 < next.1) = true then some (ix_tg pc (Op.lookupswitch.offset ps.toList d x.toInt), r) else none | _ => none
  | .tableswitch d lo hi os => match st with
    | .int x :: r => if x.toInt < lo ∨ hi < x.toInt then (if 0 ≤ (pc : Int) + d then some (ix_tg pc d, r) else none)
      else match os[(x.toInt - lo).toNat]? with
        | some o => if 0 ≤ (pc : Int) + o then some (ix_tg pc o, r) else none
        | none => none
    | _ => none
  | _ => none
def ix_p1 (lg : List Nat) (lv : List Value) (i : Nat) (v : Value) (r : List Value) : Option (List Value × List Value) := if i < lv.length ∧ i ∉ lg ∧ (∀ g ∈ lg, ¬ g + 1 = i) then some (lv.set i v, r) else none
def ix_p2 (lg : List Nat) (lv : List Value) (i : Nat) (v : Value) (r : List Value) : Option (List Value × List Value) := if i + 1 < lv.length ∧ i ∈ lg ∧ i + 1 ∉ lg ∧ (∀ g ∈ lg, ¬ g + 1 = i) then some ((lv.set i v).set (i + 1) (.retAddr 1), r) else none
def ix_ga (v : Option Value) : Option Value := match v with
  | some (.ref x) => some (.ref x) | some .null => some .null | some (.retAddr 0) => some (.retAddr 0) | _ => none
def ix_gi (v : Option Value) : Option Value := match v with | some (.int x) => some (.int x) | _ => none
def ix_gl (v : Option Value) : Option Value := match v with | some (.long x) => some (.long x) | _ => none
def ix_ld (lv st : List Value) (v : Option Value) : Option (List Value × List Value) := match v with | some w => some (lv, w :: st) | none => none
def ix_sa (lg : List Nat) (lv : List Value) (i : Nat) (g : Option Value → Option Value) (st : List Value) : Option (List Value × List Value) := match st with
  | v :: r => (match g (some v) with | some w => ix_p1 lg lv i w r | none => none) | _ => none
def ix_sl (lg : List Nat) (lv : List Value) (i : Nat) (st : List Value) : Option (List Value × List Value) := match st with
  | .long x :: r => ix_p2 lg lv i (.long x) r | _ => none
def ix_lc (lg : List Nat) (i : Instr) (lv : List Value) (st : List Value) : Option (List Value × List Value) := match i with
  | .iload_n n => ix_ld lv st (ix_gi lv[(n : Nat)]?)
  | .iload n => ix_ld lv st (ix_gi lv[n]?)
  | .lload_n n => ix_ld lv st (ix_gl lv[(n : Nat)]?)
  | .lload n => ix_ld lv st (ix_gl lv[n]?)
  | .aload_n n => ix_ld lv st (ix_ga lv[(n : Nat)]?)
  | .aload n => ix_ld lv st (ix_ga lv[n]?)
  | .istore_n n => ix_sa lg lv n ix_gi st
  | .istore n => ix_sa lg lv n ix_gi st
  | .astore_n n => ix_sa lg lv n ix_ga st
  | .astore n => ix_sa lg lv n ix_ga st
  | .lstore_n n => ix_sl lg lv n st
  | .lstore n => ix_sl lg lv n st
  | .iinc n z => match lv[n]? with | some (.int x) => ix_p1 lg lv n (.int (x + Int32.ofInt z)) st | _ => none
  | _ => none
-- the heap: tags below 100 are those of objects, from 100 on of arrays: 100 int, 101 boolean, 102 long, from 103 on of references
def ix_put (t j p : Nat) (v : Value) (h : ix_H) : Option ix_H := match v with
  | .int x => if ix_fk t j = 0 ∨ (ix_fk t j = 3 ∧ (x = 0 ∨ x = 1)) then some (hs_I h p j x) else none
  | .long x => if ix_fk t j = 2 then some (hs_J h p j x) else none
  | .null => if ix_fk t j = 1 then some (hs_R h p j none) else none
  | .ref q => if ix_fk t j = 1 then some (hs_R h p j (some q)) else none
  | _ => none
def ix_hp (xs : Nat → Int32) (L k : Nat) (i : Instr) (st : List Value) (h : ix_H) : Option (List Value × ix_H) := match i with
  | .getfield x => match st with
    | .ref p :: r => if (ix_cp k x).1 = 3 ∧ ha_T h p = (ix_cp k x).2.1 then some (ix_av (ix_cp k x).2.1 (ix_cp k x).2.2 h p :: r, h) else none
    | _ => none
  | .putfield x => match st with
    | v :: .ref p :: r => if (ix_cp k x).1 = 3 ∧ ha_T h p = (ix_cp k x).2.1 ∧ (ix_fin (ix_cp k x).2.1 (ix_cp k x).2.2 = false ∨ ix_ci k = (ix_cp k x).2.1 + 1) then (match ix_put (ix_cp k x).2.1 (ix_cp k x).2.2 p v h with | some h' => some (r, h') | none => none) else none
    | _ => none
  | .new x => if (ix_cp k x).1 = 4 then some (.ref (ha_N h) :: st, hs_new h (ix_cp k x).2.1 0 (ix_nf (ix_cp k x).2.1)) else none
  | .newarray a => match st with
    | .int x :: r => if x < 0 ∨ 1000000 < x.toNatClampNeg ∨ ix_at a = 0 then none else some (.ref (ha_N h) :: r, hs_new h (ix_at a) x.toNatClampNeg x.toNatClampNeg)
    | _ => none
  | .anewarray x => match st with
    | .int y :: r => if y < 0 ∨ 1000000 < y.toNatClampNeg ∨ ¬ (ix_cp k x).1 = 4 ∨ (ix_cp k x).2.2 = 0 then none else some (.ref (ha_N h) :: r, hs_new h (ix_cp k x).2.2 y.toNatClampNeg y.toNatClampNeg)
    | _ => none
  | .arraylength => match st with
    | .ref p :: r => if 100 ≤ ha_T h p ∧ ha_T h p < ix_tz then some (.int (Int32.ofNat (ha_L h p)) :: r, h) else none
    | .retAddr 0 :: r => some (.int (Int32.ofNat L) :: r, h)
    | _ => none
  | .iaload => match st with
    | .int x :: .ref p :: r => if ha_T h p = 100 ∧ ¬ (x < 0 ∨ ha_L h p ≤ x.toNatClampNeg) then some (.int (ha_I h p x.toNatClampNeg) :: r, h) else none
    | .int x :: .retAddr 0 :: r => if x < 0 ∨ L ≤ x.toNatClampNeg then none else some (.int (xs x.toNatClampNeg) :: r, h)
    | _ => none
  | .baload => match st with
    | .int x :: .ref p :: r => if ha_T h p = 101 ∧ ¬ (x < 0 ∨ ha_L h p ≤ x.toNatClampNeg) then some (.int (ha_I h p x.toNatClampNeg) :: r, h) else none
    | _ => none
  | .laload => match st with
    | .int x :: .ref p :: r => if ha_T h p = 102 ∧ ¬ (x < 0 ∨ ha_L h p ≤ x.toNatClampNeg) then some (.long (ha_J h p x.toNatClampNeg) :: r, h) else none
    | _ => none
  | .aaload => match st with
    | .int x :: .ref p :: r => if 103 ≤ ha_T h p ∧ ha_T h p < ix_tz ∧ ¬ (x < 0 ∨ ha_L h p ≤ x.toNatClampNeg) then some (va_rf (ha_R h p x.toNatClampNeg) :: r, h) else none
    | _ => none
  | .iastore => match st with
    | .int y :: .int x :: .ref p :: r => if ha_T h p = 100 ∧ ¬ (x < 0 ∨ ha_L h p ≤ x.toNatClampNeg) then some (r, hs_I h p x.toNatClampNeg y) else none
    | _ => none
  | .bastore => match st with
    | .int y :: .int x :: .ref p :: r => if ha_T h p = 101 ∧ (y = 0 ∨ y = 1) ∧ ¬ (x < 0 ∨ ha_L h p ≤ x.toNatClampNeg) then some (r, hs_I h p x.toNatClampNeg y) else none
    | _ => none
  | .lastore => match st with
    | .long y :: .int x :: .ref p :: r => if ha_T h p = 102 ∧ ¬ (x < 0 ∨ ha_L h p ≤ x.toNatClampNeg) then some (r, hs_J h p x.toNatClampNeg y) else none
    | _ => none
  | .aastore => match st with
    | .ref q :: .int x :: .ref p :: r => if 103 ≤ ha_T h p ∧ ha_T h p < ix_tz ∧ ha_T h q = ix_co (ha_T h p) ∧ ¬ (x < 0 ∨ ha_L h p ≤ x.toNatClampNeg) then some (r, hs_R h p x.toNatClampNeg (some q)) else none
    | _ => none
  | _ => none
-- ends, by the kind of answer: 0 none, 1 int, 2 boolean, 3 long, 4 reference
def ix_rtn (rk : Nat) (i : Instr) (st : List Value) : Option (Option Value) := match i with
  | .return_ => if rk = 0 ∧ st.isEmpty = true then some none else none
  | .ireturn => match st with | [.int x] => if rk = 1 ∨ (rk = 2 ∧ (x = 0 ∨ x = 1)) then some (some (.int x)) else none | _ => none
  | .lreturn => match st with | [.long x] => if rk = 3 then some (some (.long x)) else none | _ => none
  | .areturn => match st with | [.null] => if rk = 4 then some (some .null) else none | [.ref x] => if rk = 4 then some (some (.ref x)) else none | _ => none
  | _ => none
def ix_sp : Nat → List Value → Option (List Value × List Value)
  | 0, st => some ([], st)
  | _ + 1, [] => none
  | n + 1, v :: r => match ix_sp n r with | some (as, q) => some (as ++ [v], q) | none => none
def ix_cs (st : List Value) : Nat := (st.map (fun v => v.category)).sum
-- calls that leave the method
def ix_cq (k a : Nat) (as r : List Value) (pc : Nat) (lv : List Value) (h : ix_H) (rc : Bool) : Option (ix_F ⊕ ix_Q) :=
  if ix_ra a < ix_ra k ∧ 19 + ix_ml a + ix_lo a ≤ ix_lo k ∧ ix_cs r ≤ 8 then (match rc, as with
    | true, .ref p :: _ => if ha_T h p = ix_mt a then some (.inr (a, as, (pc + 3, lv, r, h))) else none
    | false, _ => some (.inr (a, as, (pc + 3, lv, r, h)))
    | _, _ => none) else none
-- kinds of a call: 6 virtual, 7 a beginning, 12 a beginning of a nest mate, 8 static, 9 Object's own beginning, 10 max, 11 min
def ix_inv (k : Nat) (i : Instr) (pc : Nat) (lv : List Value) (st : List Value) (h : ix_H) : Option (ix_F ⊕ ix_Q) := match i with
  | .invokespecial x => if (ix_cp k x).1 = 9 then (match st with | .ref _ :: r => if 1 ≤ ix_ra k ∧ ix_cs r + 12 ≤ ix_lo k then some (.inl (pc + 3, lv, r, h)) else none | _ => none)
    else if (ix_cp k x).1 = 7 ∨ (ix_cp k x).1 = 12 then (match ix_sp (ix_cp k x).2.2 st with | some (as, r) => ix_cq k (ix_cp k x).2.1 as r pc lv h true | none => none) else none
  | .invokevirtual x => if (ix_cp k x).1 = 6 then (match ix_sp (ix_cp k x).2.2 st with | some (as, r) => ix_cq k (ix_cp k x).2.1 as r pc lv h true | none => none) else none
  | .invokestatic x => if (ix_cp k x).1 = 10 then (match st with | .int y :: .int z :: r => if 1 ≤ ix_ra k ∧ ix_cs r + 13 ≤ ix_lo k then some (.inl (pc + 3, lv, .int (if z < y then y else z) :: r, h)) else none | _ => none)
    else if (ix_cp k x).1 = 11 then (match st with | .int y :: .int z :: r => if 1 ≤ ix_ra k ∧ ix_cs r + 13 ≤ ix_lo k then some (.inl (pc + 3, lv, .int (if y < z then y else z) :: r, h)) else none | _ => none)
    else if (ix_cp k x).1 = 8 then (match ix_sp (ix_cp k x).2.2 st with | some (as, r) => ix_cq k (ix_cp k x).2.1 as r pc lv h false | none => none) else none
  | _ => none
def ix_len (i : Instr) (n : Nat) : Bool := match i with
  | .lookupswitch _ _ => true
  | .tableswitch _ _ _ _ => true
  | .bipush _ => n == 2 | .ldc _ => n == 2 | .iload _ => n == 2 | .lload _ => n == 2 | .aload _ => n == 2 | .istore _ => n == 2 | .lstore _ => n == 2 | .astore _ => n == 2 | .newarray _ => n == 2
  | .sipush _ => n == 3 | .ldc_w _ => n == 3 | .ldc2_w _ => n == 3 | .goto _ => n == 3 | .ifCond _ _ => n == 3 | .if_icmp _ _ => n == 3 | .ifnull _ => n == 3 | .ifnonnull _ => n == 3 | .iinc _ _ => n == 3 | .getfield _ => n == 3 | .putfield _ => n == 3
  | .new _ => n == 3 | .anewarray _ => n == 3 | .invokespecial _ => n == 3 | .invokevirtual _ => n == 3 | .invokestatic _ => n == 3
  | _ => n == 1
def ix_do (xs : Nat → Int32) (L k : Nat) (i : Instr) (n : Nat) (fr : ix_F) : Option (ix_F ⊕ (ix_Q ⊕ ix_O)) := match ix_alu (ix_cp k) i fr.2.2.1 with
  | some q => some (.inl (fr.1 + n, fr.2.1, q, fr.2.2.2))
  | none => match ix_br i fr.1 fr.2.2.1 with
    | some q => some (.inl (q.1, fr.2.1, q.2, fr.2.2.2))
    | none => match ix_lc (ix_lg k) i fr.2.1 fr.2.2.1 with
      | some q => some (.inl (fr.1 + n, q.1, q.2, fr.2.2.2))
      | none => match ix_hp xs L k i fr.2.2.1 fr.2.2.2 with
        | some q => some (.inl (fr.1 + n, fr.2.1, q.1, q.2))
        | none => match ix_inv k i fr.1 fr.2.1 fr.2.2.1 fr.2.2.2 with
          | some (.inl g) => some (.inl g)
          | some (.inr q) => some (.inr (.inl q))
          | none => match ix_rtn (ix_rk k) i fr.2.2.1 with
            | some v => some (.inr (.inr (v, fr.2.2.2)))
            | none => none
def ix_step (xs : Nat → Int32) (L k : Nat) (fr : ix_F) : Option (ix_F ⊕ (ix_Q ⊕ ix_O)) := match decode (ix_by k) fr.1 with
  | .ok (i, n) => if ix_len i n = true then ix_do xs L k i n fr else none
  | .error _ => none
def ix_run (call : Nat → List Value → ix_H → Option ix_O) (xs : Nat → Int32) (L k : Nat) : Nat → ix_F → Option ix_O
  | 0, _ => none
  | f + 1, fr => match ix_step xs L k fr with
    | none => none
    | some (.inl g) => ix_run call xs L k f g
    | some (.inr (.inl q)) => match call q.1 q.2.1 q.2.2.2.2.2 with
      | none => none
      | some o => ix_run call xs L k f (q.2.2.1, q.2.2.2.1, o.1.toList ++ q.2.2.2.2.1, o.2)
    | some (.inr (.inr o)) => some o
def ix_lgk (lg : List Nat) : Nat → List Value → Bool
  | _, [] => true
  | n, v :: vs => (v.category != 2 || lg.contains n) && ix_lgk lg (n + 1) vs
theorem lgk_at {lg : List Nat} : ∀ (l : List Value) (n : Nat), ix_lgk lg n l = true → ∀ (j : Nat) (v : Value), l[j]? = some v → v.category = 2 → n + j ∈ lg := by
  intro l
  induction l with
  | nil => intro n _ j v hj; simp at hj
  | cons w ws ih =>
    intro n h j v hj hv
    simp only [ix_lgk, Bool.and_eq_true] at h
    cases j with
    | zero =>
      simp only [List.getElem?_cons_zero, Option.some.injEq] at hj
      subst hj
      have h1 := h.1
      simp [hv] at h1
      simpa using h1
    | succ j =>
      rw [List.getElem?_cons_succ] at hj
      have := ih (n + 1) h.2 j v hj hv
      rwa [show n + (j + 1) = n + 1 + j by omega]
def ix_ok0 (k : Nat) (as : List Value) : Bool := Nat.ble (k + 1) ix_M && (Nat.ble (ix_la as).length (ix_ml k) && (Nat.beq as.length (ix_np k) && ix_lgk (ix_lg k) 0 (ix_la as)))
def ix_ex (xs : Nat → Int32) (L f : Nat) : Nat → Nat → List Value → ix_H → Option ix_O
  | 0, _, _, _ => none
  | d + 1, k, as, h => if ix_ok0 k as = true then ix_run (ix_ex xs L f d) xs L k f (0, ix_l0 as (ix_ml k), [], h) else none
-- more fuel, more depth: the same answer
theorem ix_run_mono {c c' : Nat → List Value → ix_H → Option ix_O} (hc : ∀ k as h o, c k as h = some o → c' k as h = some o) (xs : Nat → Int32) (L k : Nat) : ∀ (f f' : Nat) (fr : ix_F) (o : ix_O), f ≤ f' → ix_run c xs L k f fr = some o → ix_run c' xs L k f' fr = some o := by
  intro f
  induction f with
  | zero => intro f' fr o _ h; simp [ix_run] at h
  | succ f ih =>
    intro f' fr o hf h
    obtain ⟨g, rfl⟩ : ∃ g, f' = g + 1 := ⟨f' - 1, by omega⟩
    simp only [ix_run] at h ⊢
    split at h
    · cases h
    · exact ih g _ o (by omega) h
    · split at h
      · cases h
      · next o1 ho =>
        rw [hc _ _ _ _ ho]
        exact ih g _ o (by omega) h
    · exact h
theorem ix_ex_mono (xs : Nat → Int32) (L : Nat) : ∀ (d d' f f' k : Nat) (as : List Value) (h : ix_H) (o : ix_O), d ≤ d' → f ≤ f' → ix_ex xs L f d k as h = some o → ix_ex xs L f' d' k as h = some o := by
  intro d
  induction d with
  | zero => intro d' f f' k as h o _ _ hx; simp [ix_ex] at hx
  | succ d ih =>
    intro d' f f' k as h o hd hf hx
    obtain ⟨e, rfl⟩ : ∃ e, d' = e + 1 := ⟨d' - 1, by omega⟩
    simp only [ix_ex] at hx ⊢
    split at hx
    · next hc => rw [if_pos hc]; exact ix_run_mono (fun k as h o hq => ih e f f' k as h o (by omega) hf hq) xs L k f f' _ o hf hx
    · cases hx
section EV
variable (xs : Nat → Int32) (L : Nat)
def Ex (k : Nat) (as : List Value) (h : ix_H) (o : ix_O) : Prop := ∃ f d, ix_ex xs L f d k as h = some o
def Ev (k : Nat) (fr : ix_F) (o : ix_O) : Prop := ∃ f d, ix_run (ix_ex xs L f d) xs L k f fr = some o
def Cl (k : Nat) (as : List Value) (h : ix_H) (K : Option Value → ix_H → Prop) : Prop := ∃ o, Ex xs L k as h o ∧ K o.1 o.2
theorem Ex_of {k : Nat} {as : List Value} {h : ix_H} {o : ix_O} (h1 : ix_ok0 k as = true) (h2 : Ev xs L k (0, ix_l0 as (ix_ml k), [], h) o) : Ex xs L k as h o := by
  obtain ⟨f, d, h2⟩ := h2
  refine ⟨f, d + 1, ?_⟩
  simp only [ix_ex]
  rw [if_pos h1]
  exact h2
theorem Ex_det {k : Nat} {as : List Value} {h : ix_H} {o o' : ix_O} (h1 : Ex xs L k as h o) (h2 : Ex xs L k as h o') : o = o' := by
  obtain ⟨f, d, h1⟩ := h1
  obtain ⟨g, e, h2⟩ := h2
  have a1 := ix_ex_mono xs L d (max d e) f (max f g) k as h o (Nat.le_max_left _ _) (Nat.le_max_left _ _) h1
  have a2 := ix_ex_mono xs L e (max d e) g (max f g) k as h o' (Nat.le_max_right _ _) (Nat.le_max_right _ _) h2
  exact Option.some.inj (a1.symm.trans a2)
theorem Cl_of {k : Nat} {as : List Value} {h : ix_H} {o : ix_O} {K : Option Value → ix_H → Prop} (h1 : Ex xs L k as h o) : Cl xs L k as h K ↔ K o.1 o.2 := by
  constructor
  · rintro ⟨o', h2, h3⟩
    rw [Ex_det xs L h1 h2]
    exact h3
  · intro h2
    exact ⟨o, h1, h2⟩
theorem iv_go {k : Nat} {fr g : ix_F} {o : ix_O} (hs : ix_step xs L k fr = some (.inl g)) : Ev xs L k fr o ↔ Ev xs L k g o := by
  constructor
  · rintro ⟨f, d, h⟩
    cases f with
    | zero => simp [ix_run] at h
    | succ f =>
      simp only [ix_run, hs] at h
      exact ⟨f + 1, d, ix_run_mono (fun _ _ _ _ hq => hq) xs L k f _ _ o (by omega) h⟩
  · rintro ⟨f, d, h⟩
    refine ⟨f + 1, d, ?_⟩
    simp only [ix_run, hs]
    exact ix_run_mono (fun k as h o hq => ix_ex_mono xs L d d f _ k as h o (Nat.le_refl _) (by omega) hq) xs L k f _ _ o (Nat.le_refl _) h
theorem iv_cl {k : Nat} {fr : ix_F} {q : ix_Q} {o : ix_O} (hs : ix_step xs L k fr = some (.inr (.inl q))) : Ev xs L k fr o ↔ Cl xs L q.1 q.2.1 q.2.2.2.2.2 (fun v h' => Ev xs L k (q.2.2.1, q.2.2.2.1, v.toList ++ q.2.2.2.2.1, h') o) := by
  constructor
  · rintro ⟨f, d, h⟩
    cases f with
    | zero => simp [ix_run] at h
    | succ f =>
      simp only [ix_run, hs] at h
      split at h
      · cases h
      · next o2 ho =>
        exact ⟨o2, ⟨f + 1, d, ho⟩, ⟨f + 1, d, ix_run_mono (fun _ _ _ _ hq => hq) xs L k f _ _ o (by omega) h⟩⟩
  · rintro ⟨o1, ⟨f1, d1, hc⟩, ⟨f, d, h⟩⟩
    refine ⟨max f f1 + 1, max d d1, ?_⟩
    simp only [ix_run, hs]
    rw [ix_ex_mono xs L d1 (max d d1) f1 (max f f1 + 1) _ _ _ _ (Nat.le_max_right _ _) (by have := Nat.le_max_right f f1; omega) hc]
    exact ix_run_mono (fun k as h o hq => ix_ex_mono xs L d _ f _ k as h o (Nat.le_max_left _ _) (by have := Nat.le_max_left f f1; omega) hq) xs L k f _ _ o (Nat.le_max_left _ _) h
theorem iv_end {k : Nat} {fr : ix_F} {o o1 : ix_O} (hs : ix_step xs L k fr = some (.inr (.inr o1))) : Ev xs L k fr o ↔ o = o1 := by
  constructor
  · rintro ⟨f, d, h⟩
    cases f with
    | zero => simp [ix_run] at h
    | succ f => simp only [ix_run, hs] at h; exact (Option.some.inj h).symm
  · rintro rfl
    exact ⟨1, 0, by simp only [ix_run, hs]⟩
variable {k pc n : Nat} {cc : ByteArray} {i : Instr} {lv lv' st st' r : List Value} {h h' : ix_H} {o : ix_O}
theorem st_of (hb : ix_by k = cc) (hd : decode cc pc = .ok (i, n)) (hn : ix_len i n = true) : ix_step xs L k (pc, lv, st, h) = ix_do xs L k i n (pc, lv, st, h) := by
  subst hb
  simp only [ix_step, hd, hn, if_true]
theorem iv_alu (hb : ix_by k = cc) (hd : decode cc pc = .ok (i, n)) (hn : ix_len i n = true) (h2 : ix_alu (ix_cp k) i st = some st') : Ev xs L k (pc, lv, st, h) o ↔ Ev xs L k (pc + n, lv, st', h) o :=
  iv_go xs L (by rw [st_of xs L hb hd hn]; simp only [ix_do, h2])
theorem iv_br {t : Nat} (hb : ix_by k = cc) (hd : decode cc pc = .ok (i, n)) (hn : ix_len i n = true) (h0 : ix_alu (ix_cp k) i st = none) (h2 : ix_br i pc st = some (t, st')) : Ev xs L k (pc, lv, st, h) o ↔ Ev xs L k (t, lv, st', h) o :=
  iv_go xs L (by rw [st_of xs L hb hd hn]; simp only [ix_do, h0, h2])
theorem iv_lc (hb : ix_by k = cc) (hd : decode cc pc = .ok (i, n)) (hn : ix_len i n = true) (h0 : ix_alu (ix_cp k) i st = none) (h1 : ix_br i pc st = none) (h2 : ix_lc (ix_lg k) i lv st = some (lv', st')) : Ev xs L k (pc, lv, st, h) o ↔ Ev xs L k (pc + n, lv', st', h) o :=
  iv_go xs L (by rw [st_of xs L hb hd hn]; simp only [ix_do, h0, h1, h2])
theorem iv_hp (hb : ix_by k = cc) (hd : decode cc pc = .ok (i, n)) (hn : ix_len i n = true) (h0 : ix_alu (ix_cp k) i st = none) (h1 : ix_br i pc st = none) (h3 : ix_lc (ix_lg k) i lv st = none) (h2 : ix_hp xs L k i st h = some (st', h')) : Ev xs L k (pc, lv, st, h) o ↔ Ev xs L k (pc + n, lv, st', h') o :=
  iv_go xs L (by rw [st_of xs L hb hd hn]; simp only [ix_do, h0, h1, h3, h2])
theorem iv_il {g : ix_F} (hb : ix_by k = cc) (hd : decode cc pc = .ok (i, n)) (hn : ix_len i n = true) (h0 : ix_alu (ix_cp k) i st = none) (h1 : ix_br i pc st = none) (h3 : ix_lc (ix_lg k) i lv st = none) (h4 : ix_hp xs L k i st h = none) (h2 : ix_inv k i pc lv st h = some (.inl g)) : Ev xs L k (pc, lv, st, h) o ↔ Ev xs L k g o :=
  iv_go xs L (by rw [st_of xs L hb hd hn]; simp only [ix_do, h0, h1, h3, h4, h2])
theorem iv_ir {q : ix_Q} (hb : ix_by k = cc) (hd : decode cc pc = .ok (i, n)) (hn : ix_len i n = true) (h0 : ix_alu (ix_cp k) i st = none) (h1 : ix_br i pc st = none) (h3 : ix_lc (ix_lg k) i lv st = none) (h4 : ix_hp xs L k i st h = none) (h2 : ix_inv k i pc lv st h = some (.inr q)) : Ev xs L k (pc, lv, st, h) o ↔ Cl xs L q.1 q.2.1 q.2.2.2.2.2 (fun v h' => Ev xs L k (q.2.2.1, q.2.2.2.1, v.toList ++ q.2.2.2.2.1, h') o) :=
  iv_cl xs L (by rw [st_of xs L hb hd hn]; simp only [ix_do, h0, h1, h3, h4, h2])
theorem iv_rt {v : Option Value} (hb : ix_by k = cc) (hd : decode cc pc = .ok (i, n)) (hn : ix_len i n = true) (h0 : ix_alu (ix_cp k) i st = none) (h1 : ix_br i pc st = none) (h3 : ix_lc (ix_lg k) i lv st = none) (h4 : ix_hp xs L k i st h = none) (h5 : ix_inv k i pc lv st h = none) (h2 : ix_rtn (ix_rk k) i st = some v) : Ev xs L k (pc, lv, st, h) o ↔ o = (v, h) :=
  iv_end xs L (by rw [st_of xs L hb hd hn]; simp only [ix_do, h0, h1, h3, h4, h5, h2])
-- by kinds
theorem cb_pos {P : Prop} {d : Decidable P} {off : Int} {t : Nat} (ht : (pc : Int) + off = (t : Int)) : ix_cb P d pc off r = some (@ite Nat P d t (pc + 3), r) := by
  unfold ix_cb ix_tg
  rw [ht, if_pos (Int.natCast_nonneg t), Int.toNat_natCast]
theorem iv_goto {off : Int} {t : Nat} (hb : ix_by k = cc) (hd : decode cc pc = .ok (.goto off, 3)) (ht : (pc : Int) + off = (t : Int)) : Ev xs L k (pc, lv, st, h) o ↔ Ev xs L k (t, lv, st, h) o :=
  iv_br xs L hb hd rfl rfl (by show ix_cb _ _ pc off st = _; rw [cb_pos ht, if_pos trivial])
theorem iv_if1 {c : Jvm.ClassFile.Cond} {off : Int} {t : Nat} {x : Int32} {P : Prop} {dP : Decidable P} (hb : ix_by k = cc) (hd : decode cc pc = .ok (.ifCond c off, 3)) (ht : (pc : Int) + off = (t : Int)) (hP : ix_c1 c x ↔ P) : Ev xs L k (pc, lv, .int x :: r, h) o ↔ if P then Ev xs L k (t, lv, r, h) o else Ev xs L k (pc + 3, lv, r, h) o := by
  have := iv_br xs L (lv := lv) (h := h) (o := o) (st := .int x :: r) hb hd rfl rfl (show ix_cb _ _ pc off r = _ from cb_pos ht)
  rw [this]
  by_cases hc : P
  · rw [if_pos (hP.mpr hc), if_pos hc]
  · rw [if_neg (fun q => hc (hP.mp q)), if_neg hc]
theorem iv_if2 {c : Jvm.ClassFile.Cond} {off : Int} {t : Nat} {x y : Int32} {P : Prop} {dP : Decidable P} (hb : ix_by k = cc) (hd : decode cc pc = .ok (.if_icmp c off, 3)) (ht : (pc : Int) + off = (t : Int)) (hP : ix_c2 c x y ↔ P) : Ev xs L k (pc, lv, .int y :: .int x :: r, h) o ↔ if P then Ev xs L k (t, lv, r, h) o else Ev xs L k (pc + 3, lv, r, h) o := by
  have := iv_br xs L (lv := lv) (h := h) (o := o) (st := .int y :: .int x :: r) hb hd rfl rfl (show ix_cb _ _ pc off r = _ from cb_pos ht)
  rw [this]
  by_cases hc : P
  · rw [if_pos (hP.mpr hc), if_pos hc]
  · rw [if_neg (fun q => hc (hP.mp q)), if_neg hc]
theorem iv_get {x p t j : Nat} {v : Value} (hb : ix_by k = cc) (hd : decode cc pc = .ok (.getfield x, 3)) (hc : ix_cp k x = (3, t, j)) (hT : ha_T h p = t) (hv : ix_av t j h p = v) : Ev xs L k (pc, lv, .ref p :: r, h) o ↔ Ev xs L k (pc + 3, lv, v :: r, h) o :=
  iv_hp xs L hb hd rfl rfl rfl rfl (by simp only [ix_hp, hc, hT, hv, and_self, if_true])
theorem iv_put {x p t j : Nat} {v : Value} (hb : ix_by k = cc) (hd : decode cc pc = .ok (.putfield x, 3)) (hc : ix_cp k x = (3, t, j)) (hf : ix_fin t j = false ∨ ix_ci k = t + 1) (hT : ha_T h p = t) (hv : ix_put t j p v h = some h') : Ev xs L k (pc, lv, v :: .ref p :: r, h) o ↔ Ev xs L k (pc + 3, lv, r, h') o :=
  iv_hp xs L hb hd rfl rfl rfl rfl (by simp only [ix_hp, hc, hT, hv, hf, and_self, if_true])
theorem put_i {t j p : Nat} {x : Int32} (hk : ix_fk t j = 0) : ix_put t j p (.int x) h = some (hs_I h p j x) := by simp only [ix_put, hk, true_or, if_true]
theorem put_z {t j p : Nat} {x : Int32} (hk : ix_fk t j = 3) (hx : x = 0 ∨ x = 1) : ix_put t j p (.int x) h = some (hs_I h p j x) := by
  unfold ix_put
  exact if_pos (Or.inr ⟨hk, hx⟩)
theorem put_r {t j p q : Nat} (hk : ix_fk t j = 1) : ix_put t j p (.ref q) h = some (hs_R h p j (some q)) := by simp only [ix_put, hk, if_true]
theorem put_n {t j p : Nat} (hk : ix_fk t j = 1) : ix_put t j p .null h = some (hs_R h p j none) := by simp only [ix_put, hk, if_true]
theorem put_l {t j p : Nat} {x : Int64} (hk : ix_fk t j = 2) : ix_put t j p (.long x) h = some (hs_J h p j x) := by simp only [ix_put, hk, if_true]
theorem iv_k1 {w v : Int32} (hb : ix_by k = cc) (hd : decode cc pc = .ok (i, n)) (hn : ix_len i n = true) (ha : ix_alu (ix_cp k) i st = some (.int w :: st)) (hw : w = v) : Ev xs L k (pc, lv, st, h) o ↔ Ev xs L k (pc + n, lv, .int v :: st, h) o := by
  subst hw
  exact iv_alu xs L hb hd hn ha
theorem iv_k2 {w v : Int64} (hb : ix_by k = cc) (hd : decode cc pc = .ok (i, n)) (hn : ix_len i n = true) (ha : ix_alu (ix_cp k) i st = some (.long w :: st)) (hw : w = v) : Ev xs L k (pc, lv, st, h) o ↔ Ev xs L k (pc + n, lv, .long v :: st, h) o := by
  subst hw
  exact iv_alu xs L hb hd hn ha
theorem iv_ldc {x a z : Nat} {v : Int32} (hb : ix_by k = cc) (hd : decode cc pc = .ok (.ldc x, 2)) (hc : ix_cp k x = (1, a, z)) (hw : Int32.ofNat a = v) : Ev xs L k (pc, lv, st, h) o ↔ Ev xs L k (pc + 2, lv, .int v :: st, h) o :=
  iv_k1 xs L hb hd rfl (by simp only [ix_alu, hc, if_true]) hw
theorem iv_ldcw {x a z : Nat} {v : Int32} (hb : ix_by k = cc) (hd : decode cc pc = .ok (.ldc_w x, 3)) (hc : ix_cp k x = (1, a, z)) (hw : Int32.ofNat a = v) : Ev xs L k (pc, lv, st, h) o ↔ Ev xs L k (pc + 3, lv, .int v :: st, h) o :=
  iv_k1 xs L hb hd rfl (by simp only [ix_alu, hc, if_true]) hw
theorem iv_ldc2 {x a z : Nat} {v : Int64} (hb : ix_by k = cc) (hd : decode cc pc = .ok (.ldc2_w x, 3)) (hc : ix_cp k x = (2, a, z)) (hw : Int64.ofNat a = v) : Ev xs L k (pc, lv, st, h) o ↔ Ev xs L k (pc + 3, lv, .long v :: st, h) o :=
  iv_k2 xs L hb hd rfl (by simp only [ix_alu, hc, if_true]) hw
theorem iv_nz {y x w : Int32} {f : Int32 → Int32 → Value} (hb : ix_by k = cc) (hd : decode cc pc = .ok (i, 1)) (hn : ix_len i 1 = true) (hf : ix_alu (ix_cp k) i (.int y :: .int x :: r) = ix_iz f (.int y :: .int x :: r)) (hw : f x y = .int w) (hy : ¬ y = 0) : Ev xs L k (pc, lv, .int y :: .int x :: r, h) o ↔ Ev xs L k (pc + 1, lv, .int w :: r, h) o :=
  iv_alu xs L hb hd hn (by rw [hf]; simp only [ix_iz, hy, if_false, hw])
theorem iv_v1 {v : Value} {f : Value → List Value} (hb : ix_by k = cc) (hd : decode cc pc = .ok (i, 1)) (hn : ix_len i 1 = true) (hf : ix_alu (ix_cp k) i (v :: r) = ix_v1 f (v :: r)) (hv : v.category = 1) (hw : f v ++ r = st') : Ev xs L k (pc, lv, v :: r, h) o ↔ Ev xs L k (pc + 1, lv, st', h) o :=
  iv_alu xs L hb hd hn (by rw [hf]; simp only [ix_v1, hv, if_true, hw])
theorem iv_v2 {v w : Value} {f : Value → Value → List Value} (hb : ix_by k = cc) (hd : decode cc pc = .ok (i, 1)) (hn : ix_len i 1 = true) (hf : ix_alu (ix_cp k) i (v :: w :: r) = ix_v2 f (v :: w :: r)) (hv : v.category = 1) (hw : w.category = 1) (he : f v w ++ r = st') : Ev xs L k (pc, lv, v :: w :: r, h) o ↔ Ev xs L k (pc + 1, lv, st', h) o :=
  iv_alu xs L hb hd hn (by rw [hf]; simp only [ix_v2, hv, hw, and_self, if_true, he])
theorem iv_v3 {v w z : Value} {f : Value → Value → Value → List Value} (hb : ix_by k = cc) (hd : decode cc pc = .ok (i, 1)) (hn : ix_len i 1 = true) (hf : ix_alu (ix_cp k) i (v :: w :: z :: r) = ix_v3 f (v :: w :: z :: r)) (hv : v.category = 1) (hw : w.category = 1) (hz : z.category = 1) (he : f v w z ++ r = st') : Ev xs L k (pc, lv, v :: w :: z :: r, h) o ↔ Ev xs L k (pc + 1, lv, st', h) o :=
  iv_alu xs L hb hd hn (by rw [hf]; simp only [ix_v3, hv, hw, hz, and_self, if_true, he])
theorem iv_nul {off : Int} {t : Nat} (hb : ix_by k = cc) (hd : decode cc pc = .ok (.ifnull off, 3)) (ht : (pc : Int) + off = (t : Int)) : Ev xs L k (pc, lv, .null :: r, h) o ↔ Ev xs L k (t, lv, r, h) o :=
  iv_br xs L hb hd rfl rfl (by show ix_cb _ _ pc off r = _; rw [cb_pos ht, if_pos trivial])
theorem iv_nur {off : Int} {p : Nat} (hb : ix_by k = cc) (hd : decode cc pc = .ok (.ifnull off, 3)) : Ev xs L k (pc, lv, .ref p :: r, h) o ↔ Ev xs L k (pc + 3, lv, r, h) o :=
  iv_br xs L hb hd rfl rfl rfl
theorem iv_nnl {off : Int} (hb : ix_by k = cc) (hd : decode cc pc = .ok (.ifnonnull off, 3)) : Ev xs L k (pc, lv, .null :: r, h) o ↔ Ev xs L k (pc + 3, lv, r, h) o :=
  iv_br xs L hb hd rfl rfl rfl
theorem iv_nnr {off : Int} {t p : Nat} (hb : ix_by k = cc) (hd : decode cc pc = .ok (.ifnonnull off, 3)) (ht : (pc : Int) + off = (t : Int)) : Ev xs L k (pc, lv, .ref p :: r, h) o ↔ Ev xs L k (t, lv, r, h) o :=
  iv_br xs L hb hd rfl rfl (by show ix_cb _ _ pc off r = _; rw [cb_pos ht, if_pos trivial])
theorem iv_lsw {d : Int} {ps : Array (Int × Int)} {x : Int32} {t : Nat} {off : Int} (hb : ix_by k = cc) (hd : decode cc pc = .ok (.lookupswitch d ps, n)) (hs : (ps.toList.zip (ps.toList.drop 1)).all (fun (a, next) => a.1 < next.1) = true) (ho : Op.lookupswitch.offset ps.toList d x.toInt = off) (ht : (pc : Int) + off = (t : Int)) : Ev xs L k (pc, lv, .int x :: r, h) o ↔ Ev xs L k (t, lv, r, h) o :=
  iv_br xs L hb hd rfl rfl (by
    show (if _ then _ else _) = _
    rw [ho, if_pos ⟨by rw [ht]; exact Int.natCast_nonneg t, hs⟩]
    unfold ix_tg
    rw [ht, Int.toNat_natCast])
theorem iv_tsO {d lo hi : Int} {os : Array Int} {x : Int32} {t : Nat} (hb : ix_by k = cc) (hd : decode cc pc = .ok (.tableswitch d lo hi os, n)) (hx : x.toInt < lo ∨ hi < x.toInt) (ht : (pc : Int) + d = (t : Int)) : Ev xs L k (pc, lv, .int x :: r, h) o ↔ Ev xs L k (t, lv, r, h) o :=
  iv_br xs L hb hd rfl rfl (by
    simp only [ix_br]
    rw [if_pos hx, if_pos (by rw [ht]; exact Int.natCast_nonneg t)]
    unfold ix_tg
    rw [ht, Int.toNat_natCast])
theorem iv_tsI {d lo hi off : Int} {os : Array Int} {x : Int32} {t : Nat} (hb : ix_by k = cc) (hd : decode cc pc = .ok (.tableswitch d lo hi os, n)) (hx : ¬ (x.toInt < lo ∨ hi < x.toInt)) (ho : os[(x.toInt - lo).toNat]? = some off) (ht : (pc : Int) + off = (t : Int)) : Ev xs L k (pc, lv, .int x :: r, h) o ↔ Ev xs L k (t, lv, r, h) o :=
  iv_br xs L hb hd rfl rfl (by
    simp only [ix_br]
    rw [if_neg hx, ho]
    simp only []
    rw [if_pos (by rw [ht]; exact Int.natCast_nonneg t)]
    unfold ix_tg
    rw [ht, Int.toNat_natCast])
theorem iv_new {x t m : Nat} (hb : ix_by k = cc) (hd : decode cc pc = .ok (.new x, 3)) {z : Nat} (hc : ix_cp k x = (4, t, z)) (hm : ix_nf t = m) : Ev xs L k (pc, lv, st, h) o ↔ Ev xs L k (pc + 3, lv, .ref (ha_N h) :: st, hs_new h t 0 m) o :=
  iv_hp xs L hb hd rfl rfl rfl rfl (by simp only [ix_hp, hc, hm, if_true])
theorem iv_newa {a : Jvm.ClassFile.ArrayType} {t N : Nat} {x : Int32} (hb : ix_by k = cc) (hd : decode cc pc = .ok (.newarray a, 2)) (ha : ix_at a = t) (ht : ¬ t = 0) (h0 : ¬ x < 0) (hx : x.toNatClampNeg = N) (hN : ¬ 1000000 < N) : Ev xs L k (pc, lv, .int x :: r, h) o ↔ Ev xs L k (pc + 2, lv, .ref (ha_N h) :: r, hs_new h t N N) o :=
  iv_hp xs L hb hd rfl rfl rfl rfl (by simp only [ix_hp, ha, ht, h0, hx, hN, or_self, if_false])
theorem iv_newq {x t N : Nat} {y : Int32} (hb : ix_by k = cc) (hd : decode cc pc = .ok (.anewarray x, 3)) {z : Nat} (hc : ix_cp k x = (4, z, t)) (ht : ¬ t = 0) (h0 : ¬ y < 0) (hx : y.toNatClampNeg = N) (hN : ¬ 1000000 < N) : Ev xs L k (pc, lv, .int y :: r, h) o ↔ Ev xs L k (pc + 3, lv, .ref (ha_N h) :: r, hs_new h t N N) o :=
  iv_hp xs L hb hd rfl rfl rfl rfl (by simp only [ix_hp, hc, ht, h0, hx, hN, not_true_eq_false, or_self, if_false])
theorem iv_alen {p : Nat} (hb : ix_by k = cc) (hd : decode cc pc = .ok (.arraylength, 1)) (hT : 100 ≤ ha_T h p) (hT' : ha_T h p < ix_tz) : Ev xs L k (pc, lv, .ref p :: r, h) o ↔ Ev xs L k (pc + 1, lv, .int (Int32.ofNat (ha_L h p)) :: r, h) o :=
  iv_hp xs L hb hd rfl rfl rfl rfl (by simp only [ix_hp, hT, hT', and_self, if_true])
theorem iv_slen (hb : ix_by k = cc) (hd : decode cc pc = .ok (.arraylength, 1)) : Ev xs L k (pc, lv, .retAddr 0 :: r, h) o ↔ Ev xs L k (pc + 1, lv, .int (Int32.ofNat L) :: r, h) o :=
  iv_hp xs L hb hd rfl rfl rfl rfl rfl
theorem iv_iald {p : Nat} {x : Int32} (hb : ix_by k = cc) (hd : decode cc pc = .ok (.iaload, 1)) (hT : ha_T h p = 100) (hx : vp_in x (ha_L h p)) : Ev xs L k (pc, lv, .int x :: .ref p :: r, h) o ↔ Ev xs L k (pc + 1, lv, .int (ha_I h p x.toNatClampNeg) :: r, h) o :=
  iv_hp xs L hb hd rfl rfl rfl rfl (by unfold vp_in at hx; simp only [ix_hp, hT, hx, not_false_eq_true, and_self, if_true])
theorem iv_sld {x : Int32} (hb : ix_by k = cc) (hd : decode cc pc = .ok (.iaload, 1)) (hx : vp_in x L) : Ev xs L k (pc, lv, .int x :: .retAddr 0 :: r, h) o ↔ Ev xs L k (pc + 1, lv, .int (xs x.toNatClampNeg) :: r, h) o :=
  iv_hp xs L hb hd rfl rfl rfl rfl (by unfold vp_in at hx; simp only [ix_hp, hx, if_false])
theorem iv_bald {p : Nat} {x : Int32} (hb : ix_by k = cc) (hd : decode cc pc = .ok (.baload, 1)) (hT : ha_T h p = 101) (hx : vp_in x (ha_L h p)) : Ev xs L k (pc, lv, .int x :: .ref p :: r, h) o ↔ Ev xs L k (pc + 1, lv, .int (ha_I h p x.toNatClampNeg) :: r, h) o :=
  iv_hp xs L hb hd rfl rfl rfl rfl (by unfold vp_in at hx; simp only [ix_hp, hT, hx, not_false_eq_true, and_self, if_true])
theorem iv_lald {p : Nat} {x : Int32} (hb : ix_by k = cc) (hd : decode cc pc = .ok (.laload, 1)) (hT : ha_T h p = 102) (hx : vp_in x (ha_L h p)) : Ev xs L k (pc, lv, .int x :: .ref p :: r, h) o ↔ Ev xs L k (pc + 1, lv, .long (ha_J h p x.toNatClampNeg) :: r, h) o :=
  iv_hp xs L hb hd rfl rfl rfl rfl (by unfold vp_in at hx; simp only [ix_hp, hT, hx, not_false_eq_true, and_self, if_true])
theorem iv_aald {p : Nat} {x : Int32} (hb : ix_by k = cc) (hd : decode cc pc = .ok (.aaload, 1)) (hT : 103 ≤ ha_T h p) (hT' : ha_T h p < ix_tz) (hx : vp_in x (ha_L h p)) : Ev xs L k (pc, lv, .int x :: .ref p :: r, h) o ↔ Ev xs L k (pc + 1, lv, va_rf (ha_R h p x.toNatClampNeg) :: r, h) o :=
  iv_hp xs L hb hd rfl rfl rfl rfl (by unfold vp_in at hx; simp only [ix_hp, hT, hT', hx, not_false_eq_true, and_self, if_true])
theorem iv_iast {p : Nat} {x y : Int32} (hb : ix_by k = cc) (hd : decode cc pc = .ok (.iastore, 1)) (hT : ha_T h p = 100) (hx : vp_in x (ha_L h p)) : Ev xs L k (pc, lv, .int y :: .int x :: .ref p :: r, h) o ↔ Ev xs L k (pc + 1, lv, r, hs_I h p x.toNatClampNeg y) o :=
  iv_hp xs L hb hd rfl rfl rfl rfl (by unfold vp_in at hx; simp only [ix_hp, hT, hx, not_false_eq_true, and_self, if_true])
theorem iv_bast {p : Nat} {x y : Int32} (hb : ix_by k = cc) (hd : decode cc pc = .ok (.bastore, 1)) (hT : ha_T h p = 101) (hy : y = 0 ∨ y = 1) (hx : vp_in x (ha_L h p)) : Ev xs L k (pc, lv, .int y :: .int x :: .ref p :: r, h) o ↔ Ev xs L k (pc + 1, lv, r, hs_I h p x.toNatClampNeg y) o :=
  iv_hp xs L hb hd rfl rfl rfl rfl (by unfold vp_in at hx; simp only [ix_hp]; rw [if_pos ⟨hT, hy, hx⟩])
theorem iv_last {p : Nat} {x : Int32} {y : Int64} (hb : ix_by k = cc) (hd : decode cc pc = .ok (.lastore, 1)) (hT : ha_T h p = 102) (hx : vp_in x (ha_L h p)) : Ev xs L k (pc, lv, .long y :: .int x :: .ref p :: r, h) o ↔ Ev xs L k (pc + 1, lv, r, hs_J h p x.toNatClampNeg y) o :=
  iv_hp xs L hb hd rfl rfl rfl rfl (by unfold vp_in at hx; simp only [ix_hp, hT, hx, not_false_eq_true, and_self, if_true])
theorem iv_aast {p q : Nat} {x : Int32} (hb : ix_by k = cc) (hd : decode cc pc = .ok (.aastore, 1)) (hT : 103 ≤ ha_T h p) (hT' : ha_T h p < ix_tz) (hq : ha_T h q = ix_co (ha_T h p)) (hx : vp_in x (ha_L h p)) : Ev xs L k (pc, lv, .ref q :: .int x :: .ref p :: r, h) o ↔ Ev xs L k (pc + 1, lv, r, hs_R h p x.toNatClampNeg (some q)) o :=
  iv_hp xs L hb hd rfl rfl rfl rfl (by unfold vp_in at hx; simp only [ix_hp]; rw [if_pos ⟨hT, hT', hq, hx⟩])
theorem iv_obj {x p : Nat} (hb : ix_by k = cc) (hd : decode cc pc = .ok (.invokespecial x, 3)) (hc : (ix_cp k x).1 = 9) (hra : 1 ≤ ix_ra k) (hr : ix_cs r + 12 ≤ ix_lo k) : Ev xs L k (pc, lv, .ref p :: r, h) o ↔ Ev xs L k (pc + 3, lv, r, h) o :=
  iv_il xs L hb hd rfl rfl rfl rfl rfl (by simp only [ix_inv, hc, hra, hr, and_self, if_true])
theorem iv_max {x : Nat} {y z : Int32} (hb : ix_by k = cc) (hd : decode cc pc = .ok (.invokestatic x, 3)) (hc : (ix_cp k x).1 = 10) (hra : 1 ≤ ix_ra k) (hr : ix_cs r + 13 ≤ ix_lo k) : Ev xs L k (pc, lv, .int y :: .int z :: r, h) o ↔ Ev xs L k (pc + 3, lv, .int (if z < y then y else z) :: r, h) o :=
  iv_il xs L hb hd rfl rfl rfl rfl rfl (by simp only [ix_inv, hc, hra, hr, and_self, if_true])
theorem iv_min {x : Nat} {y z : Int32} (hb : ix_by k = cc) (hd : decode cc pc = .ok (.invokestatic x, 3)) (hc : (ix_cp k x).1 = 11) (hra : 1 ≤ ix_ra k) (hr : ix_cs r + 13 ≤ ix_lo k) : Ev xs L k (pc, lv, .int y :: .int z :: r, h) o ↔ Ev xs L k (pc + 3, lv, .int (if y < z then y else z) :: r, h) o :=
  iv_il xs L hb hd rfl rfl rfl rfl rfl (by simp only [ix_inv, hc, hra, hr, and_self, if_true]; rfl)
theorem iv_cv {x a m p : Nat} {as : List Value} (hb : ix_by k = cc) (hd : decode cc pc = .ok (.invokevirtual x, 3)) (hc : ix_cp k x = (6, a, m)) (hra : ix_ra a < ix_ra k) (hlo : 19 + ix_ml a + ix_lo a ≤ ix_lo k) (hs : ix_sp m st = some (.ref p :: as, r)) (hT : ha_T h p = ix_mt a) (hr : ix_cs r ≤ 8) : Ev xs L k (pc, lv, st, h) o ↔ Cl xs L a (.ref p :: as) h (fun v h' => Ev xs L k (pc + 3, lv, v.toList ++ r, h') o) :=
  iv_ir xs L (q := (a, .ref p :: as, (pc + 3, lv, r, h))) hb hd rfl rfl rfl rfl rfl (by simp only [ix_inv, hc, hs, ix_cq, hra, hlo, hr, hT, and_self, if_true])
theorem iv_ci {x a m p z : Nat} {as : List Value} (hb : ix_by k = cc) (hd : decode cc pc = .ok (.invokespecial x, 3)) (hc : ix_cp k x = (z, a, m)) (hz : z = 7 ∨ z = 12) (hra : ix_ra a < ix_ra k) (hlo : 19 + ix_ml a + ix_lo a ≤ ix_lo k) (hs : ix_sp m st = some (.ref p :: as, r)) (hT : ha_T h p = ix_mt a) (hr : ix_cs r ≤ 8) : Ev xs L k (pc, lv, st, h) o ↔ Cl xs L a (.ref p :: as) h (fun v h' => Ev xs L k (pc + 3, lv, v.toList ++ r, h') o) :=
  iv_ir xs L (q := (a, .ref p :: as, (pc + 3, lv, r, h))) hb hd rfl rfl rfl rfl rfl (by
    have h9 : ¬ z = 9 := by omega
    simp only [ix_inv, hc, hs, ix_cq, hra, hlo, hr, hT, hz, h9, and_self, if_true, if_false])
theorem iv_ct {x a m : Nat} {as : List Value} (hb : ix_by k = cc) (hd : decode cc pc = .ok (.invokestatic x, 3)) (hc : ix_cp k x = (8, a, m)) (hra : ix_ra a < ix_ra k) (hlo : 19 + ix_ml a + ix_lo a ≤ ix_lo k) (hs : ix_sp m st = some (as, r)) (hr : ix_cs r ≤ 8) : Ev xs L k (pc, lv, st, h) o ↔ Cl xs L a as h (fun v h' => Ev xs L k (pc + 3, lv, v.toList ++ r, h') o) :=
  iv_ir xs L (q := (a, as, (pc + 3, lv, r, h))) hb hd rfl rfl rfl rfl rfl (by simp [ix_inv, hc, hs, ix_cq, hra, hlo, hr])
theorem iv_ret (hb : ix_by k = cc) (hd : decode cc pc = .ok (.return_, 1)) (hk : ix_rk k = 0) : Ev xs L k (pc, lv, [], h) o ↔ o = (none, h) :=
  iv_rt xs L hb hd rfl rfl rfl rfl rfl rfl (by rw [hk]; rfl)
theorem iv_iret {x : Int32} (hb : ix_by k = cc) (hd : decode cc pc = .ok (.ireturn, 1)) (hk : ix_rk k = 1) : Ev xs L k (pc, lv, [.int x], h) o ↔ o = (some (.int x), h) :=
  iv_rt xs L hb hd rfl rfl rfl rfl rfl rfl (by rw [hk]; rfl)
theorem iv_zret {x : Int32} (hb : ix_by k = cc) (hd : decode cc pc = .ok (.ireturn, 1)) (hk : ix_rk k = 2) (hx : x = 0 ∨ x = 1) : Ev xs L k (pc, lv, [.int x], h) o ↔ o = (some (.int x), h) :=
  iv_rt xs L hb hd rfl rfl rfl rfl rfl rfl (by rw [hk]; exact if_pos (Or.inr ⟨rfl, hx⟩))
theorem iv_lret {x : Int64} (hb : ix_by k = cc) (hd : decode cc pc = .ok (.lreturn, 1)) (hk : ix_rk k = 3) : Ev xs L k (pc, lv, [.long x], h) o ↔ o = (some (.long x), h) :=
  iv_rt xs L hb hd rfl rfl rfl rfl rfl rfl (by rw [hk]; rfl)
theorem iv_aret {x : Nat} (hb : ix_by k = cc) (hd : decode cc pc = .ok (.areturn, 1)) (hk : ix_rk k = 4) : Ev xs L k (pc, lv, [.ref x], h) o ↔ o = (some (.ref x), h) :=
  iv_rt xs L hb hd rfl rfl rfl rfl rfl rfl (by rw [hk]; rfl)
theorem iv_aretN (hb : ix_by k = cc) (hd : decode cc pc = .ok (.areturn, 1)) (hk : ix_rk k = 4) : Ev xs L k (pc, lv, [.null], h) o ↔ o = (some .null, h) :=
  iv_rt xs L hb hd rfl rfl rfl rfl rfl rfl (by rw [hk]; rfl)
end EV
