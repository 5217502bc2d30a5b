def ix_fv (b t : Nat) (h : ix_H) (p j : Nat) : Value := match ix_fk t j with
  | 1 => va_rf ((ha_R h p j).map (fun q => b + q))
  | 2 => .long (ha_J h p j)
  | _ => .int (ha_I h p j)
theorem fv_av (b scr t j : Nat) (h : ix_H) (p : Nat) : ix_cv b scr (ix_av t j h p) = ix_fv b t h p j := by
  unfold ix_av ix_fv
  generalize ix_fk t j = z
  match z with
  | 0 => rfl
  | 1 => exact cv_rf b scr _
  | 2 => rfl
  | n + 3 => rfl
def ix_ev (b t : Nat) (h : ix_H) (p j : Nat) : Value := if t ≤ 101 then .int (ha_I h p j) else if t = 102 then .long (ha_J h p j) else va_rf ((ha_R h p j).map (fun q => b + q))
def ix_dA (tys : List (ClassId × FieldType)) (t : Nat) : ClassId := (tys.getD (t - 100) (0, .int)).1
def ix_cell (D : va_G) (tys : List (ClassId × FieldType)) (b : Nat) (h : ix_H) (p : Nat) (H : Heap) : Prop :=
  if ha_T h p < 100 then t_OB (b + p) (D.1 (ha_T h p)) (ix_nf (ha_T h p)) (D.2 (ha_T h p)) H (ix_fv b (ha_T h p) h p)
  else H[b + p]? = some (arrV (ix_dA tys (ha_T h p)) (ha_L h p) (ix_ev b (ha_T h p) h p))
def ix_rep (D : va_G) (tys : List (ClassId × FieldType)) (b : Nat) (h : ix_H) (H : Heap) : Prop := H.size = b + ha_N h ∧ (∀ p, p < ha_N h → ix_cell D tys b h p H) ∧ ∀ p, ha_N h ≤ p → ha_T h p = 9999
theorem rep_lt {D : va_G} {tys : List (ClassId × FieldType)} {b : Nat} {h : ix_H} {H : Heap} (hr : ix_rep D tys b h H) {p : Nat} (hp : ha_T h p < 9999) : p < ha_N h := by
  apply Nat.lt_of_not_le
  intro hq
  have := hr.2.2 p hq
  omega
theorem cell_kept {D : va_G} {tys : List (ClassId × FieldType)} {b : Nat} {h : ix_H} {H H1 : Heap} {p : Nat} (hc : ix_cell D tys b h p H) (hq : H1[b + p]? = H[b + p]?) : ix_cell D tys b h p H1 := by
  unfold ix_cell at hc ⊢
  split at hc
  · next ht => rw [if_pos ht]; exact hc.kept hq
  · next ht => rw [if_neg ht, hq]; exact hc
theorem cell_same {D : va_G} {tys : List (ClassId × FieldType)} {b : Nat} {h h' : ix_H} {H : Heap} {p : Nat} (hc : ix_cell D tys b h p H) (hT : ha_T h' p = ha_T h p) (hL : ha_L h' p = ha_L h p) (i1 : ha_I h' p = ha_I h p) (i2 : ha_R h' p = ha_R h p) (i3 : ha_J h' p = ha_J h p) : ix_cell D tys b h' p H := by
  unfold ix_cell at hc ⊢
  have e1 : ∀ t, ix_fv b t h' p = ix_fv b t h p := by intro t; funext j; unfold ix_fv; rw [i1, i2, i3]
  have e2 : ∀ t, ix_ev b t h' p = ix_ev b t h p := by intro t; funext j; unfold ix_ev; rw [i1, i2, i3]
  rw [hT, hL, e1, e2]
  exact hc
theorem rep_put {D : va_G} {tys : List (ClassId × FieldType)} {b : Nat} {h h' : ix_H} {H H1 : Heap} {p : Nat} (hr : ix_rep D tys b h H) (hN : ha_N h' = ha_N h) (hT : ha_T h' = ha_T h) (hL : ha_L h' = ha_L h)
    (hI : ∀ q, q ≠ p → ha_I h' q = ha_I h q ∧ ha_R h' q = ha_R h q ∧ ha_J h' q = ha_J h q) (hz : H1.size = H.size) (oq : ∀ q, q ≠ b + p → H1[q]? = H[q]?) (hc : ix_cell D tys b h' p H1) : ix_rep D tys b h' H1 := by
  refine ⟨by rw [hz, hN]; exact hr.1, fun q hq => ?_, fun q hq => ?_⟩
  · by_cases hqp : q = p
    · subst hqp; exact hc
    · obtain ⟨i1, i2, i3⟩ := hI q hqp
      exact cell_same (cell_kept (hr.2.1 q (by omega)) (oq (b + q) (by omega))) (by rw [hT]) (by rw [hL]) i1 i2 i3
  · rw [hT]; exact hr.2.2 q (by omega)
theorem rep_new {D : va_G} {tys : List (ClassId × FieldType)} {b t len sl : Nat} {h : ix_H} {H H1 : Heap} (hr : ix_rep D tys b h H) (hz : H1.size = H.size + 1) (oq : ∀ q, q < H.size → H1[q]? = H[q]?) (hc : ix_cell D tys b (hs_new h t len sl) (ha_N h) H1) : ix_rep D tys b (hs_new h t len sl) H1 := by
  refine ⟨by rw [hz, hr.1, hN_new]; omega, fun q hq => ?_, fun q hq => ?_⟩
  · rw [hN_new] at hq
    by_cases hqp : q = ha_N h
    · subst hqp; exact hc
    · refine cell_same (cell_kept (hr.2.1 q (by omega)) (oq (b + q) (by rw [hr.1]; omega))) ?_ ?_ ?_ ?_ ?_
      · rw [hT_new, if_neg hqp]
      · rw [hL_new, if_neg hqp]
      · funext j; rw [hI_new, if_neg hqp]
      · funext j; rw [hR_new, if_neg hqp]
      · funext j; rw [hJ_new, if_neg hqp]
  · rw [hN_new] at hq
    rw [hT_new, if_neg (by omega)]
    exact hr.2.2 q (by omega)
theorem S_new {A : Nat → Prop} {H0 H H1 : Heap} {locs : List Loc} (h : va_S A H0 H locs) (z : H1.size = H.size + 1) (oq : ∀ q : Nat, q < H.size → H1[q]? = H[q]?) : va_S A H0 H1 locs :=
  ⟨by have := h.1; omega, fun q h1 h2 => (oq q (Nat.lt_of_lt_of_le h1 h.1)).trans (h.2.1 q h1 h2), h.2.2⟩
-- kinds of a field
theorem kok_put {b scr t j q : Nat} {v : Value} {h h' : ix_H} {ty : FieldType} (hk : ix_kok ty (ix_fk t j)) (hp : ix_put t j q v h = some h') : narrow ty (ix_cv b scr v) = ix_cv b scr v ∧ fits ty (ix_cv b scr v) = true ∧ ha_N h' = ha_N h ∧ ha_S h' = ha_S h ∧ ha_T h' = ha_T h ∧ ha_L h' = ha_L h ∧ (∀ z, z ≠ q → ha_I h' z = ha_I h z ∧ ha_R h' z = ha_R h z ∧ ha_J h' z = ha_J h z) ∧ ∀ k, ix_fv b t h' q k = updV (ix_fv b t h q) j (ix_cv b scr v) k := by
  have e0 : ∀ {α : Type} (f : Nat → Nat → α) (g : Nat → α) (z : Nat), z ≠ q → va_up f q g z = f z := fun f g z hz => if_neg hz
  have e1 : ∀ {α : Type} (f : Nat → Nat → α) (g : Nat → α), va_up f q g q = g := fun f g => if_pos rfl
  unfold ix_put at hp
  split at hp
  · split at hp
    · next x hz =>
      cases hp
      have hfk : ix_fk t j = 0 ∨ ix_fk t j = 3 := hz.imp id And.left
      refine ⟨?_, ?_, rfl, rfl, rfl, rfl, fun z hz => ⟨e0 _ _ z hz, rfl, rfl⟩, fun k => ?_⟩
      · rcases hk with ⟨a1, rfl⟩ | ⟨a1, -⟩ | ⟨a1, -⟩ | ⟨a1, rfl⟩
        · rfl
        · omega
        · omega
        · rcases hz with hz | ⟨-, rfl | rfl⟩
          · omega
          · rfl
          · rfl
      · rcases hk with ⟨a1, rfl⟩ | ⟨a1, -⟩ | ⟨a1, -⟩ | ⟨a1, rfl⟩
        · rfl
        · omega
        · omega
        · rcases hz with hz | ⟨-, rfl | rfl⟩
          · omega
          · rfl
          · rfl
      · unfold ix_fv updV
        by_cases hkj : k = j
        · subst hkj
          rw [if_pos rfl]
          have : ha_I (hs_I h q k x) q k = x := by rw [hI_I, if_pos ⟨rfl, rfl⟩]
          split
          · omega
          · omega
          · rw [this]; rfl
        · rw [if_neg hkj]
          have : ha_I (hs_I h q j x) q k = ha_I h q k := by rw [hI_I, if_neg (fun z => hkj z.2)]
          rw [this, hR_I, hJ_I]
    · cases hp
  · split at hp
    · next x hz =>
      cases hp
      refine ⟨?_, ?_, rfl, rfl, rfl, rfl, fun z hz => ⟨rfl, rfl, e0 _ _ z hz⟩, fun k => ?_⟩
      · rcases hk with ⟨a1, -⟩ | ⟨a1, -⟩ | ⟨a1, rfl⟩ | ⟨a1, -⟩
        · omega
        · omega
        · rfl
        · omega
      · rcases hk with ⟨a1, -⟩ | ⟨a1, -⟩ | ⟨a1, rfl⟩ | ⟨a1, -⟩
        · omega
        · omega
        · rfl
        · omega
      · unfold ix_fv updV
        by_cases hkj : k = j
        · subst hkj
          rw [if_pos rfl]
          have : ha_J (hs_J h q k x) q k = x := by rw [hJ_J, if_pos ⟨rfl, rfl⟩]
          split
          · omega
          · rw [this]; rfl
          · next c1 c2 => exact absurd hz c2
        · rw [if_neg hkj]
          have : ha_J (hs_J h q j x) q k = ha_J h q k := by rw [hJ_J, if_neg (fun z => hkj z.2)]
          rw [this, hR_J, hI_J]
    · cases hp
  · split at hp
    · next hz =>
      cases hp
      refine ⟨?_, ?_, rfl, rfl, rfl, rfl, fun z hz => ⟨rfl, e0 _ _ z hz, rfl⟩, fun k => ?_⟩
      · rcases hk with ⟨a1, -⟩ | ⟨a1, ⟨n, rfl⟩ | ⟨n, rfl⟩⟩ | ⟨a1, -⟩ | ⟨a1, -⟩
        · omega
        · rfl
        · rfl
        · omega
        · omega
      · rcases hk with ⟨a1, -⟩ | ⟨a1, ⟨n, rfl⟩ | ⟨n, rfl⟩⟩ | ⟨a1, -⟩ | ⟨a1, -⟩
        · omega
        · rfl
        · rfl
        · omega
        · omega
      · unfold ix_fv updV
        by_cases hkj : k = j
        · subst hkj
          rw [if_pos rfl]
          have : ha_R (hs_R h q k none) q k = none := by rw [hR_R, if_pos ⟨rfl, rfl⟩]
          split
          · rw [this]; rfl
          · omega
          · next c1 c2 => exact absurd hz c1
        · rw [if_neg hkj]
          have : ha_R (hs_R h q j none) q k = ha_R h q k := by rw [hR_R, if_neg (fun z => hkj z.2)]
          rw [this, hI_R, hJ_R]
    · cases hp
  · split at hp
    · next x hz =>
      cases hp
      refine ⟨?_, ?_, rfl, rfl, rfl, rfl, fun z hz => ⟨rfl, e0 _ _ z hz, rfl⟩, fun k => ?_⟩
      · rcases hk with ⟨a1, -⟩ | ⟨a1, ⟨n, rfl⟩ | ⟨n, rfl⟩⟩ | ⟨a1, -⟩ | ⟨a1, -⟩
        · omega
        · rfl
        · rfl
        · omega
        · omega
      · rcases hk with ⟨a1, -⟩ | ⟨a1, ⟨n, rfl⟩ | ⟨n, rfl⟩⟩ | ⟨a1, -⟩ | ⟨a1, -⟩
        · omega
        · rfl
        · rfl
        · omega
        · omega
      · unfold ix_fv updV
        by_cases hkj : k = j
        · subst hkj
          rw [if_pos rfl]
          have : ha_R (hs_R h q k (some x)) q k = some x := by rw [hR_R, if_pos ⟨rfl, rfl⟩]
          split
          · rw [this]; rfl
          · omega
          · next c1 c2 => exact absurd hz c1
        · rw [if_neg hkj]
          have : ha_R (hs_R h q j (some x)) q k = ha_R h q k := by rw [hR_R, if_neg (fun z => hkj z.2)]
          rw [this, hI_R, hJ_R]
    · cases hp
  · cases hp
theorem kok_new {b t j : Nat} {h : ix_H} {ty : FieldType} {len sl : Nat} (hk : ix_kok ty (ix_fk t j)) : defaultValue ty = ix_fv b t (hs_new h t len sl) (ha_N h) j := by
  unfold ix_fv
  rw [hI_new, hR_new, hJ_new, if_pos rfl, if_pos rfl, if_pos rfl]
  rcases hk with ⟨a1, rfl⟩ | ⟨a1, ⟨n, rfl⟩ | ⟨n, rfl⟩⟩ | ⟨a1, rfl⟩ | ⟨a1, rfl⟩ <;> rw [a1] <;> rfl
section HP
variable {p : Program} {l : Launch} {e : Env} {R : Room} {s : State} {m : MethodId} {args : Array Value} {below : List Frame} {meth : Method} {c : Code} {H : Heap} {locs : List Loc} {cells slots : Nat} {Q : State → Prop} {cc : ByteArray} {pc : Nat} {ls : Array Slot} {rest : List Value} {D : va_G} {tys : List (ClassId × FieldType)} {b : Nat} {h h' : ix_H} {q idx t j : Nat} {own : String} {H0 : Heap}
theorem ix_getW (hx : p.tables.exec = Jvm.exec) (hb : c.code = cc) (hts : ∀ w ∈ Tw, w.before args s = true) (hown : s.vm.findClass own = some m.cls) (hK : va_K D vwCl tys s) (hr : ix_rep D tys b h H) (hc : ix_okc t) (hj : j < ix_nf t) (hlink : (Cond.fieldLink own idx ((ix_cl t).2.1 j).1 ((ix_cl t).2.1 j).2.1 ((ix_cl t).2.1 j).2.2.1).before args s = true) (hT : ha_T h q = t) (hd : decode cc pc = .ok (.getfield idx, 3))
    (kk : W p l e R s m args below meth c H locs cells slots Q (F0 m (pc + 3) ls (ix_fv b t h q j :: rest))) : W p l e R s m args below meth c H locs cells slots Q (F0 m pc ls (.ref (b + q) :: rest)) := by
  obtain ⟨h1, h2, h3, h4, h5, -⟩ := hc
  have hq := rep_lt hr (p := q) (by omega)
  have h7 := hr.2.1 q hq
  unfold ix_cell at h7
  rw [hT, if_pos h1] at h7
  obtain ⟨cell, q1, q2, q3, q4⟩ := h7
  obtain ⟨hS, hfc, kC, hkC, hkind⟩ := hK.1 t _ h2
  obtain ⟨cf, kf, fi, f, hi, hsl⟩ := hS j (by omega)
  refine W.getf hx hb hown hlink hi (u_facts hfc hkC (u_lays hts h4 (by omega)) hi).1 q1 (by rw [q3]; exact fun z => by cases z) (v := ix_fv b t h q j) ?_ rfl rfl hd kk
  rw [hsl]
  exact q4 j hj
theorem ix_putW {scr : Nat} {v : Value} (hx : p.tables.exec = Jvm.exec) (hb : c.code = cc) (hts : ∀ w ∈ Tw, w.before args s = true) (hown : s.vm.findClass own = some m.cls) (hK : va_K D vwCl tys s) (hr : ix_rep D tys b h H) (hc : ix_okc t) (hj : j < ix_nf t) (hlink : (Cond.fieldLink own idx ((ix_cl t).2.1 j).1 ((ix_cl t).2.1 j).2.1 ((ix_cl t).2.1 j).2.2.1).before args s = true) (hT : ha_T h q = t) (hfin : ix_fin t j = false ∨ (meth.name = "<init>" ∧ own = (ix_cl t).1)) (hp : ix_put t j q v h = some h') (hd : decode cc pc = .ok (.putfield idx, 3)) (hS0 : va_S (fun z => b ≤ z) H0 H locs)
    (kk : ∀ (H1 : Heap) (locs1 : List Loc), ix_rep D tys b h' H1 → va_S (fun z => b ≤ z) H0 H1 locs1 → W p l e R s m args below meth c H1 locs1 cells slots Q (F0 m (pc + 3) ls rest)) : W p l e R s m args below meth c H locs cells slots Q (F0 m pc ls (ix_cv b scr v :: .ref (b + q) :: rest)) := by
  obtain ⟨h1, h2, h3, h4, h5, h6, h7a, h8a, h9a⟩ := hc
  obtain ⟨g1, g2, gN, gS, gT, gL, gI, gV⟩ := kok_put (b := b) (scr := scr) (h7a j hj) hp
  have hq := rep_lt hr (p := q) (by omega)
  have h7 := hr.2.1 q hq
  unfold ix_cell at h7
  rw [hT, if_pos h1] at h7
  obtain ⟨cell, q1, q2, q3, q4⟩ := h7
  have hap := va_apart (own := own) (D := D) (cl := vwCl) (tys := tys) hts h4 (ix_tt t) h5 h6 hK h2
  obtain ⟨hS, hfc, kC, hkC, hkind⟩ := hK.1 t _ h2
  obtain ⟨cf, kf, fi, f, hi, hsl⟩ := hS j (by omega)
  have hlay := hts _ (h4 _ (u_in_lay (show j < (ix_cl t).2.2 by omega)))
  have hst := (u_facts hfc hkC (u_lays hts h4 (by omega)) hi).1
  have key : ∀ (H1 : Heap), H1[b + q]? = some (cell.setSlot f.slot (ix_cv b scr v)) → H1.size = H.size → (∀ z, z ≠ b + q → H1[z]? = H[z]?) → W p l e R s m args below meth c H1 (locs ++ [⟨b + q, f.slot⟩]) cells slots Q (F0 m (pc + 3) ls rest) := by
    intro H1 e1 e2 e3
    rw [hsl] at e1
    refine kk H1 _ (rep_put hr gN gT gL gI e2 e3 ?_) (hS0.put e2 e3 (Nat.le_add_right b q))
    unfold ix_cell
    rw [gT, hT, if_pos h1]
    exact t_OB.to (V := updV (ix_fv b t h q) j (ix_cv b scr v)) ⟨_, e1, q2, q3, t_set q4 (fun x y hx hy => hap x y (by omega) (by omega)) hj _⟩ (fun k hk => (gV k).symm)
  unfold u_lay at hlay
  by_cases hff : ix_fin t j = true
  · rw [if_pos (by rw [h8a j hj]; exact hff)] at hlay
    obtain ⟨hin2, hdecl⟩ := hfin.resolve_left (by rw [hff]; decide)
    have hcf : m.cls = cf := by
      obtain ⟨_, _, c', _, _, _, -, -, hf', -, -, -, hown2, -⟩ := Cond.laysFinal_spec hlay
      have e1 : c' = cf := by have := hi.symm.trans hf'; simp at this; exact this.1.symm
      rw [h9a j hj, ← hdecl] at hown2
      rw [← e1]; exact Option.some.inj (hown.symm.trans hown2)
    have h8 := u_fits hfc hkC hkind (Or.inr hlay) hi (h5 j (by omega)) g1 g2
    exact W.putFinK hx hb hown hlink hi hst hcf hin2 (by rw [q2]; exact h8) q1 q3 (by rw [hsl]; exact k2_hasslot (q4 j hj)) rfl rfl hd key
  · rw [if_neg (by rw [h8a j hj]; exact hff)] at hlay
    have h8 := u_store hfc hkC hkind hlay hi (h5 j (by omega)) g1 g2
    exact W.putK hx hb (f := f) ⟨hown, hlink, ⟨_, _, _, hi⟩, hst⟩ (by rw [q2]; exact h8) q1 q3 (by rw [hsl]; exact k2_hasslot (q4 j hj)) rfl rfl hd key
theorem ix_newW (hx : p.tables.exec = Jvm.exec) (hb : c.code = cc) (hts : ∀ w ∈ Tw, w.before args s = true) (hown : s.vm.findClass own = some m.cls) (hK : va_K D vwCl tys s) (hr : ix_rep D tys b h H) (hc : ix_okc t) (hl1 : (Cond.classLink own idx (ix_cl t).1).before args s = true) (hl2 : (Cond.instantiable (ix_cl t).1 (ix_nf t)).before args s = true) (hl3 : (Cond.initialized (ix_cl t).1).before args s = true) (hcells : cells + 1 ≤ R.cells) (hslots : slots + ix_nf t ≤ R.slots) (hd : decode cc pc = .ok (.new idx, 3)) (hS0 : va_S (fun z => b ≤ z) H0 H locs)
    (kk : ∀ (H1 : Heap), ix_rep D tys b (hs_new h t 0 (ix_nf t)) H1 → va_S (fun z => b ≤ z) H0 H1 locs → W p l e R s m args below meth c H1 locs (cells + 1) (slots + ix_nf t) Q (F0 m (pc + 3) ls (.ref (b + ha_N h) :: rest))) : W p l e R s m args below meth c H locs cells slots Q (F0 m pc ls rest) := by
  obtain ⟨h1, h2, h3, h4, h5, h6, h7a, h8a, h9a⟩ := hc
  have hKn := hK.1 t _ h2
  refine W.newcK hx hb hown hl1 hl2 hl3 rfl hd hcells hslots hKn.2.1 hr.1 fun H1 kC hkC e1 z1 o1 => ?_
  refine kk H1 (rep_new hr (by rw [z1, hr.1]) (fun z hz => o1 z (by rw [← hr.1]; exact hz)) ?_) (S_new hS0 (by rw [z1, hr.1]) (fun z hz => o1 z (by rw [← hr.1]; exact hz)))
  unfold ix_cell
  rw [hT_new, if_pos rfl, if_pos h1]
  have hb1 := u_born (ix_tt t) hts h4 hKn hkC e1 h5
  rw [h3] at hb1
  exact t_OB.to hb1 (fun k hk => kok_new (h7a k hk))
theorem ty_at {tys : List (ClassId × FieldType)} {t : Nat} {ty : FieldType} (hk : tys.map (fun q => q.2) = ix_aty) (ht : ix_aty[t - 100]? = some ty) : tys[t - 100]? = some (ix_dA tys t, ty) := by
  rw [← hk, List.getElem?_map] at ht
  cases hq : tys[t - 100]? with
  | none => rw [hq] at ht; cases ht
  | some q =>
    rw [hq] at ht
    obtain ⟨a, y⟩ := q
    cases ht
    unfold ix_dA
    rw [List.getD_eq_getElem?_getD, hq]
    rfl
theorem ix_newaW {a : Jvm.ClassFile.ArrayType} {x : Int32} (hx : p.tables.exec = Jvm.exec) (hb : c.code = cc) (hts : ∀ w ∈ Tw, w.before args s = true) (hK : va_K D vwCl tys s) (htk : tys.map (fun q => q.2) = ix_aty) (hr : ix_rep D tys b h H) (ha : ¬ ix_at a = 0) (hw : Cond.arrayClass (newarray.typeOf a) ∈ Tw) (h0 : ¬ x < 0) (hN : ¬ 1000000 < x.toNatClampNeg) (hcells : cells + 1 ≤ R.cells) (hslots : slots + x.toNatClampNeg ≤ R.slots) (hd : decode cc pc = .ok (.newarray a, 2)) (hS0 : va_S (fun z => b ≤ z) H0 H locs)
    (kk : ∀ (H1 : Heap), ix_rep D tys b (hs_new h (ix_at a) x.toNatClampNeg x.toNatClampNeg) H1 → va_S (fun z => b ≤ z) H0 H1 locs → W p l e R s m args below meth c H1 locs (cells + 1) (slots + x.toNatClampNeg) Q (F0 m (pc + 2) ls (.ref (b + ha_N h) :: rest))) : W p l e R s m args below meth c H locs cells slots Q (F0 m pc ls (.int x :: rest)) := by
  have hbytes : x.toNatClampNeg * componentBytes (newarray.typeOf a) ≤ 536870912 := by
    have h8 : componentBytes (newarray.typeOf a) ≤ 8 := by cases a <;> decide
    have := Nat.mul_le_mul (show x.toNatClampNeg ≤ 1000000 by omega) h8
    omega
  refine va_newaK hx hb (hts _ hw) rfl hd rfl h0 rfl hbytes hcells hslots hr.1 fun H1 cA e1 z1 o1 hAr hNm => ?_
  refine kk H1 (rep_new hr (by rw [z1, hr.1]) (fun z hz => o1 z (by rw [← hr.1]; exact hz)) ?_) (S_new hS0 (by rw [z1, hr.1]) (fun z hz => o1 z (by rw [← hr.1]; exact hz)))
  unfold ix_cell
  rw [hT_new, hL_new, if_pos rfl, if_pos rfl]
  have hty : ix_aty[ix_at a - 100]? = some (newarray.typeOf a) ∧ ¬ ix_at a < 100 ∧ (∀ n, newarray.typeOf a ≠ .object n) ∧ ∀ j, defaultValue (newarray.typeOf a) = ix_ev b (ix_at a) (hs_new h (ix_at a) x.toNatClampNeg x.toNatClampNeg) (ha_N h) j := by
    have e2 : ∀ j, ha_I (hs_new h (ix_at a) x.toNatClampNeg x.toNatClampNeg) (ha_N h) j = 0 := fun j => by rw [hI_new, if_pos rfl]
    have e3 : ∀ j, ha_J (hs_new h (ix_at a) x.toNatClampNeg x.toNatClampNeg) (ha_N h) j = 0 := fun j => by rw [hJ_new, if_pos rfl]
    cases a with
    | int => exact ⟨rfl, by decide, fun n q => (by cases q), fun j => by unfold ix_ev; rw [if_pos (by decide), e2]; rfl⟩
    | boolean => exact ⟨rfl, by decide, fun n q => (by cases q), fun j => by unfold ix_ev; rw [if_pos (by decide), e2]; rfl⟩
    | long => exact ⟨rfl, by decide, fun n q => (by cases q), fun j => by unfold ix_ev; rw [if_neg (by decide), if_pos (by decide), e3]; rfl⟩
    | _ => exact absurd rfl ha
  rw [if_neg hty.2.1, e1]
  have h9 := (hK.2 _ _ (ty_at htk hty.1)).2
  have hcA : cA = ix_dA tys (ix_at a) := by
    unfold va_RA at h9
    split at h9
    · next q => exact absurd q (hty.2.2.1 _)
    · exact Option.some.inj (hNm.symm.trans h9)
  rw [hcA]
  congr 2
  funext j
  exact hty.2.2.2 j
theorem ix_newqW {x : Int32} (hx : p.tables.exec = Jvm.exec) (hb : c.code = cc) (hts : ∀ w ∈ Tw, w.before args s = true) (hown : s.vm.findClass own = some m.cls) (hK : va_K D vwCl tys s) (htk : tys.map (fun q => q.2) = ix_aty) (hr : ix_rep D tys b h H) {C : String} (ht : 103 ≤ t) (hty : ix_aty[t - 100]? = some (.object C)) (hl : (Cond.classLink own idx C).before args s = true) (hover : va_AO C s) (h0 : ¬ x < 0) (hN : ¬ 1000000 < x.toNatClampNeg) (hcells : cells + 1 ≤ R.cells) (hslots : slots + x.toNatClampNeg ≤ R.slots) (hd : decode cc pc = .ok (.anewarray idx, 3)) (hS0 : va_S (fun z => b ≤ z) H0 H locs)
    (kk : ∀ (H1 : Heap), ix_rep D tys b (hs_new h t x.toNatClampNeg x.toNatClampNeg) H1 → va_S (fun z => b ≤ z) H0 H1 locs → W p l e R s m args below meth c H1 locs (cells + 1) (slots + x.toNatClampNeg) Q (F0 m (pc + 3) ls (.ref (b + ha_N h) :: rest))) : W p l e R s m args below meth c H locs cells slots Q (F0 m pc ls (.int x :: rest)) := by
  refine W.anew hx hb hown hl (va_AO.use hover) rfl hd rfl h0 (by omega) hcells hslots fun cA kA comp f1 f2 f3 f4 => ?_
  generalize hH1 : H.push ({ cls := cA, slots := Array.replicate x.toNatClampNeg .null, vm := .none } : Cell) = H1
  have z1 : H1.size = H.size + 1 := by rw [← hH1, Array.size_push]
  have e1 : H1[H.size]? = some (arrV cA x.toNatClampNeg (fun _ => .null)) := by rw [← hH1, Array.getElem?_push_size, ← arrV_new]
  have o1 : ∀ q : Nat, q < H.size → H1[q]? = H[q]? := fun q hq => by rw [← hH1, Array.getElem?_push, if_neg (Nat.ne_of_lt hq)]
  have := kk H1 (rep_new hr z1 o1 ?_) (S_new hS0 z1 o1)
  · rw [hr.1]; exact this
  unfold ix_cell
  rw [hT_new, hL_new, if_pos rfl, if_pos rfl, if_neg (by omega), ← hr.1, e1]
  obtain ⟨kA', comp', -, -, -, h9⟩ := (hK.2 _ _ (ty_at htk hty)).2
  rw [Option.some.inj (f1.symm.trans h9)]
  congr 2
  funext j
  unfold ix_ev
  rw [if_neg (by omega), if_neg (by omega), hR_new, if_pos rfl]
  rfl
end HP
