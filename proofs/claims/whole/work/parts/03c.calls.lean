def ix_Cx (p : Program) (s : State) (m : MethodId) (args : Array Value) (meth : Method) (c : Code) (k : Nat) (D : va_G) (tys : List (ClassId × FieldType)) (b scr L : Nat) (xs : Nat → Int32) : Prop :=
  p.tables.exec = Jvm.exec ∧ c.code = ix_by k ∧ c.maxLocals = ix_ml k ∧ (∀ w ∈ Tw, w.before args s = true) ∧ s.vm.findClass (ix_ocl (ix_on k)) = some m.cls ∧ (∀ t, ix_ci k = t + 1 → meth.name = "<init>" ∧ ix_ocl (ix_on k) = (ix_cl t).1) ∧ va_K D vwCl tys s ∧ tys.map (fun q => q.2) = ix_aty ∧ (∀ C ∈ ix_AO, va_AO C s) ∧ (∀ q ∈ ix_NW, va_Nw (.methodLinkNest q.1 q.2.1 q.2.2.1 q.2.2.2) s) ∧ va_X scr L xs s s.heap ∧ scr < b ∧ b ≤ s.heap.size
theorem put_grows {t j q : Nat} {v : Value} {h h' : ix_H} (hp : ix_put t j q v h = some h') : ha_N h' = ha_N h ∧ ha_S h' = ha_S h := by
  unfold ix_put at hp
  split at hp <;> (try split at hp) <;> first | cases hp; exact ⟨rfl, rfl⟩ | cases hp
theorem hp_grows {xs : Nat → Int32} {L k : Nat} {i : Instr} {st st' : List Value} {h h' : ix_H} (ha : ix_hp xs L k i st h = some (st', h')) : ha_N h ≤ ha_N h' ∧ ha_S h ≤ ha_S h' := by
  unfold ix_hp at ha
  split at ha
  · split at ha
    · split at ha
      · cases ha; exact ⟨Nat.le_refl _, Nat.le_refl _⟩
      · cases ha
    · cases ha
  · split at ha
    · split at ha
      · split at ha
        · next hq => cases ha; obtain ⟨e1, e2⟩ := put_grows hq; exact ⟨Nat.le_of_eq e1.symm, Nat.le_of_eq e2.symm⟩
        · cases ha
      · cases ha
    · cases ha
  · split at ha
    · cases ha; exact ⟨Nat.le_succ _, Nat.le_add_right _ _⟩
    · cases ha
  · split at ha
    · split at ha
      · cases ha
      · cases ha; exact ⟨Nat.le_succ _, Nat.le_add_right _ _⟩
    · cases ha
  · split at ha
    · split at ha
      · cases ha
      · cases ha; exact ⟨Nat.le_succ _, Nat.le_add_right _ _⟩
    · cases ha
  · split at ha
    · split at ha
      · cases ha; exact ⟨Nat.le_refl _, Nat.le_refl _⟩
      · cases ha
    · cases ha; exact ⟨Nat.le_refl _, Nat.le_refl _⟩
    · cases ha
  · split at ha
    · split at ha
      · cases ha; exact ⟨Nat.le_refl _, Nat.le_refl _⟩
      · cases ha
    · split at ha
      · cases ha
      · cases ha; exact ⟨Nat.le_refl _, Nat.le_refl _⟩
    · cases ha
  all_goals first
    | cases ha
    | (split at ha
       · split at ha
         · cases ha; exact ⟨Nat.le_refl _, Nat.le_refl _⟩
         · cases ha
       · cases ha)
theorem inv_heap {k : Nat} {i : Instr} {pc : Nat} {lv st : List Value} {h : ix_H} : (∀ g, ix_inv k i pc lv st h = some (.inl g) → (g.2.1 = lv ∧ g.2.2.2 = h)) ∧ ∀ q, ix_inv k i pc lv st h = some (.inr q) → (q.2.2.2.1 = lv ∧ q.2.2.2.2.2 = h) := by
  have hcq : ∀ (a : Nat) (as r : List Value) (rc : Bool) (z : ix_F ⊕ ix_Q), ix_cq k a as r pc lv h rc = some z → ∃ q : ix_Q, z = .inr q ∧ (q.2.2.2.1 = lv ∧ q.2.2.2.2.2 = h) := by
    intro a as r rc z hz
    unfold ix_cq at hz
    split at hz
    · split at hz
      · split at hz
        · cases hz; exact ⟨_, rfl, rfl, rfl⟩
        · cases hz
      · cases hz; exact ⟨_, rfl, rfl, rfl⟩
      · cases hz
    · cases hz
  have key : ∀ z, ix_inv k i pc lv st h = some z → (∀ g, z = .inl g → (g.2.1 = lv ∧ g.2.2.2 = h)) ∧ ∀ q, z = .inr q → (q.2.2.2.1 = lv ∧ q.2.2.2.2.2 = h) := by
    intro z hz
    have fin : ∀ {a : Nat} {as r : List Value} {rc : Bool}, ix_cq k a as r pc lv h rc = some z → (∀ g, z = .inl g → (g.2.1 = lv ∧ g.2.2.2 = h)) ∧ ∀ q, z = .inr q → (q.2.2.2.1 = lv ∧ q.2.2.2.2.2 = h) := by
      intro a as r rc hq
      obtain ⟨q, rfl, hh⟩ := hcq a as r rc z hq
      exact ⟨fun g hg => (by cases hg), fun q' hq' => (by cases hq'; exact hh)⟩
    have fin2 : ∀ {g : ix_F}, (g.2.1 = lv ∧ g.2.2.2 = h) → some (Sum.inl g : ix_F ⊕ ix_Q) = some z → (∀ g, z = .inl g → (g.2.1 = lv ∧ g.2.2.2 = h)) ∧ ∀ q, z = .inr q → (q.2.2.2.1 = lv ∧ q.2.2.2.2.2 = h) := by
      intro g hg hq
      cases hq
      exact ⟨fun g' hg' => (by cases hg'; exact hg), fun q' hq' => (by cases hq')⟩
    unfold ix_inv at hz
    split at hz
    · split at hz
      · split at hz
        · split at hz
          · exact fin2 ⟨rfl, rfl⟩ hz
          · cases hz
        · cases hz
      · split at hz
        · split at hz
          · exact fin hz
          · cases hz
        · cases hz
    · split at hz
      · split at hz
        · exact fin hz
        · cases hz
      · cases hz
    · split at hz
      · split at hz
        · split at hz
          · exact fin2 ⟨rfl, rfl⟩ hz
          · cases hz
        · cases hz
      · split at hz
        · split at hz
          · split at hz
            · exact fin2 ⟨rfl, rfl⟩ hz
            · cases hz
          · cases hz
        · split at hz
          · split at hz
            · exact fin hz
            · cases hz
          · cases hz
    · cases hz
  exact ⟨fun g hg => (key _ hg).1 g rfl, fun q hq => (key _ hq).2 q rfl⟩
-- the six ways of a step
theorem do_inv {xs : Nat → Int32} {L k n : Nat} {i : Instr} {fr : ix_F} {z : ix_F ⊕ (ix_Q ⊕ ix_O)} (hz : ix_do xs L k i n fr = some z) :
    (∃ q, ix_alu (ix_cp k) i fr.2.2.1 = some q ∧ z = .inl (fr.1 + n, fr.2.1, q, fr.2.2.2)) ∨ (∃ q, ix_br i fr.1 fr.2.2.1 = some q ∧ z = .inl (q.1, fr.2.1, q.2, fr.2.2.2)) ∨ (∃ q, ix_lc (ix_lg k) i fr.2.1 fr.2.2.1 = some q ∧ z = .inl (fr.1 + n, q.1, q.2, fr.2.2.2)) ∨
    (∃ q, ix_hp xs L k i fr.2.2.1 fr.2.2.2 = some q ∧ z = .inl (fr.1 + n, fr.2.1, q.1, q.2)) ∨ (∃ g, ix_inv k i fr.1 fr.2.1 fr.2.2.1 fr.2.2.2 = some (.inl g) ∧ z = .inl g) ∨ (∃ q, ix_inv k i fr.1 fr.2.1 fr.2.2.1 fr.2.2.2 = some (.inr q) ∧ z = .inr (.inl q)) ∨ ∃ v, ix_rtn (ix_rk k) i fr.2.2.1 = some v ∧ z = .inr (.inr (v, fr.2.2.2)) := by
  unfold ix_do at hz
  split at hz
  · next q hq => exact Or.inl ⟨q, hq, (Option.some.inj hz).symm⟩
  split at hz
  · next q hq => exact Or.inr (Or.inl ⟨q, hq, (Option.some.inj hz).symm⟩)
  split at hz
  · next q hq => exact Or.inr (Or.inr (Or.inl ⟨q, hq, (Option.some.inj hz).symm⟩))
  split at hz
  · next q hq => exact Or.inr (Or.inr (Or.inr (Or.inl ⟨q, hq, (Option.some.inj hz).symm⟩)))
  split at hz
  · next g hq => exact Or.inr (Or.inr (Or.inr (Or.inr (Or.inl ⟨g, hq, (Option.some.inj hz).symm⟩))))
  · next q hq => exact Or.inr (Or.inr (Or.inr (Or.inr (Or.inr (Or.inl ⟨q, hq, (Option.some.inj hz).symm⟩)))))
  split at hz
  · next v hq => exact Or.inr (Or.inr (Or.inr (Or.inr (Or.inr (Or.inr ⟨v, hq, (Option.some.inj hz).symm⟩)))))
  · cases hz
theorem step_inv {xs : Nat → Int32} {L k : Nat} {fr : ix_F} {z : ix_F ⊕ (ix_Q ⊕ ix_O)} (hz : ix_step xs L k fr = some z) : ∃ i n, decode (ix_by k) fr.1 = .ok (i, n) ∧ ix_len i n = true ∧ ix_do xs L k i n fr = some z := by
  unfold ix_step at hz
  split at hz
  · next i n hd =>
    split at hz
    · next hn => exact ⟨i, n, hd, hn, hz⟩
    · cases hz
  · cases hz
theorem run_grows {call : Nat → List Value → ix_H → Option ix_O} (hc : ∀ k as h o, call k as h = some o → ha_N h ≤ ha_N o.2 ∧ ha_S h ≤ ha_S o.2) (xs : Nat → Int32) (L k : Nat) : ∀ (f : Nat) (fr : ix_F) (o : ix_O), ix_run call xs L k f fr = some o → ha_N fr.2.2.2 ≤ ha_N o.2 ∧ ha_S fr.2.2.2 ≤ ha_S o.2 := by
  intro f
  induction f with
  | zero => intro fr o h; simp [ix_run] at h
  | succ f ih =>
    intro fr o h
    simp only [ix_run] at h
    split at h
    · cases h
    · next g hs =>
      obtain ⟨i, n, hd, hn, hz⟩ := step_inv hs
      have h2 := ih g o h
      rcases do_inv hz with ⟨q, hq, e⟩ | ⟨q, hq, e⟩ | ⟨q, hq, e⟩ | ⟨q, hq, e⟩ | ⟨q, hq, e⟩ | ⟨q, hq, e⟩ | ⟨q, hq, e⟩
      · cases e; exact h2
      · cases e; exact h2
      · cases e; exact h2
      · cases e
        have h3 := hp_grows hq
        exact ⟨Nat.le_trans h3.1 h2.1, Nat.le_trans h3.2 h2.2⟩
      · cases e
        have h3 := (inv_heap.1 g hq).2
        rw [← h3]
        exact h2
      · cases e
      · cases e
    · next q hs =>
      obtain ⟨i, n, hd, hn, hz⟩ := step_inv hs
      split at h
      · cases h
      · next o1 ho =>
        have h2 := ih _ o h
        have h3 := hc _ _ _ _ ho
        rcases do_inv hz with ⟨q', hq, e⟩ | ⟨q', hq, e⟩ | ⟨q', hq, e⟩ | ⟨q', hq, e⟩ | ⟨q', hq, e⟩ | ⟨q', hq, e⟩ | ⟨q', hq, e⟩
        · cases e
        · cases e
        · cases e
        · cases e
        · cases e
        · cases e
          have h4 := (inv_heap.2 q hq).2
          rw [h4] at h3
          exact ⟨Nat.le_trans h3.1 h2.1, Nat.le_trans h3.2 h2.2⟩
        · cases e
    · next o1 hs =>
      obtain ⟨i, n, hd, hn, hz⟩ := step_inv hs
      cases h
      rcases do_inv hz with ⟨q', hq, e⟩ | ⟨q', hq, e⟩ | ⟨q', hq, e⟩ | ⟨q', hq, e⟩ | ⟨q', hq, e⟩ | ⟨q', hq, e⟩ | ⟨q', hq, e⟩
      · cases e
      · cases e
      · cases e
      · cases e
      · cases e
      · cases e
      · cases e; exact ⟨Nat.le_refl _, Nat.le_refl _⟩
theorem ex_grows (xs : Nat → Int32) (L f : Nat) : ∀ (d k : Nat) (as : List Value) (h : ix_H) (o : ix_O), ix_ex xs L f d k as h = some o → ha_N h ≤ ha_N o.2 ∧ ha_S h ≤ ha_S o.2 := by
  intro d
  induction d with
  | zero => intro k as h o hx; simp [ix_ex] at hx
  | succ d ih =>
    intro k as h o hx
    simp only [ix_ex] at hx
    split at hx
    · exact run_grows (fun k as h o hq => ih k as h o hq) xs L k f _ o hx
    · cases hx
section HW
variable {p : Program} {l : Launch} {e : Env} {R : Room} {s : State} {m : MethodId} {args : Array Value} {below : List Frame} {meth : Method} {c : Code} {H : Heap} {locs : List Loc} {Q : State → Prop} {pc n b scr L k n0 s0 : Nat} {xs : Nat → Int32} {ls : Array Slot} {st st' : List Value} {D : va_G} {tys : List (ClassId × FieldType)} {h h' : ix_H} {i : Instr}
theorem ar_cell {q t : Nat} (hr : ix_rep D tys b h H) (hT : ha_T h q = t) (h1 : 100 ≤ t) (h2 : t < 9999) : H[b + q]? = some (arrV (ix_dA tys t) (ha_L h q) (ix_ev b t h q)) := by
  have := hr.2.1 q (rep_lt hr (by omega))
  unfold ix_cell at this
  rw [hT, if_neg (by omega)] at this
  exact this
theorem rep_arr {q t j : Nat} {v : Value} {H1 : Heap} (hr : ix_rep D tys b h H) (hT : ha_T h q = t) (h1 : 100 ≤ t) (h2 : t < 9999) (hN : ha_N h' = ha_N h) (hT' : ha_T h' = ha_T h) (hL : ha_L h' = ha_L h) (hI : ∀ z, z ≠ q → ha_I h' z = ha_I h z ∧ ha_R h' z = ha_R h z ∧ ha_J h' z = ha_J h z)
    (hv : ∀ z, ix_ev b t h' q z = updV (ix_ev b t h q) j v z) (e1 : H1[b + q]? = some ((arrV (ix_dA tys t) (ha_L h q) (ix_ev b t h q)).setSlot j v)) (hz : H1.size = H.size) (oq : ∀ z, z ≠ b + q → H1[z]? = H[z]?) : ix_rep D tys b h' H1 := by
  refine rep_put hr hN hT' hL hI hz oq ?_
  unfold ix_cell
  rw [hT', hT, if_neg (by omega), hL, e1, arrV_store]
  congr 2
  funext z
  exact (hv z).symm
set_option maxHeartbeats 2000000 in
theorem ix_hpW (CX : ix_Cx p s m args meth c k D tys b scr L xs) (hd : decode (ix_by k) pc = .ok (i, n)) (hn : ix_len i n = true) (hr : ix_rep D tys b h H) (hS0 : va_S (fun z => b ≤ z) s.heap H locs) (ha : ix_hp xs L k i st h = some (st', h')) (hN0 : n0 ≤ ha_N h) (hSS0 : s0 ≤ ha_S h) (hcells : ha_N h' - n0 ≤ R.cells) (hslots : ha_S h' - s0 ≤ R.slots)
    (kk : ∀ (H1 : Heap) (locs1 : List Loc), ix_rep D tys b h' H1 → va_S (fun z => b ≤ z) s.heap H1 locs1 → W p l e R s m args below meth c H1 locs1 (ha_N h' - n0) (ha_S h' - s0) Q (F0 m (pc + n) ls (st'.map (ix_cv b scr)))) : W p l e R s m args below meth c H locs (ha_N h - n0) (ha_S h - s0) Q (F0 m pc ls (st.map (ix_cv b scr))) := by
  obtain ⟨hx, hb, hml, hts, hown, hnm, hK, htk, hAO, hNW, hX, hsb, hbs⟩ := CX
  have hbA : ¬ (fun z => b ≤ z) scr := fun z => by have : b ≤ scr := z; omega
  have h3 : 103 ≤ ix_tz := tz_ge
  have h4 : ix_tz ≤ 9999 := tz_le
  unfold ix_hp at ha
  split at ha
  · obtain rfl : n = 3 := eq_of_beq hn
    split at ha
    · next q r =>
      split at ha
      · next hz =>
        cases ha
        obtain ⟨g1, g2, g3⟩ := cp_z hz.1 (by decide)
        refine ix_getW hx hb hts hown hK hr g1 g2 (hts _ g3) hz.2 hd ?_
        have := kk H locs hr hS0
        rw [List.map_cons, fv_av] at this
        exact this
      · cases ha
    · cases ha
  · obtain rfl : n = 3 := eq_of_beq hn
    split at ha
    · next v q r =>
      split at ha
      · next hz =>
        split at ha
        · next h1 hq =>
          cases ha
          obtain ⟨g1, g2, g3⟩ := cp_z hz.1 (by decide)
          obtain ⟨e1, e2⟩ := put_grows hq
          refine ix_putW (scr := scr) hx hb hts hown hK hr g1 g2 (hts _ g3) hz.2.1 ?_ hq hd hS0 ?_
          · rcases hz.2.2 with hf | hf
            · exact Or.inl hf
            · exact Or.inr (hnm _ hf)
          · intro H1 locs1 r1 r2
            have := kk H1 locs1 r1 r2
            rw [e1, e2] at this
            exact this
        · cases ha
      · cases ha
    · cases ha
  · obtain rfl : n = 3 := eq_of_beq hn
    split at ha
    · next x hz =>
      cases ha
      obtain ⟨g1, g2, g3, g4, -⟩ := cp_z hz (by decide)
      rw [hN_new] at hcells
      rw [hS_new] at hslots
      refine ix_newW hx hb hts hown hK hr g1 (hts _ g2) (hts _ g3) (hts _ g4) (by omega) (by omega) hd hS0 ?_
      intro H1 r1 r2
      refine W.cs (by rw [hN_new]; omega) (by rw [hS_new]; omega) (kk H1 locs r1 r2)
    · cases ha
  · obtain rfl : n = 2 := eq_of_beq hn
    split at ha
    · next x r =>
      split at ha
      · cases ha
      · next hz =>
        cases ha
        rw [hN_new] at hcells
        rw [hS_new] at hslots
        have z0 : ¬ x < 0 := fun q => hz (Or.inl q)
        have z1 : ¬ 1000000 < x.toNatClampNeg := fun q => hz (Or.inr (Or.inl q))
        have z2 := fun q => hz (Or.inr (Or.inr q))
        refine ix_newaW hx hb hts hK htk hr z2 (aw_in z2) z0 z1 (by omega) (by omega) hd hS0 ?_
        intro H1 r1 r2
        refine W.cs (by rw [hN_new]; omega) (by rw [hS_new]; omega) (kk H1 locs r1 r2)
    · cases ha
  · obtain rfl : n = 3 := eq_of_beq hn
    split at ha
    · next x y r =>
      split at ha
      · cases ha
      · next hz =>
        cases ha
        rw [hN_new] at hcells
        rw [hS_new] at hslots
        simp only [not_or, Decidable.not_not] at hz
        obtain ⟨z0, z1, z2, z3⟩ := hz
        obtain ⟨-, f2, -, -, f5⟩ := cp_z z2 (by decide)
        obtain ⟨g1, g2, g3, g5⟩ := f5 z3
        refine ix_newqW hx hb hts hown hK htk hr g1 g3 (hts _ f2) (hAO _ g5) z0 z1 (by omega) (by omega) hd hS0 ?_
        intro H1 r1 r2
        refine W.cs (by rw [hN_new]; omega) (by rw [hS_new]; omega) (kk H1 locs r1 r2)
    · cases ha
  · obtain rfl : n = 1 := eq_of_beq hn
    split at ha
    · next q r =>
      split at ha
      · next hz =>
        cases ha
        obtain ⟨ty, hty⟩ : ∃ ty, ix_aty[ha_T h q - 100]? = some ty := ⟨_, List.getElem?_eq_getElem (by rw [aty_len]; omega)⟩
        exact W.alen hx hb (ar_cell hr rfl hz.1 (by omega)) ((hK.2 _ _ (ty_at htk hty)).1 _ _) (by rw [arrV_size]) rfl rfl hd (kk H locs hr hS0)
      · cases ha
    · cases ha
      exact va_slen hx hb hX (by omega) hbA hS0 hd (kk H locs hr hS0)
    · cases ha
  · obtain rfl : n = 1 := eq_of_beq hn
    split at ha
    · next x q r =>
      split at ha
      · next hz =>
        cases ha
        have hlt : x.toNatClampNeg < ha_L h q := Nat.not_le.mp fun z => hz.2 (Or.inr z)
        refine W.iald (v := .int (ha_I h q x.toNatClampNeg)) hx hb (ar_cell hr hz.1 (by omega) (by omega)) ((hK.2 _ _ (ty_at (t := 100) htk aty_0)).1 _ _) (fun z => by cases z) (by rw [arrV_size]; exact hz.2) (by rw [arrV_read _ _ hlt]; rfl) rfl rfl hd (kk H locs hr hS0)
      · cases ha
    · next x r =>
      split at ha
      · cases ha
      · next hz =>
        cases ha
        exact va_sld hx hb hX (by omega) hbA hS0 hz hd (kk H locs hr hS0)
    · cases ha
  · obtain rfl : n = 1 := eq_of_beq hn
    split at ha
    · next x q r =>
      split at ha
      · next hz =>
        cases ha
        have hlt : x.toNatClampNeg < ha_L h q := Nat.not_le.mp fun z => hz.2 (Or.inr z)
        refine W.zald (v := .int (ha_I h q x.toNatClampNeg)) hx hb (ar_cell hr hz.1 (by omega) (by omega)) ((hK.2 _ _ (ty_at (t := 101) htk aty_1)).1 _ _) (fun z => by cases z) (by rw [arrV_size]; exact hz.2) (by rw [arrV_read _ _ hlt]; rfl) rfl rfl hd (kk H locs hr hS0)
      · cases ha
    · cases ha
  · obtain rfl : n = 1 := eq_of_beq hn
    split at ha
    · next x q r =>
      split at ha
      · next hz =>
        cases ha
        have hlt : x.toNatClampNeg < ha_L h q := Nat.not_le.mp fun z => hz.2 (Or.inr z)
        refine W.lald (v := .long (ha_J h q x.toNatClampNeg)) hx hb (ar_cell hr hz.1 (by omega) (by omega)) ((hK.2 _ _ (ty_at (t := 102) htk aty_2)).1 _ _) (fun z => by cases z) (by rw [arrV_size]; exact hz.2) (by rw [arrV_read _ _ hlt]; rfl) rfl rfl hd (kk H locs hr hS0)
      · cases ha
    · cases ha
  · obtain rfl : n = 1 := eq_of_beq hn
    split at ha
    · next x q r =>
      split at ha
      · next hz =>
        cases ha
        have hlt : x.toNatClampNeg < ha_L h q := Nat.not_le.mp fun z => hz.2.2 (Or.inr z)
        obtain ⟨g1, g2⟩ := ar_ref hz.1 hz.2.1
        have hev : ix_ev b (ha_T h q) h q x.toNatClampNeg = ix_cv b scr (va_rf (ha_R h q x.toNatClampNeg)) := by
          unfold ix_ev
          rw [if_neg (by omega), if_neg (by omega), cv_rf]
        refine W.aald (v := ix_cv b scr (va_rf (ha_R h q x.toNatClampNeg))) hx hb (ar_cell hr rfl (by omega) (by omega)) ((hK.2 _ _ (ty_at htk g2)).1 _ _) rfl (fun z => by cases z) (by rw [arrV_size]; exact hz.2.2) (by rw [arrV_read _ _ hlt, hev]) rfl rfl hd (kk H locs hr hS0)
      · cases ha
    · cases ha
  · obtain rfl : n = 1 := eq_of_beq hn
    split at ha
    · next y x q r =>
      split at ha
      · next hz =>
        cases ha
        refine W.iast hx hb (ar_cell hr hz.1 (by omega) (by omega)) ((hK.2 _ _ (ty_at (t := 100) htk aty_0)).1 _ _) (fun z => by cases z) (by rw [arrV_size]; exact hz.2) rfl rfl hd fun H1 e1 z1 o1 => ?_
        refine kk H1 _ (rep_arr hr hz.1 (by omega) (by omega) rfl rfl rfl (fun z hz => ⟨if_neg hz, rfl, rfl⟩) (fun z => ?_) e1 z1 o1) (hS0.put z1 o1 (Nat.le_add_right b q))
        show Value.int (ha_I (hs_I h q x.toNatClampNeg y) q z) = if z = x.toNatClampNeg then Value.int y else Value.int (ha_I h q z)
        rw [hI_I]
        by_cases hzx : z = x.toNatClampNeg
        · rw [if_pos ⟨rfl, hzx⟩, if_pos hzx]
        · rw [if_neg (fun w => hzx w.2), if_neg hzx]
      · cases ha
    · cases ha
  · obtain rfl : n = 1 := eq_of_beq hn
    split at ha
    · next y x q r =>
      split at ha
      · next hz =>
        cases ha
        have hy : narrow .boolean (.int y) = .int y := by rcases hz.2.1 with rfl | rfl <;> rfl
        refine W.zast hx hb (ar_cell hr hz.1 (by omega) (by omega)) ((hK.2 _ _ (ty_at (t := 101) htk aty_1)).1 _ _) (fun z => by cases z) (by rw [arrV_size]; exact hz.2.2) rfl rfl hd fun H1 e1 z1 o1 => ?_
        rw [hy] at e1
        refine kk H1 _ (rep_arr hr hz.1 (by omega) (by omega) rfl rfl rfl (fun z hz => ⟨if_neg hz, rfl, rfl⟩) (fun z => ?_) e1 z1 o1) (hS0.put z1 o1 (Nat.le_add_right b q))
        show Value.int (ha_I (hs_I h q x.toNatClampNeg y) q z) = if z = x.toNatClampNeg then Value.int y else Value.int (ha_I h q z)
        rw [hI_I]
        by_cases hzx : z = x.toNatClampNeg
        · rw [if_pos ⟨rfl, hzx⟩, if_pos hzx]
        · rw [if_neg (fun w => hzx w.2), if_neg hzx]
      · cases ha
    · cases ha
  · obtain rfl : n = 1 := eq_of_beq hn
    split at ha
    · next y x q r =>
      split at ha
      · next hz =>
        cases ha
        refine W.last hx hb (ar_cell hr hz.1 (by omega) (by omega)) ((hK.2 _ _ (ty_at (t := 102) htk aty_2)).1 _ _) (fun z => by cases z) (by rw [arrV_size]; exact hz.2) rfl rfl hd fun H1 e1 z1 o1 => ?_
        refine kk H1 _ (rep_arr hr hz.1 (by omega) (by omega) rfl rfl rfl (fun z hz => ⟨rfl, rfl, if_neg hz⟩) (fun z => ?_) e1 z1 o1) (hS0.put z1 o1 (Nat.le_add_right b q))
        show Value.long (ha_J (hs_J h q x.toNatClampNeg y) q z) = if z = x.toNatClampNeg then Value.long y else Value.long (ha_J h q z)
        rw [hJ_J]
        by_cases hzx : z = x.toNatClampNeg
        · rw [if_pos ⟨rfl, hzx⟩, if_pos hzx]
        · rw [if_neg (fun w => hzx w.2), if_neg hzx]
      · cases ha
    · cases ha
  · obtain rfl : n = 1 := eq_of_beq hn
    split at ha
    · next v x q r =>
      split at ha
      · next hz =>
        cases ha
        obtain ⟨g1, g2⟩ := ar_ref hz.1 hz.2.1
        have hlt : x.toNatClampNeg < ha_L h q := Nat.not_le.mp fun z => hz.2.2.2 (Or.inr z)
        have h0 : ¬ x < 0 := fun z => hz.2.2.2 (Or.inl z)
        have hcls := (hK.1 _ _ g1.2.1).2
        obtain ⟨kA, comp, k1, k2, k3, -⟩ := (hK.2 _ _ (ty_at htk g2)).2
        have hcomp : comp = D.1 (ix_co (ha_T h q)) := Option.some.inj (k3.symm.trans hcls.1)
        subst hcomp
        obtain ⟨kC, hkC, hkind⟩ := hcls.2
        have hvc := hr.2.1 v (rep_lt hr (by have := g1.1; omega))
        unfold ix_cell at hvc
        rw [hz.2.2.1, if_pos g1.1] at hvc
        obtain ⟨cellV, c1, c2, c3, -⟩ := hvc
        refine W.aast hx hb (ar_cell hr rfl (by omega) (by omega)) (fun z w => by cases w) (fun w => by cases w) k1 k2 rfl hkC ⟨h0, by rw [arrV_size]; exact hlt⟩ c1 (fun z w => by rw [c3] at w; cases w) (by rw [c2]; exact hkC) (by rw [c2]; exact va_assign hcls) rfl rfl hd fun H1 e1 z1 o1 => ?_
        refine kk H1 _ (rep_arr hr rfl (by omega) (by omega) rfl rfl rfl (fun z hz => ⟨rfl, if_neg hz, rfl⟩) (fun z => ?_) e1 z1 o1) (hS0.put z1 o1 (Nat.le_add_right b q))
        have t1 : ¬ ha_T h q ≤ 101 := by omega
        have t2 : ¬ ha_T h q = 102 := by omega
        simp only [ix_ev, updV, t1, t2, if_false]
        rw [hR_R]
        by_cases hzx : z = x.toNatClampNeg
        · rw [if_pos ⟨rfl, hzx⟩, if_pos hzx]; rfl
        · rw [if_neg (fun w => hzx w.2), if_neg hzx]
      · cases ha
    · cases ha
  · cases ha
end HW
