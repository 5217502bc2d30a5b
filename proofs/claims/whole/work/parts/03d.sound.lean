def ix_wk (k : Nat) : List Cond := Cond.code (ix_nm k) (ix_by k) (ix_ml k) (ix_rt k) :: Tw
def ix_rm (k mc ms : Nat) : Room := { frames := ix_ra k, cells := mc, slots := ms, locals := ix_lo k }
def ix_Pc (D : va_G) (tys : List (ClassId × FieldType)) (b scr L : Nat) (xs : Nat → Int32) (h : ix_H) (U : State) : Prop :=
  ix_rep D tys b h U.heap ∧ va_K D vwCl tys U ∧ tys.map (fun q => q.2) = ix_aty ∧ (∀ C ∈ ix_AO, va_AO C U) ∧ (∀ q ∈ ix_NW, va_Nw (.methodLinkNest q.1 q.2.1 q.2.2.1 q.2.2.2) U) ∧ va_X scr L xs U U.heap ∧ scr < b
def ix_Qc (D : va_G) (tys : List (ClassId × FieldType)) (b scr : Nat) (o : ix_O) : Array Value → State → Outcome → State → Prop := fun _ st oc t => oc = .returned (o.1.map (ix_cv b scr)) ∧ ix_rep D tys b o.2 t.heap ∧ va_F (fun q => b ≤ q) st t
def ix_Met (l : Launch) (D : va_G) (tys : List (ClassId × FieldType)) (b scr L : Nat) (xs : Nat → Int32) (k : Nat) (as : List Value) (h : ix_H) (o : ix_O) : Prop :=
  Met l (ix_nm k) (ix_wk k) (ix_rm k (ha_N o.2 - ha_N h) (ha_S o.2 - ha_S h)) (va_Pc (as.map (ix_cv b scr)) (ix_Pc D tys b scr L xs h)) (ix_Qc D tys b scr o) (ha_N o.2 - ha_N h) (ha_S o.2 - ha_S h) (fun q => b ≤ q)
theorem Pc_blind {D : va_G} {tys : List (ClassId × FieldType)} {b scr L : Nat} {xs : Nat → Int32} {h : ix_H} {av : List Value} : FrameBlind (va_Pc av (ix_Pc D tys b scr L xs h)) := by
  intro a U g mk hq
  obtain ⟨q0, q1, q2, q3, q4, q5, q6, q7⟩ := hq
  exact ⟨q0, q1, va_K.moved (u := U) (U := U.calling g mk a) (Vm.Alike.refl U.vm) q2, q3, fun C hC => va_AO.moved (u := U) (U := U.calling g mk a) (Vm.Alike.refl U.vm) (q4 C hC), fun w hw => va_Nw.same rfl (u := U) (U := U.calling g mk a) rfl (q5 w hw), va_X.moved (u := U) (U := U.calling g mk a) (Vm.Alike.refl U.vm) q6, q7⟩
theorem good_wk {k : Nat} (hk : k < ix_M) : GoodIn Tw (ix_wk k) := by
  intro w hw
  have h1 : w ∈ Tw := by
    rcases List.mem_cons.mp hw with rfl | h
    · exact (md_ok hk).1
    · exact h
  exact ⟨h1, good_of_word (tw_good w h1)⟩
theorem sp_inv : ∀ (n : Nat) (st as r : List Value), ix_sp n st = some (as, r) → st = as.reverse ++ r ∧ as.length = n := by
  intro n
  induction n with
  | zero => intro st as r h; simp only [ix_sp, Option.some.injEq, Prod.mk.injEq] at h; obtain ⟨rfl, rfl⟩ := h; exact ⟨rfl, rfl⟩
  | succ n ih =>
    intro st as r h
    cases st with
    | nil => simp [ix_sp] at h
    | cons v st =>
      simp only [ix_sp] at h
      split at h
      · next as' q hq =>
        simp only [Option.some.injEq, Prod.mk.injEq] at h
        obtain ⟨rfl, rfl⟩ := h
        obtain ⟨rfl, h2⟩ := ih st as' q hq
        exact ⟨by simp, by simp [h2]⟩
      · cases h
theorem cq_inv {k a pc : Nat} {as r lv : List Value} {h : ix_H} {rc : Bool} {q : ix_Q} (hq : ix_cq k a as r pc lv h rc = some (.inr q)) : ix_ra a < ix_ra k ∧ 19 + ix_ml a + ix_lo a ≤ ix_lo k ∧ ix_cs r ≤ 8 ∧ q = (a, as, (pc + 3, lv, r, h)) ∧ (rc = true → ∃ p as', as = .ref p :: as' ∧ ha_T h p = ix_mt a) := by
  unfold ix_cq at hq
  split at hq
  · next hz =>
    split at hq
    · split at hq
      · next hT => cases hq; exact ⟨hz.1, hz.2.1, hz.2.2, rfl, fun _ => ⟨_, _, rfl, hT⟩⟩
      · cases hq
    · cases hq; exact ⟨hz.1, hz.2.1, hz.2.2, rfl, fun z => by cases z⟩
    · cases hq
  · cases hq
section CW
variable {p : Program} {l : Launch} {e : Env} {R : Room} {s : State} {m : MethodId} {args : Array Value} {below : List Frame} {meth : Method} {c : Code} {H : Heap} {locs : List Loc} {cells slots : Nat} {Q : State → Prop} {pc n b scr L k n0 s0 : Nat} {xs : Nat → Int32} {ls : Array Slot} {st lv : List Value} {D : va_G} {tys : List (ClassId × FieldType)} {h : ix_H} {i : Instr}
theorem ix_callK {mc ms : Nat} {st0 rest : List Value} {Qa : State → Outcome → State → Prop} {free : Addr → Prop}
    (hr : va_Run p l e R s m args below meth c H locs cells slots mc ms (F0 m pc ls st0) rest Qa free)
    (kk : ∀ (v : Option Value) (st₀ t : State) (Lc : List Loc), st₀.heap = H → (∀ q ∈ Lc, free q.base) → Qa st₀ (.returned v) t → W p l e R s m args below meth c t.heap (locs ++ Lc) (cells + mc) (slots + ms) Q (F0 m (pc + 3) ls (v.toList ++ rest))) :
    W p l e R s m args below meth c H locs cells slots Q (F0 m pc ls st0) := by
  intro T hT X
  obtain ⟨v, st₀, t, T', Lc, h0, X', hL, e1, e2, hq, st⟩ := hr T hT X
  obtain ⟨t2, a1, b1⟩ := kk v st₀ t Lc h0 hL hq T' e1 X'
  exact ⟨t2, st t2 a1, b1⟩
theorem map_toList (f : Value → Value) (o : Option Value) : (o.map f).toList = o.toList.map f := by cases o <;> rfl
set_option maxHeartbeats 1000000 in
theorem ix_callW (CX : ix_Cx p s m args meth c k D tys b scr L xs) (hfr : ix_ra k ≤ R.frames) (hlo : ix_lo k ≤ R.locals) (hd : decode (ix_by k) pc = .ok (i, n)) (hn : ix_len i n = true) (hsz : ls.size = ix_ml k) (hr : ix_rep D tys b h H) (hS0 : va_S (fun z => b ≤ z) s.heap H locs) {q : ix_Q} {o : ix_O} (ha : ix_inv k i pc lv st h = some (.inr q)) (hM : q.1 < ix_M → ix_Met l D tys b scr L xs q.1 q.2.1 h o) (hN0 : n0 ≤ ha_N h) (hSS0 : s0 ≤ ha_S h) (hgN : ha_N h ≤ ha_N o.2) (hgS : ha_S h ≤ ha_S o.2) (hcells : ha_N o.2 - n0 ≤ R.cells) (hslots : ha_S o.2 - s0 ≤ R.slots)
    (kk : ∀ (H1 : Heap) (locs1 : List Loc), ix_rep D tys b o.2 H1 → va_S (fun z => b ≤ z) s.heap H1 locs1 → W p l e R s m args below meth c H1 locs1 (ha_N o.2 - n0) (ha_S o.2 - s0) Q (F0 m q.2.2.1 ls ((o.1.toList ++ q.2.2.2.2.1).map (ix_cv b scr)))) : W p l e R s m args below meth c H locs (ha_N h - n0) (ha_S h - s0) Q (F0 m pc ls (st.map (ix_cv b scr))) := by
  obtain ⟨hx, hb, hml, hts, hown, hnm, hK, htk, hAO, hNW, hX, hsb, hbs⟩ := CX
  have hXH : va_X scr L xs s H := hX.kept (hS0.2.1 scr (by omega) (fun z => by have : b ≤ scr := z; omega))
  have hPcU : ∀ (av : List Value) (U : State), U.heap = H → s.WarmedH U.vm → va_Pc av (ix_Pc D tys b scr L xs h) av.toArray U := fun av U hU hW =>
    ⟨rfl, by rw [hU]; exact hr, hK.moved hW.alike, htk, fun C hC => (hAO C hC).moved hW.alike, fun w hw => (hNW w hw).warmM hW, by rw [hU]; exact hXH.moved hW.alike, hsb⟩
  have fin : ∀ (as r : List Value), q = (q.1, as, (pc + 3, lv, r, h)) → va_Run p l e R s m args below meth c H locs (ha_N h - n0) (ha_S h - s0) (ha_N o.2 - ha_N h) (ha_S o.2 - ha_S h) (F0 m pc ls (st.map (ix_cv b scr))) (r.map (ix_cv b scr)) (ix_Qc D tys b scr o (as.map (ix_cv b scr)).toArray) (fun z => b ≤ z) → W p l e R s m args below meth c H locs (ha_N h - n0) (ha_S h - s0) Q (F0 m pc ls (st.map (ix_cv b scr))) := by
    intro as r hq hrun
    refine ix_callK hrun ?_
    intro v st₀ t Lc h0 hL hQ
    obtain ⟨e1, e2, e3⟩ := hQ
    obtain rfl := Outcome.returned.inj e1
    rw [map_toList, ← List.map_append]
    have := kk t.heap (locs ++ Lc) e2 ⟨?_, ?_, ?_⟩
    · rw [hq] at this
      exact W.cs (by omega) (by omega) this
    · have := e3.1; rw [h0] at this; exact Nat.le_trans hS0.1 this
    · intro z h1 h2
      have h3 := e3.2 z (by rw [h0]; exact Nat.lt_of_lt_of_le h1 hS0.1) h2
      rw [h3, h0]
      exact hS0.2.1 z h1 h2
    · intro z hz
      rcases List.mem_append.mp hz with hz | hz
      · exact hS0.2.2 z hz
      · exact hL z hz
  have hroom : ∀ a, ix_ra a < ix_ra k → 19 + ix_ml a + ix_lo a ≤ ix_lo k → ix_ra a + 1 ≤ R.frames ∧ 8 + (ix_ml a + 11) + ix_lo a ≤ R.locals := by
    intro a h1 h2
    omega
  have hff : ha_N h - n0 + (ha_N o.2 - ha_N h) ≤ R.cells ∧ ha_S h - s0 + (ha_S o.2 - ha_S h) ≤ R.slots := by omega
  have hrs : ∀ {r : List Value}, ix_cs r ≤ 8 → 2 * (F0 m pc ls (st.map (ix_cv b scr))).monitorRoom + ((r.map (ix_cv b scr)).map fun v => v.category).sum ≤ 8 := by
    intro r hr8
    refine lv_room ?_
    rw [cv_cs]
    exact hr8
  unfold ix_inv at ha
  split at ha
  · next x =>
    obtain rfl : n = 3 := eq_of_beq hn
    split at ha
    · split at ha
      · split at ha
        · cases ha
        · cases ha
      · cases ha
    · split at ha
      · next hz =>
        split at ha
        · next as r hsp =>
          obtain ⟨c1, c5, c2, c3, c4⟩ := cq_inv ha
          obtain ⟨pp, as', rfl, hT⟩ := c4 rfl
          obtain ⟨rfl, hlen⟩ := sp_inv _ _ _ _ hsp
          subst c3
          refine fin _ r rfl ?_
          have hst : ((Value.ref pp :: as').reverse ++ r).map (ix_cv b scr) = (as'.map (ix_cv b scr)).reverse ++ .ref (b + pp) :: r.map (ix_cv b scr) := by simp [ix_cv]
          rcases hz with hz | hz
          · obtain ⟨d1, d2, d4, d5, d6, d7, d8⟩ := cp_z hz (by decide)
            have md := md_ok d1
            refine va_runI (Ts := Tw) (own := ix_ocl (ix_on k)) (nL := ix_ml k) (As := as'.map (ix_cv b scr)) (b := b + pp) (index := x) (bytes := ix_by (ix_cp k x).2.1) (maxL := ix_ml (ix_cp k x).2.1) (n := ix_pn (ix_cp k x).2.1) ⟨hx, hb, hml, hown, hts⟩ (hM d1) ⟨callB_of (ws' := Tw) _ hts (good_wk d1) (by unfold ix_wk; rw [d4]) rfl rfl (hts _ d8) (hts _ d6) ⟨md.2.2.2.1, md.2.2.2.2.1, md.2.2.2.2.2.1⟩ (hroom _ c1 c5), d5, hts _ d7⟩ ⟨Pc_blind, hPcU _⟩ rfl (by simp at hlen ⊢; omega) hsz hst (hrs c2) hd hff
          · obtain ⟨d1, d2, d4, d5, ⟨host, d6⟩, d7, d8⟩ := cp_z hz (by decide)
            have md := md_ok d1
            refine va_runIN (Ts := Tw) (own := ix_ocl (ix_on k)) (nL := ix_ml k) (As := as'.map (ix_cv b scr)) (b := b + pp) (index := x) (host := host) (bytes := ix_by (ix_cp k x).2.1) (maxL := ix_ml (ix_cp k x).2.1) (n := ix_pn (ix_cp k x).2.1) ⟨hx, hb, hml, hown, hts⟩ (hM d1) ⟨va_cnB (ws' := Tw) _ hts (good_wk d1) (by unfold ix_wk; rw [d4]) rfl rfl (hNW (ix_ocl (ix_on k), x, ix_nm (ix_cp k x).2.1, host) d6) (hts _ d8) ⟨md.2.2.2.1, md.2.2.2.2.1, md.2.2.2.2.2.1⟩ (hroom _ c1 c5), d5, hts _ d7⟩ ⟨Pc_blind, hPcU _⟩ rfl (by simp at hlen ⊢; omega) hsz hst (hrs c2) hd hff
        · cases ha
      · cases ha
  · next x =>
    obtain rfl : n = 3 := eq_of_beq hn
    split at ha
    · next hz =>
      split at ha
      · next as r hsp =>
        obtain ⟨c1, c5, c2, c3, c4⟩ := cq_inv ha
        obtain ⟨pp, as', rfl, hT⟩ := c4 rfl
        obtain ⟨rfl, hlen⟩ := sp_inv _ _ _ _ hsp
        subst c3
        refine fin _ r rfl ?_
        have hst : ((Value.ref pp :: as').reverse ++ r).map (ix_cv b scr) = (as'.map (ix_cv b scr)).reverse ++ .ref (b + pp) :: r.map (ix_cv b scr) := by simp [ix_cv]
        obtain ⟨d1, d2, d4, d5, d6, d7, d8, d9⟩ := cp_z hz (by decide)
        have md := md_ok d1
        have hcell := hr.2.1 pp (rep_lt hr (by have := d4.1; omega))
        unfold ix_cell at hcell
        rw [hT, if_pos d4.1] at hcell
        obtain ⟨cellB, q1, q2, q3, -⟩ := hcell
        refine va_runV (Ts := Tw) (own := ix_ocl (ix_on k)) (C := (ix_nm (ix_cp k x).2.1).cls) (nL := ix_ml k) (As := as'.map (ix_cv b scr)) (b := b + pp) (index := x) (bytes := ix_by (ix_cp k x).2.1) (maxL := ix_ml (ix_cp k x).2.1) (ret := ix_rt (ix_cp k x).2.1) (n := ix_pn (ix_cp k x).2.1) ⟨hx, hb, hml, hown, hts⟩ (hM d1) ⟨callB_of (ws' := Tw) _ hts (good_wk d1) rfl rfl rfl (hts _ d9) (hts _ d6) ⟨md.2.2.2.1, md.2.2.2.2.1, md.2.2.2.2.2.1⟩ (hroom _ c1 c5), hts _ d7, hts _ d8⟩ ⟨Pc_blind, ⟨cellB, q1, by rw [q3]; rfl, by rw [q2, ← d5]; exact (hK.1 _ _ d4.2.1).2.1⟩, hPcU _⟩ rfl (by simp at hlen ⊢; omega) hsz hst (hrs c2) hd hff
      · cases ha
    · cases ha
  · next x =>
    obtain rfl : n = 3 := eq_of_beq hn
    split at ha
    · split at ha
      · split at ha
        · cases ha
        · cases ha
      · cases ha
    · split at ha
      · split at ha
        · split at ha
          · cases ha
          · cases ha
        · cases ha
      · split at ha
        · next hz =>
          split at ha
          · next as r hsp =>
            obtain ⟨c1, c5, c2, c3, -⟩ := cq_inv ha
            obtain ⟨rfl, hlen⟩ := sp_inv _ _ _ _ hsp
            subst c3
            refine fin _ r rfl ?_
            have hst : (as.reverse ++ r).map (ix_cv b scr) = (as.map (ix_cv b scr)).reverse ++ r.map (ix_cv b scr) := by simp
            obtain ⟨d1, d2, d6, d7, d8⟩ := cp_z hz (by decide)
            have md := md_ok d1
            refine va_runS (Ts := Tw) (own := ix_ocl (ix_on k)) (nL := ix_ml k) (As := as.map (ix_cv b scr)) (index := x) (bytes := ix_by (ix_cp k x).2.1) (maxL := ix_ml (ix_cp k x).2.1) (ret := ix_rt (ix_cp k x).2.1) (n := ix_pn (ix_cp k x).2.1) ⟨hx, hb, hml, hown, hts⟩ (hM d1) ⟨callB_of (ws' := Tw) _ hts (good_wk d1) rfl rfl rfl (hts _ d8) (hts _ d6) ⟨md.2.2.2.1, md.2.2.2.2.1, md.2.2.2.2.2.1⟩ (hroom _ c1 c5), hts _ d7⟩ ⟨Pc_blind, hPcU _⟩ rfl (by simp at hlen ⊢; omega) hsz hst (hrs c2) hd hff
          · cases ha
        · cases ha
  · cases ha
theorem ix_ilW (CX : ix_Cx p s m args meth c k D tys b scr L xs) (hfr : ix_ra k ≤ R.frames) (hlo : ix_lo k ≤ R.locals) (hd : decode (ix_by k) pc = .ok (i, n)) (hn : ix_len i n = true) (hsz : ls.size = ix_ml k) (hc : cells ≤ R.cells) (hs : slots ≤ R.slots) {g : ix_F} (ha : ix_inv k i pc lv st h = some (.inl g))
    (kk : W p l e R s m args below meth c H locs cells slots Q (F0 m g.1 ls (g.2.2.1.map (ix_cv b scr)))) : W p l e R s m args below meth c H locs cells slots Q (F0 m pc ls (st.map (ix_cv b scr))) := by
  obtain ⟨hx, hb, hml, hts, hown, hnm, hK, htk, hAO, hNW, hX, hsb, hbs⟩ := CX
  have hcq : ∀ (a : Nat) (as r : List Value) (rc : Bool), ¬ ix_cq k a as r pc lv h rc = some (.inl g) := by
    intro a as r rc hz
    unfold ix_cq at hz
    split at hz
    · split at hz
      · split at hz
        · cases hz
        · cases hz
      · cases hz
      · cases hz
    · cases hz
  unfold ix_inv at ha
  split at ha
  · next x =>
    obtain rfl : n = 3 := eq_of_beq hn
    split at ha
    · next hz =>
      split at ha
      · next a r =>
        split at ha
        · next h8 =>
          cases ha
          obtain ⟨g1, g2, g3⟩ := cp_z hz (by decide)
          have h9 := cv_cs b scr r
          exact W.objInit hx hb hown (hts _ g1) (hts _ g2) (hts _ g3) rfl (by rw [hml]; exact hsz) rfl hd (by omega) (by show 2 * 0 + _ + 12 ≤ _; omega) kk
        · cases ha
      · cases ha
    · split at ha
      · split at ha
        · exact absurd ha (hcq _ _ _ _)
        · cases ha
      · cases ha
  · split at ha
    · split at ha
      · exact absurd ha (hcq _ _ _ _)
      · cases ha
    · cases ha
  · next x =>
    obtain rfl : n = 3 := eq_of_beq hn
    split at ha
    · next hz =>
      split at ha
      · next y z r =>
        split at ha
        · next h8 =>
          cases ha
          obtain ⟨g1, g2, g3, g4⟩ := cp_z hz (by decide)
          have h9 := cv_cs b scr r
          exact va_mmax hx hb (by rw [hml]; exact hsz.symm) hown (hts _ g1) (hts _ g2) (hts _ g3) (hts _ g4) (by omega) (by omega) hc hs hd kk
        · cases ha
      · cases ha
    · split at ha
      · next hz =>
        split at ha
        · next y z r =>
          split at ha
          · next h8 =>
            cases ha
            obtain ⟨g1, g2, g3, g4⟩ := cp_z hz (by decide)
            have h9 := cv_cs b scr r
            exact va_mmin hx hb (by rw [hml]; exact hsz.symm) hown (hts _ g1) (hts _ g2) (hts _ g3) (hts _ g4) (by omega) (by omega) hc hs hd kk
          · cases ha
        · cases ha
      · split at ha
        · split at ha
          · exact absurd ha (hcq _ _ _ _)
          · cases ha
        · cases ha
  · cases ha
theorem ix_runW {f0 d : Nat} (CX : ix_Cx p s m args meth c k D tys b scr L xs) (hfr : ix_ra k ≤ R.frames) (hlo : ix_lo k ≤ R.locals)
    (hcall : ∀ k as h o, k < ix_M → ix_ex xs L f0 d k as h = some o → ix_Met l D tys b scr L xs k as h o) (o : ix_O) (hoc : ha_N o.2 - n0 ≤ R.cells) (hos : ha_S o.2 - s0 ≤ R.slots)
    (hret : ∀ (pc n : Nat) (i : Instr) (st : List Value) (ls : Array Slot) (H : Heap) (locs : List Loc), decode (ix_by k) pc = .ok (i, n) → ix_len i n = true → ix_rtn (ix_rk k) i st = some o.1 → ix_rep D tys b o.2 H → va_S (fun q => b ≤ q) s.heap H locs → W p l e R s m args below meth c H locs (ha_N o.2 - n0) (ha_S o.2 - s0) Q (F0 m pc ls (st.map (ix_cv b scr)))) :
    ∀ (f pc : Nat) (lv st : List Value) (h : ix_H) (H : Heap) (ls : Array Slot) (locs : List Loc),
      ix_run (ix_ex xs L f0 d) xs L k f (pc, lv, st, h) = some o → ix_lh ls (ix_ml k) b scr (ix_lg k) lv → ix_rep D tys b h H → va_S (fun q => b ≤ q) s.heap H locs → n0 ≤ ha_N h → s0 ≤ ha_S h →
      W p l e R s m args below meth c H locs (ha_N h - n0) (ha_S h - s0) Q (F0 m pc ls (st.map (ix_cv b scr))) := by
  have hgr := run_grows (call := ix_ex xs L f0 d) (fun k as h o hq => ex_grows xs L f0 d k as h o hq) xs L k
  have ⟨hx, hb, hml, hts, hown, hnm, hK, htk, hAO, hNW, hX, hsb, hbs⟩ := CX
  intro f
  induction f with
  | zero => intro pc lv st h H ls locs hr; simp [ix_run] at hr
  | succ f ih =>
    intro pc lv st h H ls locs hrun hl hr hS hn0 hs0
    have g0 := hgr (f + 1) _ o hrun
    simp only [ix_run] at hrun
    split at hrun
    · cases hrun
    · next g hs =>
      obtain ⟨i, n, hd, hn, hz⟩ := step_inv hs
      rcases do_inv hz with ⟨q, hq, e⟩ | ⟨q, hq, e⟩ | ⟨q, hq, e⟩ | ⟨q, hq, e⟩ | ⟨q, hq, e⟩ | ⟨q, hq, e⟩ | ⟨q, hq, e⟩
      · cases e
        exact ix_aluW hx hb hd hn hown (fun x h1 => hts _ (cp_z h1 (by decide))) (fun x h1 => hts _ (cp_z h1 (by decide))) hq (ih _ _ _ _ _ _ _ hrun hl hr hS hn0 hs0)
      · cases e
        exact ix_brW hx hb hd hn hq (ih _ _ _ _ _ _ _ hrun hl hr hS hn0 hs0)
      · cases e
        exact ix_lcW hx hb hd hn hl hq (fun ls' hl' => ih _ _ _ _ _ _ _ hrun hl' hr hS hn0 hs0)
      · cases e
        have g1 := hgr f _ o hrun
        have g2 := hp_grows hq
        dsimp only at g1 g2
        refine ix_hpW CX hd hn hr hS hq hn0 hs0 (by omega) (by omega) (fun H1 locs1 r1 r2 => ih _ _ _ _ _ _ _ hrun hl r1 r2 (by omega) (by omega))
      · cases e
        dsimp only at g0
        have := ix_ilW (l := l) (e := e) (below := below) (H := H) (locs := locs) (cells := ha_N h - n0) (slots := ha_S h - s0) (Q := Q) (ls := ls) CX hfr hlo hd hn hl.1.1 (by omega) (by omega) hq
        have h5 : g.2.1 = lv ∧ g.2.2.2 = h := inv_heap.1 g hq
        refine this ?_
        obtain ⟨g1, g2, g3, g4⟩ := g
        obtain ⟨rfl, rfl⟩ := h5
        exact ih _ _ _ _ _ _ _ hrun hl hr hS hn0 hs0
      · cases e
      · cases e
    · next q hs =>
      obtain ⟨i, n, hd, hn, hz⟩ := step_inv hs
      split at hrun
      · cases hrun
      · next o1 ho =>
        have g1 := hgr f _ o hrun
        dsimp only at g1
        rcases do_inv hz with ⟨q', hq, e⟩ | ⟨q', hq, e⟩ | ⟨q', hq, e⟩ | ⟨q', hq, e⟩ | ⟨q', hq, e⟩ | ⟨q', hq, e⟩ | ⟨q', hq, e⟩
        · cases e
        · cases e
        · cases e
        · cases e
        · cases e
        · cases e
          have h4 := (inv_heap.2 q hq).2
          dsimp only at h4
          rw [h4] at ho
          have g3 := ex_grows xs L f0 d _ _ _ _ ho
          have h5 : q.2.2.2.1 = lv := (inv_heap.2 q hq).1
          refine ix_callW CX hfr hlo hd hn hl.1.1 hr hS hq (fun hm => hcall _ _ _ _ hm ho) hn0 hs0 g3.1 g3.2 (by omega) (by omega) (fun H1 locs1 r1 r2 => ?_)
          refine ih _ _ _ _ _ _ _ hrun ?_ r1 r2 (by omega) (by omega)
          rw [h5]
          exact hl
        · cases e
    · next o1 hs =>
      obtain ⟨i, n, hd, hn, hz⟩ := step_inv hs
      cases hrun
      rcases do_inv hz with ⟨q', hq, e⟩ | ⟨q', hq, e⟩ | ⟨q', hq, e⟩ | ⟨q', hq, e⟩ | ⟨q', hq, e⟩ | ⟨q', hq, e⟩ | ⟨q', hq, e⟩
      · cases e
      · cases e
      · cases e
      · cases e
      · cases e
      · cases e
      · cases e
        exact hret pc n i st ls H locs hd hn hq hr hS
end CW
theorem la_len (b scr : Nat) : ∀ as : List Value, (lg_sl (as.map (ix_cv b scr))).length = (ix_la as).length := by
  intro as
  induction as with
  | nil => rfl
  | cons v vs ih =>
    rw [List.map_cons]
    unfold lg_sl at ih ⊢
    rw [List.flatMap_cons, List.length_append, ih]
    simp only [ix_la, cv_cat]
    split <;> simp <;> omega
theorem la_args (b scr : Nat) : ∀ (as : List Value) (base i : Nat) (v : Value), (ix_la as)[i]? = some v → ix_nu v = false → (base + i, ix_cv b scr v) ∈ lv_args base (as.map (ix_cv b scr)) := by
  intro as
  induction as with
  | nil => intro base i v h; simp [ix_la] at h
  | cons w ws ih =>
    intro base i v h hv
    rw [List.map_cons]
    simp only [ix_la] at h
    simp only [lv_args, cv_cat]
    split at h
    · next hc =>
      rw [if_pos hc]
      match i, h with
      | 0, h => cases h; exact List.mem_cons_self
      | 1, h => cases h; cases hv
      | j + 2, h =>
        refine List.mem_cons_of_mem _ ?_
        have := ih (base + 2) j v h hv
        rwa [show base + (j + 2) = base + 2 + j by omega]
    · next hc =>
      rw [if_neg hc]
      match i, h with
      | 0, h => cases h; exact List.mem_cons_self
      | j + 1, h =>
        refine List.mem_cons_of_mem _ ?_
        have := ih (base + 1) j v h hv
        rwa [show base + (j + 1) = base + 1 + j by omega]
theorem lh_entry {b scr n : Nat} {lg : List Nat} {as : List Value} {ls : Array Slot} (hl : lv_has ls n (lv_args 0 (as.map (ix_cv b scr)))) (hn : (ix_la as).length ≤ n) (hg : ix_lgk lg 0 (ix_la as) = true) : ix_lh ls n b scr lg (ix_l0 as n) := by
  refine ⟨⟨hl.1, hl.2.1, fun q hq => ?_⟩, ?_, fun j w hj hw => ?_⟩
  · obtain ⟨v, hv, hz, he⟩ := pr_mem.mp hq
    unfold ix_l0 at hv
    by_cases hlt : q.1 < (ix_la as).length
    · rw [List.getElem?_append_left hlt] at hv
      have := hl.2.2 _ (la_args b scr as 0 q.1 v hv hz)
      rw [Nat.zero_add] at this
      rw [he]
      exact this
    · rw [List.getElem?_append_right (by omega)] at hv
      have h2 := List.eq_of_mem_replicate (List.mem_of_getElem? hv)
      subst h2
      cases hz
  · unfold ix_l0
    rw [List.length_append, List.length_replicate]
    omega
  · unfold ix_l0 at hj
    by_cases hlt : j < (ix_la as).length
    · rw [List.getElem?_append_left hlt] at hj
      have := lgk_at _ 0 hg j w hj hw
      rwa [Nat.zero_add] at this
    · rw [List.getElem?_append_right (by omega)] at hj
      have h2 := List.eq_of_mem_replicate (List.mem_of_getElem? hj)
      subst h2
      cases hw
theorem ok0_inv {k : Nat} {as : List Value} (h : ix_ok0 k as = true) : k < ix_M ∧ (ix_la as).length ≤ ix_ml k ∧ as.length = ix_np k ∧ ix_lgk (ix_lg k) 0 (ix_la as) = true := by
  unfold ix_ok0 at h
  simp only [Bool.and_eq_true] at h
  exact ⟨Nat.le_of_ble_eq_true h.1, Nat.le_of_ble_eq_true h.2.1, Nat.eq_of_beq_eq_true h.2.2.1, h.2.2.2⟩
set_option maxHeartbeats 1000000 in
theorem ix_sound (l : Launch) (D : va_G) (tys : List (ClassId × FieldType)) (b scr L : Nat) (xs : Nat → Int32) (f : Nat) : ∀ (d k : Nat) (as : List Value) (h : ix_H) (o : ix_O), ix_ex xs L f d k as h = some o → ix_Met l D tys b scr L xs k as h o := by
  intro d
  induction d with
  | zero => intro k as h o hx; simp [ix_ex] at hx
  | succ d ih =>
    intro k as h o hx
    have hgr := ex_grows xs L f (d + 1) k as h o hx
    simp only [ix_ex] at hx
    split at hx
    · next hok =>
      obtain ⟨hk, hla, hnp, hlg⟩ := ok0_inv hok
      have md := md_ok hk
      refine Met.ofW (cc := ix_by k) (maxL := ix_ml k) (ret := ix_rt k) md.2.1 rfl ?_
      intro p e s m args below meth c s₁ B hml hv
      obtain ⟨rfl, h1, h2, h3, h4, h5, h6, h7⟩ := hv
      have hts := atoms_spec (ws := ix_wk k) B.pre
      have CX : ix_Cx p s m (as.map (ix_cv b scr)).toArray meth c k D tys b scr L xs := ⟨B.exec, B.bytes, hml, fun w hw => hts w (List.mem_cons_of_mem _ hw), by rw [← md.2.2.1]; exact findClass_of_methodNamed B.named, fun t ht => ⟨(name_of_methodNamed B.named B.method).1.trans (md.2.2.2.2.2.2.2 t ht).1, by rw [← md.2.2.1]; exact (md.2.2.2.2.2.2.2 t ht).2⟩, h2, h3, h4, h5, h6, h7, by rw [h1.1]; omega⟩
      have hl := lv_entry (as.map (ix_cv b scr)) (n := ix_ml k) (by rw [la_len]; exact hla)
      rw [lg_entry_eq]
      generalize (lg_sl (as.map (ix_cv b scr)) ++ List.replicate (ix_ml k - (lg_sl (as.map (ix_cv b scr))).length) Slot.unset).toArray = ls at hl ⊢
      have hlh := lh_entry (lg := ix_lg k) hl hla hlg
      refine W.cs (cells' := ha_N h - ha_N h) (slots' := ha_S h - ha_S h) (by omega) (by omega) ?_
      have hlocks := B.notSynchronized
      have hr := B.returns
      refine ix_runW (f0 := f) (d := d) (n0 := ha_N h) (s0 := ha_S h) CX (Nat.le_refl _) (Nat.le_refl _) (fun k as h o hm hq => ih k as h o hq) o (Nat.le_refl _) (Nat.le_refl _) ?_ f 0 _ [] h s.heap ls [] hx hlh h1 va_S.rf (Nat.le_refl _) (Nat.le_refl _)
      intro pc n i st ls H locs hd hn hrt hrep hS
      have hq : ∀ t : State, t.heap = H → s.WarmedH t.vm → ix_Qc D tys b scr o (as.map (ix_cv b scr)).toArray s (.returned (o.1.map (ix_cv b scr))) t := fun t ht _ => ⟨rfl, by rw [ht]; exact hrep, hS.F ht⟩
      have hrok := md.2.2.2.2.2.2.1
      unfold ix_rtn at hrt
      split at hrt
      · obtain rfl : n = 1 := eq_of_beq hn
        split at hrt
        · next hz =>
          obtain rfl : st = [] := List.isEmpty_iff.mp hz.2
          have he : o.1 = none := (Option.some.inj hrt).symm
          rw [he] at hq
          exact W.vret CX.1 CX.2.1 (hr.trans (rok_0 hrok hz.1)) hq hS.2.2 hd hlocks
        · cases hrt
      · obtain rfl : n = 1 := eq_of_beq hn
        split at hrt
        · next x =>
          split at hrt
          · next hz =>
            have he : o.1 = some (.int x) := (Option.some.inj hrt).symm
            rw [he] at hq
            rcases hz with hz | ⟨hz, hx01⟩
            · exact W.iret CX.1 CX.2.1 (hr.trans (rok_1 hrok hz)) hq hS.2.2 hd hlocks
            · exact W.zret CX.1 CX.2.1 (hr.trans (rok_2 hrok hz)) (by rcases hx01 with rfl | rfl <;> rfl) hq hS.2.2 hd hlocks
          · cases hrt
        · cases hrt
      · obtain rfl : n = 1 := eq_of_beq hn
        split at hrt
        · next x =>
          split at hrt
          · next hz =>
            have he : o.1 = some (.long x) := (Option.some.inj hrt).symm
            rw [he] at hq
            exact W.lret CX.1 CX.2.1 (hr.trans (rok_3 hrok hz)) hq hS.2.2 hd hlocks
          · cases hrt
        · cases hrt
      · obtain rfl : n = 1 := eq_of_beq hn
        split at hrt
        · split at hrt
          · next hz =>
            have he : o.1 = some .null := (Option.some.inj hrt).symm
            rw [he] at hq
            obtain ⟨rt, h8, h9⟩ := rok_4 hrok hz
            exact W.aret CX.1 CX.2.1 (hr.trans h8) h9 (Or.inl rfl) hq hS.2.2 hd hlocks
          · cases hrt
        · next x =>
          split at hrt
          · next hz =>
            have he : o.1 = some (.ref x) := (Option.some.inj hrt).symm
            rw [he] at hq
            obtain ⟨rt, h8, h9⟩ := rok_4 hrok hz
            exact W.aret CX.1 CX.2.1 (hr.trans h8) h9 (Or.inr ⟨_, rfl⟩) hq hS.2.2 hd hlocks
          · cases hrt
        · cases hrt
      · cases hrt
    · cases hx
theorem Ex_sound (l : Launch) (D : va_G) (tys : List (ClassId × FieldType)) (b scr L : Nat) (xs : Nat → Int32) {k : Nat} {as : List Value} {h : ix_H} {o : ix_O} (hx : Ex xs L k as h o) : ix_Met l D tys b scr L xs k as h o := by
  obtain ⟨f, d, hx⟩ := hx
  exact ix_sound l D tys b scr L xs f d k as h o hx
