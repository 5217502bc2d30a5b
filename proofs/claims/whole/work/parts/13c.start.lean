theorem wd_K {s : State} {args : Array Value} (hts : ∀ w ∈ lw_tbl, w.before args s = true) : ∃ (D : va_G) (tys : List (ClassId × FieldType)), va_K D vwCl tys s ∧ tys.map (fun q => q.2) = ix_aty := by
  have H : ∀ t, ∃ q : ClassId × (Nat → Nat), t < 10 → u_Kn s (ix_cl t).1 (ix_cl t).2.1 (ix_cl t).2.2 q.1 q.2 := by
    intro t
    by_cases ht : t < 10
    · obtain ⟨h1, n, h2⟩ := cls_all t ht
      obtain ⟨cC, iS, h3⟩ := u_known (ws := Tw) (fun w hw => hts w (tw_sub w hw)) h1.2.2.2.1 (hts _ (tb_lw h2))
      exact ⟨(cC, iS), fun _ => h3⟩
    · exact ⟨(0, fun _ => 0), fun h => absurd h ht⟩
  obtain ⟨F, hF⟩ := Classical.axiomOfChoice H
  have ao : ∀ C ∈ ix_AO, va_AO C s := fun C hC => va_AO.of (hts _ (tb_lw (ao_all C hC)))
  obtain ⟨a1, b1, d1⟩ := arr_p (hts _ (tb_lw ac_all.1))
  obtain ⟨a2, b2, d2⟩ := arr_p (hts _ (tb_lw ac_all.2.1))
  obtain ⟨a3, b3, d3⟩ := arr_p (hts _ (tb_lw ac_all.2.2))
  obtain ⟨a4, b4, d4⟩ := arr_o (ao "ForkedInvites$User" (by decide))
  obtain ⟨a5, b5, d5⟩ := arr_o (ao "ForkedInvites$Call" (by decide))
  obtain ⟨a6, b6, d6⟩ := arr_o (ao "ForkedInvites$Binding" (by decide))
  obtain ⟨a7, b7, d7⟩ := arr_o (ao "ForkedInvites$Branch" (by decide))
  refine ⟨(fun t => (F t).1, fun t => (F t).2), [(a1, .int), (a2, .boolean), (a3, .long), (a4, .object "ForkedInvites$User"), (a5, .object "ForkedInvites$Call"), (a6, .object "ForkedInvites$Binding"), (a7, .object "ForkedInvites$Branch")], ⟨fun t q hq => ?_, fun k q hq => ?_⟩, rfl⟩
  · have ht : t < 10 := (List.getElem?_eq_some_iff.mp hq).1
    have e := (cls_all t ht).1.2.1
    rw [e] at hq
    cases hq
    exact hF t ht
  · match k with
    | 0 => cases hq; exact ⟨b1, d1⟩
    | 1 => cases hq; exact ⟨b2, d2⟩
    | 2 => cases hq; exact ⟨b3, d3⟩
    | 3 => cases hq; exact ⟨b4, d4⟩
    | 4 => cases hq; exact ⟨b5, d5⟩
    | 5 => cases hq; exact ⟨b6, d6⟩
    | 6 => cases hq; exact ⟨b7, d7⟩
    | n + 7 => cases hq
/-- YOUR PART: from the entry, for every script of at most 3074 ints, the law comes to its end with true -/
theorem whole_start {p : Program} {e : Env} {s : State} {m : MethodId} {below : List Frame} {meth : Method} {c : Code} (l : Launch) {b L : Nat} {xs : Nat → Int32} (hL : L ≤ 3074) (C0 : lw_At p s m meth c b L xs) : W p l e room_1 s m #[Value.ref b] below meth c s.heap [] 0 0 (lw_Z below #[Value.ref b] s) (entryFrame m ([Value.ref b] : List Value).toArray 4) := by
  obtain ⟨hx, hb, hr, hml, hown, hts, hX, hbl, hlocks, -⟩ := C0
  obtain ⟨D, tys, hK, hty⟩ := wd_K hts
  have CX : ix_Cx p s m #[Value.ref b] meth c 141 D tys s.heap.size b L xs := ⟨hx, hb, hml, fun w hw => hts w (tw_sub w hw), hown, fun t ht => (by cases ht), hK, hty, fun C hC => va_AO.of (hts _ (tb_lw (ao_all C hC))), fun q hq => va_Nw.of rfl (hts _ (tb_lw (nw_all q hq))), hX, hbl, Nat.le_refl _⟩
  obtain ⟨c', s', f, d, hrun⟩ := law_ev (xs := xs) hL
  have hl := lv_entry [Value.ref b] (n := 4) (Nat.le_of_ble_eq_true rfl)
  rw [lg_entry_eq]
  generalize (lg_sl [Value.ref b] ++ List.replicate (4 - (lg_sl [Value.ref b]).length) Slot.unset).toArray = ls at hl ⊢
  have hlh : ix_lh ls (ix_ml 141) s.heap.size b (ix_lg 141) [.retAddr 0, .retAddr 1, .retAddr 1, .retAddr 1] := lh_entry (b := s.heap.size) (scr := b) (n := 4) (lg := ix_lg 141) (as := [.retAddr 0]) hl (by decide) (by decide)
  have hrep : ix_rep D tys s.heap.size (hc 0 0 (fun _ _ => 0) (fun _ _ => none)) s.heap := ⟨rfl, fun p hp => absurd hp (Nat.not_lt_zero p), fun q _ => if_neg (t := TT q) (e := 9999) (Nat.not_lt_zero q)⟩
  refine ix_runW (R := room_1) (f0 := f) (d := d) (n0 := 0) (s0 := 0) CX (by decide) (by decide) (fun k as h o _ hq => ix_sound l D tys s.heap.size b L xs f d k as h o hq) (some (.int 1), hh c' s') (by show 196 - 0 ≤ 634249; omega) (by show 1509 - 0 ≤ 7199502; omega) ?_ f 0 _ [] _ s.heap ls [] hrun hlh hrep va_S.rf (Nat.le_refl _) (Nat.le_refl _)
  intro pc n i st ls H locs hd hn hrt hrep hS
  refine va_forget (fun q hq => hS.2.2 q hq) ?_
  refine W.widen (k := 634249) (n := 7199502) (by show 196 - 0 ≤ 634249; omega) (by show 1509 - 0 ≤ 7199502; omega) ?_
  have hn1 : n = 1 ∧ i = .ireturn ∧ st = [.int 1] := by
    unfold ix_rtn at hrt
    split at hrt
    · split at hrt
      · cases hrt
      · cases hrt
    · split at hrt
      · split at hrt
        · cases hrt
          exact ⟨eq_of_beq hn, rfl, rfl⟩
        · cases hrt
      · cases hrt
    · split at hrt
      · split at hrt
        · cases hrt
        · cases hrt
      · cases hrt
    · split at hrt
      · split at hrt
        · cases hrt
        · cases hrt
      · split at hrt
        · cases hrt
        · cases hrt
      · cases hrt
    · cases hrt
  obtain ⟨rfl, rfl, rfl⟩ := hn1
  exact lw_ret hx hb hr hlocks hd
