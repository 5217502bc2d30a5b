theorem arr_p {args : Array Value} {s : State} {ty : FieldType} (h : (Cond.arrayClass ty).before args s = true) : ∃ cA : ClassId, ArrOfT s cA ty ∧ s.vm.findClass ("[" ++ ty.toString) = some cA := by
  obtain ⟨cA, kA, comp, h1, h2, h3⟩ := Cond.arrayClass_spec h
  exact ⟨cA, fun n z => ⟨fun k h => (by cases h), kA, h2, comp, h3⟩, h1⟩
theorem arr_o {s : State} {C : String} (h : va_AO C s) : ∃ cA : ClassId, ArrOfT s cA (.object C) ∧ va_RA s cA (.object C) := by
  obtain ⟨comp, cA, kA, h1, h2, h3, h4, h5⟩ := Cond.arrayOver_spec h
  exact ⟨cA, fun n z => ⟨fun k h => (by cases h), kA, h3, comp, h4⟩, kA, comp, h3, h4, h1, h5⟩
theorem cls_all : ∀ t, t < 10 → ix_okc t ∧ ∃ n, Cond.instantiable (ix_cl t).1 n ∈ tables_1 := by
  intro t ht
  rcases (show t = 0 ∨ t = 1 ∨ t = 2 ∨ t = 3 ∨ t = 4 ∨ t = 5 ∨ t = 6 ∨ t = 7 ∨ t = 8 ∨ t = 9 by omega) with rfl | rfl | rfl | rfl | rfl | rfl | rfl | rfl | rfl | rfl
  · exact ⟨okc_0, 5, by decide +kernel⟩
  · exact ⟨okc_1, 5, by decide +kernel⟩
  · exact ⟨okc_2, 16, by decide +kernel⟩
  · exact ⟨okc_3, 5, by decide +kernel⟩
  · exact ⟨okc_4, 2, by decide +kernel⟩
  · exact ⟨okc_5, 3, by decide +kernel⟩
  · exact ⟨okc_6, 9, by decide +kernel⟩
  · exact ⟨okc_7, 3, by decide +kernel⟩
  · exact ⟨okc_8, 9, by decide +kernel⟩
  · exact ⟨okc_9, 31, by decide +kernel⟩
theorem tb_lw {w : Cond} (h : w ∈ tables_1) : w ∈ lw_tbl := List.mem_append_right _ h
theorem ao_all : ∀ C ∈ ix_AO, Cond.arrayOver (.object C) ∈ tables_1 := by decide +kernel
theorem nw_all : ∀ q ∈ ix_NW, Cond.methodLinkNest q.1 q.2.1 q.2.2.1 q.2.2.2 ∈ tables_1 := by decide +kernel
theorem ac_all : Cond.arrayClass .int ∈ tables_1 ∧ Cond.arrayClass .boolean ∈ tables_1 ∧ Cond.arrayClass .long ∈ tables_1 := by decide +kernel
