theorem u_of {s : State} {args : Array Value} (hts : ∀ w ∈ lw_tbl, w.before args s = true) {c : Nat} {C : String} {T : u_T} {N n : Nat} {ty : Nat → FieldType} (zc : z_cls c C T N ty) (hi : Cond.instantiable C n ∈ lw_tbl) : ∃ (cC : ClassId) (iS : Nat → Nat), u_Kn s C T N cC iS :=
  u_known (ws := lw_tbl.filter goodWord) (fun w hw => hts w (List.mem_filter.mp hw).1) zc.2.1 (hts _ hi)
theorem ar_of {s : State} {args : Array Value} {ty : FieldType} (h : (Cond.arrayClass ty).before args s = true) : ∃ cA : ClassId, ArrOfT s cA ty ∧ s.vm.findClass ("[" ++ ty.toString) = some cA := by
  obtain ⟨c, k, comp, h1, h2, h3⟩ := Cond.arrayClass_spec h
  exact ⟨c, fun n z => ⟨(fun _ q => by cases q), k, h2, comp, h3⟩, h1⟩
theorem ao_of {s : State} {args : Array Value} {C : String} (h : (Cond.arrayOver (.object C)).before args s = true) : ∃ cA : ClassId, ArrOfT s cA (.object C) ∧ va_RA s cA (.object C) := by
  obtain ⟨comp, c, k, h1, h2, h3, h4, h5⟩ := Cond.arrayOver_spec h
  exact ⟨c, fun n z => ⟨(fun _ q => by cases q), k, h3, comp, h4⟩, k, comp, h3, h4, h1, h5⟩
theorem arrays_of {s : State} {args : Array Value} (hts : ∀ w ∈ lw_tbl, w.before args s = true) : ∃ A : Nat → ClassId, ∀ k, 20 ≤ k → k ≤ 27 → ArrOfT s (A k) (z_aty k) ∧ va_RA s (A k) (z_aty k) := by
  have h0 : ∀ k : Nat, ∃ cA : ClassId, 20 ≤ k → k ≤ 27 → ArrOfT s cA (z_aty k) ∧ va_RA s cA (z_aty k) := fun k => by
    by_cases hk : 20 ≤ k ∧ k ≤ 27
    · have hc : k = 20 ∨ k = 21 ∨ k = 22 ∨ k = 23 ∨ k = 24 ∨ k = 25 ∨ k = 26 ∨ k = 27 := by omega
      rcases hc with rfl | rfl | rfl | rfl | rfl | rfl | rfl | rfl
      · obtain ⟨c, a, b⟩ := ar_of (hts _ (tb_1 121 _ rfl)); exact ⟨c, fun _ _ => ⟨a, b⟩⟩
      · obtain ⟨c, a, b⟩ := ar_of (hts _ (tb_1 58 _ rfl)); exact ⟨c, fun _ _ => ⟨a, b⟩⟩
      · obtain ⟨c, a, b⟩ := ar_of (hts _ (tb_1 76 _ rfl)); exact ⟨c, fun _ _ => ⟨a, b⟩⟩
      · obtain ⟨c, a, b⟩ := ar_of (hts _ (tb_1 77 _ rfl)); exact ⟨c, fun _ _ => ⟨a, b⟩⟩
      · obtain ⟨c, a, b⟩ := ar_of (hts _ (tb_3 139 _ rfl)); exact ⟨c, fun _ _ => ⟨a, b⟩⟩
      · obtain ⟨c, a, b⟩ := ao_of (hts _ (tb_2 213 _ rfl)); exact ⟨c, fun _ _ => ⟨a, b⟩⟩
      · obtain ⟨c, a, b⟩ := ao_of (hts _ (tb_1 105 _ rfl)); exact ⟨c, fun _ _ => ⟨a, b⟩⟩
      · obtain ⟨c, a, b⟩ := ao_of (hts _ (tb_2 213 _ rfl)); exact ⟨c, fun _ _ => ⟨a, b⟩⟩
    · exact ⟨default, fun h1 h2 => absurd ⟨h1, h2⟩ hk⟩
  obtain ⟨A, hA⟩ := Classical.axiomOfChoice h0
  exact ⟨A, hA⟩
