theorem u_of {s : State} {args : Array Value} (hts : ∀ w ∈ lw_tbl, w.before args s = true) {c : Nat} {C : String} {T : u_T} {N n : Nat} {ty : Nat → FieldType} (zc : z_cls c C T N ty) (hi : Cond.instantiable C n ∈ lw_tbl) : ∃ (cC : ClassId) (iS : Nat → Nat), u_Kn s C T N cC iS :=
  u_known (ws := lw_tbl.filter goodWord) (fun w hw => hts w (List.mem_filter.mp hw).1) zc.2.1 (hts _ hi)
theorem ar_of {s : State} {args : Array Value} {ty : FieldType} (h : (Cond.arrayClass ty).before args s = true) : ∃ cA : ClassId, ArrOfT s cA ty ∧ s.vm.findClass ("[" ++ ty.toString) = some cA := by
  obtain ⟨c, k, comp, h1, h2, h3⟩ := Cond.arrayClass_spec h
  exact ⟨c, fun n z => ⟨(fun _ q => by cases q), k, h2, comp, h3⟩, h1⟩
theorem ao_of {s : State} {args : Array Value} {C : String} (h : (Cond.arrayOver (.object C)).before args s = true) : ∃ cA : ClassId, ArrOfT s cA (.object C) ∧ va_RA s cA (.object C) := by
  obtain ⟨comp, c, k, h1, h2, h3, h4, h5⟩ := Cond.arrayOver_spec h
  exact ⟨c, fun n z => ⟨(fun _ q => by cases q), k, h3, comp, h4⟩, k, comp, h3, h4, h1, h5⟩
theorem arrays_of {s : State} {args : Array Value} (hts : ∀ w ∈ lw_tbl, w.before args s = true) : ∃ A : Nat → ClassId, ∀ k, 20 ≤ k → k ≤ 27 → ArrOfT s (A k) (z_aty k) ∧ va_RA s (A k) (z_aty k) := by
  have h0 : ∀ k : Nat, ∃ cA : ClassId, 20 ≤ k → k ≤ 27 → ArrOfT s cA (z_aty k) ∧ va_RA s cA (z_aty k) := fun k => by
    by_cases hk : 20 ≤ k ∧ k ≤ 27
    · have hc : k = 20 ∨ k = 21 ∨ k = 22 ∨ k = 23 ∨ k = 24 ∨ k = 25 ∨ k = 26 ∨ k = 27 := by omega
      rcases hc with rfl | rfl | rfl | rfl | rfl | rfl | rfl | rfl
      · obtain ⟨c, a, b⟩ := ar_of (hts _ (tb_1 120 _ rfl)); exact ⟨c, fun _ _ => ⟨a, b⟩⟩
      · obtain ⟨c, a, b⟩ := ar_of (hts _ (tb_1 57 _ rfl)); exact ⟨c, fun _ _ => ⟨a, b⟩⟩
      · obtain ⟨c, a, b⟩ := ar_of (hts _ (tb_1 75 _ rfl)); exact ⟨c, fun _ _ => ⟨a, b⟩⟩
      · obtain ⟨c, a, b⟩ := ar_of (hts _ (tb_1 76 _ rfl)); exact ⟨c, fun _ _ => ⟨a, b⟩⟩
      · obtain ⟨c, a, b⟩ := ar_of (hts _ (tb_3 118 _ rfl)); exact ⟨c, fun _ _ => ⟨a, b⟩⟩
      · obtain ⟨c, a, b⟩ := ao_of (hts _ (tb_2 202 _ rfl)); exact ⟨c, fun _ _ => ⟨a, b⟩⟩
      · obtain ⟨c, a, b⟩ := ao_of (hts _ (tb_1 104 _ rfl)); exact ⟨c, fun _ _ => ⟨a, b⟩⟩
      · obtain ⟨c, a, b⟩ := ao_of (hts _ (tb_2 202 _ rfl)); exact ⟨c, fun _ _ => ⟨a, b⟩⟩
    · exact ⟨default, fun h1 h2 => absurd ⟨h1, h2⟩ hk⟩
  obtain ⟨A, hA⟩ := Classical.axiomOfChoice h0
  exact ⟨A, hA⟩
theorem zin_J0 : z_in RJ0 TJ0 4 := z_in_of (fun k hk => match k, hk with
  | 0, _ => tb_4 81 _ rfl
  | 1, _ => tb_4 83 _ rfl
  | 2, _ => tb_4 85 _ rfl
  | 3, _ => tb_4 87 _ rfl
  | n + 4, hk => absurd hk (by omega)) (by decide +kernel)
theorem classes_of {s : State} {args : Array Value} (hts : ∀ w ∈ lw_tbl, w.before args s = true) : ∃ D : va_G, va_K D vwCl [] s := by
  have h0 : ∀ c : Nat, ∃ q : ClassId × (Nat → Nat), ∀ r : vw_C, vwCl[c]? = some r → u_Kn s r.1 r.2.1 r.2.2 q.1 q.2 := fun c => by
    by_cases hc : c < 15
    · have h1 : c = 0 ∨ c = 1 ∨ c = 2 ∨ c = 3 ∨ c = 4 ∨ c = 5 ∨ c = 6 ∨ c = 7 ∨ c = 8 ∨ c = 9 ∨ c = 10 ∨ c = 11 ∨ c = 12 ∨ c = 13 ∨ c = 14 := by omega
      rcases h1 with rfl | rfl | rfl | rfl | rfl | rfl | rfl | rfl | rfl | rfl | rfl | rfl | rfl | rfl | rfl
      · obtain ⟨a, b, h⟩ := u_known (C := RJ0) (T := TJ0) (N := 4) (ws := lw_tbl.filter goodWord) (fun w hw => hts w (List.mem_filter.mp hw).1) zin_J0 (hts _ ((tb_4 16 _ rfl) : Cond.instantiable RJ0 4 ∈ lw_tbl))
        exact ⟨(a, b), fun r hr => by have e : (RJ0, TJ0, 4) = r := Option.some.inj hr; subst e; exact h⟩
      · obtain ⟨a, b, h⟩ := u_of hts zc_J4 ((tb_3 88 _ rfl) : Cond.instantiable RJ4 4 ∈ lw_tbl)
        exact ⟨(a, b), fun r hr => by have e := Option.some.inj (zc_J4.1.symm.trans hr); subst e; exact h⟩
      · obtain ⟨a, b, h⟩ := u_of hts zc_Jx4a65c ((tb_1 78 _ rfl) : Cond.instantiable RJx4a65c 3 ∈ lw_tbl)
        exact ⟨(a, b), fun r hr => by have e := Option.some.inj (zc_Jx4a65c.1.symm.trans hr); subst e; exact h⟩
      · obtain ⟨a, b, h⟩ := u_of hts zc_X0 ((tb_1 44 _ rfl) : Cond.instantiable RX0 2 ∈ lw_tbl)
        exact ⟨(a, b), fun r hr => by have e := Option.some.inj (zc_X0.1.symm.trans hr); subst e; exact h⟩
      · obtain ⟨a, b, h⟩ := u_of hts zc_X1 ((tb_1 105 _ rfl) : Cond.instantiable RX1 3 ∈ lw_tbl)
        exact ⟨(a, b), fun r hr => by have e := Option.some.inj (zc_X1.1.symm.trans hr); subst e; exact h⟩
      · obtain ⟨a, b, h⟩ := u_of hts zc_X2 ((tb_3 42 _ rfl) : Cond.instantiable RX2 4 ∈ lw_tbl)
        exact ⟨(a, b), fun r hr => by have e := Option.some.inj (zc_X2.1.symm.trans hr); subst e; exact h⟩
      · obtain ⟨a, b, h⟩ := u_of hts zc_X3 ((tb_5 162 _ rfl) : Cond.instantiable RX3 5 ∈ lw_tbl)
        exact ⟨(a, b), fun r hr => by have e := Option.some.inj (zc_X3.1.symm.trans hr); subst e; exact h⟩
      · obtain ⟨a, b, h⟩ := u_of hts zc_X4 ((tb_2 50 _ rfl) : Cond.instantiable RX4 3 ∈ lw_tbl)
        exact ⟨(a, b), fun r hr => by have e := Option.some.inj (zc_X4.1.symm.trans hr); subst e; exact h⟩
      · obtain ⟨a, b, h⟩ := u_of hts zc_X5 ((tb_2 221 _ rfl) : Cond.instantiable RX5 2 ∈ lw_tbl)
        exact ⟨(a, b), fun r hr => by have e := Option.some.inj (zc_X5.1.symm.trans hr); subst e; exact h⟩
      · obtain ⟨a, b, h⟩ := u_of hts zc_X6 ((tb_1 59 _ rfl) : Cond.instantiable RX6 3 ∈ lw_tbl)
        exact ⟨(a, b), fun r hr => by have e := Option.some.inj (zc_X6.1.symm.trans hr); subst e; exact h⟩
      · obtain ⟨a, b, h⟩ := u_of hts zc_X7 ((tb_5 113 _ rfl) : Cond.instantiable RX7 4 ∈ lw_tbl)
        exact ⟨(a, b), fun r hr => by have e := Option.some.inj (zc_X7.1.symm.trans hr); subst e; exact h⟩
      · obtain ⟨a, b, h⟩ := u_of hts zc_X8 ((tb_2 58 _ rfl) : Cond.instantiable RX8 5 ∈ lw_tbl)
        exact ⟨(a, b), fun r hr => by have e := Option.some.inj (zc_X8.1.symm.trans hr); subst e; exact h⟩
      · obtain ⟨a, b, h⟩ := u_of hts zc_X9 ((tb_2 93 _ rfl) : Cond.instantiable RX9 5 ∈ lw_tbl)
        exact ⟨(a, b), fun r hr => by have e := Option.some.inj (zc_X9.1.symm.trans hr); subst e; exact h⟩
      · obtain ⟨a, b, h⟩ := u_of hts zc_X10 ((tb_2 42 _ rfl) : Cond.instantiable RX10 7 ∈ lw_tbl)
        exact ⟨(a, b), fun r hr => by have e := Option.some.inj (zc_X10.1.symm.trans hr); subst e; exact h⟩
      · obtain ⟨a, b, h⟩ := u_of hts zc_X11 ((tb_1 36 _ rfl) : Cond.instantiable RX11 10 ∈ lw_tbl)
        exact ⟨(a, b), fun r hr => by have e := Option.some.inj (zc_X11.1.symm.trans hr); subst e; exact h⟩
    · exact ⟨(default, fun _ => 0), fun r hr => absurd (List.getElem?_eq_some_iff.mp hr).1 (by simp; omega)⟩
  obtain ⟨D, hD⟩ := Classical.axiomOfChoice h0
  exact ⟨(fun c => (D c).1, fun c => (D c).2), fun c q hq => hD c q hq, fun k q hk => by cases hk⟩
theorem nx_of {s : State} {args : Array Value} (hv : (Jvm.Cond.and given_1 narrow_1).before args s = true) : va_Nc nISE nIAE s ∧ va_Nc nISE nIOE s ∧ va_Nc nIAE nIOE s ∧ va_Nc nIAE nISE s ∧ va_Nc nIOE nISE s ∧ va_Nc nIOE nIAE s := by
  have hs := flat_of_before _ hv
  exact ⟨va_Nc.of (hs (Cond.not (.castable nISE nIAE)) (by decide +kernel)), va_Nc.of (hs (Cond.not (.castable nISE nIOE)) (by decide +kernel)), va_Nc.of (hs (Cond.not (.castable nIAE nIOE)) (by decide +kernel)), va_Nc.of (hs (Cond.not (.castable nIAE nISE)) (by decide +kernel)), va_Nc.of (hs (Cond.not (.castable nIOE nISE)) (by decide +kernel)), va_Nc.of (hs (Cond.not (.castable nIOE nIAE)) (by decide +kernel))⟩
theorem mi_of {s : State} {args : Array Value} (hv : (Jvm.Cond.and given_1 narrow_1).before args s = true) : ∃ mi : Nat, va_Mi "[Ljava/lang/Object;" mi s := by
  have hs := flat_of_before _ hv
  exact va_Mi.of (hs (Cond.isRef (.mirror "[Ljava/lang/Object;")) (by decide +kernel))
theorem cs_of {s : State} {args : Array Value} (hts : ∀ w ∈ lw_tbl, w.before args s = true) (hv : (Jvm.Cond.and given_1 narrow_1).before args s = true) : va_Z "java/lang/String" "COMPACT_STRINGS" "Z" (.int (zI 1)) (fun q => s.heap.size ≤ q) s s.heap ∧ va_Zq "jdk/internal/util/Preconditions" "SIOOBE_FORMATTER" "Ljava/util/function/BiFunction;" (fun q => s.heap.size ≤ q) s s.heap := by
  have hs := flat_of_before _ hv
  exact ⟨va_Zof (args := args) (hts _ (tb_3 97 _ rfl)) (hts _ (tb_1 28 _ rfl)) (va_eqt (hs (Cond.eq (.static "java/lang/String" "COMPACT_STRINGS" "Z") (.int 1)) (by decide +kernel))) (fun a h => Nat.not_le.mpr h), va_Zqof (args := args) (hts _ (tb_3 169 _ rfl)) (hts _ (tb_1 13 _ rfl)) (hs (Cond.isRef (.static "jdk/internal/util/Preconditions" "SIOOBE_FORMATTER" "Ljava/util/function/BiFunction;")) (by decide +kernel)) (fun a h => Nat.not_le.mpr h)⟩
theorem th_of {s : State} {args : Array Value} (hts : ∀ w ∈ lw_tbl, w.before args s = true) (hv : (Jvm.Cond.and given_1 narrow_1).before args s = true) : vx_Zq Bundle.tN "UNASSIGNED_STACK" Bundle.steD (fun q => s.heap.size ≤ q) s s.heap ∧ vx_Zq Bundle.tN "SUPPRESSED_SENTINEL" Bundle.listD (fun q => s.heap.size ≤ q) s s.heap := by
  have hs := flat_of_before _ hv
  exact ⟨vx_Zqof (args := args) (hts _ (tb_1 207 _ rfl)) (hts _ (tb_1 8 _ rfl)) (hs (Cond.isRef (.static Bundle.tN "UNASSIGNED_STACK" Bundle.steD)) (by decide +kernel)) (fun a h => Nat.not_le.mpr h), vx_Zqof (args := args) (hts _ (tb_1 209 _ rfl)) (hts _ (tb_1 8 _ rfl)) (hs (Cond.isRef (.static Bundle.tN "SUPPRESSED_SENTINEL" Bundle.listD)) (by decide +kernel)) (fun a h => Nat.not_le.mpr h)⟩
theorem em_of {s : State} {args : Array Value} (hts : ∀ w ∈ lw_tbl, w.before args s = true) (hv : (Jvm.Cond.and given_1 narrow_1).before args s = true) : ∃ ge : Nat, va_Z "java/util/ArrayList" "DEFAULTCAPACITY_EMPTY_ELEMENTDATA" "[Ljava/lang/Object;" (.ref ge) (fun q => s.heap.size ≤ q) s s.heap ∧ va_T (.object "java/lang/Object") ge 0 (fun _ => .null) (fun q => s.heap.size ≤ q) s s.heap := by
  have hs := flat_of_before _ hv
  obtain ⟨t, h1, h2⟩ := va_Tof (args := args) (s := s) (tm := .static "java/util/ArrayList" "DEFAULTCAPACITY_EMPTY_ELEMENTDATA" "[Ljava/lang/Object;") (ty := .object "java/lang/Object") (N := 0) (f := fun _ => .null) (A := fun q => s.heap.size ≤ q) (by decide) (hs (Cond.arrayOf (.static "java/util/ArrayList" "DEFAULTCAPACITY_EMPTY_ELEMENTDATA" "[Ljava/lang/Object;") (.object "java/lang/Object")) (by decide +kernel)) (va_eqt (hs (Cond.eq (.length (.static "java/util/ArrayList" "DEFAULTCAPACITY_EMPTY_ELEMENTDATA" "[Ljava/lang/Object;")) (.int 0)) (by decide +kernel))) (fun j hj => absurd hj (Nat.not_lt_zero j)) (fun a h => Nat.not_le.mpr h)
  exact ⟨t, va_Zof (args := args) (hts _ (tb_1 90 _ rfl)) (hts _ (tb_1 6 _ rfl)) h1 (fun a h => Nat.not_le.mpr h), h2⟩
def zH0 (ge : Nat) : zH := ((fun b => if b = ge then 27 else 0), fun _ => 0, fun _ _ => 0, fun _ _ => 0, fun _ _ => none, fun _ _ => 0, fun _ _ => 0, fun _ _ => none)
theorem zP_start {g : zGT} {f : Nat → Value} (hT : va_T (.object "java/lang/Object") (ge_ g) 0 f (fun q => (gS_ g).heap.size ≤ q) (gS_ g) (gS_ g).heap) : zP g (zH0 (ge_ g)) (gS_ g).heap := by
  have hk : ∀ b, kd_ (zH0 (ge_ g)) b = if b = ge_ g then 27 else 0 := fun _ => rfl
  have hn : ¬ (gS_ g).heap.size ≤ ge_ g := va_T.out hT
  refine ⟨fun a e he => ?_, fun a h0 h1 => ?_, fun q hq => rfl, Nat.le_refl _, fun a h0 => ?_, by rw [hk, if_pos rfl], rfl⟩
  · unfold z_ent at he
    rw [hk] at he
    by_cases q : a = ge_ g
    · rw [if_pos q] at he; simp [z_at] at he
    · rw [if_neg q] at he; cases he
  · rw [hk] at h0 h1
    by_cases q : a = ge_ g
    · rw [if_pos q] at h1; exact absurd (Or.inr (Or.inr rfl)) h1
    · rw [if_neg q] at h0; exact absurd rfl h0
  · rw [hk] at h0
    by_cases q : a = ge_ g
    · rw [q]; omega
    · rw [if_neg q] at h0; exact absurd rfl h0
theorem sb_forget {s t : State} {L : List Loc} {k n : Nat} (h : s.sameButNew t L k n) (hL : ∀ q ∈ L, s.heap.size ≤ q.base) : s.sameButNew t [] k n := by
  obtain ⟨h1, h2, h3, h4, h5, h6⟩ := h
  refine ⟨h1, h2, h3, h4, h5, fun a c hc => ?_⟩
  obtain ⟨c', e1, e2, e3, e4⟩ := h6 a c hc
  refine ⟨c', e1, e2, e3, fun i _ => e4 i (fun q => ?_)⟩
  have h7 : s.heap.size ≤ a := hL _ q
  exact absurd (Array.getElem?_eq_some_iff.mp hc).1 (Nat.not_lt.mpr h7)
