/-- the list a, its row e, its elements L -/
def ARep (g : zGT) (h : zH) (a e : Nat) (L : List Nat) : Prop := kd_ h a = 3 ∧ fr_ h a 1 = some e ∧ fi_ h a 2 = (L.length : Int) ∧ (kd_ h e = 25 ∨ kd_ h e = 27 ∧ e = ge_ g) ∧ L.length ≤ ln_ h e ∧ ln_ h e ≤ 1000 ∧ (∀ i, i < L.length → ar_ h e i = L[i]?) ∧ (e = ge_ g → ln_ h e = 0)
theorem r_getsE2 {g : zGT} {M : zM} {mc ms : Nat} {Q : zO → zH → Prop} {pc : Nat} {lv : List (Option Value)} {st : List Value} {h : zH} {bc bs : Nat} {idx : Nat} (hg : zG g) (hlink : Cond.fieldLink M.1 idx "java/util/ArrayList" "DEFAULTCAPACITY_EMPTY_ELEMENTDATA" "[Ljava/lang/Object;" ∈ lw_tbl) (pc' : Nat) (hp : pc + 3 = pc') (d : decode M.2.1 pc = .ok (.getstatic idx, 3)) (k : kd_ h (ge_ g) = 27 → ln_ h (ge_ g) = 0 → zX g M mc ms Q pc' lv (.ref (ge_ g) :: st) h bc bs) : zX g M mc ms Q pc lv st h bc bs := by
  intro p e s m args below meth c F H locs cells slots ls hP hs hL hc hsl hl
  exact r_getsE hg hlink pc' hp d (k hP.2.2.2.2.2.1 hP.2.2.2.2.2.2) p e s m args below meth c F H locs cells slots ls hP hs hL hc hsl hl

theorem r_mmax {g : zGT} {M : zM} {mc ms : Nat} {Q : zO → zH → Prop} {pc : Nat} {lv : List (Option Value)} {st : List Value} {h : zH} {bc bs : Nat} {x y : Int} (hx : zR x) (hy : zR y) {idx : Nat} (hg : zG g) (hlv : 1 ≤ M.2.2.2.2.2.2) (hcat : (st.map fun v => v.category).sum + 13 ≤ 200) (hlink : Cond.methodLink M.1 idx Lib.Math.max.name ∈ lw_tbl) (pc' : Nat) (hp : pc + 3 = pc') (d : decode M.2.1 pc = .ok (.invokestatic idx, 3)) (k : zX g M mc ms Q pc' lv (.int (zI (if x < y then y else x)) :: st) h bc bs) : zX g M mc ms Q pc lv (.int (zI y) :: .int (zI x) :: st) h bc bs := by
  subst hp
  intro p e s m args below meth c F H locs cells slots ls hP hs hL hc hsl hl
  have hst : Cond.static Lib.Math.max.name ∈ lw_tbl := (tb_2 177 _ rfl)
  have hin : Cond.initialized "java/lang/Math" ∈ lw_tbl := (tb_1 21 _ rfl)
  have hco : Cond.code Lib.Math.max.name Lib.Math.max.code 2 (some .int) ∈ lw_tbl := (tb_2 178 _ rfl)
  refine va_mmax F.1 F.2.1 (hl.1.trans F.2.2.1.symm).symm F.2.2.2.2.1 (zw hg F hlink rfl) (zw hg F hst rfl) (zw hg F hin rfl) (zw hg F hco rfl) (by show 1 ≤ M.2.2.2.2.2.2; omega) (by show _ ≤ 200 * M.2.2.2.2.2.2; omega) (by show cells ≤ mc; omega) (by show slots ≤ ms; omega) d ?_
  have e9 : (if zI x < zI y then zI y else zI x : Int32) = zI (if x < y then y else x) := by
    by_cases q : x < y
    · rw [if_pos q, if_pos ((zI_lt hx hy).mpr q)]
    · rw [if_neg q, if_neg (fun e => q ((zI_lt hx hy).mp e))]
  rw [e9]
  exact k p e s m args below meth c F H locs cells slots ls hP hs hL hc hsl hl

theorem r_mmin {g : zGT} {M : zM} {mc ms : Nat} {Q : zO → zH → Prop} {pc : Nat} {lv : List (Option Value)} {st : List Value} {h : zH} {bc bs : Nat} {x y : Int} (hx : zR x) (hy : zR y) {idx : Nat} (hg : zG g) (hlv : 1 ≤ M.2.2.2.2.2.2) (hcat : (st.map fun v => v.category).sum + 13 ≤ 200) (hlink : Cond.methodLink M.1 idx Lib.Math.min.name ∈ lw_tbl) (pc' : Nat) (hp : pc + 3 = pc') (d : decode M.2.1 pc = .ok (.invokestatic idx, 3)) (k : zX g M mc ms Q pc' lv (.int (zI (if y < x then y else x)) :: st) h bc bs) : zX g M mc ms Q pc lv (.int (zI y) :: .int (zI x) :: st) h bc bs := by
  subst hp
  intro p e s m args below meth c F H locs cells slots ls hP hs hL hc hsl hl
  have hst : Cond.static Lib.Math.min.name ∈ lw_tbl := (tb_2 216 _ rfl)
  have hin : Cond.initialized "java/lang/Math" ∈ lw_tbl := (tb_1 21 _ rfl)
  have hco : Cond.code Lib.Math.min.name Lib.Math.min.code 2 (some .int) ∈ lw_tbl := (tb_2 217 _ rfl)
  refine va_mmin F.1 F.2.1 (hl.1.trans F.2.2.1.symm).symm F.2.2.2.2.1 (zw hg F hlink rfl) (zw hg F hst rfl) (zw hg F hin rfl) (zw hg F hco rfl) (by show 1 ≤ M.2.2.2.2.2.2; omega) (by show _ ≤ 200 * M.2.2.2.2.2.2; omega) (by show cells ≤ mc; omega) (by show slots ≤ ms; omega) d ?_
  have e9 : (if zI y < zI x then zI y else zI x : Int32) = zI (if y < x then y else x) := by
    by_cases q : y < x
    · rw [if_pos q, if_pos ((zI_lt hy hx).mpr q)]
    · rw [if_neg q, if_neg (fun e => q ((zI_lt hy hx).mp e))]
  rw [e9]
  exact k p e s m args below meth c F H locs cells slots ls hP hs hL hc hsl hl

theorem r_mabs {g : zGT} {M : zM} {mc ms : Nat} {Q : zO → zH → Prop} {pc : Nat} {lv : List (Option Value)} {st : List Value} {h : zH} {bc bs : Nat} {x : Int} (hx : zR x) {idx : Nat} (hg : zG g) (hlv : 1 ≤ M.2.2.2.2.2.2) (hcat : (st.map fun v => v.category).sum + 13 ≤ 200) (hlink : Cond.methodLink M.1 idx Lib.Math.abs.name ∈ lw_tbl) (pc' : Nat) (hp : pc + 3 = pc') (d : decode M.2.1 pc = .ok (.invokestatic idx, 3)) (k : zX g M mc ms Q pc' lv (.int (zI (if 0 ≤ x then x else 0 - x)) :: st) h bc bs) : zX g M mc ms Q pc lv (.int (zI x) :: st) h bc bs := by
  subst hp
  intro p e s m args below meth c F H locs cells slots ls hP hs hL hc hsl hl
  have hst : Cond.static Lib.Math.abs.name ∈ lw_tbl := (tb_5 116 _ rfl)
  have hin : Cond.initialized "java/lang/Math" ∈ lw_tbl := (tb_1 21 _ rfl)
  have hco : Cond.code Lib.Math.abs.name Lib.Math.abs.code 1 (some .int) ∈ lw_tbl := (tb_5 117 _ rfl)
  refine va_mabs F.1 F.2.1 (hl.1.trans F.2.2.1.symm).symm F.2.2.2.2.1 (zw hg F hlink rfl) (zw hg F hst rfl) (zw hg F hin rfl) (zw hg F hco rfl) (by show 1 ≤ M.2.2.2.2.2.2; omega) (by show _ ≤ 200 * M.2.2.2.2.2.2; omega) (by show cells ≤ mc; omega) (by show slots ≤ ms; omega) d ?_
  have e9 : (if 0 ≤ zI x then zI x else 0 - zI x : Int32) = zI (if 0 ≤ x then x else 0 - x) := by
    rw [zI_0, zI_sub]
    by_cases q : 0 ≤ x
    · rw [if_pos q, if_pos ((zI_le (by omega) hx).mpr q)]
    · rw [if_neg q, if_neg (fun e => q ((zI_le (by omega) hx).mp e))]
  rw [e9]
  exact k p e s m args below meth c F H locs cells slots ls hP hs hL hc hsl hl

abbrev mJx4a65c_size_8abf5 : zM := (RJx4a65c, cJx4a65c_size_8abf5, 1, (Option.some Jvm.ClassFile.FieldType.int), [], "size", 10)
set_option maxRecDepth 20000 in
theorem c_Jx4a65c_size_8abf5 {g : zGT} {Q : zO → zH → Prop} {h : zH} (hg : zG g) {a e : Nat} {L : List Nat} (hA : ARep g h a e L) (k : Q (.inl (some (.int (zI (L.length : Int))))) h) : zC g (.code yJx4a65c_size_8abf5 cJx4a65c_size_8abf5 1 (Option.some Jvm.ClassFile.FieldType.int)) yJx4a65c_size_8abf5 10 0 0 [.ref a] h Q := by
  refine zC_of (M := mJx4a65c_size_8abf5) (lv := [some (.ref a)]) (by decide) rfl rfl (Nat.le_of_ble_eq_true rfl) rfl rfl ?_
  refine r_aload_0 1 rfl (dd_Jx4a65c_size_8abf5 0 _ _ _ rfl) ?_
  refine r_geti hg zc_Jx4a65c 2 (by decide) (fun _ _ _ => rfl) hA.2.2.1 hA.1 (Or.inl rfl) (tb_1 93 _ rfl) 4 rfl (dd_Jx4a65c_size_8abf5 1 _ _ _ rfl) ?_
  refine r_ireturn rfl rfl (dd_Jx4a65c_size_8abf5 2 _ _ _ rfl) ?_
  exact k

abbrev mJ3_checkIndex_8e157 : zM := (RJ3, cJ3_checkIndex_8e157, 3, (Option.some Jvm.ClassFile.FieldType.int), [], "checkIndex", 10)
set_option maxRecDepth 20000 in
theorem c_J3_checkIndex_8e157 {g : zGT} {Q : zO → zH → Prop} {h : zH} (hg : zG g) {i n : Int} (hi : 0 ≤ i ∧ i < n) (hn : n ≤ 2147483647) (k : Q (.inl (some (.int (zI i)))) h) : zC g (.code yJ3_checkIndex_8e157 cJ3_checkIndex_8e157 3 (Option.some Jvm.ClassFile.FieldType.int)) yJ3_checkIndex_8e157 10 0 0 [.int (zI i), .int (zI n), .null] h Q := by
  refine zC_of (M := mJ3_checkIndex_8e157) (lv := [some (.int (zI i)), some (.int (zI n)), some (.null)]) (by decide) rfl rfl (Nat.le_of_ble_eq_true rfl) rfl rfl ?_
  refine r_iload_0 1 rfl (dd_J3_checkIndex_8e157 0 _ _ _ rfl) ?_
  refine r_iflt (by omega) 4 rfl 9 rfl (dd_J3_checkIndex_8e157 1 _ _ _ rfl) (fun hc1 => ?_) (fun hc1 => ?_)
  · exfalso; omega
  · refine r_iload_0 5 rfl (dd_J3_checkIndex_8e157 2 _ _ _ rfl) ?_
    refine r_iload_1 6 rfl (dd_J3_checkIndex_8e157 3 _ _ _ rfl) ?_
    refine r_if_icmplt (by omega) (by omega) 9 rfl 16 rfl (dd_J3_checkIndex_8e157 4 _ _ _ rfl) (fun hc2 => ?_) (fun hc2 => ?_)
    · refine r_iload_0 17 rfl (dd_J3_checkIndex_8e157 10 _ _ _ rfl) ?_
      refine r_ireturn rfl rfl (dd_J3_checkIndex_8e157 11 _ _ _ rfl) ?_
      exact k
    · exfalso; omega

abbrev mJ15_checkIndex_7cf53 : zM := (RJ15, cJ15_checkIndex_7cf53, 2, (Option.some Jvm.ClassFile.FieldType.int), [], "checkIndex", 11)
set_option maxRecDepth 20000 in
theorem c_J15_checkIndex_7cf53 {g : zGT} {Q : zO → zH → Prop} {h : zH} (hg : zG g) {i n : Int} (hi : 0 ≤ i ∧ i < n) (hn : n ≤ 2147483647) (k : Q (.inl (some (.int (zI i)))) h) : zC g (.code yJ15_checkIndex_7cf53 cJ15_checkIndex_7cf53 2 (Option.some Jvm.ClassFile.FieldType.int)) yJ15_checkIndex_7cf53 11 0 0 [.int (zI i), .int (zI n)] h Q := by
  refine zC_of (M := mJ15_checkIndex_7cf53) (lv := [some (.int (zI i)), some (.int (zI n))]) (by decide) rfl rfl (Nat.le_of_ble_eq_true rfl) rfl rfl ?_
  refine r_iload_0 1 rfl (dd_J15_checkIndex_7cf53 0 _ _ _ rfl) ?_
  refine r_iload_1 2 rfl (dd_J15_checkIndex_7cf53 1 _ _ _ rfl) ?_
  refine r_null 3 rfl (dd_J15_checkIndex_7cf53 2 _ _ _ rfl) ?_
  refine r_callS3 (lvl := 10) (mc1 := 0) (ms1 := 0) 0 0 hg rfl md_J3_checkIndex_8e157 ws_J3_checkIndex_8e157 (tb_2 44 _ rfl) (by decide) (by decide) rfl (Nat.le_of_ble_eq_true rfl) (by decide) (by decide) 6 rfl (dd_J15_checkIndex_7cf53 3 _ _ _ rfl) ?_
  refine c_J3_checkIndex_8e157 hg (by omega) (by omega) ?_
  dsimp only [zCont, Option.toList, List.cons_append, List.nil_append]
  refine r_ireturn rfl rfl (dd_J15_checkIndex_7cf53 4 _ _ _ rfl) ?_
  exact k

abbrev mJx4a65c_elementData_915e3 : zM := (RJx4a65c, cJx4a65c_elementData_915e3, 2, (Option.some (Jvm.ClassFile.FieldType.object "java/lang/Object")), [], "elementData", 10)
set_option maxRecDepth 20000 in
theorem c_Jx4a65c_elementData_915e3 {g : zGT} {Q : zO → zH → Prop} {h : zH} (hg : zG g) {a e : Nat} {L : List Nat} (hA : ARep g h a e L) {i y : Nat} (hy : L[i]? = some y) (k : Q (.inl (some (.ref y))) h) : zC g (.code yJx4a65c_elementData_915e3 cJx4a65c_elementData_915e3 2 (Option.some (Jvm.ClassFile.FieldType.object "java/lang/Object"))) yJx4a65c_elementData_915e3 10 0 0 [.ref a, .int (zI (i : Int))] h Q := by
  refine zC_of (M := mJx4a65c_elementData_915e3) (lv := [some (.ref a), some (.int (zI (i : Int)))]) (by decide) rfl rfl (Nat.le_of_ble_eq_true rfl) rfl rfl ?_
  have hi : i < L.length := (List.getElem?_eq_some_iff.mp hy).1
  have hk25 : kd_ h e = 25 := by rcases hA.2.2.2.1 with q | ⟨_, q⟩; exact q; have := hA.2.2.2.2.2.2.2 q; have := hA.2.2.2.2.1; omega
  have h9 := hA.2.2.2.2.2.1
  have h8 := hA.2.2.2.2.1
  refine r_aload_0 1 rfl (dd_Jx4a65c_elementData_915e3 0 _ _ _ rfl) ?_
  refine r_getr hg zc_Jx4a65c 1 (by decide) (fun _ _ _ => rfl) hA.2.1 hA.1 (Or.inl rfl) (tb_1 92 _ rfl) 4 rfl (dd_Jx4a65c_elementData_915e3 1 _ _ _ rfl) ?_
  refine r_iload_1 5 rfl (dd_Jx4a65c_elementData_915e3 2 _ _ _ rfl) ?_
  refine r_aaload (v := .ref y) hg hk25 (by omega) (by omega) (by have := hA.2.2.2.2.1; omega) (by rw [show ((i : Int)).toNat = i by omega, hA.2.2.2.2.2.2.1 i hi, hy]; rfl) 6 rfl (dd_Jx4a65c_elementData_915e3 3 _ _ _ rfl) ?_
  refine r_areturn rfl (by first | exact Or.inl ⟨_, rfl⟩ | exact Or.inr ⟨_, rfl⟩) (dd_Jx4a65c_elementData_915e3 4 _ _ _ rfl) ?_
  exact k

abbrev mJx4a65c_get_915e3 : zM := (RJx4a65c, cJx4a65c_get_915e3, 2, (Option.some (Jvm.ClassFile.FieldType.object "java/lang/Object")), [], "get", 12)
set_option maxRecDepth 20000 in
theorem c_Jx4a65c_get_915e3 {g : zGT} {Q : zO → zH → Prop} {h : zH} (hg : zG g) {a e : Nat} {L : List Nat} (hA : ARep g h a e L) {i y : Nat} (hy : L[i]? = some y) (k : Q (.inl (some (.ref y))) h) : zC g (.code yJx4a65c_get_915e3 cJx4a65c_get_915e3 2 (Option.some (Jvm.ClassFile.FieldType.object "java/lang/Object"))) yJx4a65c_get_915e3 12 0 0 [.ref a, .int (zI (i : Int))] h Q := by
  refine zC_of (M := mJx4a65c_get_915e3) (lv := [some (.ref a), some (.int (zI (i : Int)))]) (by decide) rfl rfl (Nat.le_of_ble_eq_true rfl) rfl rfl ?_
  have hi : i < L.length := (List.getElem?_eq_some_iff.mp hy).1
  have h9 := hA.2.2.2.2.2.1
  have h8 := hA.2.2.2.2.1
  refine r_iload_1 1 rfl (dd_Jx4a65c_get_915e3 0 _ _ _ rfl) ?_
  refine r_aload_0 2 rfl (dd_Jx4a65c_get_915e3 1 _ _ _ rfl) ?_
  refine r_geti hg zc_Jx4a65c 2 (by decide) (fun _ _ _ => rfl) hA.2.2.1 hA.1 (Or.inl rfl) (tb_1 93 _ rfl) 5 rfl (dd_Jx4a65c_get_915e3 2 _ _ _ rfl) ?_
  refine r_callS2 (lvl := 11) (mc1 := 0) (ms1 := 0) 0 0 hg rfl md_J15_checkIndex_7cf53 ws_J15_checkIndex_7cf53 (tb_2 41 _ rfl) (by decide) (by decide) rfl (Nat.le_of_ble_eq_true rfl) (by decide) (by decide) 8 rfl (dd_Jx4a65c_get_915e3 3 _ _ _ rfl) ?_
  refine c_J15_checkIndex_7cf53 hg (by omega) (by omega) ?_
  dsimp only [zCont, Option.toList, List.cons_append, List.nil_append]
  refine r_pop rfl 9 rfl (dd_Jx4a65c_get_915e3 4 _ _ _ rfl) ?_
  refine r_aload_0 10 rfl (dd_Jx4a65c_get_915e3 5 _ _ _ rfl) ?_
  refine r_iload_1 11 rfl (dd_Jx4a65c_get_915e3 6 _ _ _ rfl) ?_
  refine r_callV1 (lvl := 10) (mc1 := 0) (ms1 := 0) 0 0 hg rfl md_Jx4a65c_elementData_915e3 zc_Jx4a65c hA.1 wi_Jx4a65c_elementData_915e3 wv_Jx4a65c_elementData_915e3 (tb_2 47 _ rfl) (by decide) (by decide) rfl (Nat.le_of_ble_eq_true rfl) (by decide) (by decide) 14 rfl (dd_Jx4a65c_get_915e3 7 _ _ _ rfl) ?_
  refine c_Jx4a65c_elementData_915e3 hg hA hy ?_
  dsimp only [zCont, Option.toList, List.cons_append, List.nil_append]
  refine r_areturn rfl (by first | exact Or.inl ⟨_, rfl⟩ | exact Or.inr ⟨_, rfl⟩) (dd_Jx4a65c_get_915e3 8 _ _ _ rfl) ?_
  exact k
