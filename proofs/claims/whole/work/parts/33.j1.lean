/-- the list a, its row e, its elements L -/
def ARep (g : zGT) (h : zH) (a e : Nat) (L : List Nat) : Prop := kd_ h a = 3 ∧ fr_ h a 1 = some e ∧ fi_ h a 2 = (L.length : Int) ∧ (kd_ h e = 25 ∨ kd_ h e = 27 ∧ e = ge_ g) ∧ L.length ≤ ln_ h e ∧ ln_ h e ≤ 1000 ∧ (∀ i, i < L.length → ar_ h e i = L[i]?) ∧ (e = ge_ g → ln_ h e = 0)
theorem r_getsE2 {g : zGT} {M : zM} {mc ms : Nat} {Q : zO → zH → Prop} {pc : Nat} {lv : List (Option Value)} {st : List Value} {h : zH} {bc bs : Nat} {idx : Nat} (hg : zG g) (hlink : Cond.fieldLink M.1 idx "java/util/ArrayList" "DEFAULTCAPACITY_EMPTY_ELEMENTDATA" "[Ljava/lang/Object;" ∈ lw_tbl) (pc' : Nat) (hp : pc + 3 = pc') (d : decode M.2.1 pc = .ok (.getstatic idx, 3)) (k : kd_ h (ge_ g) = 27 → ln_ h (ge_ g) = 0 → zX g M mc ms Q pc' lv (.ref (ge_ g) :: st) h bc bs) : zX g M mc ms Q pc lv st h bc bs := by
  intro p e s m args below meth c F H locs cells slots ls hP hs hL hc hsl hl
  exact r_getsE hg hlink pc' hp d (k hP.2.2.2.2.2.1 hP.2.2.2.2.2.2) p e s m args below meth c F H locs cells slots ls hP hs hL hc hsl hl

abbrev mJ9_max_7cf53 : zM := (RJ9, cJ9_max_7cf53, 2, (Option.some Jvm.ClassFile.FieldType.int), [], "max", 10)
set_option maxRecDepth 20000 in
theorem c_J9_max_7cf53 {g : zGT} {Q : zO → zH → Prop} {h : zH} (hg : zG g) {a b : Int} (ha : zR a) (hb : zR b) (k : Q (.inl (some (.int (zI (if a < b then b else a))))) h) : zC g (.code yJ9_max_7cf53 cJ9_max_7cf53 2 (Option.some Jvm.ClassFile.FieldType.int)) yJ9_max_7cf53 10 0 0 [.int (zI a), .int (zI b)] h Q := by
  refine zC_of (M := mJ9_max_7cf53) (lv := [some (.int (zI a)), some (.int (zI b))]) (by decide) rfl rfl (Nat.le_of_ble_eq_true rfl) rfl rfl ?_
  refine r_iload_0 1 rfl (dd_J9_max_7cf53 0 _ _ _ rfl) ?_
  refine r_iload_1 2 rfl (dd_J9_max_7cf53 1 _ _ _ rfl) ?_
  refine r_if_icmplt (by omega) (by omega) 5 rfl 9 rfl (dd_J9_max_7cf53 2 _ _ _ rfl) (fun hc1 => ?_) (fun hc1 => ?_)
  · refine r_iload_1 10 rfl (dd_J9_max_7cf53 5 _ _ _ rfl) ?_
    refine r_ireturn rfl rfl (dd_J9_max_7cf53 6 _ _ _ rfl) ?_
    first | exact k | (rw [if_pos (by omega)] at k; exact k) | (rw [if_neg (by omega)] at k; exact k)
  · refine r_iload_0 6 rfl (dd_J9_max_7cf53 3 _ _ _ rfl) ?_
    refine r_goto 10 rfl (dd_J9_max_7cf53 4 _ _ _ rfl) ?_
    refine r_ireturn rfl rfl (dd_J9_max_7cf53 6 _ _ _ rfl) ?_
    first | exact k | (rw [if_pos (by omega)] at k; exact k) | (rw [if_neg (by omega)] at k; exact k)

abbrev mJ9_min_7cf53 : zM := (RJ9, cJ9_min_7cf53, 2, (Option.some Jvm.ClassFile.FieldType.int), [], "min", 10)
set_option maxRecDepth 20000 in
theorem c_J9_min_7cf53 {g : zGT} {Q : zO → zH → Prop} {h : zH} (hg : zG g) {a b : Int} (ha : zR a) (hb : zR b) (k : Q (.inl (some (.int (zI (if a ≤ b then a else b))))) h) : zC g (.code yJ9_min_7cf53 cJ9_min_7cf53 2 (Option.some Jvm.ClassFile.FieldType.int)) yJ9_min_7cf53 10 0 0 [.int (zI a), .int (zI b)] h Q := by
  refine zC_of (M := mJ9_min_7cf53) (lv := [some (.int (zI a)), some (.int (zI b))]) (by decide) rfl rfl (Nat.le_of_ble_eq_true rfl) rfl rfl ?_
  refine r_iload_0 1 rfl (dd_J9_min_7cf53 0 _ _ _ rfl) ?_
  refine r_iload_1 2 rfl (dd_J9_min_7cf53 1 _ _ _ rfl) ?_
  refine r_if_icmpgt (by omega) (by omega) 5 rfl 9 rfl (dd_J9_min_7cf53 2 _ _ _ rfl) (fun hc1 => ?_) (fun hc1 => ?_)
  · refine r_iload_1 10 rfl (dd_J9_min_7cf53 5 _ _ _ rfl) ?_
    refine r_ireturn rfl rfl (dd_J9_min_7cf53 6 _ _ _ rfl) ?_
    first | exact k | (rw [if_pos (by omega)] at k; exact k) | (rw [if_neg (by omega)] at k; exact k)
  · refine r_iload_0 6 rfl (dd_J9_min_7cf53 3 _ _ _ rfl) ?_
    refine r_goto 10 rfl (dd_J9_min_7cf53 4 _ _ _ rfl) ?_
    refine r_ireturn rfl rfl (dd_J9_min_7cf53 6 _ _ _ rfl) ?_
    first | exact k | (rw [if_pos (by omega)] at k; exact k) | (rw [if_neg (by omega)] at k; exact k)

abbrev mJ9_abs_0f7a4 : zM := (RJ9, cJ9_abs_0f7a4, 1, (Option.some Jvm.ClassFile.FieldType.int), [], "abs", 10)
set_option maxRecDepth 20000 in
theorem c_J9_abs_0f7a4 {g : zGT} {Q : zO → zH → Prop} {h : zH} (hg : zG g) {a : Int} (ha : zR a) (k : Q (.inl (some (.int (zI (if a < 0 then -a else a))))) h) : zC g (.code yJ9_abs_0f7a4 cJ9_abs_0f7a4 1 (Option.some Jvm.ClassFile.FieldType.int)) yJ9_abs_0f7a4 10 0 0 [.int (zI a)] h Q := by
  refine zC_of (M := mJ9_abs_0f7a4) (lv := [some (.int (zI a))]) (by decide) rfl rfl (Nat.le_of_ble_eq_true rfl) rfl rfl ?_
  refine r_iload_0 1 rfl (dd_J9_abs_0f7a4 0 _ _ _ rfl) ?_
  refine r_ifge (by omega) 4 rfl 9 rfl (dd_J9_abs_0f7a4 1 _ _ _ rfl) (fun hc1 => ?_) (fun hc1 => ?_)
  · refine r_iload_0 10 rfl (dd_J9_abs_0f7a4 5 _ _ _ rfl) ?_
    refine r_ireturn rfl rfl (dd_J9_abs_0f7a4 6 _ _ _ rfl) ?_
    first | exact k | (rw [if_pos (by omega)] at k; exact k) | (rw [if_neg (by omega)] at k; exact k)
  · refine r_iload_0 5 rfl (dd_J9_abs_0f7a4 2 _ _ _ rfl) ?_
    refine r_ineg 6 rfl (dd_J9_abs_0f7a4 3 _ _ _ rfl) ?_
    refine r_goto 10 rfl (dd_J9_abs_0f7a4 4 _ _ _ rfl) ?_
    refine r_ireturn rfl rfl (dd_J9_abs_0f7a4 6 _ _ _ rfl) ?_
    first | exact k | (rw [if_pos (by omega)] at k; exact k) | (rw [if_neg (by omega)] at k; exact k)

abbrev mJx4a65c_size_8abf5 : zM := (RJx4a65c, cJx4a65c_size_8abf5, 1, (Option.some Jvm.ClassFile.FieldType.int), [], "size", 10)
set_option maxRecDepth 20000 in
theorem c_Jx4a65c_size_8abf5 {g : zGT} {Q : zO → zH → Prop} {h : zH} (hg : zG g) {a e : Nat} {L : List Nat} (hA : ARep g h a e L) (k : Q (.inl (some (.int (zI (L.length : Int))))) h) : zC g (.code yJx4a65c_size_8abf5 cJx4a65c_size_8abf5 1 (Option.some Jvm.ClassFile.FieldType.int)) yJx4a65c_size_8abf5 10 0 0 [.ref a] h Q := by
  refine zC_of (M := mJx4a65c_size_8abf5) (lv := [some (.ref a)]) (by decide) rfl rfl (Nat.le_of_ble_eq_true rfl) rfl rfl ?_
  refine r_aload_0 1 rfl (dd_Jx4a65c_size_8abf5 0 _ _ _ rfl) ?_
  refine r_geti hg zc_Jx4a65c 2 (by decide) (fun _ _ _ => rfl) hA.2.2.1 hA.1 (Or.inl rfl) (tb_1 93 _ rfl) 4 rfl (dd_Jx4a65c_size_8abf5 1 _ _ _ rfl) ?_
  refine r_ireturn rfl rfl (dd_Jx4a65c_size_8abf5 2 _ _ _ rfl) ?_
  exact k

abbrev mJ3_checkIndex_8e157 : zM := (RJ3, cJ3_checkIndex_8e157, 3, (Option.some Jvm.ClassFile.FieldType.int), [], "checkIndex", 10)
set_option maxRecDepth 20000 in
theorem c_J3_checkIndex_8e157 {g : zGT} {Q : zO → zH → Prop} {h : zH} (hg : zG g) {i n : Int} (hi : 0 ≤ i ∧ i < n) (hn : n ≤ 2147483647) (k : Q (.inl (some (.int (zI i)))) h) : zC g (.code yJ3_checkIndex_8e157 cJ3_checkIndex_8e157 3 (Option.some Jvm.ClassFile.FieldType.int)) yJ3_checkIndex_8e157 10 0 0 [.int (zI i), .int (zI n), .null] h Q := by
  refine zC_of (M := mJ3_checkIndex_8e157) (lv := [some (.int (zI i)), some (.int (zI n)), some (.null)]) (by decide) rfl rfl (Nat.le_of_ble_eq_true rfl) rfl rfl ?_
  refine r_iload_0 1 rfl (dd_J3_checkIndex_8e157 0 _ _ _ rfl) ?_
  refine r_iflt (by omega) 4 rfl 9 rfl (dd_J3_checkIndex_8e157 1 _ _ _ rfl) (fun hc1 => ?_) (fun hc1 => ?_)
  · exfalso; omega
  · refine r_iload_0 5 rfl (dd_J3_checkIndex_8e157 2 _ _ _ rfl) ?_
    refine r_iload_1 6 rfl (dd_J3_checkIndex_8e157 3 _ _ _ rfl) ?_
    refine r_if_icmplt (by omega) (by omega) 9 rfl 16 rfl (dd_J3_checkIndex_8e157 4 _ _ _ rfl) (fun hc2 => ?_) (fun hc2 => ?_)
    · refine r_iload_0 17 rfl (dd_J3_checkIndex_8e157 10 _ _ _ rfl) ?_
      refine r_ireturn rfl rfl (dd_J3_checkIndex_8e157 11 _ _ _ rfl) ?_
      exact k
    · exfalso; omega

abbrev mJ15_checkIndex_7cf53 : zM := (RJ15, cJ15_checkIndex_7cf53, 2, (Option.some Jvm.ClassFile.FieldType.int), [], "checkIndex", 11)
set_option maxRecDepth 20000 in
theorem c_J15_checkIndex_7cf53 {g : zGT} {Q : zO → zH → Prop} {h : zH} (hg : zG g) {i n : Int} (hi : 0 ≤ i ∧ i < n) (hn : n ≤ 2147483647) (k : Q (.inl (some (.int (zI i)))) h) : zC g (.code yJ15_checkIndex_7cf53 cJ15_checkIndex_7cf53 2 (Option.some Jvm.ClassFile.FieldType.int)) yJ15_checkIndex_7cf53 11 0 0 [.int (zI i), .int (zI n)] h Q := by
  refine zC_of (M := mJ15_checkIndex_7cf53) (lv := [some (.int (zI i)), some (.int (zI n))]) (by decide) rfl rfl (Nat.le_of_ble_eq_true rfl) rfl rfl ?_
  refine r_iload_0 1 rfl (dd_J15_checkIndex_7cf53 0 _ _ _ rfl) ?_
  refine r_iload_1 2 rfl (dd_J15_checkIndex_7cf53 1 _ _ _ rfl) ?_
  refine r_null 3 rfl (dd_J15_checkIndex_7cf53 2 _ _ _ rfl) ?_
  refine r_callS3 (lvl := 10) (mc1 := 0) (ms1 := 0) 0 0 hg rfl md_J3_checkIndex_8e157 ws_J3_checkIndex_8e157 (tb_2 44 _ rfl) (by decide) (by decide) rfl (Nat.le_of_ble_eq_true rfl) (by decide) (by decide) 6 rfl (dd_J15_checkIndex_7cf53 3 _ _ _ rfl) ?_
  refine c_J3_checkIndex_8e157 hg (by omega) (by omega) ?_
  dsimp only [zCont, Option.toList, List.cons_append, List.nil_append]
  refine r_ireturn rfl rfl (dd_J15_checkIndex_7cf53 4 _ _ _ rfl) ?_
  exact k

abbrev mJx4a65c_elementData_915e3 : zM := (RJx4a65c, cJx4a65c_elementData_915e3, 2, (Option.some (Jvm.ClassFile.FieldType.object "java/lang/Object")), [], "elementData", 10)
set_option maxRecDepth 20000 in
theorem c_Jx4a65c_elementData_915e3 {g : zGT} {Q : zO → zH → Prop} {h : zH} (hg : zG g) {a e : Nat} {L : List Nat} (hA : ARep g h a e L) {i y : Nat} (hy : L[i]? = some y) (k : Q (.inl (some (.ref y))) h) : zC g (.code yJx4a65c_elementData_915e3 cJx4a65c_elementData_915e3 2 (Option.some (Jvm.ClassFile.FieldType.object "java/lang/Object"))) yJx4a65c_elementData_915e3 10 0 0 [.ref a, .int (zI (i : Int))] h Q := by
  refine zC_of (M := mJx4a65c_elementData_915e3) (lv := [some (.ref a), some (.int (zI (i : Int)))]) (by decide) rfl rfl (Nat.le_of_ble_eq_true rfl) rfl rfl ?_
  have hi : i < L.length := (List.getElem?_eq_some_iff.mp hy).1
  have hk25 : kd_ h e = 25 := by rcases hA.2.2.2.1 with q | ⟨_, q⟩; exact q; have := hA.2.2.2.2.2.2.2 q; have := hA.2.2.2.2.1; omega
  have h9 := hA.2.2.2.2.2.1
  have h8 := hA.2.2.2.2.1
  refine r_aload_0 1 rfl (dd_Jx4a65c_elementData_915e3 0 _ _ _ rfl) ?_
  refine r_getr hg zc_Jx4a65c 1 (by decide) (fun _ _ _ => rfl) hA.2.1 hA.1 (Or.inl rfl) (tb_1 92 _ rfl) 4 rfl (dd_Jx4a65c_elementData_915e3 1 _ _ _ rfl) ?_
  refine r_iload_1 5 rfl (dd_Jx4a65c_elementData_915e3 2 _ _ _ rfl) ?_
  refine r_aaload (v := .ref y) hg hk25 (by omega) (by omega) (by have := hA.2.2.2.2.1; omega) (by rw [show ((i : Int)).toNat = i by omega, hA.2.2.2.2.2.2.1 i hi, hy]; rfl) 6 rfl (dd_Jx4a65c_elementData_915e3 3 _ _ _ rfl) ?_
  refine r_areturn rfl (by first | exact Or.inl ⟨_, rfl⟩ | exact Or.inr ⟨_, rfl⟩) (dd_Jx4a65c_elementData_915e3 4 _ _ _ rfl) ?_
  exact k

abbrev mJx4a65c_get_915e3 : zM := (RJx4a65c, cJx4a65c_get_915e3, 2, (Option.some (Jvm.ClassFile.FieldType.object "java/lang/Object")), [], "get", 12)
set_option maxRecDepth 20000 in
theorem c_Jx4a65c_get_915e3 {g : zGT} {Q : zO → zH → Prop} {h : zH} (hg : zG g) {a e : Nat} {L : List Nat} (hA : ARep g h a e L) {i y : Nat} (hy : L[i]? = some y) (k : Q (.inl (some (.ref y))) h) : zC g (.code yJx4a65c_get_915e3 cJx4a65c_get_915e3 2 (Option.some (Jvm.ClassFile.FieldType.object "java/lang/Object"))) yJx4a65c_get_915e3 12 0 0 [.ref a, .int (zI (i : Int))] h Q := by
  refine zC_of (M := mJx4a65c_get_915e3) (lv := [some (.ref a), some (.int (zI (i : Int)))]) (by decide) rfl rfl (Nat.le_of_ble_eq_true rfl) rfl rfl ?_
  have hi : i < L.length := (List.getElem?_eq_some_iff.mp hy).1
  have h9 := hA.2.2.2.2.2.1
  have h8 := hA.2.2.2.2.1
  refine r_iload_1 1 rfl (dd_Jx4a65c_get_915e3 0 _ _ _ rfl) ?_
  refine r_aload_0 2 rfl (dd_Jx4a65c_get_915e3 1 _ _ _ rfl) ?_
  refine r_geti hg zc_Jx4a65c 2 (by decide) (fun _ _ _ => rfl) hA.2.2.1 hA.1 (Or.inl rfl) (tb_1 93 _ rfl) 5 rfl (dd_Jx4a65c_get_915e3 2 _ _ _ rfl) ?_
  refine r_callS2 (lvl := 11) (mc1 := 0) (ms1 := 0) 0 0 hg rfl md_J15_checkIndex_7cf53 ws_J15_checkIndex_7cf53 (tb_2 41 _ rfl) (by decide) (by decide) rfl (Nat.le_of_ble_eq_true rfl) (by decide) (by decide) 8 rfl (dd_Jx4a65c_get_915e3 3 _ _ _ rfl) ?_
  refine c_J15_checkIndex_7cf53 hg (by omega) (by omega) ?_
  dsimp only [zCont, Option.toList, List.cons_append, List.nil_append]
  refine r_pop rfl 9 rfl (dd_Jx4a65c_get_915e3 4 _ _ _ rfl) ?_
  refine r_aload_0 10 rfl (dd_Jx4a65c_get_915e3 5 _ _ _ rfl) ?_
  refine r_iload_1 11 rfl (dd_Jx4a65c_get_915e3 6 _ _ _ rfl) ?_
  refine r_callV1 (lvl := 10) (mc1 := 0) (ms1 := 0) 0 0 hg rfl md_Jx4a65c_elementData_915e3 zc_Jx4a65c hA.1 wi_Jx4a65c_elementData_915e3 wv_Jx4a65c_elementData_915e3 (tb_2 47 _ rfl) (by decide) (by decide) rfl (Nat.le_of_ble_eq_true rfl) (by decide) (by decide) 14 rfl (dd_Jx4a65c_get_915e3 7 _ _ _ rfl) ?_
  refine c_Jx4a65c_elementData_915e3 hg hA hy ?_
  dsimp only [zCont, Option.toList, List.cons_append, List.nil_append]
  refine r_areturn rfl (by first | exact Or.inl ⟨_, rfl⟩ | exact Or.inr ⟨_, rfl⟩) (dd_Jx4a65c_get_915e3 8 _ _ _ rfl) ?_
  exact k
