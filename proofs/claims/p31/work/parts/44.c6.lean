theorem r_checkcastS {g : zGT} {M : zM} {mc ms : Nat} {Q : zO → zH → Prop} {pc : Nat} {lv : List (Option Value)} {st : List Value} {h : zH} {bc bs : Nat} {a ci : Nat} {C : String} {T : u_T} {N : Nat} {ty : Nat → FieldType} {idx : Nat} (hg : zG g) (zc : z_cls ci C T N ty) (hk : kd_ h a = ci + 1) (hcl : Cond.classLink M.1 idx C ∈ lw_tbl) (pc' : Nat) (hp : pc + 3 = pc') (d : decode M.2.1 pc = .ok (.checkcast idx, 3)) (k : zX g M mc ms Q pc' lv (.ref a :: st) h bc bs) : zX g M mc ms Q pc lv (.ref a :: st) h bc bs := by
  subst hp
  intro p e s m args below meth c F H locs cells slots ls hP hs hL hc hsl hl
  obtain ⟨z1, z2, z3, z4, z5, z6, z7⟩ := zc
  exact va_castS F.1 F.2.1 F.2.2.2.2.1 (zw hg F hcl rfl) ((zK hg F).1 ci _ z1).2 (va_recv (zK hg F) (hP.obj hk z7) z1 (q0 := 0) rfl) d (k p e s m args below meth c F H locs cells slots ls hP hs hL hc hsl hl)
theorem LRep.reown {g : zGT} {o oo oo1 : Nat → Nat} {r : Nat} {h h1 : zH} {a : Nat} {L : List Nat} (x : LRep g oo1 1 h1 a L) (s : zStep (fun q => q = 1) oo h oo1 h1) (ha : kd_ h a = 3) (hoa : o a = r) (hown : ∀ y, kd_ h y ≠ 0 → oo y = 1 → y = a ∨ kd_ h y = 25 ∧ o y = r) : LRep g (fun y => if kd_ h y = 0 then r else o y) r h1 a L ∧ zStep (fun q => q = r) o h (fun y => if kd_ h y = 0 then r else o y) h1 ∧ ∀ y, kd_ h y ≠ 0 → y ≠ a → kd_ h y ≠ 25 → zSm h h1 y := by
  obtain ⟨x1, x2, x3, x4, x5⟩ := x
  refine ⟨⟨x1, by show (if kd_ h a = 0 then r else o a) = r; rw [if_neg (by omega)]; exact hoa, x3, x4, ?_⟩, ⟨fun y hy h0 => ?_, fun y h0 => ⟨if_neg h0, (s.2 y h0).2⟩⟩, fun y h0 hya h25 => ?_⟩
  · rcases x5 with q | ⟨e, y1, y2, y3, y4, y5, y6, y7⟩
    · exact Or.inl q
    · refine Or.inr ⟨e, y1, y2, ?_, y4, y5, y6, y7⟩
      show (if kd_ h e = 0 then r else o e) = r
      by_cases h0 : kd_ h e = 0
      · rw [if_pos h0]
      · rw [if_neg h0]
        obtain ⟨s1, s2⟩ := s.2 e h0
        rcases hown e h0 (s1.symm.trans y3) with q | q
        · subst q; omega
        · exact q.2
  · refine s.1 y (fun q => ?_) h0
    rcases hown y h0 q with q | q
    · subst q; exact hy hoa
    · exact hy q.2
  · refine s.1 y (fun q => ?_) h0
    rcases hown y h0 q with q | q
    · exact hya q
    · exact h25 q.1
theorem LRep.alone {g : zGT} {o : Nat → Nat} {r : Nat} {h : zH} {a : Nat} {L : List Nat} (x : LRep g o r h a L) : ∃ oo, LRep g oo 1 h a L ∧ ∀ y, kd_ h y ≠ 0 → oo y = 1 → y = a ∨ kd_ h y = 25 ∧ o y = r := by
  obtain ⟨x1, x2, x3, x4, x5⟩ := x
  rcases x5 with q | ⟨e, y1, y2, y3, y4⟩
  · exact ⟨zo1 a, ⟨x1, if_pos rfl, x3, x4, Or.inl q⟩, fun y _ hy => Or.inl (by
      by_cases h1 : y = a
      · exact h1
      · rw [show zo1 a y = 0 from if_neg h1] at hy; cases hy)⟩
  · refine ⟨fun y => if y = a ∨ y = e then 1 else 0, ⟨x1, if_pos (Or.inl rfl), x3, x4, Or.inr ⟨e, y1, y2, if_pos (Or.inr rfl), y4⟩⟩, fun y _ hy => ?_⟩
    by_cases h1 : y = a ∨ y = e
    · rcases h1 with h1 | h1
      · exact Or.inl h1
      · exact Or.inr (by rw [h1]; exact ⟨y2, y3⟩)
    · exact absurd hy (by show ¬ (if y = a ∨ y = e then 1 else 0) = 1; rw [if_neg h1]; decide)
theorem c_addAt {g : zGT} {Q : zO → zH → Prop} {h : zH} (hg : zG g) {ci : Nat} {C : String} {T : u_T} {N : Nat} {ty : Nat → FieldType} (zc : z_cls ci C T N ty) (hca : Cond.castable C "java/lang/Object" ∈ lw_tbl) {mi : Nat} (hm : zMi g mi) {o : Nat → Nat} {r a : Nat} {L : List Nat} (hA : LRep g o r h a L) (hl40 : L.length < 40) (hel : ∀ z, z ∈ L → kd_ h z = ci + 1) {y : Nat} (hy : kd_ h y = ci + 1) {i : Nat} (hi : i ≤ L.length) (k : ∀ o1 h1, LRep g o1 r h1 a (L.take i ++ y :: L.drop i) → zStep (fun q => q = r) o h o1 h1 → (∀ y, kd_ h y ≠ 0 → y ≠ a → kd_ h y ≠ 25 → zSm h h1 y) → Q (.inl none) h1) : zC g (.code yJx4a65c_add_7a177 cJx4a65c_add_7a177 5 (Option.none : Option Jvm.ClassFile.FieldType)) yJx4a65c_add_7a177 16 1 100 [.ref a, .int (zI (i : Int)), .ref y] h Q := by
  obtain ⟨oo, q1, q2⟩ := hA.alone
  refine c_Jx4a65c_add_7a177 hg zc hca hm q1 hl40 hel hy hi (fun o1 h1 q3 q4 => ?_)
  obtain ⟨z1, z2, z3⟩ := q3.reown (r := r) q4 hA.1 hA.2.1 q2
  exact k _ h1 z1 z2 z3
abbrev mX4_size : zM := (RX4, cX4_size, 1, (Option.some Jvm.ClassFile.FieldType.int), [], "size", 13)
set_option maxRecDepth 20000 in
theorem c_X4_size {g : zGT} {Q : zO → zH → Prop} {h : zH} (hg : zG g) {o : Nat → Nat} {r a l : Nat} {L : List Nat} (hk : kd_ h a = 8) (hf : fr_ h a 2 = some l) (hL : LRep g o r h l L) (k : Q (.inl (some (.int (zI (L.length : Int))))) h) : zC g (.code yX4_size cX4_size 1 (Option.some Jvm.ClassFile.FieldType.int)) yX4_size 13 0 0 [.ref a] h Q := by
  refine zC_of (M := mX4_size) (lv := [some (.ref a)]) (by decide) rfl rfl (Nat.le_of_ble_eq_true rfl) rfl rfl ?_
  refine r_aload_0 1 rfl (dd_X4_size 0 _ _ _ rfl) ?_
  refine r_getr hg zc_X4 2 (by decide) (fun _ _ _ => rfl) hf hk (Or.inl rfl) (tb_2 84 _ rfl) 4 rfl (dd_X4_size 1 _ _ _ rfl) ?_
  refine r_callV0 (lvl := 10) (mc1 := 0) (ms1 := 0) 0 0 hg rfl md_Jx4a65c_size_8abf5 zc_Jx4a65c hL.1 wi_Jx4a65c_size_8abf5 wv_Jx4a65c_size_8abf5 (tb_3 40 _ rfl) (by decide) (by decide) rfl (Nat.le_of_ble_eq_true rfl) (Nat.le_of_ble_eq_true rfl) (Nat.le_of_ble_eq_true rfl) 7 rfl (dd_X4_size 2 _ _ _ rfl) ?_
  refine c_Jx4a65c_size_8abf5 hg hL ?_
  dsimp only [zCont, Option.toList, List.cons_append, List.nil_append]
  refine r_ireturn rfl rfl (dd_X4_size 3 _ _ _ rfl) ?_
  exact k

abbrev mX4_at : zM := (RX4, cX4_at, 2, (Option.some (Jvm.ClassFile.FieldType.object "Platehall$Event")), [], "at", 13)
set_option maxRecDepth 20000 in
theorem c_X4_at {g : zGT} {Q : zO → zH → Prop} {h : zH} (hg : zG g) {o : Nat → Nat} {r a l : Nat} {L : List Nat} (hk : kd_ h a = 8) (hf : fr_ h a 2 = some l) (hL : LRep g o r h l L) {j e : Nat} (he : L[j]? = some e) (hke : kd_ h e = 6) (k : Q (.inl (some (.ref e))) h) : zC g (.code yX4_at cX4_at 2 (Option.some (Jvm.ClassFile.FieldType.object "Platehall$Event"))) yX4_at 13 0 0 [.ref a, .int (zI (j : Int))] h Q := by
  refine zC_of (M := mX4_at) (lv := [some (.ref a), some (.int (zI (j : Int)))]) (by decide) rfl rfl (Nat.le_of_ble_eq_true rfl) rfl rfl ?_
  refine r_aload_0 1 rfl (dd_X4_at 0 _ _ _ rfl) ?_
  refine r_getr hg zc_X4 2 (by decide) (fun _ _ _ => rfl) hf hk (Or.inl rfl) (tb_2 84 _ rfl) 4 rfl (dd_X4_at 1 _ _ _ rfl) ?_
  refine r_iload_1 5 rfl (dd_X4_at 2 _ _ _ rfl) ?_
  refine r_callV1 (lvl := 12) (mc1 := 0) (ms1 := 0) 0 0 hg rfl md_Jx4a65c_get_915e3 zc_Jx4a65c hL.1 wi_Jx4a65c_get_915e3 wv_Jx4a65c_get_915e3 (tb_3 72 _ rfl) (by decide) (by decide) rfl (Nat.le_of_ble_eq_true rfl) (Nat.le_of_ble_eq_true rfl) (Nat.le_of_ble_eq_true rfl) 8 rfl (dd_X4_at 3 _ _ _ rfl) ?_
  refine c_Jx4a65c_get_915e3 hg hL (i := j) (y := e) he ?_
  dsimp only [zCont, Option.toList, List.cons_append, List.nil_append]
  refine r_checkcastS hg zc_X2 hke (tb_3 73 _ rfl) 11 rfl (dd_X4_at 4 _ _ _ rfl) ?_
  refine r_areturn rfl (by first | exact Or.inl ⟨_, rfl⟩ | exact Or.inr ⟨_, rfl⟩) (dd_X4_at 5 _ _ _ rfl) ?_
  exact k

abbrev mX4_endOf : zM := (RX4, cX4_endOf, 3, (Option.some Jvm.ClassFile.FieldType.int), [], "endOf", 13)
set_option maxRecDepth 20000 in
theorem c_X4_endOf {g : zGT} {Q : zO → zH → Prop} {h : zH} (hg : zG g) {n : Nat} {o : Nat → Nat} {r a t l v : Nat} {S : zS} {L : List Nat} {B : Nat → Nat} (hI : MInv n S) (x : HPart g o r h a t l S v L B L.length) {j : Nat} (hj : j < L.length) {T : Int} (hT : zR T) (k : Q (.inl (some (.int (zI (zB (fun i => S.2 11 (30 * v + i)) L.length T (j + 1) - 1))))) h) : zC g (.code yX4_endOf cX4_endOf 3 (Option.some Jvm.ClassFile.FieldType.int)) yX4_endOf 13 0 0 [.ref a, .int (zI (j : Int)), .int (zI T)] h Q := by
  refine zC_of (M := mX4_endOf) (lv := [some (.ref a), some (.int (zI (j : Int))), some (.int (zI T))]) (by decide) rfl rfl (Nat.le_of_ble_eq_true rfl) rfl rfl ?_
  obtain ⟨x1, x2, x3, x4, x5, x6, x7, x8, x9, x10, x11, x12⟩ := id x
  refine r_iload_1 1 rfl (dd_X4_endOf 0 _ _ _ rfl) ?_
  refine r_iconst 2 rfl (dd_X4_endOf 1 _ _ _ rfl) ?_
  refine r_iadd 3 rfl (dd_X4_endOf 2 _ _ _ rfl) ?_
  refine r_aload_0 4 rfl (dd_X4_endOf 3 _ _ _ rfl) ?_
  refine r_getr hg zc_X4 2 (by decide) (fun _ _ _ => rfl) x6 x1 (Or.inl rfl) (tb_2 84 _ rfl) 7 rfl (dd_X4_endOf 4 _ _ _ rfl) ?_
  refine r_callV0 (lvl := 10) (mc1 := 0) (ms1 := 0) 0 0 hg rfl md_Jx4a65c_size_8abf5 zc_Jx4a65c x7.1 wi_Jx4a65c_size_8abf5 wv_Jx4a65c_size_8abf5 (tb_3 40 _ rfl) (by decide) (by decide) rfl (Nat.le_of_ble_eq_true rfl) (Nat.le_of_ble_eq_true rfl) (Nat.le_of_ble_eq_true rfl) 10 rfl (dd_X4_endOf 5 _ _ _ rfl) ?_
  refine c_Jx4a65c_size_8abf5 hg x7 ?_
  dsimp only [zCont, Option.toList, List.cons_append, List.nil_append]
  refine r_if_icmpge (by omega) (by omega) 13 rfl 34 rfl (dd_X4_endOf 6 _ _ _ rfl) (fun hc1 => ?_) (fun hc1 => ?_)
  · refine r_iload_2 35 rfl (dd_X4_endOf 18 _ _ _ rfl) ?_
    refine r_top (zB (fun i => S.2 11 (30 * v + i)) L.length T (j + 1) - 1) (congrArg zI (by unfold zB; first | (rw [if_pos (by omega)]) | (rw [if_neg (by omega)]; omega))) ?_
    refine r_ireturn rfl rfl (dd_X4_endOf 19 _ _ _ rfl) ?_
    exact k
  · refine r_aload_0 14 rfl (dd_X4_endOf 7 _ _ _ rfl) ?_
    refine r_getr hg zc_X4 2 (by decide) (fun _ _ _ => rfl) x6 x1 (Or.inl rfl) (tb_2 84 _ rfl) 17 rfl (dd_X4_endOf 8 _ _ _ rfl) ?_
    refine r_iload_1 18 rfl (dd_X4_endOf 9 _ _ _ rfl) ?_
    refine r_iconst 19 rfl (dd_X4_endOf 10 _ _ _ rfl) ?_
    refine r_iadd 20 rfl (dd_X4_endOf 11 _ _ _ rfl) ?_
    refine r_top ((j + 1 : Nat) : Int) (congrArg zI (by omega)) ?_
    obtain ⟨e, he⟩ : ∃ e, L[j + 1]? = some e := ⟨L[j + 1], List.getElem?_eq_getElem (by omega)⟩
    obtain ⟨⟨y1, y2, y3, y4, y5⟩, z2, z3, z4, z5, z6⟩ := x10 (j + 1) e he
    have hdr := hI.day (30 * v + (j + 1))
    refine r_callV1 (lvl := 12) (mc1 := 0) (ms1 := 0) 0 0 hg rfl md_Jx4a65c_get_915e3 zc_Jx4a65c x7.1 wi_Jx4a65c_get_915e3 wv_Jx4a65c_get_915e3 (tb_3 72 _ rfl) (by decide) (by decide) rfl (Nat.le_of_ble_eq_true rfl) (Nat.le_of_ble_eq_true rfl) (Nat.le_of_ble_eq_true rfl) 23 rfl (dd_X4_endOf 12 _ _ _ rfl) ?_
    refine c_Jx4a65c_get_915e3 hg x7 (i := (j + 1)) (y := e) he ?_
    dsimp only [zCont, Option.toList, List.cons_append, List.nil_append]
    refine r_checkcastS hg zc_X2 y1 (tb_3 73 _ rfl) 26 rfl (dd_X4_endOf 13 _ _ _ rfl) ?_
    refine r_geti hg zc_X2 2 (by decide) (fun _ _ _ => rfl) y5 y1 (Or.inl rfl) (tb_3 54 _ rfl) 29 rfl (dd_X4_endOf 14 _ _ _ rfl) ?_
    refine r_iconst 30 rfl (dd_X4_endOf 15 _ _ _ rfl) ?_
    refine r_isub 31 rfl (dd_X4_endOf 16 _ _ _ rfl) ?_
    refine r_goto 35 rfl (dd_X4_endOf 17 _ _ _ rfl) ?_
    refine r_top (zB (fun i => S.2 11 (30 * v + i)) L.length T (j + 1) - 1) (congrArg zI (by unfold zB; first | (rw [if_pos (by omega)]) | (rw [if_neg (by omega)]; omega))) ?_
    refine r_ireturn rfl rfl (dd_X4_endOf 19 _ _ _ rfl) ?_
    exact k

abbrev mX4_standingOn : zM := (RX4, cX4_standingOn, 3, (Option.some (Jvm.ClassFile.FieldType.object "Platehall$Standing")), [], "standingOn", 13)
set_option maxRecDepth 20000 in
theorem c_X4_standingOn {g : zGT} {Q : zO → zH → Prop} {h : zH} (hg : zG g) {o : Nat → Nat} {r a t l v : Nat} {S : zS} {L : List Nat} {B : Nat → Nat} {n : Nat} (hI : MInv n S) (hs : SDay S v) (x : HPart g o r h a t l S v L B L.length) {w : Int} (hw : zR w) (k : ∀ b, StRep o r h b S v (zev S v w) → Q (.inl (some (.ref b))) h) : zC g (.code yX4_standingOn cX4_standingOn 3 (Option.some (Jvm.ClassFile.FieldType.object "Platehall$Standing"))) yX4_standingOn 13 0 0 [.ref a, .int (zI w)] h Q := by
  refine zC_of (M := mX4_standingOn) (lv := [some (.ref a), some (.int (zI w)), none]) (by decide) rfl rfl (Nat.le_of_ble_eq_true rfl) rfl rfl ?_
  obtain ⟨x1, x2, x3, x4, x5, x6, x7, x8, x9, x10, x11, x12⟩ := id x
  refine r_aload_0 1 rfl (dd_X4_standingOn 0 _ _ _ rfl) ?_
  refine r_getr hg zc_X4 2 (by decide) (fun _ _ _ => rfl) x6 x1 (Or.inl rfl) (tb_2 84 _ rfl) 4 rfl (dd_X4_standingOn 1 _ _ _ rfl) ?_
  refine r_callV0 (lvl := 10) (mc1 := 0) (ms1 := 0) 0 0 hg rfl md_Jx4a65c_size_8abf5 zc_Jx4a65c x7.1 wi_Jx4a65c_size_8abf5 wv_Jx4a65c_size_8abf5 (tb_3 40 _ rfl) (by decide) (by decide) rfl (Nat.le_of_ble_eq_true rfl) (Nat.le_of_ble_eq_true rfl) (Nat.le_of_ble_eq_true rfl) 7 rfl (dd_X4_standingOn 2 _ _ _ rfl) ?_
  refine c_Jx4a65c_size_8abf5 hg x7 ?_
  dsimp only [zCont, Option.toList, List.cons_append, List.nil_append]
  refine r_iconst 8 rfl (dd_X4_standingOn 3 _ _ _ rfl) ?_
  refine r_isub 9 rfl (dd_X4_standingOn 4 _ _ _ rfl) ?_
  refine r_istore_2 10 rfl (by decide) rfl (dd_X4_standingOn 5 _ _ _ rfl) ?_
  have L10 : ∀ (tt : Nat), ∀ (j : Nat) (b : Int), j < tt → (j ≤ L.length) → (b = (j : Int) - 1) → (∀ i, j ≤ i → i < L.length → w < S.2 11 (30 * v + i)) → zX g mX4_standingOn 0 0 Q 10 [some (.ref a), some (.int (zI w)), some (.int (zI b))] [] h 0 0 := by
    intro tt10
    induction tt10 with
    | zero => intros; exfalso; omega
    | succ tt10 ih10 =>
      intro j b hlt10 hj hb hn
      refine r_iload_2 11 rfl (dd_X4_standingOn 6 _ _ _ rfl) ?_
      refine r_iflt (by omega) 14 rfl 53 rfl (dd_X4_standingOn 7 _ _ _ rfl) (fun hc1 => ?_) (fun hc1 => ?_)
      · refine r_aload_0 54 rfl (dd_X4_standingOn 25 _ _ _ rfl) ?_
        refine r_getr hg zc_X4 1 (by decide) (fun _ _ _ => rfl) x4 x1 (Or.inl rfl) (tb_2 83 _ rfl) 57 rfl (dd_X4_standingOn 26 _ _ _ rfl) ?_
        refine r_areturn rfl (by first | exact Or.inl ⟨_, rfl⟩ | exact Or.inr ⟨_, rfl⟩) (dd_X4_standingOn 27 _ _ _ rfl) ?_
        obtain rfl : j = 0 := (by omega)
        have hz : zev S v w = 0 := zev_first (by omega) (fun q => hn 0 (by omega) (by omega))
        exact k t (by rw [hz]; exact x5)
      · obtain ⟨j, rfl⟩ : ∃ i, j = i + 1 := ⟨j - 1, by omega⟩
        obtain ⟨e, he⟩ : ∃ e, L[j]? = some e := ⟨L[j], List.getElem?_eq_getElem (by omega)⟩
        obtain ⟨⟨y1, y2, y3, y4, y5⟩, z2, z3, z4, z5, z6⟩ := x10 j e he
        have hdr := hI.day (30 * v + j)
        refine r_aload_0 15 rfl (dd_X4_standingOn 8 _ _ _ rfl) ?_
        refine r_getr hg zc_X4 2 (by decide) (fun _ _ _ => rfl) x6 x1 (Or.inl rfl) (tb_2 84 _ rfl) 18 rfl (dd_X4_standingOn 9 _ _ _ rfl) ?_
        refine r_iload_2 19 rfl (dd_X4_standingOn 10 _ _ _ rfl) ?_
        refine r_top ((j : Nat) : Int) (congrArg zI (by omega)) ?_
        refine r_callV1 (lvl := 12) (mc1 := 0) (ms1 := 0) 0 0 hg rfl md_Jx4a65c_get_915e3 zc_Jx4a65c x7.1 wi_Jx4a65c_get_915e3 wv_Jx4a65c_get_915e3 (tb_3 72 _ rfl) (by decide) (by decide) rfl (Nat.le_of_ble_eq_true rfl) (Nat.le_of_ble_eq_true rfl) (Nat.le_of_ble_eq_true rfl) 22 rfl (dd_X4_standingOn 11 _ _ _ rfl) ?_
        refine c_Jx4a65c_get_915e3 hg x7 (i := j) (y := e) he ?_
        dsimp only [zCont, Option.toList, List.cons_append, List.nil_append]
        refine r_checkcastS hg zc_X2 y1 (tb_3 73 _ rfl) 25 rfl (dd_X4_standingOn 12 _ _ _ rfl) ?_
        refine r_geti hg zc_X2 2 (by decide) (fun _ _ _ => rfl) y5 y1 (Or.inl rfl) (tb_3 54 _ rfl) 28 rfl (dd_X4_standingOn 13 _ _ _ rfl) ?_
        refine r_iload_1 29 rfl (dd_X4_standingOn 14 _ _ _ rfl) ?_
        refine r_if_icmpgt (by omega) (by omega) 32 rfl 47 rfl (dd_X4_standingOn 15 _ _ _ rfl) (fun hc2 => ?_) (fun hc2 => ?_)
        · refine r_iinc_2 50 rfl (by decide) rfl (dd_X4_standingOn 23 _ _ _ rfl) ?_
          refine r_goto 10 rfl (dd_X4_standingOn 24 _ _ _ rfl) ?_
          exact r_sub _ (z_s1 (z_s1 (z_s1 z_sN))) (ih10 j _ (by omega) (by omega) (by omega) (fun i h1 h2 => by by_cases hq : i = j; (subst hq; omega); exact hn i (by omega) h2))
        · refine r_aload_0 33 rfl (dd_X4_standingOn 16 _ _ _ rfl) ?_
          refine r_getr hg zc_X4 2 (by decide) (fun _ _ _ => rfl) x6 x1 (Or.inl rfl) (tb_2 84 _ rfl) 36 rfl (dd_X4_standingOn 17 _ _ _ rfl) ?_
          refine r_iload_2 37 rfl (dd_X4_standingOn 18 _ _ _ rfl) ?_
          refine r_top ((j : Nat) : Int) (congrArg zI (by omega)) ?_
          refine r_callV1 (lvl := 12) (mc1 := 0) (ms1 := 0) 0 0 hg rfl md_Jx4a65c_get_915e3 zc_Jx4a65c x7.1 wi_Jx4a65c_get_915e3 wv_Jx4a65c_get_915e3 (tb_3 72 _ rfl) (by decide) (by decide) rfl (Nat.le_of_ble_eq_true rfl) (Nat.le_of_ble_eq_true rfl) (Nat.le_of_ble_eq_true rfl) 40 rfl (dd_X4_standingOn 19 _ _ _ rfl) ?_
          refine c_Jx4a65c_get_915e3 hg x7 (i := j) (y := e) he ?_
          dsimp only [zCont, Option.toList, List.cons_append, List.nil_append]
          refine r_checkcastS hg zc_X2 y1 (tb_3 73 _ rfl) 43 rfl (dd_X4_standingOn 20 _ _ _ rfl) ?_
          refine r_getr hg zc_X2 3 (by decide) (fun _ _ _ => rfl) z2 y1 (Or.inl rfl) (tb_3 57 _ rfl) 46 rfl (dd_X4_standingOn 21 _ _ _ rfl) ?_
          refine r_areturn rfl (by first | exact Or.inl ⟨_, rfl⟩ | exact Or.inr ⟨_, rfl⟩) (dd_X4_standingOn 22 _ _ _ rfl) ?_
          have hz : zev S v w = j + 1 := zev_between hs (by omega) (by omega) (fun q => hn (j + 1) (by omega) (by omega))
          exact k (B e) (by rw [hz]; exact z6 (by omega))
  exact r_sub _ (z_s1 (z_s1 (z_s1 z_sN))) (L10 1000000 L.length _ (by omega) (by omega) rfl (fun i h1 h2 => absurd h1 (by omega)))

abbrev mX4_replayedTo : zM := (RX4, cX4_replayedTo, 4, (Option.some (Jvm.ClassFile.FieldType.object "Platehall$Standing")), [], "replayedTo", 13)
set_option maxRecDepth 20000 in
theorem c_X4_replayedTo {g : zGT} {Q : zO → zH → Prop} {h : zH} (hg : zG g) {o : Nat → Nat} {r a t l v : Nat} {S : zS} {L : List Nat} {B : Nat → Nat} {n : Nat} (hI : MInv n S) (x : HPart g o r h a t l S v L B L.length) (hr : ¬ r = 15) {w : Int} (hw : zR w) (k : ∀ b o1 h1, StRep o1 15 h1 b S v (zev S v w) → zStep (fun q => q = 15) o h o1 h1 → Q (.inl (some (.ref b))) h1) : zC g (.code yX4_replayedTo cX4_replayedTo 4 (Option.some (Jvm.ClassFile.FieldType.object "Platehall$Standing"))) yX4_replayedTo 13 1 5 [.ref a, .int (zI w)] h Q := by
  refine zC_of (M := mX4_replayedTo) (lv := [some (.ref a), some (.int (zI w)), none, none]) (by decide) rfl rfl (Nat.le_of_ble_eq_true rfl) rfl rfl ?_
  obtain ⟨x1, x2, x3, x4, x5, x6, x7, x8, x9, x10, x11, x12⟩ := id x
  refine r_new 0 0 hg zc_X8 (tb_2 57 _ rfl) (tb_2 58 _ rfl) (tb_1 17 _ rfl) (Nat.le_of_ble_eq_true rfl) (Nat.le_of_ble_eq_true rfl) zd_X8 3 rfl (dd_X4_replayedTo 0 _ _ _ rfl) (fun b hz_b => ?_)
  refine r_dup rfl 4 rfl (dd_X4_replayedTo 1 _ _ _ rfl) ?_
  refine r_aload_0 5 rfl (dd_X4_replayedTo 2 _ _ _ rfl) ?_
  refine r_geti hg zc_X4 0 (by decide) (fun _ _ _ => rfl) (show fi_ (nob h b 11) a 0 = S.2 7 v from (if_neg (fun q => by rw [q, hz_b] at x1; cases x1)).trans x3) (show kd_ (nob h b 11) a = 8 from (zu1_ne (fun q => by rw [q, hz_b] at x1; cases x1)).trans x1) (Or.inl rfl) (tb_2 82 _ rfl) 8 rfl (dd_X4_replayedTo 3 _ _ _ rfl) ?_
  refine r_callI1 (lvl := 10) (mc1 := 0) (ms1 := 0) 0 0 hg rfl md_X8_init wi_X8_init rfl rfl (tb_2 59 _ rfl) (by decide) (by decide) rfl (Nat.le_of_ble_eq_true rfl) (Nat.le_of_ble_eq_true rfl) (Nat.le_of_ble_eq_true rfl) 11 rfl (dd_X4_replayedTo 4 _ _ _ rfl) ?_
  refine c_X8_init (o := zu1 o b 15) (r := 15) hg zu1_at zu1_at (fun h2 q0 q1 q2 q3 q4 q5 => ?_)
  have hst : zStep (fun q => q = 15) o h (zu1 o b 15) h2 := (step_nob hz_b).trans q5
  have hsb : StRep (zu1 o b 15) 15 h2 b S v 0 := ⟨q5.kd zu1_at (by omega), zu1_at, q0, q1, q2, q3, q4⟩
  clear q0 q1 q2 q3 q4 q5
  generalize zu1 o b 15 = o2 at hst hsb
  dsimp only [zCont, Option.toList, List.cons_append, List.nil_append]
  refine r_astore_2 12 rfl (by decide) rfl (dd_X4_replayedTo 5 _ _ _ rfl) ?_
  refine r_iconst 13 rfl (dd_X4_replayedTo 6 _ _ _ rfl) ?_
  refine r_istore_3 14 rfl (by decide) rfl (dd_X4_replayedTo 7 _ _ _ rfl) ?_
  have L14 : ∀ (tt : Nat), ∀ (j : Nat) (c : Int) (h4 : zH) (o4 : Nat → Nat), 100 - j < tt → (j ≤ L.length) → (c = j) → (zStep (fun q => q = 15) o h o4 h4) → (StRep o4 15 h4 b S v j) → (∀ i, i < j → S.2 11 (30 * v + i) ≤ w) → zX g mX4_replayedTo 1 5 Q 14 [some (.ref a), some (.int (zI w)), some (.ref b), some (.int (zI c))] [] h4 0 0 := by
    intro tt14
    induction tt14 with
    | zero => intros; exfalso; omega
    | succ tt14 ih14 =>
      intro j c h4 o4 hlt14 hj hc hst hsb hall
      subst hc
      have x := x.fr (hst.fr hr)
      obtain ⟨x1, x2, x3, x4, x5, x6, x7, x8, x9, x10, x11, x12⟩ := id x
      refine r_iload_3 15 rfl (dd_X4_replayedTo 8 _ _ _ rfl) ?_
      refine r_aload_0 16 rfl (dd_X4_replayedTo 9 _ _ _ rfl) ?_
      refine r_getr hg zc_X4 2 (by decide) (fun _ _ _ => rfl) x6 x1 (Or.inl rfl) (tb_2 84 _ rfl) 19 rfl (dd_X4_replayedTo 10 _ _ _ rfl) ?_
      refine r_callV0 (lvl := 10) (mc1 := 0) (ms1 := 0) 0 0 hg rfl md_Jx4a65c_size_8abf5 zc_Jx4a65c x7.1 wi_Jx4a65c_size_8abf5 wv_Jx4a65c_size_8abf5 (tb_3 40 _ rfl) (by decide) (by decide) rfl (Nat.le_of_ble_eq_true rfl) (Nat.le_of_ble_eq_true rfl) (Nat.le_of_ble_eq_true rfl) 22 rfl (dd_X4_replayedTo 11 _ _ _ rfl) ?_
      refine c_Jx4a65c_size_8abf5 hg x7 ?_
      dsimp only [zCont, Option.toList, List.cons_append, List.nil_append]
      refine r_if_icmpge (by omega) (by omega) 25 rfl 64 rfl (dd_X4_replayedTo 12 _ _ _ rfl) (fun hc1 => ?_) (fun hc1 => ?_)
      · refine r_aload_2 65 rfl (dd_X4_replayedTo 30 _ _ _ rfl) ?_
        refine r_areturn rfl (by first | exact Or.inl ⟨_, rfl⟩ | exact Or.inr ⟨_, rfl⟩) (dd_X4_replayedTo 31 _ _ _ rfl) ?_
        have hz : zev S v w = j := zev_eq (by omega) hall (fun q => by first | omega | (have := x.2.2.2.2.2.2.2.1; omega))
        exact k b _ _ (by rw [hz]; exact hsb) hst
      · obtain ⟨e, he⟩ : ∃ e, L[j]? = some e := ⟨L[j], List.getElem?_eq_getElem (by omega)⟩
        obtain ⟨⟨y1, y2, y3, y4, y5⟩, z2, z3, z4, z5, z6⟩ := x10 j e he
        have hdr := hI.day (30 * v + j)
        refine r_aload_0 26 rfl (dd_X4_replayedTo 13 _ _ _ rfl) ?_
        refine r_getr hg zc_X4 2 (by decide) (fun _ _ _ => rfl) x6 x1 (Or.inl rfl) (tb_2 84 _ rfl) 29 rfl (dd_X4_replayedTo 14 _ _ _ rfl) ?_
        refine r_iload_3 30 rfl (dd_X4_replayedTo 15 _ _ _ rfl) ?_
        refine r_callV1 (lvl := 12) (mc1 := 0) (ms1 := 0) 0 0 hg rfl md_Jx4a65c_get_915e3 zc_Jx4a65c x7.1 wi_Jx4a65c_get_915e3 wv_Jx4a65c_get_915e3 (tb_3 72 _ rfl) (by decide) (by decide) rfl (Nat.le_of_ble_eq_true rfl) (Nat.le_of_ble_eq_true rfl) (Nat.le_of_ble_eq_true rfl) 33 rfl (dd_X4_replayedTo 16 _ _ _ rfl) ?_
        refine c_Jx4a65c_get_915e3 hg x7 (i := j) (y := e) he ?_
        dsimp only [zCont, Option.toList, List.cons_append, List.nil_append]
        refine r_checkcastS hg zc_X2 y1 (tb_3 73 _ rfl) 36 rfl (dd_X4_replayedTo 17 _ _ _ rfl) ?_
        refine r_geti hg zc_X2 2 (by decide) (fun _ _ _ => rfl) y5 y1 (Or.inl rfl) (tb_3 54 _ rfl) 39 rfl (dd_X4_replayedTo 18 _ _ _ rfl) ?_
        refine r_iload_1 40 rfl (dd_X4_replayedTo 19 _ _ _ rfl) ?_
        refine r_if_icmpgt (by omega) (by omega) 43 rfl 64 rfl (dd_X4_replayedTo 20 _ _ _ rfl) (fun hc2 => ?_) (fun hc2 => ?_)
        · refine r_aload_2 65 rfl (dd_X4_replayedTo 30 _ _ _ rfl) ?_
          refine r_areturn rfl (by first | exact Or.inl ⟨_, rfl⟩ | exact Or.inr ⟨_, rfl⟩) (dd_X4_replayedTo 31 _ _ _ rfl) ?_
          have hz : zev S v w = j := zev_eq (by omega) hall (fun q => by first | omega | (have := x.2.2.2.2.2.2.2.1; omega))
          exact k b _ _ (by rw [hz]; exact hsb) hst
        · refine r_aload_2 44 rfl (dd_X4_replayedTo 21 _ _ _ rfl) ?_
          refine r_aload_0 45 rfl (dd_X4_replayedTo 22 _ _ _ rfl) ?_
          refine r_getr hg zc_X4 2 (by decide) (fun _ _ _ => rfl) x6 x1 (Or.inl rfl) (tb_2 84 _ rfl) 48 rfl (dd_X4_replayedTo 23 _ _ _ rfl) ?_
          refine r_iload_3 49 rfl (dd_X4_replayedTo 24 _ _ _ rfl) ?_
          refine r_callV1 (lvl := 12) (mc1 := 0) (ms1 := 0) 0 0 hg rfl md_Jx4a65c_get_915e3 zc_Jx4a65c x7.1 wi_Jx4a65c_get_915e3 wv_Jx4a65c_get_915e3 (tb_3 72 _ rfl) (by decide) (by decide) rfl (Nat.le_of_ble_eq_true rfl) (Nat.le_of_ble_eq_true rfl) (Nat.le_of_ble_eq_true rfl) 52 rfl (dd_X4_replayedTo 25 _ _ _ rfl) ?_
          refine c_Jx4a65c_get_915e3 hg x7 (i := j) (y := e) he ?_
          dsimp only [zCont, Option.toList, List.cons_append, List.nil_append]
          refine r_checkcastS hg zc_X2 y1 (tb_3 73 _ rfl) 55 rfl (dd_X4_replayedTo 26 _ _ _ rfl) ?_
          refine r_callV1 (lvl := 11) (mc1 := 0) (ms1 := 0) 0 0 hg rfl md_X8_follow zc_X8 hsb.1 wi_X8_follow wv_X8_follow (tb_4 103 _ rfl) (by decide) (by decide) rfl (Nat.le_of_ble_eq_true rfl) (Nat.le_of_ble_eq_true rfl) (Nat.le_of_ble_eq_true rfl) 58 rfl (dd_X4_replayedTo 27 _ _ _ rfl) ?_
          refine c_X8_follow (o := o4) (r := 15) hg hI hsb (o2 := o4) (r2 := r) ⟨y1, y2, y3, y4, y5⟩ (fun h5 q1 q2 => ?_)
          dsimp only [zCont, Option.toList, List.cons_append, List.nil_append]
          refine r_iinc_3 61 rfl (by decide) rfl (dd_X4_replayedTo 28 _ _ _ rfl) ?_
          refine r_goto 14 rfl (dd_X4_replayedTo 29 _ _ _ rfl) ?_
          exact r_sub _ (z_s1 (z_s1 (z_s1 (z_s1 z_sN)))) (ih14 (j + 1) _ _ o4 (by have := x.2.2.2.2.2.2.2.2.1; omega) (by omega) (by omega) (hst.trans q2) q1 (lt_s hall (by omega)))
  exact r_sub _ (z_s1 (z_s1 (z_s1 (z_s1 z_sN)))) (L14 1000000 0 _ _ _ (by omega) (by omega) rfl hst hsb lt_0)

abbrev mX4_followFrom : zM := (RX4, cX4_followFrom, 5, (Option.none : Option Jvm.ClassFile.FieldType), [], "followFrom", 13)
set_option maxRecDepth 20000 in
theorem c_X4_followFrom {g : zGT} {Q : zO → zH → Prop} {h : zH} (hg : zG g) {o : Nat → Nat} {r a t l v : Nat} {S : zS} {L : List Nat} {B : Nat → Nat} {n p : Nat} (hI : MInv n S) (hp : p ≤ L.length) (x : HPart g o r h a t l S v L B p) (k : ∀ h1, HPart g o r h1 a t l S v L B L.length → zStep (fun q => q = r) o h o h1 → Q (.inl none) h1) : zC g (.code yX4_followFrom cX4_followFrom 5 (Option.none : Option Jvm.ClassFile.FieldType)) yX4_followFrom 13 0 0 [.ref a, .int (zI (p : Int))] h Q := by
  refine zC_of (M := mX4_followFrom) (lv := [some (.ref a), some (.int (zI (p : Int))), none, none, none]) (by decide) rfl rfl (Nat.le_of_ble_eq_true rfl) rfl rfl ?_
  obtain ⟨x1, x2, x3, x4, x5, x6, x7, x8, x9, x10, x11, x12⟩ := id x
  refine r_iload_1 1 rfl (dd_X4_followFrom 0 _ _ _ rfl) ?_
  refine r_ifle (by omega) 4 rfl 23 rfl (dd_X4_followFrom 1 _ _ _ rfl) (fun hc1 => ?_) (fun hc1 => ?_)
  · refine r_aload_0 24 rfl (dd_X4_followFrom 11 _ _ _ rfl) ?_
    refine r_getr hg zc_X4 1 (by decide) (fun _ _ _ => rfl) x4 x1 (Or.inl rfl) (tb_2 83 _ rfl) 27 rfl (dd_X4_followFrom 12 _ _ _ rfl) ?_
    refine r_astore_2 28 rfl (by decide) rfl (dd_X4_followFrom 13 _ _ _ rfl) ?_
    refine r_iload_1 29 rfl (dd_X4_followFrom 14 _ _ _ rfl) ?_
    refine r_istore_3 30 rfl (by decide) rfl (dd_X4_followFrom 15 _ _ _ rfl) ?_
    have L30 : ∀ (tt : Nat), ∀ (j : Nat) (b : Int) (ah : Nat) (h4 : zH), 100 - j < tt → (p ≤ j ∧ j ≤ L.length) → (b = j) → (HPart g o r h4 a t l S v L B j) → (StRep o r h4 ah S v j) → (zStep (fun q => q = r) o h o h4) → zX g mX4_followFrom 0 0 Q 30 [some (.ref a), some (.int (zI (p : Int))), some (.ref ah), some (.int (zI b)), none] [] h4 0 0 := by
      intro tt30
      induction tt30 with
      | zero => intros; exfalso; omega
      | succ tt30 ih30 =>
        intro j b ah h4 hlt30 hj hb x hah hst
        subst hb
        obtain ⟨x1, x2, x3, x4, x5, x6, x7, x8, x9, x10, x11, x12⟩ := id x
        refine r_iload_3 31 rfl (dd_X4_followFrom 16 _ _ _ rfl) ?_
        refine r_aload_0 32 rfl (dd_X4_followFrom 17 _ _ _ rfl) ?_
        refine r_getr hg zc_X4 2 (by decide) (fun _ _ _ => rfl) x6 x1 (Or.inl rfl) (tb_2 84 _ rfl) 35 rfl (dd_X4_followFrom 18 _ _ _ rfl) ?_
        refine r_callV0 (lvl := 10) (mc1 := 0) (ms1 := 0) 0 0 hg rfl md_Jx4a65c_size_8abf5 zc_Jx4a65c x7.1 wi_Jx4a65c_size_8abf5 wv_Jx4a65c_size_8abf5 (tb_3 40 _ rfl) (by decide) (by decide) rfl (Nat.le_of_ble_eq_true rfl) (Nat.le_of_ble_eq_true rfl) (Nat.le_of_ble_eq_true rfl) 38 rfl (dd_X4_followFrom 19 _ _ _ rfl) ?_
        refine c_Jx4a65c_size_8abf5 hg x7 ?_
        dsimp only [zCont, Option.toList, List.cons_append, List.nil_append]
        refine r_if_icmpge (by omega) (by omega) 41 rfl 85 rfl (dd_X4_followFrom 20 _ _ _ rfl) (fun hc2 => ?_) (fun hc2 => ?_)
        · refine r_vreturn rfl (dd_X4_followFrom 40 _ _ _ rfl) ?_
          obtain rfl : j = L.length := (by omega)
          exact k _ x hst
        · obtain ⟨e, he⟩ : ∃ e, L[j]? = some e := ⟨L[j], List.getElem?_eq_getElem (by omega)⟩
          obtain ⟨w1, w2, w3, w4, w5, w6⟩ := x10 j e he
          refine r_aload_0 42 rfl (dd_X4_followFrom 21 _ _ _ rfl) ?_
          refine r_getr hg zc_X4 2 (by decide) (fun _ _ _ => rfl) x6 x1 (Or.inl rfl) (tb_2 84 _ rfl) 45 rfl (dd_X4_followFrom 22 _ _ _ rfl) ?_
          refine r_iload_3 46 rfl (dd_X4_followFrom 23 _ _ _ rfl) ?_
          refine r_callV1 (lvl := 12) (mc1 := 0) (ms1 := 0) 0 0 hg rfl md_Jx4a65c_get_915e3 zc_Jx4a65c x7.1 wi_Jx4a65c_get_915e3 wv_Jx4a65c_get_915e3 (tb_3 72 _ rfl) (by decide) (by decide) rfl (Nat.le_of_ble_eq_true rfl) (Nat.le_of_ble_eq_true rfl) (Nat.le_of_ble_eq_true rfl) 49 rfl (dd_X4_followFrom 24 _ _ _ rfl) ?_
          refine c_Jx4a65c_get_915e3 hg x7 (i := j) (y := e) he ?_
          dsimp only [zCont, Option.toList, List.cons_append, List.nil_append]
          refine r_checkcastS hg zc_X2 w1.1 (tb_3 73 _ rfl) 52 rfl (dd_X4_followFrom 25 _ _ _ rfl) ?_
          refine r_astore_4 54 rfl (by decide) rfl (dd_X4_followFrom 26 _ _ _ rfl) ?_
          refine r_aload_4 56 rfl (dd_X4_followFrom 27 _ _ _ rfl) ?_
          refine r_getr hg zc_X2 3 (by decide) (fun _ _ _ => rfl) w2 w1.1 (Or.inl rfl) (tb_3 57 _ rfl) 59 rfl (dd_X4_followFrom 28 _ _ _ rfl) ?_
          refine r_aload_2 60 rfl (dd_X4_followFrom 29 _ _ _ rfl) ?_
          refine r_callV1 (lvl := 10) (mc1 := 0) (ms1 := 0) 0 0 hg rfl md_X8_copyFrom zc_X8 w3 wi_X8_copyFrom wv_X8_copyFrom (tb_4 99 _ rfl) (by decide) (by decide) rfl (Nat.le_of_ble_eq_true rfl) (Nat.le_of_ble_eq_true rfl) (Nat.le_of_ble_eq_true rfl) 63 rfl (dd_X4_followFrom 30 _ _ _ rfl) ?_
          refine c_X8_copyFrom (o := zo1 (B e)) (r := 1) hg w3 (if_pos rfl) hah.1 (fun h5 q0 q1 q2 q3 q4 q5 => ?_)
          have f1 : zOnly (B e) h4 h5 := zOnly.of q5 (by omega)
          have s5 : StRep (zo1 (B e)) 1 h5 (B e) S v j := ⟨f1.2.trans w3, if_pos rfl, q0.trans hah.2.2.1, q1.trans hah.2.2.2.1, q2.trans hah.2.2.2.2.1, q3.trans hah.2.2.2.2.2.1, q4.trans hah.2.2.2.2.2.2⟩
          have hee : e ≠ B e := fun q => by have := w1.1; rw [q] at this; omega
          have e5 := w1.sm (f1.1 e hee (by have := w1.1; omega))
          have b5 : fr_ h5 e 3 = some (B e) := ((f1.1 e hee (by have := w1.1; omega)).2.2.2.2.1 3).trans w2
          dsimp only [zCont, Option.toList, List.cons_append, List.nil_append]
          refine r_aload_4 65 rfl (dd_X4_followFrom 31 _ _ _ rfl) ?_
          refine r_getr hg zc_X2 3 (by decide) (fun _ _ _ => rfl) b5 e5.1 (Or.inl rfl) (tb_3 57 _ rfl) 68 rfl (dd_X4_followFrom 32 _ _ _ rfl) ?_
          refine r_aload_4 70 rfl (dd_X4_followFrom 33 _ _ _ rfl) ?_
          refine r_callV1 (lvl := 11) (mc1 := 0) (ms1 := 0) 0 0 hg rfl md_X8_follow zc_X8 s5.1 wi_X8_follow wv_X8_follow (tb_4 103 _ rfl) (by decide) (by decide) rfl (Nat.le_of_ble_eq_true rfl) (Nat.le_of_ble_eq_true rfl) (Nat.le_of_ble_eq_true rfl) 73 rfl (dd_X4_followFrom 34 _ _ _ rfl) ?_
          refine c_X8_follow (o := zo1 (B e)) (r := 1) hg hI s5 e5 (fun h6 q6 q7 => ?_)
          have f2 : zOnly (B e) h5 h6 := zOnly.of q7 (by rw [s5.1]; decide)
          have e6 := e5.sm (f2.1 e hee (by have := e5.1; omega))
          have b6 : fr_ h6 e 3 = some (B e) := ((f2.1 e hee (by have := e5.1; omega)).2.2.2.2.1 3).trans b5
          have hN := x.next he (f1.trans f2) ⟨q6.1, w4, q6.2.2⟩
          have hah6 : StRep o r h6 (B e) S v (j + 1) := ⟨q6.1, w4, q6.2.2⟩
          dsimp only [zCont, Option.toList, List.cons_append, List.nil_append]
          refine r_aload_4 75 rfl (dd_X4_followFrom 35 _ _ _ rfl) ?_
          refine r_getr hg zc_X2 3 (by decide) (fun _ _ _ => rfl) b6 e6.1 (Or.inl rfl) (tb_3 57 _ rfl) 78 rfl (dd_X4_followFrom 36 _ _ _ rfl) ?_
          refine r_astore_2 79 rfl (by decide) rfl (dd_X4_followFrom 37 _ _ _ rfl) ?_
          refine r_iinc_3 82 rfl (by decide) rfl (dd_X4_followFrom 38 _ _ _ rfl) ?_
          refine r_goto 30 rfl (dd_X4_followFrom 39 _ _ _ rfl) ?_
          exact r_sub _ (z_s1 (z_s1 (z_s1 (z_s1 (z_s0 z_sN))))) (ih30 (j + 1) _ (B e) _ (by omega) (by omega) (by omega) hN hah6 (hst.trans ((f1.trans f2).step w4)))
    exact r_sub _ (z_s1 (z_s1 (z_s1 (z_s1 (z_s0 z_sN))))) (L30 1000000 p _ t _ (by have := x.2.2.2.2.2.2.2.2.1; omega) (by omega) rfl x (by have e9 : p = 0 := (by omega); rw [e9]; exact x5) .refl)
  · obtain ⟨e0, he0⟩ : ∃ e, L[p - 1]? = some e := ⟨L[p - 1], List.getElem?_eq_getElem (by omega)⟩
    obtain ⟨w1, w2, w3, w4, w5, w6⟩ := x10 (p - 1) e0 he0
    refine r_aload_0 5 rfl (dd_X4_followFrom 2 _ _ _ rfl) ?_
    refine r_getr hg zc_X4 2 (by decide) (fun _ _ _ => rfl) x6 x1 (Or.inl rfl) (tb_2 84 _ rfl) 8 rfl (dd_X4_followFrom 3 _ _ _ rfl) ?_
    refine r_iload_1 9 rfl (dd_X4_followFrom 4 _ _ _ rfl) ?_
    refine r_iconst 10 rfl (dd_X4_followFrom 5 _ _ _ rfl) ?_
    refine r_isub 11 rfl (dd_X4_followFrom 6 _ _ _ rfl) ?_
    refine r_top ((p - 1 : Nat) : Int) (congrArg zI (by omega)) ?_
    refine r_callV1 (lvl := 12) (mc1 := 0) (ms1 := 0) 0 0 hg rfl md_Jx4a65c_get_915e3 zc_Jx4a65c x7.1 wi_Jx4a65c_get_915e3 wv_Jx4a65c_get_915e3 (tb_3 72 _ rfl) (by decide) (by decide) rfl (Nat.le_of_ble_eq_true rfl) (Nat.le_of_ble_eq_true rfl) (Nat.le_of_ble_eq_true rfl) 14 rfl (dd_X4_followFrom 7 _ _ _ rfl) ?_
    refine c_Jx4a65c_get_915e3 hg x7 (i := p - 1) (y := e0) he0 ?_
    dsimp only [zCont, Option.toList, List.cons_append, List.nil_append]
    refine r_checkcastS hg zc_X2 w1.1 (tb_3 73 _ rfl) 17 rfl (dd_X4_followFrom 8 _ _ _ rfl) ?_
    refine r_getr hg zc_X2 3 (by decide) (fun _ _ _ => rfl) w2 w1.1 (Or.inl rfl) (tb_3 57 _ rfl) 20 rfl (dd_X4_followFrom 9 _ _ _ rfl) ?_
    refine r_goto 27 rfl (dd_X4_followFrom 10 _ _ _ rfl) ?_
    refine r_astore_2 28 rfl (by decide) rfl (dd_X4_followFrom 13 _ _ _ rfl) ?_
    refine r_iload_1 29 rfl (dd_X4_followFrom 14 _ _ _ rfl) ?_
    refine r_istore_3 30 rfl (by decide) rfl (dd_X4_followFrom 15 _ _ _ rfl) ?_
    have L30 : ∀ (tt : Nat), ∀ (j : Nat) (b : Int) (ah : Nat) (h4 : zH), 100 - j < tt → (p ≤ j ∧ j ≤ L.length) → (b = j) → (HPart g o r h4 a t l S v L B j) → (StRep o r h4 ah S v j) → (zStep (fun q => q = r) o h o h4) → zX g mX4_followFrom 0 0 Q 30 [some (.ref a), some (.int (zI (p : Int))), some (.ref ah), some (.int (zI b)), none] [] h4 0 0 := by
      intro tt30
      induction tt30 with
      | zero => intros; exfalso; omega
      | succ tt30 ih30 =>
        intro j b ah h4 hlt30 hj hb x hah hst
        subst hb
        obtain ⟨x1, x2, x3, x4, x5, x6, x7, x8, x9, x10, x11, x12⟩ := id x
        refine r_iload_3 31 rfl (dd_X4_followFrom 16 _ _ _ rfl) ?_
        refine r_aload_0 32 rfl (dd_X4_followFrom 17 _ _ _ rfl) ?_
        refine r_getr hg zc_X4 2 (by decide) (fun _ _ _ => rfl) x6 x1 (Or.inl rfl) (tb_2 84 _ rfl) 35 rfl (dd_X4_followFrom 18 _ _ _ rfl) ?_
        refine r_callV0 (lvl := 10) (mc1 := 0) (ms1 := 0) 0 0 hg rfl md_Jx4a65c_size_8abf5 zc_Jx4a65c x7.1 wi_Jx4a65c_size_8abf5 wv_Jx4a65c_size_8abf5 (tb_3 40 _ rfl) (by decide) (by decide) rfl (Nat.le_of_ble_eq_true rfl) (Nat.le_of_ble_eq_true rfl) (Nat.le_of_ble_eq_true rfl) 38 rfl (dd_X4_followFrom 19 _ _ _ rfl) ?_
        refine c_Jx4a65c_size_8abf5 hg x7 ?_
        dsimp only [zCont, Option.toList, List.cons_append, List.nil_append]
        refine r_if_icmpge (by omega) (by omega) 41 rfl 85 rfl (dd_X4_followFrom 20 _ _ _ rfl) (fun hc3 => ?_) (fun hc3 => ?_)
        · refine r_vreturn rfl (dd_X4_followFrom 40 _ _ _ rfl) ?_
          obtain rfl : j = L.length := (by omega)
          exact k _ x hst
        · obtain ⟨e, he⟩ : ∃ e, L[j]? = some e := ⟨L[j], List.getElem?_eq_getElem (by omega)⟩
          obtain ⟨w1, w2, w3, w4, w5, w6⟩ := x10 j e he
          refine r_aload_0 42 rfl (dd_X4_followFrom 21 _ _ _ rfl) ?_
          refine r_getr hg zc_X4 2 (by decide) (fun _ _ _ => rfl) x6 x1 (Or.inl rfl) (tb_2 84 _ rfl) 45 rfl (dd_X4_followFrom 22 _ _ _ rfl) ?_
          refine r_iload_3 46 rfl (dd_X4_followFrom 23 _ _ _ rfl) ?_
          refine r_callV1 (lvl := 12) (mc1 := 0) (ms1 := 0) 0 0 hg rfl md_Jx4a65c_get_915e3 zc_Jx4a65c x7.1 wi_Jx4a65c_get_915e3 wv_Jx4a65c_get_915e3 (tb_3 72 _ rfl) (by decide) (by decide) rfl (Nat.le_of_ble_eq_true rfl) (Nat.le_of_ble_eq_true rfl) (Nat.le_of_ble_eq_true rfl) 49 rfl (dd_X4_followFrom 24 _ _ _ rfl) ?_
          refine c_Jx4a65c_get_915e3 hg x7 (i := j) (y := e) he ?_
          dsimp only [zCont, Option.toList, List.cons_append, List.nil_append]
          refine r_checkcastS hg zc_X2 w1.1 (tb_3 73 _ rfl) 52 rfl (dd_X4_followFrom 25 _ _ _ rfl) ?_
          refine r_astore_4 54 rfl (by decide) rfl (dd_X4_followFrom 26 _ _ _ rfl) ?_
          refine r_aload_4 56 rfl (dd_X4_followFrom 27 _ _ _ rfl) ?_
          refine r_getr hg zc_X2 3 (by decide) (fun _ _ _ => rfl) w2 w1.1 (Or.inl rfl) (tb_3 57 _ rfl) 59 rfl (dd_X4_followFrom 28 _ _ _ rfl) ?_
          refine r_aload_2 60 rfl (dd_X4_followFrom 29 _ _ _ rfl) ?_
          refine r_callV1 (lvl := 10) (mc1 := 0) (ms1 := 0) 0 0 hg rfl md_X8_copyFrom zc_X8 w3 wi_X8_copyFrom wv_X8_copyFrom (tb_4 99 _ rfl) (by decide) (by decide) rfl (Nat.le_of_ble_eq_true rfl) (Nat.le_of_ble_eq_true rfl) (Nat.le_of_ble_eq_true rfl) 63 rfl (dd_X4_followFrom 30 _ _ _ rfl) ?_
          refine c_X8_copyFrom (o := zo1 (B e)) (r := 1) hg w3 (if_pos rfl) hah.1 (fun h5 q0 q1 q2 q3 q4 q5 => ?_)
          have f1 : zOnly (B e) h4 h5 := zOnly.of q5 (by omega)
          have s5 : StRep (zo1 (B e)) 1 h5 (B e) S v j := ⟨f1.2.trans w3, if_pos rfl, q0.trans hah.2.2.1, q1.trans hah.2.2.2.1, q2.trans hah.2.2.2.2.1, q3.trans hah.2.2.2.2.2.1, q4.trans hah.2.2.2.2.2.2⟩
          have hee : e ≠ B e := fun q => by have := w1.1; rw [q] at this; omega
          have e5 := w1.sm (f1.1 e hee (by have := w1.1; omega))
          have b5 : fr_ h5 e 3 = some (B e) := ((f1.1 e hee (by have := w1.1; omega)).2.2.2.2.1 3).trans w2
          dsimp only [zCont, Option.toList, List.cons_append, List.nil_append]
          refine r_aload_4 65 rfl (dd_X4_followFrom 31 _ _ _ rfl) ?_
          refine r_getr hg zc_X2 3 (by decide) (fun _ _ _ => rfl) b5 e5.1 (Or.inl rfl) (tb_3 57 _ rfl) 68 rfl (dd_X4_followFrom 32 _ _ _ rfl) ?_
          refine r_aload_4 70 rfl (dd_X4_followFrom 33 _ _ _ rfl) ?_
          refine r_callV1 (lvl := 11) (mc1 := 0) (ms1 := 0) 0 0 hg rfl md_X8_follow zc_X8 s5.1 wi_X8_follow wv_X8_follow (tb_4 103 _ rfl) (by decide) (by decide) rfl (Nat.le_of_ble_eq_true rfl) (Nat.le_of_ble_eq_true rfl) (Nat.le_of_ble_eq_true rfl) 73 rfl (dd_X4_followFrom 34 _ _ _ rfl) ?_
          refine c_X8_follow (o := zo1 (B e)) (r := 1) hg hI s5 e5 (fun h6 q6 q7 => ?_)
          have f2 : zOnly (B e) h5 h6 := zOnly.of q7 (by rw [s5.1]; decide)
          have e6 := e5.sm (f2.1 e hee (by have := e5.1; omega))
          have b6 : fr_ h6 e 3 = some (B e) := ((f2.1 e hee (by have := e5.1; omega)).2.2.2.2.1 3).trans b5
          have hN := x.next he (f1.trans f2) ⟨q6.1, w4, q6.2.2⟩
          have hah6 : StRep o r h6 (B e) S v (j + 1) := ⟨q6.1, w4, q6.2.2⟩
          dsimp only [zCont, Option.toList, List.cons_append, List.nil_append]
          refine r_aload_4 75 rfl (dd_X4_followFrom 35 _ _ _ rfl) ?_
          refine r_getr hg zc_X2 3 (by decide) (fun _ _ _ => rfl) b6 e6.1 (Or.inl rfl) (tb_3 57 _ rfl) 78 rfl (dd_X4_followFrom 36 _ _ _ rfl) ?_
          refine r_astore_2 79 rfl (by decide) rfl (dd_X4_followFrom 37 _ _ _ rfl) ?_
          refine r_iinc_3 82 rfl (by decide) rfl (dd_X4_followFrom 38 _ _ _ rfl) ?_
          refine r_goto 30 rfl (dd_X4_followFrom 39 _ _ _ rfl) ?_
          exact r_sub _ (z_s1 (z_s1 (z_s1 (z_s1 (z_s0 z_sN))))) (ih30 (j + 1) _ (B e) _ (by omega) (by omega) (by omega) hN hah6 (hst.trans ((f1.trans f2).step w4)))
    exact r_sub _ (z_s1 (z_s1 (z_s1 (z_s1 (z_s0 z_sN))))) (L30 1000000 p _ (B e0) _ (by have := x.2.2.2.2.2.2.2.2.1; omega) (by omega) rfl x (by have e9 : p = p - 1 + 1 := (by omega); rw [e9]; exact w6 (by omega)) .refl)

theorem zpos_spec {ar : Nat → Nat → Int} {b : Nat} {w : Int} : ∀ e, (∀ i, zpos ar b w e ≤ i → i < e → w < ar 11 (b + i)) ∧ (0 < zpos ar b w e → ar 11 (b + (zpos ar b w e - 1)) ≤ w)
  | 0 => ⟨fun i h1 h2 => absurd h2 (by omega), fun h => absurd h (by unfold zpos; omega)⟩
  | e + 1 => by
    have ih := zpos_spec (ar := ar) (b := b) (w := w) e
    unfold zpos
    by_cases hc : w < ar 11 (b + e)
    · rw [if_pos hc]
      refine ⟨fun i h1 h2 => ?_, ih.2⟩
      by_cases hq : i = e
      · subst hq; exact hc
      · exact ih.1 i h1 (by omega)
    · rw [if_neg hc]
      exact ⟨fun i h1 h2 => by omega, fun _ => by rw [show e + 1 - 1 = e by omega]; omega⟩
abbrev zins2 (S : zS) (v p : Nat) (K W w : Int) : zS := (S.1, zu2 (zu2 (zu2 (zu2 (zsh S.2 (30 * v) p (S.2 8 v).toNat) 9 (30 * v + p) K) 10 (30 * v + p) W) 11 (30 * v + p) w) 8 v (S.2 8 v + 1))
theorem zins2_k {S : zS} {v p : Nat} {K W w : Int} {k i : Nat} (h8 : k ≠ 8) (hi : i ≠ 30 * v + p) : (zins2 S v p K W w).2 k i = zsh S.2 (30 * v) p (S.2 8 v).toNat k i := by
  show zu2 (zu2 (zu2 (zu2 (zsh S.2 (30 * v) p (S.2 8 v).toNat) 9 (30 * v + p) K) 10 (30 * v + p) W) 11 (30 * v + p) w) 8 v (S.2 8 v + 1) k i = _
  rw [zu2_ne (fun q => h8 q.1), zu2_ne (fun q => hi q.2), zu2_ne (fun q => hi q.2), zu2_ne (fun q => hi q.2)]
theorem zins2_at {S : zS} {v p : Nat} {K W w : Int} : (zins2 S v p K W w).2 9 (30 * v + p) = K ∧ (zins2 S v p K W w).2 10 (30 * v + p) = W ∧ (zins2 S v p K W w).2 11 (30 * v + p) = w := by
  refine ⟨?_, ?_, ?_⟩ <;> simp [zins2, zu2]
theorem zins2_8 {S : zS} {v p : Nat} {K W w : Int} : (zins2 S v p K W w).2 8 v = S.2 8 v + 1 := zu2_at
theorem zins2_lo {S : zS} {v p : Nat} {K W w : Int} {k i : Nat} (h8 : k ≠ 8) (hi : i < p) : (zins2 S v p K W w).2 k (30 * v + i) = S.2 k (30 * v + i) := by
  rw [zins2_k h8 (by omega)]
  exact zsh_lo (by omega)
theorem zins2_hi {S : zS} {v p : Nat} {K W w : Int} {k i : Nat} (hk : k = 9 ∨ k = 10 ∨ k = 11) (h1 : p ≤ i) (h2 : (i : Int) < S.2 8 v) : (zins2 S v p K W w).2 k (30 * v + (i + 1)) = S.2 k (30 * v + i) := by
  rw [zins2_k (by omega) (by omega)]
  unfold zsh
  rw [if_pos ⟨hk, by omega, by omega⟩, show 30 * v + (i + 1) - 1 = 30 * v + i by omega]
theorem zins2_else {S : zS} {v p : Nat} {K W w : Int} {k i : Nat} (hk : ¬ (k = 9 ∨ k = 10 ∨ k = 11)) (h8 : k ≠ 8 ∨ i ≠ v) : (zins2 S v p K W w).2 k i = S.2 k i := by
  show zu2 (zu2 (zu2 (zu2 (zsh S.2 (30 * v) p (S.2 8 v).toNat) 9 (30 * v + p) K) 10 (30 * v + p) W) 11 (30 * v + p) w) 8 v (S.2 8 v + 1) k i = _
  rw [zu2_ne (by omega), zu2_ne (by omega), zu2_ne (by omega), zu2_ne (by omega)]
  exact zsh_other hk
theorem zins2_far {S : zS} {v p : Nat} {K W w : Int} {k u i : Nat} (hu : u ≠ v) (hi : i < 30) (hp : p < 30) (hc : S.2 8 v < 30) (h8 : k ≠ 8) : (zins2 S v p K W w).2 k (30 * u + i) = S.2 k (30 * u + i) := by
  rw [zins2_k h8 (by omega)]
  unfold zsh
  rw [if_neg (by omega)]
theorem zins2_sorted {S : zS} {v : Nat} {K W w : Int} (hs : SDay S v) (h0 : 0 ≤ S.2 8 v) : SDay (zins2 S v (zpos S.2 (30 * v) w (S.2 8 v).toNat) K W w) v := by
  have hp := zpos_le (ar := S.2) (b := 30 * v) (w := w) (S.2 8 v).toNat
  obtain ⟨p1, p2⟩ := zpos_spec (ar := S.2) (b := 30 * v) (w := w) (S.2 8 v).toNat
  generalize zpos S.2 (30 * v) w (S.2 8 v).toNat = p at *
  have lo : ∀ i, i < p → S.2 11 (30 * v + i) ≤ w := fun i hi => by
    have := hs i (p - 1) (by omega) (by omega)
    have := p2 (by omega)
    omega
  intro i j hij hj
  rw [zins2_8] at hj
  have at_ := (zins2_at (S := S) (v := v) (p := p) (K := K) (W := W) (w := w)).2.2
  rcases Nat.lt_trichotomy j p with h1 | h1 | h1
  · rw [zins2_lo (by decide) (by omega), zins2_lo (by decide) h1]; exact hs i j hij (by omega)
  · subst h1
    rw [at_]
    by_cases hq : i = j
    · subst hq; rw [at_]; omega
    · rw [zins2_lo (by decide) (by omega)]; exact lo i (by omega)
  · obtain ⟨d, rfl⟩ : ∃ d, j = d + 1 := ⟨j - 1, by omega⟩
    rw [zins2_hi (by omega) (by omega) (by omega)]
    rcases Nat.lt_trichotomy i p with h2 | h2 | h2
    · rw [zins2_lo (by decide) h2]; exact hs i d (by omega) (by omega)
    · subst h2; rw [at_]; have := p1 d (by omega) (by omega); omega
    · obtain ⟨c, rfl⟩ : ∃ c, i = c + 1 := ⟨i - 1, by omega⟩
      rw [zins2_hi (by omega) (by omega) (by omega)]; exact hs c d (by omega) (by omega)
abbrev mX4_insert : zM := (RX4, cX4_insert, 3, (Option.some Jvm.ClassFile.FieldType.int), [], "insert", 17)
set_option maxRecDepth 20000 in
theorem c_X4_insert {g : zGT} {Q : zO → zH → Prop} {h : zH} (hg : zG g) {o : Nat → Nat} {r a t l v : Nat} {S : zS} {L : List Nat} {B : Nat → Nat} {mi : Nat} (hm : zMi g mi) {n n2 : Nat} {S2 : zS} (hI : MInv n S) (hI2 : MInv n2 S2) (x : HPart g o r h a t l S v L B L.length) (hl30 : L.length < 30) {e be : Nat} {K W w : Int} (ek : kd_ h e = 6) (eo : o e = r) (hb : fr_ h e 3 = some be) (bk : kd_ h be = 12) (bo : o be = r) (hn : ∀ d, d ∈ L → B d ≠ be) (ht : be ≠ t) (hen : e ∉ L) (f0 : fi_ h e 0 = K) (f1 : fi_ h e 1 = W) (f2 : fi_ h e 2 = w) (hw : zR w) (hS2 : S2 = zins2 S v (zpos S.2 (30 * v) w (S.2 8 v).toNat) K W w) (k : ∀ o1 h1, (∃ t l L B, HPart g o1 r h1 a t l S2 v L B L.length) → zStep (fun q => q = r) o h o1 h1 → Q (.inl (some (.int (zI (S.2 8 v - (zpos S.2 (30 * v) w L.length : Nat)))))) h1) : zC g (.code yX4_insert cX4_insert 3 (Option.some Jvm.ClassFile.FieldType.int)) yX4_insert 17 1 100 [.ref a, .ref e] h Q := by
  refine zC_of (M := mX4_insert) (lv := [some (.ref a), some (.ref e), none]) (by decide) rfl rfl (Nat.le_of_ble_eq_true rfl) rfl rfl ?_
  obtain ⟨x1, x2, x3, x4, x5, x6, x7, x8, x9, x10, x11, x12⟩ := id x
  have hc8 : (S.2 8 v).toNat = L.length := by omega
  refine r_aload_0 1 rfl (dd_X4_insert 0 _ _ _ rfl) ?_
  refine r_getr hg zc_X4 2 (by decide) (fun _ _ _ => rfl) x6 x1 (Or.inl rfl) (tb_2 84 _ rfl) 4 rfl (dd_X4_insert 1 _ _ _ rfl) ?_
  refine r_callV0 (lvl := 10) (mc1 := 0) (ms1 := 0) 1 100 hg rfl md_Jx4a65c_size_8abf5 zc_Jx4a65c x7.1 wi_Jx4a65c_size_8abf5 wv_Jx4a65c_size_8abf5 (tb_3 40 _ rfl) (by decide) (by decide) rfl (Nat.le_of_ble_eq_true rfl) (Nat.le_of_ble_eq_true rfl) (Nat.le_of_ble_eq_true rfl) 7 rfl (dd_X4_insert 2 _ _ _ rfl) ?_
  refine c_Jx4a65c_size_8abf5 hg x7 ?_
  dsimp only [zCont, Option.toList, List.cons_append, List.nil_append]
  refine r_istore_2 8 rfl (by decide) rfl (dd_X4_insert 3 _ _ _ rfl) ?_
  have L8 : ∀ (tt : Nat), ∀ (j : Nat) (b : Int), j < tt → (j ≤ L.length) → (b = j) → (zpos S.2 (30 * v) w L.length = zpos S.2 (30 * v) w j) → zX g mX4_insert 1 100 Q 8 [some (.ref a), some (.ref e), some (.int (zI b))] [] h 1 100 := by
    intro tt8
    induction tt8 with
    | zero => intros; exfalso; omega
    | succ tt8 ih8 =>
      intro j b hlt8 hj hb hz
      refine r_iload_2 9 rfl (dd_X4_insert 4 _ _ _ rfl) ?_
      refine r_ifle (by omega) 12 rfl 41 rfl (dd_X4_insert 5 _ _ _ rfl) (fun hc1 => ?_) (fun hc1 => ?_)
      · have hj0 : j = 0 := by omega
        have hpz : zpos S.2 (30 * v) w L.length = j := by rw [hz, hj0]; rfl
        subst hb
        have AT : S2.2 9 (30 * v + j) = K ∧ S2.2 10 (30 * v + j) = W ∧ S2.2 11 (30 * v + j) = w := by rw [hS2, hc8, hpz]; exact zins2_at
        have hjl : j ≤ L.length := by rw [← hpz]; exact zpos_le _
        refine r_aload_0 42 rfl (dd_X4_insert 19 _ _ _ rfl) ?_
        refine r_getr hg zc_X4 2 (by decide) (fun _ _ _ => rfl) x6 x1 (Or.inl rfl) (tb_2 84 _ rfl) 45 rfl (dd_X4_insert 20 _ _ _ rfl) ?_
        refine r_iload_2 46 rfl (dd_X4_insert 21 _ _ _ rfl) ?_
        refine r_aload_1 47 rfl (dd_X4_insert 22 _ _ _ rfl) ?_
        refine r_callV2 (lvl := 16) (mc1 := 1) (ms1 := 100) 0 0 hg rfl md_Jx4a65c_add_7a177 zc_Jx4a65c x7.1 wi_Jx4a65c_add_7a177 wv_Jx4a65c_add_7a177 (tb_3 74 _ rfl) (by decide) (by decide) rfl (Nat.le_of_ble_eq_true rfl) (Nat.le_of_ble_eq_true rfl) (Nat.le_of_ble_eq_true rfl) 50 rfl (dd_X4_insert 23 _ _ _ rfl) ?_
        refine c_addAt hg zc_X2 (tb_6 86 _ rfl) hm x7 (by omega) (fun z hz => by obtain ⟨i, hi⟩ := List.getElem?_of_mem hz; exact (x10 i z hi).1.1) ek (by omega) (fun o4 h4 qL qst qsm => ?_)
        have hP2 := x.ins (S2 := S2) (e := e) (b := be) (p := j) (by omega) hl30 qL (fun y hy => (qst.2 y hy).1) qsm ek eo hb bk bo hn ht hen (f0.trans AT.1.symm) (f1.trans AT.2.1.symm) (f2.trans AT.2.2.symm) (by rw [hS2]; exact zins2_8) (by rw [hS2]; exact zins2_else (by omega) (by omega)) (fun k i hk hi => by rw [hS2, hc8, hpz]; exact zins2_lo (by omega) hi) (fun k i hk h1 h2 => by rw [hS2, hc8, hpz]; exact zins2_hi hk h1 (by omega))
        dsimp only [zCont, Option.toList, List.cons_append, List.nil_append]
        refine r_aload_0 51 rfl (dd_X4_insert 24 _ _ _ rfl) ?_
        refine r_iload_2 52 rfl (dd_X4_insert 25 _ _ _ rfl) ?_
        refine r_callV1 (lvl := 13) (mc1 := 0) (ms1 := 0) 0 0 hg rfl md_X4_followFrom zc_X4 hP2.1 wi_X4_followFrom wv_X4_followFrom (tb_4 95 _ rfl) (by decide) (by decide) rfl (Nat.le_of_ble_eq_true rfl) (Nat.le_of_ble_eq_true rfl) (Nat.le_of_ble_eq_true rfl) 55 rfl (dd_X4_insert 26 _ _ _ rfl) ?_
        refine c_X4_followFrom hg hI2 (p := j) (by simp; omega) hP2 (fun h5 hP5 hst5 => ?_)
        dsimp only [zCont, Option.toList, List.cons_append, List.nil_append]
        refine r_aload_0 56 rfl (dd_X4_insert 27 _ _ _ rfl) ?_
        refine r_getr hg zc_X4 2 (by decide) (fun _ _ _ => rfl) hP5.2.2.2.2.2.1 hP5.1 (Or.inl rfl) (tb_2 84 _ rfl) 59 rfl (dd_X4_insert 28 _ _ _ rfl) ?_
        refine r_callV0 (lvl := 10) (mc1 := 0) (ms1 := 0) 0 0 hg rfl md_Jx4a65c_size_8abf5 zc_Jx4a65c hP5.2.2.2.2.2.2.1.1 wi_Jx4a65c_size_8abf5 wv_Jx4a65c_size_8abf5 (tb_3 40 _ rfl) (by decide) (by decide) rfl (Nat.le_of_ble_eq_true rfl) (Nat.le_of_ble_eq_true rfl) (Nat.le_of_ble_eq_true rfl) 62 rfl (dd_X4_insert 29 _ _ _ rfl) ?_
        refine c_Jx4a65c_size_8abf5 hg hP5.2.2.2.2.2.2.1 ?_
        dsimp only [zCont, Option.toList, List.cons_append, List.nil_append]
        refine r_iconst 63 rfl (dd_X4_insert 30 _ _ _ rfl) ?_
        refine r_isub 64 rfl (dd_X4_insert 31 _ _ _ rfl) ?_
        refine r_iload_2 65 rfl (dd_X4_insert 32 _ _ _ rfl) ?_
        refine r_isub 66 rfl (dd_X4_insert 33 _ _ _ rfl) ?_
        refine r_top (S.2 8 v - (zpos S.2 (30 * v) w L.length : Nat)) (congrArg zI (by rw [hpz]; simp; omega)) ?_
        refine r_ireturn rfl rfl (dd_X4_insert 34 _ _ _ rfl) ?_
        exact k _ _ ⟨_, _, _, _, hP5⟩ (qst.trans hst5)
      · obtain ⟨j, rfl⟩ : ∃ i, j = i + 1 := ⟨j - 1, by omega⟩
        obtain ⟨d, hd⟩ : ∃ e, L[j]? = some e := ⟨L[j], List.getElem?_eq_getElem (by omega)⟩
        obtain ⟨⟨y1, y2, y3, y4, y5⟩, z2, z3, z4, z5, z6⟩ := x10 j d hd
        have hdr := hI.day (30 * v + j)
        refine r_aload_0 13 rfl (dd_X4_insert 6 _ _ _ rfl) ?_
        refine r_getr hg zc_X4 2 (by decide) (fun _ _ _ => rfl) x6 x1 (Or.inl rfl) (tb_2 84 _ rfl) 16 rfl (dd_X4_insert 7 _ _ _ rfl) ?_
        refine r_iload_2 17 rfl (dd_X4_insert 8 _ _ _ rfl) ?_
        refine r_iconst 18 rfl (dd_X4_insert 9 _ _ _ rfl) ?_
        refine r_isub 19 rfl (dd_X4_insert 10 _ _ _ rfl) ?_
        refine r_top ((j : Nat) : Int) (congrArg zI (by omega)) ?_
        refine r_callV1 (lvl := 12) (mc1 := 0) (ms1 := 0) 1 100 hg rfl md_Jx4a65c_get_915e3 zc_Jx4a65c x7.1 wi_Jx4a65c_get_915e3 wv_Jx4a65c_get_915e3 (tb_3 72 _ rfl) (by decide) (by decide) rfl (Nat.le_of_ble_eq_true rfl) (Nat.le_of_ble_eq_true rfl) (Nat.le_of_ble_eq_true rfl) 22 rfl (dd_X4_insert 11 _ _ _ rfl) ?_
        refine c_Jx4a65c_get_915e3 hg x7 (i := j) (y := d) hd ?_
        dsimp only [zCont, Option.toList, List.cons_append, List.nil_append]
        refine r_checkcastS hg zc_X2 y1 (tb_3 73 _ rfl) 25 rfl (dd_X4_insert 12 _ _ _ rfl) ?_
        refine r_geti hg zc_X2 2 (by decide) (fun _ _ _ => rfl) y5 y1 (Or.inl rfl) (tb_3 54 _ rfl) 28 rfl (dd_X4_insert 13 _ _ _ rfl) ?_
        refine r_aload_1 29 rfl (dd_X4_insert 14 _ _ _ rfl) ?_
        refine r_geti hg zc_X2 2 (by decide) (fun _ _ _ => rfl) f2 ek (Or.inl rfl) (tb_3 54 _ rfl) 32 rfl (dd_X4_insert 15 _ _ _ rfl) ?_
        refine r_if_icmple (by omega) (by omega) 35 rfl 41 rfl (dd_X4_insert 16 _ _ _ rfl) (fun hc2 => ?_) (fun hc2 => ?_)
        · subst hb
          have hpz : zpos S.2 (30 * v) w L.length = j + 1 := hz.trans (if_neg (by omega))
          generalize j + 1 = j at *
          have AT : S2.2 9 (30 * v + j) = K ∧ S2.2 10 (30 * v + j) = W ∧ S2.2 11 (30 * v + j) = w := by rw [hS2, hc8, hpz]; exact zins2_at
          have hjl : j ≤ L.length := by rw [← hpz]; exact zpos_le _
          refine r_aload_0 42 rfl (dd_X4_insert 19 _ _ _ rfl) ?_
          refine r_getr hg zc_X4 2 (by decide) (fun _ _ _ => rfl) x6 x1 (Or.inl rfl) (tb_2 84 _ rfl) 45 rfl (dd_X4_insert 20 _ _ _ rfl) ?_
          refine r_iload_2 46 rfl (dd_X4_insert 21 _ _ _ rfl) ?_
          refine r_aload_1 47 rfl (dd_X4_insert 22 _ _ _ rfl) ?_
          refine r_callV2 (lvl := 16) (mc1 := 1) (ms1 := 100) 0 0 hg rfl md_Jx4a65c_add_7a177 zc_Jx4a65c x7.1 wi_Jx4a65c_add_7a177 wv_Jx4a65c_add_7a177 (tb_3 74 _ rfl) (by decide) (by decide) rfl (Nat.le_of_ble_eq_true rfl) (Nat.le_of_ble_eq_true rfl) (Nat.le_of_ble_eq_true rfl) 50 rfl (dd_X4_insert 23 _ _ _ rfl) ?_
          refine c_addAt hg zc_X2 (tb_6 86 _ rfl) hm x7 (by omega) (fun z hz => by obtain ⟨i, hi⟩ := List.getElem?_of_mem hz; exact (x10 i z hi).1.1) ek (by omega) (fun o4 h4 qL qst qsm => ?_)
          have hP2 := x.ins (S2 := S2) (e := e) (b := be) (p := j) (by omega) hl30 qL (fun y hy => (qst.2 y hy).1) qsm ek eo hb bk bo hn ht hen (f0.trans AT.1.symm) (f1.trans AT.2.1.symm) (f2.trans AT.2.2.symm) (by rw [hS2]; exact zins2_8) (by rw [hS2]; exact zins2_else (by omega) (by omega)) (fun k i hk hi => by rw [hS2, hc8, hpz]; exact zins2_lo (by omega) hi) (fun k i hk h1 h2 => by rw [hS2, hc8, hpz]; exact zins2_hi hk h1 (by omega))
          dsimp only [zCont, Option.toList, List.cons_append, List.nil_append]
          refine r_aload_0 51 rfl (dd_X4_insert 24 _ _ _ rfl) ?_
          refine r_iload_2 52 rfl (dd_X4_insert 25 _ _ _ rfl) ?_
          refine r_callV1 (lvl := 13) (mc1 := 0) (ms1 := 0) 0 0 hg rfl md_X4_followFrom zc_X4 hP2.1 wi_X4_followFrom wv_X4_followFrom (tb_4 95 _ rfl) (by decide) (by decide) rfl (Nat.le_of_ble_eq_true rfl) (Nat.le_of_ble_eq_true rfl) (Nat.le_of_ble_eq_true rfl) 55 rfl (dd_X4_insert 26 _ _ _ rfl) ?_
          refine c_X4_followFrom hg hI2 (p := j) (by simp; omega) hP2 (fun h5 hP5 hst5 => ?_)
          dsimp only [zCont, Option.toList, List.cons_append, List.nil_append]
          refine r_aload_0 56 rfl (dd_X4_insert 27 _ _ _ rfl) ?_
          refine r_getr hg zc_X4 2 (by decide) (fun _ _ _ => rfl) hP5.2.2.2.2.2.1 hP5.1 (Or.inl rfl) (tb_2 84 _ rfl) 59 rfl (dd_X4_insert 28 _ _ _ rfl) ?_
          refine r_callV0 (lvl := 10) (mc1 := 0) (ms1 := 0) 0 0 hg rfl md_Jx4a65c_size_8abf5 zc_Jx4a65c hP5.2.2.2.2.2.2.1.1 wi_Jx4a65c_size_8abf5 wv_Jx4a65c_size_8abf5 (tb_3 40 _ rfl) (by decide) (by decide) rfl (Nat.le_of_ble_eq_true rfl) (Nat.le_of_ble_eq_true rfl) (Nat.le_of_ble_eq_true rfl) 62 rfl (dd_X4_insert 29 _ _ _ rfl) ?_
          refine c_Jx4a65c_size_8abf5 hg hP5.2.2.2.2.2.2.1 ?_
          dsimp only [zCont, Option.toList, List.cons_append, List.nil_append]
          refine r_iconst 63 rfl (dd_X4_insert 30 _ _ _ rfl) ?_
          refine r_isub 64 rfl (dd_X4_insert 31 _ _ _ rfl) ?_
          refine r_iload_2 65 rfl (dd_X4_insert 32 _ _ _ rfl) ?_
          refine r_isub 66 rfl (dd_X4_insert 33 _ _ _ rfl) ?_
          refine r_top (S.2 8 v - (zpos S.2 (30 * v) w L.length : Nat)) (congrArg zI (by rw [hpz]; simp; omega)) ?_
          refine r_ireturn rfl rfl (dd_X4_insert 34 _ _ _ rfl) ?_
          exact k _ _ ⟨_, _, _, _, hP5⟩ (qst.trans hst5)
        · refine r_iinc_2 38 rfl (by decide) rfl (dd_X4_insert 17 _ _ _ rfl) ?_
          refine r_goto 8 rfl (dd_X4_insert 18 _ _ _ rfl) ?_
          exact r_sub _ (z_s1 (z_s1 (z_s1 z_sN))) (ih8 j _ (by omega) (by omega) (by omega) (hz.trans (if_pos (by omega))))
  exact r_sub _ (z_s1 (z_s1 (z_s1 z_sN))) (L8 1000000 L.length _ (by omega) (by omega) rfl rfl)
