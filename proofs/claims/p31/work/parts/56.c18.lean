theorem zldcwS {p : Program} {l : Launch} {e : Env} {R : Room} {s : State} {m : MethodId} {args : Array Value} {below : List Frame} {meth : Method} {c : Code} {T : State} {locs : List Loc} {cells slots : Nat}
    (X : Stand p l e R s m args below meth c T locs cells slots) (hexec : p.tables.exec = Jvm.exec) {own text : String} {index : Nat} {a : Addr} (hown : s.vm.findClass own = some m.cls)
    (hconst : (Cond.stringRef own index text).before args s = true) (hev : (Term.string own index).eval args s none [] s = some (.ref a)) {g : JFrame} (hg : g.method = m) (hdg : decode c.code g.pc = .ok (.ldc_w index, 3)) :
    ∀ target, Steps p.tables e below (T.setTop { g with pc := g.pc + 3, stack := .ref a :: g.stack }) target → Steps p.tables e below (T.setTop g) target := by
  obtain ⟨k, cf, i, a', hk, hcf, hcp, -, hr, hev'⟩ := Cond.stringRef_spec hown hconst
  cases hev.symm.trans hev'
  obtain ⟨k', hk', he⟩ := X.warmed.alike.2.2 _ _ hk
  have hr' : k'.resolved[index]? = some (some (.string a)) := by
    rcases X.warmed.entry hk hk' index with h | ⟨h, -⟩
    · rw [h]; exact hr
    · rw [hr] at h; cases h
  intro target hrest
  subst hg
  jvm_step X.here [hexec, hdg, ldc_w.wp_string (e := e) (s := T) (f := g) X.here.top hk' (by rw [he]; exact hcf) hcp hr']
  exact hrest
/-- what is said of the String constants, and of what String's methods read -/
def zCS (g : zGT) : Prop := va_Z "java/lang/String" "COMPACT_STRINGS" "Z" (.int (zI 1)) (fun q => (gS_ g).heap.size ≤ q) (gS_ g) (gS_ g).heap ∧ va_Zq "jdk/internal/util/Preconditions" "SIOOBE_FORMATTER" "Ljava/util/function/BiFunction;" (fun q => (gS_ g).heap.size ≤ q) (gS_ g) (gS_ g).heap
def zSR (g : zGT) (k : Nat) (tx : String) (w : Nat) : Prop := vk_R "Platehall" k tx w (gS_ g)
def zWd (g : zGT) (w : Nat) (L : List Int) : Prop := ∃ b, va_O "java/lang/String" w (fun q => (gS_ g).heap.size ≤ q) (gS_ g) (gS_ g).heap ∧ va_OF "java/lang/String" "value" "[B" (.ref b) w (fun q => (gS_ g).heap.size ≤ q) (gS_ g) (gS_ g).heap ∧ va_OF "java/lang/String" "coder" "B" (.int (zI 0)) w (fun q => (gS_ g).heap.size ≤ q) (gS_ g) (gS_ g).heap ∧ va_T .byte b L.length (fun j => .int (zI (L.getD j 0))) (fun q => (gS_ g).heap.size ≤ q) (gS_ g) (gS_ g).heap ∧ L.length ≤ 7 ∧ ∀ i, i < L.length → 97 ≤ L.getD i 0 ∧ L.getD i 0 ≤ 122
section Strs
variable {g : zGT} {M : zM} {mc ms : Nat} {Q : zO → zH → Prop} {pc : Nat} {lv : List (Option Value)} {st : List Value} {h : zH} {bc bs : Nat}
theorem r_getW {w idx : Nat} {o n ds : String} {v : Value} (hg : zG g) (hE : va_OF o n ds v w (fun q => (gS_ g).heap.size ≤ q) (gS_ g) (gS_ g).heap) (hlink : Cond.fieldLink M.1 idx o n ds ∈ lw_tbl) (pc' : Nat) (hp : pc + 3 = pc') (d : decode M.2.1 pc = .ok (.getfield idx, 3)) (k : zX g M mc ms Q pc' lv (v :: st) h bc bs) : zX g M mc ms Q pc lv (.ref w :: st) h bc bs := by
  subst hp
  intro p e s m args below meth c F H locs cells slots ls hP hs hL hc hsl hl
  have hZ := (va_OF.moved F.2.2.2.2.2.2.2.1.alike hE).kept (H1 := s.heap) (fun a h1 h2 => F.2.2.2.2.2.2.2.2.2.2 a (by omega))
  exact vk_getf F.1 F.2.1 hZ (zSs F hP hs hL) F.2.2.2.2.1 (zw hg F hlink rfl) (fun x hx => hx) d (k p e s m args below meth c F H locs cells slots ls hP hs hL hc hsl hl)
theorem r_callVW {y : MethodName} {bytes : ByteArray} {maxL : Nat} {ret : Option FieldType} {n lvl mc1 ms1 idx : Nat} {As rest : List Value} {b : Nat} {C : String} (bc2 bs2 : Nat) (hg : zG g) (htab : M.2.2.2.2.1 = []) (md : z_md y bytes maxL ret n) (hO : va_O C b (fun q => (gS_ g).heap.size ≤ q) (gS_ g) (gS_ g).heap) (hin : Cond.instanceMethod y ∈ lw_tbl) (hsel : Cond.selects C y y ∈ lw_tbl) (hlink : Cond.methodLink M.1 idx y ∈ lw_tbl) (hlvl : lvl + 1 ≤ M.2.2.2.2.2.2) (hmaxL : maxL ≤ 150) (hn : As.length = n) (hroom : (rest.map fun v => v.category).sum ≤ 8) (hb1 : bc2 + mc1 ≤ bc) (hb2 : bs2 + ms1 ≤ bs) (hst : st = As.reverse ++ .ref b :: rest) (pc' : Nat) (hp : pc + 3 = pc') (d : decode M.2.1 pc = .ok (.invokevirtual idx, 3))
    (hC : zC g (.code y bytes maxL ret) y lvl mc1 ms1 (.ref b :: As) h (zCont g M mc ms Q pc' lv rest bc2 bs2)) : zX g M mc ms Q pc lv st h bc bs := by
  subst hp; subst hst
  intro p e s m args below meth c F H locs cells slots ls hP hs hL hc hsl hl
  have hrecv : ∃ cell : Cell, H[b]? = some cell ∧ cell.vm.isStatics = false ∧ s.vm.findClass C = some cell.cls := by
    obtain ⟨cell, c1, c2, c3, c4⟩ := (va_O.moved F.2.2.2.2.2.2.2.1.alike hO).kept (H1 := H) (fun a h1 h2 => hP.2.2.1 a (by omega))
    exact ⟨cell, c1, c2, c3⟩
  refine z_run (Q1 := zCont g M mc ms Q (pc + 3) lv rest bc2 bs2) (vx_runV ⟨F.1, F.2.1, F.2.2.1, F.2.2.2.2.1, zts hg F⟩ hC ⟨z_callB hg F md hlvl hmaxL (zw hg F hlink rfl), zw hg F hin rfl, zw hg F hsel rfl⟩ ⟨zC_blind, hrecv, fun U hU hW => ⟨rfl, F.2.2.2.2.2.2.2.1.trans hW, by rw [hU]; exact hP⟩⟩ rfl hn hl.1 rfl (lv_room hroom) d (show cells + mc1 ≤ mc ∧ slots + ms1 ≤ ms by omega)) hL (fun v h' H1 locs1 hP1 hz1 hL1 hq => ?_) (fun E ce q9 h' H1 locs1 hP1 hz1 hL1 hq hce hcv hcl => ?_)
  · exact hq p e s m args below meth c F H1 locs1 (cells + mc1) (slots + ms1) ls hP1 hz1 hL1 (by omega) (by omega) hl
  · exact vx_out (by rw [F.2.2.2.2.2.2.1, htab]; intro x hx; cases hx) F.2.2.2.2.2.1 hce hcv hcl (fun t ht hal => ⟨h', by rw [ht]; exact hP1, hq⟩) hL1 (by omega) (by omega)
theorem r_ldcwS {idx w : Nat} {tx : String} (hM : M.1 = "Platehall") (hs : zSR g idx tx w) (pc' : Nat) (hp : pc + 3 = pc') (d : decode M.2.1 pc = .ok (.ldc_w idx, 3)) (k : zX g M mc ms Q pc' lv (.ref w :: st) h bc bs) : zX g M mc ms Q pc lv st h bc bs := by
  subst hp
  intro p e s m args below meth c F H locs cells slots ls hP hsz hL hc hsl hl
  have hZ : vk_R "Platehall" idx tx w s := vk_R.warm F.2.2.2.2.2.2.2.1 hs
  intro T hT X
  obtain ⟨t, a1, b1⟩ := k p e s m args below meth c F H locs cells slots ls hP hsz hL hc hsl hl T hT X
  exact ⟨t, zldcwS X F.1 (own := "Platehall") (text := tx) (a := w) (by rw [← hM]; exact F.2.2.2.2.1) hZ.1 hZ.2 (g := F0 m pc ls st) rfl (by rw [F.2.1]; exact d) t a1, b1⟩
theorem r_getsI {idx : Nat} {v : Value} {C n ds : String} (hg : zG g) (hz : va_Z C n ds v (fun q => (gS_ g).heap.size ≤ q) (gS_ g) (gS_ g).heap) (hlink : Cond.fieldLink M.1 idx C n ds ∈ lw_tbl) (pc' : Nat) (hp : pc + 3 = pc') (d : decode M.2.1 pc = .ok (.getstatic idx, 3)) (k : zX g M mc ms Q pc' lv (v :: st) h bc bs) : zX g M mc ms Q pc lv st h bc bs := by
  subst hp
  intro p e s m args below meth c F H locs cells slots ls hP hs hL hc hsl hl
  have hS : va_S (fun q => (gS_ g).heap.size ≤ q) s.heap H locs := ⟨hs, fun q hq hn => by rw [hP.2.2.1 q (by omega), F.2.2.2.2.2.2.2.2.2.2 q (by omega)], hL⟩
  have hZ := (va_Z.moved F.2.2.2.2.2.2.2.1.alike hz).kept (H1 := s.heap) (fun a h1 h2 => F.2.2.2.2.2.2.2.2.2.2 a (by omega))
  exact va_gets F.1 F.2.1 hZ hS F.2.2.2.2.1 (zw hg F hlink rfl) (fun x hx => hx) d (k p e s m args below meth c F H locs cells slots ls hP hs hL hc hsl hl)
theorem zI_ishr0 {x : Int} (hx : zR x) : zI x >>> (zI 0 &&& 31) = zI x := by
  have e1 : (zI 0 &&& 31 : Int32) = 0 := by decide
  rw [e1]
  apply Int32.toInt_inj.mp
  rw [← Int32.toInt_toBitVec, Int32.toBitVec_shiftRight]
  show (BitVec.sshiftRight' (zI x).toBitVec (BitVec.smod (Int32.toBitVec 0) 32)).toInt = _
  have e2 : BitVec.smod (Int32.toBitVec 0) 32 = 0#32 := by decide
  rw [e2, BitVec.sshiftRight', BitVec.toInt_sshiftRight]
  simp
theorem r_ishr0 {x : Int} (hx : zR x) (pc' : Nat) (hp : pc + 1 = pc') (d : decode M.2.1 pc = .ok (.ishr, 1)) (k : zX g M mc ms Q pc' lv (.int (zI x) :: st) h bc bs) : zX g M mc ms Q pc lv (.int (zI 0) :: .int (zI x) :: st) h bc bs := by
  subst hp
  intro p e s m args below meth c F H locs cells slots ls hP hs hL hc hsl hl
  refine lv_ishr F.1 F.2.1 d ?_
  rw [zI_ishr0 hx]
  exact k p e s m args below meth c F H locs cells slots ls hP hs hL hc hsl hl
end Strs
theorem zI_and255 {c : Int} (h0 : 97 ≤ c) (h1 : c ≤ 122) : zI c &&& zI 255 = zI c := by
  have : ∀ n : Nat, n < 128 → zI (n : Int) &&& zI 255 = zI (n : Int) := by decide +kernel
  have h := this c.toNat (by omega)
  rw [show ((c.toNat : Nat) : Int) = c by omega] at h
  exact h
abbrev mJ0_isLatin1_aae02 : zM := (RJ0, cJ0_isLatin1_aae02, 1, (Option.some Jvm.ClassFile.FieldType.boolean), [], "isLatin1", 10)
set_option maxRecDepth 20000 in
theorem c_J0_isLatin1_aae02 {g : zGT} {Q : zO → zH → Prop} {h : zH} (hg : zG g) (hcs : zCS g) {w : Nat} {L : List Int} (hw : zWd g w L) (k : Q (.inl (some (.int (zI 1)))) h) : zC g (.code yJ0_isLatin1_aae02 cJ0_isLatin1_aae02 1 (Option.some Jvm.ClassFile.FieldType.boolean)) yJ0_isLatin1_aae02 10 0 0 [.ref w] h Q := by
  refine zC_of (M := mJ0_isLatin1_aae02) (lv := [some (.ref w)]) (by decide) rfl rfl (Nat.le_of_ble_eq_true rfl) rfl rfl ?_
  obtain ⟨b, w1, w2, w3, w4, w6, w7⟩ := id hw
  refine r_getsI hg hcs.1 (tb_3 190 _ rfl) 3 rfl (dd_J0_isLatin1_aae02 0 _ _ _ rfl) ?_
  refine r_ifeq (by omega) 6 rfl 17 rfl (dd_J0_isLatin1_aae02 1 _ _ _ rfl) (fun q => absurd q (by decide)) (fun _ => ?_)
  refine r_aload_0 7 rfl (dd_J0_isLatin1_aae02 2 _ _ _ rfl) ?_
  refine r_getW hg w3 (tb_4 80 _ rfl) 10 rfl (dd_J0_isLatin1_aae02 3 _ _ _ rfl) ?_
  refine r_ifne (by omega) 13 rfl 17 rfl (dd_J0_isLatin1_aae02 4 _ _ _ rfl) (fun q => absurd q (by decide)) (fun _ => ?_)
  refine r_iconst 14 rfl (dd_J0_isLatin1_aae02 5 _ _ _ rfl) ?_
  refine r_goto 18 rfl (dd_J0_isLatin1_aae02 6 _ _ _ rfl) ?_
  refine r_ireturn rfl rfl (dd_J0_isLatin1_aae02 8 _ _ _ rfl) ?_
  exact k

abbrev mJ0_coder_7d493 : zM := (RJ0, cJ0_coder_7d493, 1, (Option.some Jvm.ClassFile.FieldType.byte), [], "coder", 10)
set_option maxRecDepth 20000 in
theorem c_J0_coder_7d493 {g : zGT} {Q : zO → zH → Prop} {h : zH} (hg : zG g) (hcs : zCS g) {w : Nat} {L : List Int} (hw : zWd g w L) (k : Q (.inl (some (.int (zI 0)))) h) : zC g (.code yJ0_coder_7d493 cJ0_coder_7d493 1 (Option.some Jvm.ClassFile.FieldType.byte)) yJ0_coder_7d493 10 0 0 [.ref w] h Q := by
  refine zC_of (M := mJ0_coder_7d493) (lv := [some (.ref w)]) (by decide) rfl rfl (Nat.le_of_ble_eq_true rfl) rfl rfl ?_
  obtain ⟨b, w1, w2, w3, w4, w6, w7⟩ := id hw
  refine r_getsI hg hcs.1 (tb_3 190 _ rfl) 3 rfl (dd_J0_coder_7d493 0 _ _ _ rfl) ?_
  refine r_ifeq (by omega) 6 rfl 13 rfl (dd_J0_coder_7d493 1 _ _ _ rfl) (fun q => absurd q (by decide)) (fun _ => ?_)
  refine r_aload_0 7 rfl (dd_J0_coder_7d493 2 _ _ _ rfl) ?_
  refine r_getW hg w3 (tb_4 80 _ rfl) 10 rfl (dd_J0_coder_7d493 3 _ _ _ rfl) ?_
  refine r_goto 14 rfl (dd_J0_coder_7d493 4 _ _ _ rfl) ?_
  refine r_ireturn rfl rfl (dd_J0_coder_7d493 6 _ _ _ rfl) ?_
  exact k

abbrev mJ0_length_8abf5 : zM := (RJ0, cJ0_length_8abf5, 1, (Option.some Jvm.ClassFile.FieldType.int), [], "length", 11)
set_option maxRecDepth 20000 in
theorem c_J0_length_8abf5 {g : zGT} {Q : zO → zH → Prop} {h : zH} (hg : zG g) (hcs : zCS g) {w : Nat} {L : List Int} (hw : zWd g w L) (k : Q (.inl (some (.int (zI (L.length : Int))))) h) : zC g (.code yJ0_length_8abf5 cJ0_length_8abf5 1 (Option.some Jvm.ClassFile.FieldType.int)) yJ0_length_8abf5 11 0 0 [.ref w] h Q := by
  refine zC_of (M := mJ0_length_8abf5) (lv := [some (.ref w)]) (by decide) rfl rfl (Nat.le_of_ble_eq_true rfl) rfl rfl ?_
  obtain ⟨b, w1, w2, w3, w4, w6, w7⟩ := id hw
  refine r_aload_0 1 rfl (dd_J0_length_8abf5 0 _ _ _ rfl) ?_
  refine r_getW hg w2 (tb_4 79 _ rfl) 4 rfl (dd_J0_length_8abf5 1 _ _ _ rfl) ?_
  refine r_alenT w4 5 rfl (dd_J0_length_8abf5 2 _ _ _ rfl) ?_
  refine r_aload_0 6 rfl (dd_J0_length_8abf5 3 _ _ _ rfl) ?_
  refine r_callVW (As := []) (lvl := 10) (mc1 := 0) (ms1 := 0) 0 0 hg rfl md_J0_coder_7d493 w1 wi_J0_coder_7d493 wv_J0_coder_7d493 (tb_3 186 _ rfl) (by decide) (by decide) rfl (Nat.le_of_ble_eq_true rfl) (Nat.le_of_ble_eq_true rfl) (Nat.le_of_ble_eq_true rfl) rfl 9 rfl (dd_J0_length_8abf5 4 _ _ _ rfl) ?_
  refine c_J0_coder_7d493 hg hcs hw ?_
  dsimp only [zCont, Option.toList, List.cons_append, List.nil_append]
  refine r_ishr0 (by omega) 10 rfl (dd_J0_length_8abf5 5 _ _ _ rfl) ?_
  refine r_ireturn rfl rfl (dd_J0_length_8abf5 6 _ _ _ rfl) ?_
  exact k

set_option maxRecDepth 20000 in
theorem c_J3_checkIndexR {g : zGT} {Q : zO → zH → Prop} {h : zH} (hg : zG g) {i n : Int} {f : Nat} (hi : 0 ≤ i ∧ i < n) (hn : n ≤ 2147483647) (k : Q (.inl (some (.int (zI i)))) h) : zC g (.code yJ3_checkIndex_8e157 cJ3_checkIndex_8e157 3 (Option.some Jvm.ClassFile.FieldType.int)) yJ3_checkIndex_8e157 10 0 0 [.int (zI i), .int (zI n), .ref f] h Q := by
  refine zC_of (M := mJ3_checkIndex_8e157) (lv := [some (.int (zI i)), some (.int (zI n)), some (.ref f)]) (by decide) rfl rfl (Nat.le_of_ble_eq_true rfl) rfl rfl ?_
  refine r_iload_0 1 rfl (dd_J3_checkIndex_8e157 0 _ _ _ rfl) ?_
  refine r_iflt (by omega) 4 rfl 9 rfl (dd_J3_checkIndex_8e157 1 _ _ _ rfl) (fun hc1 => ?_) (fun hc1 => ?_)
  · exfalso; omega
  · refine r_iload_0 5 rfl (dd_J3_checkIndex_8e157 2 _ _ _ rfl) ?_
    refine r_iload_1 6 rfl (dd_J3_checkIndex_8e157 3 _ _ _ rfl) ?_
    refine r_if_icmplt (by omega) (by omega) 9 rfl 16 rfl (dd_J3_checkIndex_8e157 4 _ _ _ rfl) (fun hc2 => ?_) (fun hc2 => ?_)
    · refine r_iload_0 17 rfl (dd_J3_checkIndex_8e157 10 _ _ _ rfl) ?_
      refine r_ireturn rfl rfl (dd_J3_checkIndex_8e157 11 _ _ _ rfl) ?_
      exact k
    · exfalso; omega

abbrev mJ0_checkIndex_df160 : zM := (RJ0, cJ0_checkIndex_df160, 2, (Option.none : Option Jvm.ClassFile.FieldType), [], "checkIndex", 11)
set_option maxRecDepth 20000 in
theorem c_J0_checkIndex_df160 {g : zGT} {Q : zO → zH → Prop} {h : zH} (hg : zG g) (hcs : zCS g) {i n : Int} (hi : 0 ≤ i ∧ i < n) (hn : n ≤ 2147483647) (k : Q (.inl none) h) : zC g (.code yJ0_checkIndex_df160 cJ0_checkIndex_df160 2 (Option.none : Option Jvm.ClassFile.FieldType)) yJ0_checkIndex_df160 11 0 0 [.int (zI i), .int (zI n)] h Q := by
  refine zC_of (M := mJ0_checkIndex_df160) (lv := [some (.int (zI i)), some (.int (zI n))]) (by decide) rfl rfl (Nat.le_of_ble_eq_true rfl) rfl rfl ?_
  refine r_iload_0 1 rfl (dd_J0_checkIndex_df160 0 _ _ _ rfl) ?_
  refine r_iload_1 2 rfl (dd_J0_checkIndex_df160 1 _ _ _ rfl) ?_
  rcases hcs.2 with hq | ⟨f, hq⟩
  · refine r_getsI hg hq (tb_3 168 _ rfl) 5 rfl (dd_J0_checkIndex_df160 2 _ _ _ rfl) ?_
    refine r_callS3 (lvl := 10) (mc1 := 0) (ms1 := 0) 0 0 hg rfl md_J3_checkIndex_8e157 ws_J3_checkIndex_8e157 (tb_6 8 _ rfl) (by decide) (by decide) rfl (Nat.le_of_ble_eq_true rfl) (Nat.le_of_ble_eq_true rfl) (Nat.le_of_ble_eq_true rfl) 8 rfl (dd_J0_checkIndex_df160 3 _ _ _ rfl) ?_
    refine c_J3_checkIndex_8e157 hg (by omega) (by omega) ?_
    dsimp only [zCont, Option.toList, List.cons_append, List.nil_append]
    refine r_pop rfl 9 rfl (dd_J0_checkIndex_df160 4 _ _ _ rfl) ?_
    refine r_vreturn rfl (dd_J0_checkIndex_df160 5 _ _ _ rfl) ?_
    exact k
  · refine r_getsI hg hq (tb_3 168 _ rfl) 5 rfl (dd_J0_checkIndex_df160 2 _ _ _ rfl) ?_
    refine r_callS3 (lvl := 10) (mc1 := 0) (ms1 := 0) 0 0 hg rfl md_J3_checkIndex_8e157 ws_J3_checkIndex_8e157 (tb_6 8 _ rfl) (by decide) (by decide) rfl (Nat.le_of_ble_eq_true rfl) (Nat.le_of_ble_eq_true rfl) (Nat.le_of_ble_eq_true rfl) 8 rfl (dd_J0_checkIndex_df160 3 _ _ _ rfl) ?_
    refine c_J3_checkIndexR hg (by omega) (by omega) ?_
    dsimp only [zCont, Option.toList, List.cons_append, List.nil_append]
    refine r_pop rfl 9 rfl (dd_J0_checkIndex_df160 4 _ _ _ rfl) ?_
    refine r_vreturn rfl (dd_J0_checkIndex_df160 5 _ _ _ rfl) ?_
    exact k

abbrev mJ1_charAt_3b067 : zM := (RJ1, cJ1_charAt_3b067, 2, (Option.some Jvm.ClassFile.FieldType.char), [], "charAt", 12)
set_option maxRecDepth 20000 in
theorem c_J1_charAt_3b067 {g : zGT} {Q : zO → zH → Prop} {h : zH} (hg : zG g) (hcs : zCS g) {b i : Nat} {L : List Int} (w4 : va_T .byte b L.length (fun j => .int (zI (L.getD j 0))) (fun q => (gS_ g).heap.size ≤ q) (gS_ g) (gS_ g).heap) (w6 : L.length ≤ 7) (w7 : ∀ i, i < L.length → 97 ≤ L.getD i 0 ∧ L.getD i 0 ≤ 122) (hi : i < L.length) (k : Q (.inl (some (.int (zI (L.getD i 0))))) h) : zC g (.code yJ1_charAt_3b067 cJ1_charAt_3b067 2 (Option.some Jvm.ClassFile.FieldType.char)) yJ1_charAt_3b067 12 0 0 [.ref b, .int (zI (i : Int))] h Q := by
  refine zC_of (M := mJ1_charAt_3b067) (lv := [some (.ref b), some (.int (zI (i : Int)))]) (by decide) rfl rfl (Nat.le_of_ble_eq_true rfl) rfl rfl ?_
  refine r_iload_1 1 rfl (dd_J1_charAt_3b067 0 _ _ _ rfl) ?_
  refine r_aload_0 2 rfl (dd_J1_charAt_3b067 1 _ _ _ rfl) ?_
  refine r_alenT w4 3 rfl (dd_J1_charAt_3b067 2 _ _ _ rfl) ?_
  refine r_callS2 (lvl := 11) (mc1 := 0) (ms1 := 0) 0 0 hg rfl md_J0_checkIndex_df160 ws_J0_checkIndex_df160 (tb_6 5 _ rfl) (by decide) (by decide) rfl (Nat.le_of_ble_eq_true rfl) (Nat.le_of_ble_eq_true rfl) (Nat.le_of_ble_eq_true rfl) 6 rfl (dd_J1_charAt_3b067 3 _ _ _ rfl) ?_
  refine c_J0_checkIndex_df160 hg hcs (by omega) (by omega) ?_
  dsimp only [zCont, Option.toList, List.cons_append, List.nil_append]
  refine r_aload_0 7 rfl (dd_J1_charAt_3b067 4 _ _ _ rfl) ?_
  refine r_iload_1 8 rfl (dd_J1_charAt_3b067 5 _ _ _ rfl) ?_
  refine r_bbaload (f := fun j => L.getD j 0) w4 (by omega) (by omega) (by omega) 9 rfl (dd_J1_charAt_3b067 6 _ _ _ rfl) ?_
  rw [show ((i : Int)).toNat = i by omega]
  have w8 := w7 i hi
  refine r_sipush (by decide) 12 rfl (dd_J1_charAt_3b067 7 _ _ _ rfl) ?_
  refine r_iand 13 rfl (dd_J1_charAt_3b067 8 _ _ _ rfl) ?_
  refine r_top (L.getD i 0) (zI_and255 w8.1 w8.2) ?_
  refine r_i2c (by omega) (by omega) 14 rfl (dd_J1_charAt_3b067 9 _ _ _ rfl) ?_
  refine r_ireturn rfl (z_nchar (by omega) (by omega)) (dd_J1_charAt_3b067 10 _ _ _ rfl) ?_
  exact k

abbrev mJ0_charAt_5068e : zM := (RJ0, cJ0_charAt_5068e, 2, (Option.some Jvm.ClassFile.FieldType.char), [], "charAt", 13)
set_option maxRecDepth 20000 in
theorem c_J0_charAt_5068e {g : zGT} {Q : zO → zH → Prop} {h : zH} (hg : zG g) (hcs : zCS g) {w : Nat} {L : List Int} (hw : zWd g w L) {i : Nat} (hi : i < L.length) (k : Q (.inl (some (.int (zI (L.getD i 0))))) h) : zC g (.code yJ0_charAt_5068e cJ0_charAt_5068e 2 (Option.some Jvm.ClassFile.FieldType.char)) yJ0_charAt_5068e 13 0 0 [.ref w, .int (zI (i : Int))] h Q := by
  refine zC_of (M := mJ0_charAt_5068e) (lv := [some (.ref w), some (.int (zI (i : Int)))]) (by decide) rfl rfl (Nat.le_of_ble_eq_true rfl) rfl rfl ?_
  obtain ⟨b, w1, w2, w3, w4, w6, w7⟩ := id hw
  refine r_aload_0 1 rfl (dd_J0_charAt_5068e 0 _ _ _ rfl) ?_
  refine r_callVW (As := []) (lvl := 10) (mc1 := 0) (ms1 := 0) 0 0 hg rfl md_J0_isLatin1_aae02 w1 wi_J0_isLatin1_aae02 wv_J0_isLatin1_aae02 (tb_5 238 _ rfl) (by decide) (by decide) rfl (Nat.le_of_ble_eq_true rfl) (Nat.le_of_ble_eq_true rfl) (Nat.le_of_ble_eq_true rfl) rfl 4 rfl (dd_J0_charAt_5068e 1 _ _ _ rfl) ?_
  refine c_J0_isLatin1_aae02 hg hcs hw ?_
  dsimp only [zCont, Option.toList, List.cons_append, List.nil_append]
  refine r_ifeq (by omega) 7 rfl 16 rfl (dd_J0_charAt_5068e 2 _ _ _ rfl) (fun q => absurd q (by decide)) (fun _ => ?_)
  refine r_aload_0 8 rfl (dd_J0_charAt_5068e 3 _ _ _ rfl) ?_
  refine r_getW hg w2 (tb_4 79 _ rfl) 11 rfl (dd_J0_charAt_5068e 4 _ _ _ rfl) ?_
  refine r_iload_1 12 rfl (dd_J0_charAt_5068e 5 _ _ _ rfl) ?_
  refine r_callS2 (lvl := 12) (mc1 := 0) (ms1 := 0) 0 0 hg rfl md_J1_charAt_3b067 ws_J1_charAt_3b067 (tb_6 2 _ rfl) (by decide) (by decide) rfl (Nat.le_of_ble_eq_true rfl) (Nat.le_of_ble_eq_true rfl) (Nat.le_of_ble_eq_true rfl) 15 rfl (dd_J0_charAt_5068e 6 _ _ _ rfl) ?_
  refine c_J1_charAt_3b067 hg hcs w4 w6 w7 hi ?_
  dsimp only [zCont, Option.toList, List.cons_append, List.nil_append]
  refine r_ireturn rfl (z_nchar (by have := w7 i hi; omega) (by have := w7 i hi; omega)) (dd_J0_charAt_5068e 7 _ _ _ rfl) ?_
  exact k

abbrev mX0_spells : zM := (RX0, cX0_spells, 3, (Option.some Jvm.ClassFile.FieldType.boolean), [], "spells", 14)
set_option maxRecDepth 20000 in
theorem c_X0_spells {g : zGT} {Q : zO → zH → Prop} {h : zH} (hg : zG g) {o : Nat → Nat} {r a n : Nat} {S : zS} (hI : MInv n S) (x : BuRep o r h a S) (hcs : zCS g) {w : Nat} {L : List Int} (hw : zWd g w L) (k1 : (S.1 2 = (L.length : Int) ∧ ∀ i, i < L.length → S.2 3 i = L.getD i 0) → Q (.inl (some (.int (zI 1)))) h) (k0 : ¬ ((S.1 2 = (L.length : Int) ∧ ∀ i, i < L.length → S.2 3 i = L.getD i 0)) → Q (.inl (some (.int (zI 0)))) h) : zC g (.code yX0_spells cX0_spells 3 (Option.some Jvm.ClassFile.FieldType.boolean)) yX0_spells 14 0 0 [.ref a, .ref w] h Q := by
  refine zC_of (M := mX0_spells) (lv := [some (.ref a), some (.ref w), none]) (by decide) rfl rfl (Nat.le_of_ble_eq_true rfl) rfl rfl ?_
  obtain ⟨sg, x1, x2, x3, x4, x5, x6, x7, x8⟩ := id x
  obtain ⟨wb, w1, w2, w3, w4, w6, w7⟩ := id hw
  have hwk := w1
  have hs := hI.signs
  refine r_aload_1 1 rfl (dd_X0_spells 0 _ _ _ rfl) ?_
  refine r_callVW (As := []) (lvl := 11) (mc1 := 0) (ms1 := 0) 0 0 hg rfl md_J0_length_8abf5 hwk wi_J0_length_8abf5 wv_J0_length_8abf5 (tb_5 233 _ rfl) (by decide) (by decide) rfl (Nat.le_of_ble_eq_true rfl) (Nat.le_of_ble_eq_true rfl) (Nat.le_of_ble_eq_true rfl) rfl 4 rfl (dd_X0_spells 1 _ _ _ rfl) ?_
  refine c_J0_length_8abf5 hg hcs hw ?_
  dsimp only [zCont, Option.toList, List.cons_append, List.nil_append]
  refine r_aload_0 5 rfl (dd_X0_spells 2 _ _ _ rfl) ?_
  refine r_geti hg zc_X0 1 (by decide) (fun _ _ _ => rfl) x4 x1 (Or.inl rfl) (tb_1 50 _ rfl) 8 rfl (dd_X0_spells 3 _ _ _ rfl) ?_
  refine r_if_icmpeq (by omega) (by omega) 11 rfl 13 rfl (dd_X0_spells 4 _ _ _ rfl) (fun hc1 => ?_) (fun hc1 => ?_)
  · refine r_iconst 14 rfl (dd_X0_spells 7 _ _ _ rfl) ?_
    refine r_istore_2 15 rfl (by decide) rfl (dd_X0_spells 8 _ _ _ rfl) ?_
    have L15 : ∀ (tt : Nat), ∀ (j : Nat) (b : Int), 100 - j < tt → ((j : Int) ≤ S.1 2) → (b = j) → (∀ i, i < j → S.2 3 i = L.getD i 0) → zX g mX0_spells 0 0 Q 15 [some (.ref a), some (.ref w), some (.int (zI b))] [] h 0 0 := by
      intro tt15
      induction tt15 with
      | zero => intros; exfalso; omega
      | succ tt15 ih15 =>
        intro j b hlt15 hj hb hall
        subst hb
        refine r_iload_2 16 rfl (dd_X0_spells 9 _ _ _ rfl) ?_
        refine r_aload_0 17 rfl (dd_X0_spells 10 _ _ _ rfl) ?_
        refine r_geti hg zc_X0 1 (by decide) (fun _ _ _ => rfl) x4 x1 (Or.inl rfl) (tb_1 50 _ rfl) 20 rfl (dd_X0_spells 11 _ _ _ rfl) ?_
        refine r_if_icmpge (by omega) (by omega) 23 rfl 54 rfl (dd_X0_spells 12 _ _ _ rfl) (fun hc2 => ?_) (fun hc2 => ?_)
        · refine r_iconst 55 rfl (dd_X0_spells 30 _ _ _ rfl) ?_
          refine r_ireturn rfl rfl (dd_X0_spells 31 _ _ _ rfl) ?_
          exact k1 ⟨by omega, fun i hi => hall i (by omega)⟩
        · refine r_iload_2 24 rfl (dd_X0_spells 13 _ _ _ rfl) ?_
          refine r_aload_0 25 rfl (dd_X0_spells 14 _ _ _ rfl) ?_
          refine r_getr hg zc_X0 0 (by decide) (fun _ _ _ => rfl) x3 x1 (Or.inl rfl) (tb_1 49 _ rfl) 28 rfl (dd_X0_spells 15 _ _ _ rfl) ?_
          refine r_arraylength hg x5 (by decide) (by decide) 29 rfl (dd_X0_spells 16 _ _ _ rfl) ?_
          rw [x7]
          refine r_if_icmpge (by omega) (by omega) 32 rfl 54 rfl (dd_X0_spells 17 _ _ _ rfl) (fun hc3 => ?_) (fun hc3 => ?_)
          · refine r_iconst 55 rfl (dd_X0_spells 30 _ _ _ rfl) ?_
            refine r_ireturn rfl rfl (dd_X0_spells 31 _ _ _ rfl) ?_
            exact k1 ⟨by omega, fun i hi => hall i (by omega)⟩
          · have w8 := w7 j (by omega)
            have hbf := hI.buffer j
            refine r_aload_1 33 rfl (dd_X0_spells 18 _ _ _ rfl) ?_
            refine r_iload_2 34 rfl (dd_X0_spells 19 _ _ _ rfl) ?_
            refine r_callVW (As := [_]) (lvl := 13) (mc1 := 0) (ms1 := 0) 0 0 hg rfl md_J0_charAt_5068e hwk wi_J0_charAt_5068e wv_J0_charAt_5068e (tb_5 234 _ rfl) (by decide) (by decide) rfl (Nat.le_of_ble_eq_true rfl) (Nat.le_of_ble_eq_true rfl) (Nat.le_of_ble_eq_true rfl) rfl 37 rfl (dd_X0_spells 20 _ _ _ rfl) ?_
            refine c_J0_charAt_5068e hg hcs hw (i := j) (by omega) ?_
            dsimp only [zCont, Option.toList, List.cons_append, List.nil_append]
            refine r_aload_0 38 rfl (dd_X0_spells 21 _ _ _ rfl) ?_
            refine r_getr hg zc_X0 0 (by decide) (fun _ _ _ => rfl) x3 x1 (Or.inl rfl) (tb_1 49 _ rfl) 41 rfl (dd_X0_spells 22 _ _ _ rfl) ?_
            refine r_iload_2 42 rfl (dd_X0_spells 23 _ _ _ rfl) ?_
            refine r_caload hg x5 (by omega) (by omega) (by omega) 43 rfl (dd_X0_spells 24 _ _ _ rfl) ?_
            rw [show ((j : Int)).toNat = j by omega, x8 j (by omega)]
            refine r_if_icmpeq (by omega) (by omega) 46 rfl 48 rfl (dd_X0_spells 25 _ _ _ rfl) (fun hc4 => ?_) (fun hc4 => ?_)
            · refine r_iinc_2 51 rfl (by decide) rfl (dd_X0_spells 28 _ _ _ rfl) ?_
              refine r_goto 15 rfl (dd_X0_spells 29 _ _ _ rfl) ?_
              exact r_sub _ (z_s1 (z_s1 (z_s1 z_sN))) (ih15 (j + 1) _ (by omega) (by omega) (by omega) (lt_s hall (by omega)))
            · refine r_iconst 47 rfl (dd_X0_spells 26 _ _ _ rfl) ?_
              refine r_ireturn rfl rfl (dd_X0_spells 27 _ _ _ rfl) ?_
              first | exact k0 (fun q => by have := q.1; omega) | exact k0 (fun q => by have := q.2 j (by omega); omega)
    exact r_sub _ (z_s1 (z_s1 (z_s1 z_sN))) (L15 1000000 0 _ (by omega) (by omega) rfl lt_0)
  · refine r_iconst 12 rfl (dd_X0_spells 5 _ _ _ rfl) ?_
    refine r_ireturn rfl rfl (dd_X0_spells 6 _ _ _ rfl) ?_
    first | exact k0 (fun q => by have := q.1; omega) | exact k0 (fun q => by have := q.2 j (by omega); omega)
