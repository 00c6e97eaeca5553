section LawRows
variable {g : zGT} {M : zM} {mc ms : Nat} {Q : zO → zH → Prop} {pc : Nat} {lv : List (Option Value)} {st : List Value} {h : zH} {bc bs : Nat}
abbrev nISE : String := "java/lang/IllegalStateException"
abbrev nIAE : String := "java/lang/IllegalArgumentException"
abbrev nIOE : String := "java/lang/IndexOutOfBoundsException"
/-- no one of the three exceptions is another -/
def zNX (g : zGT) : Prop := va_Nc nISE nIAE (gS_ g) ∧ va_Nc nISE nIOE (gS_ g) ∧ va_Nc nIAE nIOE (gS_ g) ∧ va_Nc nIAE nISE (gS_ g) ∧ va_Nc nIOE nISE (gS_ g) ∧ va_Nc nIOE nIAE (gS_ g)
theorem zC_ofH {hh : List (Nat × Nat × Nat × Nat)} {y : MethodName} {avs : List Value} (hg : zG g) (hw : Cond.codeWith y M.2.1 M.2.2.1 M.2.2.2.1 hh ∈ lw_tbl) (hy : plainName y.cls = true) (hown : y.cls = M.1) (hnm : y.name = M.2.2.2.2.2.1) (hlen : (lg_sl avs).length ≤ M.2.2.1) (htab : M.2.2.2.2.1 = tableOf hh) (hlv : z_args M.2.2.1 avs = lv) (k : zX g M mc ms Q 0 lv [] h mc ms) : zC g (.codeWith y M.2.1 M.2.2.1 M.2.2.2.1 hh) y M.2.2.2.2.2.2 mc ms avs h Q := by
  subst hlv
  refine vx_ofWH (cc := M.2.1) (maxL := M.2.2.1) (ret := M.2.2.2.1) (hh := hh) hy rfl ?_
  intro p e s m args below meth c s₁ B hml hv
  obtain ⟨rfl, hW, hP⟩ := hv
  have hl := lv_entry avs (n := M.2.2.1) hlen
  rw [lg_entry_eq]
  generalize (lg_sl avs ++ List.replicate (M.2.2.1 - (lg_sl avs).length) Slot.unset).toArray = ls at hl ⊢
  refine k p e s m _ below meth c ⟨B.exec, B.bytes, hml, B.returns, ?_, B.notSynchronized, ?_, hW, ?_, hP.2.2.2.1, hP.2.2.1⟩ s.heap [] 0 0 ls hP (Nat.le_refl _) (fun z hz => by cases hz) (by omega) (by omega) ?_
  · rw [← hown]; exact findClass_of_methodNamed B.named
  · rw [htab]
    exact vx_table (x := y) B (word_at hW (good_of_word rfl) (hg.2.1 _ hw))
  · rw [← hnm]; exact (name_of_methodNamed B.named B.method).1
  · refine ⟨hl.1, hl.2.1, fun q hq => hl.2.2 q ?_⟩
    obtain ⟨i, v⟩ := q
    have := z_args_mem avs _ 0 i v (z_as_mem.mp hq)
    rwa [Nat.zero_add] at this
/-- row 'x' of M's table is the first that takes exception E thrown at pc -/
def zHand (g : zGT) (M : zM) (pc : Nat) (E : String) (tgt : Nat) : Prop := ∃ (pre : List ExceptionTableEntry) (x : ExceptionTableEntry) (suf : List ExceptionTableEntry), M.2.2.2.2.1 = pre ++ x :: suf ∧ x.handlerPc = tgt ∧ covers x pc = true ∧ x.catchType ≠ 0 ∧ Cond.classLink M.1 x.catchType E ∈ lw_tbl ∧ Cond.castable E E ∈ lw_tbl ∧ ∀ z ∈ pre, z.catchType ≠ 0 ∧ ∃ nm : String, Cond.classLink M.1 z.catchType nm ∈ lw_tbl ∧ va_Nc E nm (gS_ g)
abbrev zContH (g : zGT) (M : zM) (mc ms : Nat) (Q : zO → zH → Prop) (pc pc' : Nat) (lv : List (Option Value)) (st : List Value) (bc bs : Nat) : zO → zH → Prop := fun o h' => match o with
  | .inl v => zX g M mc ms Q pc' lv (v.toList ++ st) h' bc bs
  | .inr E => ∃ tgt : Nat, zHand g M pc E tgt ∧ ∀ q : Nat, zX g M mc ms Q tgt lv [.ref q] h' bc bs
theorem r_callVH {y : MethodName} {bytes : ByteArray} {maxL : Nat} {ret : Option FieldType} {n lvl mc1 ms1 idx : Nat} {As rest : List Value} {b ci : Nat} {C : String} {T : u_T} {N : Nat} {ty : Nat → FieldType} (bc2 bs2 : Nat) (hg : zG g) (md : z_md y bytes maxL ret n) (zc : z_cls ci C T N ty) (hkd : kd_ h b = ci + 1) (hin : Cond.instanceMethod y ∈ lw_tbl) (hsel : Cond.selects C y y ∈ lw_tbl) (hlink : Cond.methodLink M.1 idx y ∈ lw_tbl) (hlvl : lvl + 1 ≤ M.2.2.2.2.2.2) (hmaxL : maxL ≤ 150) (hn : As.length = n) (hroom : (rest.map fun v => v.category).sum ≤ 8) (hb1 : bc2 + mc1 ≤ bc) (hb2 : bs2 + ms1 ≤ bs) (hst : st = As.reverse ++ .ref b :: rest) (pc' : Nat) (hp : pc + 3 = pc') (d : decode M.2.1 pc = .ok (.invokevirtual idx, 3))
    (hC : zC g (.code y bytes maxL ret) y lvl mc1 ms1 (.ref b :: As) h (zContH g M mc ms Q pc pc' lv rest bc2 bs2)) : zX g M mc ms Q pc lv st h bc bs := by
  subst hp; subst hst
  intro p e s m args below meth c F H locs cells slots ls hP hs hL hc hsl hl
  obtain ⟨z1, z2, z3, z4, z5, z6, z7⟩ := zc
  have hrecv := va_recv (zK hg F) (hP.obj hkd z7) z1 (q0 := 0) rfl
  refine z_run (Q1 := zContH g M mc ms Q pc (pc + 3) lv rest bc2 bs2) (vx_runV ⟨F.1, F.2.1, F.2.2.1, F.2.2.2.2.1, zts hg F⟩ hC ⟨z_callB hg F md hlvl hmaxL (zw hg F hlink rfl), zw hg F hin rfl, zw hg F hsel rfl⟩ ⟨zC_blind, hrecv, fun U hU hW => ⟨rfl, F.2.2.2.2.2.2.2.1.trans hW, by rw [hU]; exact hP⟩⟩ rfl hn hl.1 rfl (lv_room hroom) d (show cells + mc1 ≤ mc ∧ slots + ms1 ≤ ms by omega)) hL (fun v h' H1 locs1 hP1 hz1 hL1 hq => ?_) (fun E ce q9 h' H1 locs1 hP1 hz1 hL1 hq hce hcv hcl => ?_)
  · exact hq p e s m args below meth c F H1 locs1 (cells + mc1) (slots + ms1) ls hP1 hz1 hL1 (by omega) (by omega) hl
  · obtain ⟨tgt, ⟨pre, x, suf, w1, w2, w3, w4, w5, w6, w7⟩, kk⟩ := hq
    subst w2
    refine vx_catch (own := M.1) (name := E) (E := E) F.2.2.2.2.1 pre x suf (F.2.2.2.2.2.2.1.trans w1) (fun z hz => ?_) w3 w4 (zw hg F w5 rfl) (zw2 hg F w6 rfl) hce hcv hcl ?_
    · obtain ⟨a1, nm, a2, a3⟩ := w7 z hz
      exact Or.inr ⟨a1, nm, zw hg F a2 rfl, va_Nc.moved F.2.2.2.2.2.2.2.1.alike a3⟩
    · exact kk q9 p e s m args below meth c F H1 locs1 (cells + mc1) (slots + ms1) ls hP1 hz1 hL1 (by omega) (by omega) hl
/-- what the tables say of a method with handlers -/
def z_mh (y : MethodName) (bytes : ByteArray) (maxL : Nat) (ret : Option FieldType) (hh : List (Nat × Nat × Nat × Nat)) (n : Nat) : Prop := Cond.codeWith y bytes maxL ret hh ∈ lw_tbl ∧ Cond.initialized y.cls ∈ lw_tbl ∧ (y.cls ≠ "java/lang/invoke/MethodHandle" ∧ y.cls ≠ "java/lang/invoke/VarHandle") ∧ (parseMethodDescriptor y.desc).map (fun d => d.parameters.length) = some n
theorem z_callSW {p : Program} {s : State} {m : MethodId} {meth : Method} {c : Code} {args : Array Value} {y : MethodName} {bytes : ByteArray} {maxL : Nat} {ret : Option FieldType} {hh : List (Nat × Nat × Nat × Nat)} {n lvl mc1 ms1 idx : Nat} (hg : zG g) (F : zF g M p s m meth c) (md : z_mh y bytes maxL ret hh n) (hlvl : lvl + 1 ≤ M.2.2.2.2.2.2) (hmaxL : maxL ≤ 150) (hlink : Cond.methodLink M.1 idx y ∈ lw_tbl) (hstat : Cond.static y ∈ lw_tbl) :
    vx_CSW (zRoom M mc ms) s args M.1 idx y bytes maxL ret hh [.codeWith y bytes maxL ret hh] { frames := lvl, cells := mc1, slots := ms1, locals := 200 * lvl } mc1 ms1 n := by
  obtain ⟨m1, m2, m3, m4⟩ := md
  refine ⟨⟨rfl, rfl, hlvl, by show _ ≤ 200 * M.2.2.2.2.2.2; show 8 + (maxL + 11) + 200 * lvl ≤ _; omega, fun w hw a' U hU => ?_, List.mem_singleton_self _⟩, zw hg F m1 rfl, zw hg F m2 rfl, m3, fun sig hsig => ?_, zw hg F hlink rfl, zw hg F hstat rfl⟩
  · rw [List.mem_singleton.mp hw]
    exact word_at (F.2.2.2.2.2.2.2.1.trans hU) (good_of_word rfl) (hg.2.1 _ m1)
  · rw [hsig] at m4
    exact (Option.some.inj m4).symm
theorem r_callSH {y : MethodName} {bytes : ByteArray} {maxL : Nat} {ret : Option FieldType} {hh : List (Nat × Nat × Nat × Nat)} {n lvl mc1 ms1 idx : Nat} {As rest : List Value} (bc2 bs2 : Nat) (hg : zG g) (htab : M.2.2.2.2.1 = []) (md : z_mh y bytes maxL ret hh n) (hstat : Cond.static y ∈ lw_tbl) (hlink : Cond.methodLink M.1 idx y ∈ lw_tbl) (hlvl : lvl + 1 ≤ M.2.2.2.2.2.2) (hmaxL : maxL ≤ 150) (hn : As.length = n) (hroom : (rest.map fun v => v.category).sum ≤ 8) (hb1 : bc2 + mc1 ≤ bc) (hb2 : bs2 + ms1 ≤ bs) (hst : st = As.reverse ++ rest) (pc' : Nat) (hp : pc + 3 = pc') (d : decode M.2.1 pc = .ok (.invokestatic idx, 3))
    (hC : zC g (.codeWith y bytes maxL ret hh) y lvl mc1 ms1 As h (zCont g M mc ms Q pc' lv rest bc2 bs2)) : zX g M mc ms Q pc lv st h bc bs := by
  subst hp; subst hst
  intro p e s m args below meth c F H locs cells slots ls hP hs hL hc hsl hl
  refine z_run (Q1 := zCont g M mc ms Q (pc + 3) lv rest bc2 bs2) (vx_runSX ⟨F.1, F.2.1, F.2.2.1, F.2.2.2.2.1, zts hg F⟩ hC (z_callSW hg F md hlvl hmaxL hlink hstat) ⟨zC_blind, fun U hU hW => ⟨rfl, F.2.2.2.2.2.2.2.1.trans hW, by rw [hU]; exact hP⟩⟩ rfl hn hl.1 rfl (lv_room hroom) d (show cells + mc1 ≤ mc ∧ slots + ms1 ≤ ms by omega)) hL (fun v h' H1 locs1 hP1 hz1 hL1 hq => ?_) (fun E ce q9 h' H1 locs1 hP1 hz1 hL1 hq hce hcv hcl => ?_)
  · exact hq p e s m args below meth c F H1 locs1 (cells + mc1) (slots + ms1) ls hP1 hz1 hL1 (by omega) (by omega) hl
  · exact vx_out (by rw [F.2.2.2.2.2.2.1, htab]; intro x hx; cases hx) F.2.2.2.2.2.1 hce hcv hcl (fun t ht hal => ⟨h', by rw [ht]; exact hP1, hq⟩) hL1 (by omega) (by omega)
end LawRows
