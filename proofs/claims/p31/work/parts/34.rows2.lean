section Rows2
variable {g : zGT} {M : zM} {mc ms : Nat} {Q : zO → zH → Prop} {pc : Nat} {lv : List (Option Value)} {st : List Value} {h : zH} {bc bs : Nat}
/-- the class object of Object[] -/
def zMi (g : zGT) (mi : Nat) : Prop := va_Mi "[Ljava/lang/Object;" mi (gS_ g)
theorem zI_ishr1 {x : Int} (hx : zR x) : zI x >>> (zI 1 &&& 31) = zI (x / 2) := by
  have e1 : (zI 1 &&& 31 : Int32) = 1 := by decide
  rw [e1]
  apply Int32.toInt_inj.mp
  rw [zI_toInt (by omega), ← Int32.toInt_toBitVec, Int32.toBitVec_shiftRight]
  show (BitVec.sshiftRight' (zI x).toBitVec (BitVec.smod (Int32.toBitVec 1) 32)).toInt = _
  have e2 : BitVec.smod (Int32.toBitVec 1) 32 = 1#32 := by decide
  rw [e2, BitVec.sshiftRight', BitVec.toInt_sshiftRight]
  have e3 : (zI x).toBitVec.toInt = x := zI_toInt hx
  rw [e3, Int.shiftRight_eq_div_pow]
  rfl
theorem r_ishr1 {x : Int} (hx : zR x) (pc' : Nat) (hp : pc + 1 = pc') (d : decode M.2.1 pc = .ok (.ishr, 1)) (k : zX g M mc ms Q pc' lv (.int (zI (x / 2)) :: st) h bc bs) : zX g M mc ms Q pc lv (.int (zI 1) :: .int (zI x) :: st) h bc bs := by
  subst hp
  intro p e s m args below meth c F H locs cells slots ls hP hs hL hc hsl hl
  refine lv_ishr F.1 F.2.1 d ?_
  rw [zI_ishr1 hx]
  exact k p e s m args below meth c F H locs cells slots ls hP hs hL hc hsl hl
theorem r_dup_x1 {v w : Value} (hv : v.category = 1) (hw : w.category = 1) (pc' : Nat) (hp : pc + 1 = pc') (d : decode M.2.1 pc = .ok (.dup_x1, 1)) (k : zX g M mc ms Q pc' lv (v :: w :: v :: st) h bc bs) : zX g M mc ms Q pc lv (v :: w :: st) h bc bs := by
  subst hp
  intro p e s m args below meth c F H locs cells slots ls hP hs hL hc hsl hl
  refine lv_dup_x1 F.1 F.2.1 d hv hw ?_
  exact k p e s m args below meth c F H locs cells slots ls hP hs hL hc hsl hl
theorem r_acmpeq {x y : Nat} (pc' : Nat) (hp : pc + 3 = pc') (tgt : Nat) {off : Int} (ht : (pc : Int) + off = (tgt : Int)) (d : decode M.2.1 pc = .ok (.if_acmp .eq off, 3)) (kt : x = y → zX g M mc ms Q tgt lv st h bc bs) (kf : ¬ x = y → zX g M mc ms Q pc' lv st h bc bs) : zX g M mc ms Q pc lv (.ref y :: .ref x :: st) h bc bs := by
  subst hp
  intro p e s m args below meth c F H locs cells slots ls hP hs hL hc hsl hl
  refine lv_acmp_eq (rx := some x) (ry := some y) F.1 F.2.1 d ht (fun q => ?_) (fun q => ?_)
  · exact kt (Option.some.inj q) p e s m args below meth c F H locs cells slots ls hP hs hL hc hsl hl
  · exact kf (fun e => q (congrArg some e)) p e s m args below meth c F H locs cells slots ls hP hs hL hc hsl hl
theorem r_acmpne {x y : Nat} (pc' : Nat) (hp : pc + 3 = pc') (tgt : Nat) {off : Int} (ht : (pc : Int) + off = (tgt : Int)) (d : decode M.2.1 pc = .ok (.if_acmp .ne off, 3)) (kt : ¬ x = y → zX g M mc ms Q tgt lv st h bc bs) (kf : x = y → zX g M mc ms Q pc' lv st h bc bs) : zX g M mc ms Q pc lv (.ref y :: .ref x :: st) h bc bs := by
  subst hp
  intro p e s m args below meth c F H locs cells slots ls hP hs hL hc hsl hl
  refine lv_acmp_ne (rx := some x) (ry := some y) F.1 F.2.1 d ht (fun q => ?_) (fun q => ?_)
  · exact kt (fun e => q (congrArg some e)) p e s m args below meth c F H locs cells slots ls hP hs hL hc hsl hl
  · exact kf (Option.some.inj q) p e s m args below meth c F H locs cells slots ls hP hs hL hc hsl hl
theorem zMi.at {mi : Nat} {p : Program} {s : State} {m : MethodId} {meth : Method} {c : Code} (hm : zMi g mi) (F : zF g M p s m meth c) : va_Mi "[Ljava/lang/Object;" mi s := va_Mi.moved F.2.2.2.2.2.2.2.1.alike hm
theorem r_ldcM {idx mi : Nat} (hg : zG g) (hm : zMi g mi) (hlink : Cond.classLink M.1 idx "[Ljava/lang/Object;" ∈ lw_tbl) (pc' : Nat) (hp : pc + 2 = pc') (d : decode M.2.1 pc = .ok (.ldc idx, 2)) (k : zX g M mc ms Q pc' lv (.ref mi :: st) h bc bs) : zX g M mc ms Q pc lv st h bc bs := by
  subst hp
  intro p e s m args below meth c F H locs cells slots ls hP hs hL hc hsl hl
  exact va_ldcM F.1 F.2.1 F.2.2.2.2.1 (zw2 hg F hlink rfl) (hm.at F) d (k p e s m args below meth c F H locs cells slots ls hP hs hL hc hsl hl)
theorem r_getC {a idx mi : Nat} (hg : zG g) (hm : zMi g mi) (hk : kd_ h a = 25) (hlink : Cond.methodLink M.1 idx ⟨"java/lang/Object", "getClass", "()Ljava/lang/Class;"⟩ ∈ lw_tbl) (hlv : 1 ≤ M.2.2.2.2.2.2) (hroom : (st.map fun v => v.category).sum ≤ 8) (pc' : Nat) (hp : pc + 3 = pc') (d : decode M.2.1 pc = .ok (.invokevirtual idx, 3)) (k : zX g M mc ms Q pc' lv (.ref mi :: st) h bc bs) : zX g M mc ms Q pc lv (.ref a :: st) h bc bs := by
  subst hp
  intro p e s m args below meth c F H locs cells slots ls hP hs hL hc hsl hl
  have w1 : Cond.declares ⟨"java/lang/Object", "getClass", "()Ljava/lang/Class;"⟩ ∈ lw_tbl := (tb_6 94 _ rfl)
  have w2 : Cond.selects "[Ljava/lang/Object;" ⟨"java/lang/Object", "getClass", "()Ljava/lang/Class;"⟩ ⟨"java/lang/Object", "getClass", "()Ljava/lang/Class;"⟩ ∈ lw_tbl := (tb_6 93 _ rfl)
  have w3 : Cond.instanceMethod ⟨"java/lang/Object", "getClass", "()Ljava/lang/Class;"⟩ ∈ lw_tbl := (tb_2 177 _ rfl)
  have w4 : Cond.native ⟨"java/lang/Object", "getClass", "()Ljava/lang/Class;"⟩ ∈ lw_tbl := (tb_2 197 _ rfl)
  have hra : va_RA s (gA_ g 25) (.object "java/lang/Object") := va_RA.moved F.2.2.2.2.2.2.2.1.alike (hg.2.2.2.1 25 (by decide) (by decide)).2
  have hc0 := hP.arr hk (by decide) (by decide) 0 _ rfl
  refine va_getC (C := "[Ljava/lang/Object;") F.1 F.2.1 (hl.1.trans F.2.2.1.symm).symm F.2.2.2.2.1 (zw2 hg F hlink rfl) (zw2 hg F w1 rfl) (zw2 hg F w2 rfl) (zw2 hg F w3 rfl) (zw2 hg F w4 rfl) (hm.at F) ⟨_, hc0, rfl, va_nmO hra (by decide +kernel)⟩ (by show 1 ≤ M.2.2.2.2.2.2; omega) (by show _ ≤ 200 * M.2.2.2.2.2.2; omega) d ?_
  exact k p e s m args below meth c F H locs cells slots ls hP hs hL hc hsl hl
end Rows2
