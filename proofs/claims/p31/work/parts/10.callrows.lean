def z_kind (w : Cond) : Bool := goodWord w || match w with
  | .castable _ _ => true
  | .declares _ => true
  | .methodLinkNest _ _ _ _ => true
  | _ => false
theorem zw2 {g : zGT} {M : zM} {p : Program} {s : State} {m : MethodId} {meth : Method} {c : Code} (hg : zG g) (F : zF g M p s m meth c) {args : Array Value} {w : Cond} (hw : w ∈ lw_tbl) (hgw : z_kind w = true) : w.before args s = true := by
  have hW := F.2.2.2.2.2.2.2.1
  by_cases h9 : goodWord w = true
  · exact zw hg F hw h9
  · unfold z_kind at hgw
    rw [Bool.eq_false_iff.mpr h9, Bool.false_or] at hgw
    have hb := hg.2.1 w hw
    split at hgw
    · exact va_Nw.use rfl (va_Nw.warmC hW (va_Nw.of rfl hb))
    · exact va_Nw.use rfl (va_Nw.warmD hW (va_Nw.of rfl hb))
    · exact va_Nw.use rfl (va_Nw.warmM hW (va_Nw.of rfl hb))
    · cases hgw
/-- 'throw new E()' by a method of the class: what the tables say of it -/
def z_thr (own : String) (ik ic : Nat) (X : String) : Prop := Cond.classLink own ik X ∈ lw_tbl ∧ Cond.initialized X ∈ lw_tbl ∧ (∀ w ∈ vx_at0 own ic X ["java/lang/RuntimeException", "java/lang/Exception"], w ∈ lw_tbl) ∧ (∀ w ∈ Cond.classLink own ik X :: Cond.initialized X :: vx_at0 own ic X ["java/lang/RuntimeException", "java/lang/Exception"], vx_ot w = true) ∧ (∀ w ∈ vx_at0 own ic X ["java/lang/RuntimeException", "java/lang/Exception"], z_kind w = true) ∧ Bundle.fit X = true ∧ (∀ n ∈ ["java/lang/RuntimeException", "java/lang/Exception"], Bundle.fit n = true)
set_option maxRecDepth 100000 in
theorem zt_ISE : z_thr RX11 60 62 "java/lang/IllegalStateException" := ⟨by decide +kernel, by decide +kernel, by decide +kernel, by decide +kernel, by decide +kernel, by decide +kernel, by decide +kernel⟩
set_option maxRecDepth 100000 in
theorem zt_IAE : z_thr RX11 82 84 "java/lang/IllegalArgumentException" := ⟨by decide +kernel, by decide +kernel, by decide +kernel, by decide +kernel, by decide +kernel, by decide +kernel, by decide +kernel⟩
set_option maxRecDepth 100000 in
theorem zt_IOOBE : z_thr RX11 115 117 "java/lang/IndexOutOfBoundsException" := ⟨by decide +kernel, by decide +kernel, by decide +kernel, by decide +kernel, by decide +kernel, by decide +kernel, by decide +kernel⟩
section Calls
variable {g : zGT} {M : zM} {mc ms : Nat} {Q : zO → zH → Prop} {pc : Nat} {lv : List (Option Value)} {st : List Value} {h : zH} {bc bs : Nat}

theorem r_throw {ik ic : Nat} {E : String} (hg : zG g) (zt : z_thr M.1 ik ic E) (htab : M.2.2.2.2.1 = []) (hlv : 6 ≤ M.2.2.2.2.2.2) (hb1 : 1 ≤ bc) (hb2 : 6 ≤ bs) (hcat : (st.map fun v => v.category).sum ≤ 8) {pc3 pc4 pc7 : Nat} (e3 : pc + 3 = pc3) (e4 : pc + 4 = pc4) (e7 : pc + 7 = pc7)
    (d0 : decode M.2.1 pc = .ok (.new ik, 3)) (d3 : decode M.2.1 pc3 = .ok (.dup, 1)) (d4 : decode M.2.1 pc4 = .ok (.invokespecial ic, 3)) (d7 : decode M.2.1 pc7 = .ok (.athrow, 1)) (q : Q (.inr E) h) : zX g M mc ms Q pc lv st h bc bs := by
  subst e3; subst e4; subst e7
  intro p e s m args below meth c F H locs cells slots ls hP hs hL hc hsl hl
  obtain ⟨z1, z2, z3, z4, z5, z6, z7⟩ := zt
  have hW := F.2.2.2.2.2.2.2.1
  have hS : va_S (fun q => (gS_ g).heap.size ≤ q) s.heap H locs := ⟨hs, fun q hq hn => by rw [hP.2.2.1 q (by omega), F.2.2.2.2.2.2.2.2.2.2 q (by omega)], hL⟩
  have hkeep : ∀ q, q < (gS_ g).heap.size → s.heap[q]? = (gS_ g).heap[q]? := F.2.2.2.2.2.2.2.2.2.2
  refine vx_throw0 F.1 F.2.1 hg.1 F.2.2.2.2.1 z6 z7 (zw2 hg F z1 rfl) (zw2 hg F z2 rfl) (fun w hw => zw2 hg F (z3 w hw) (z5 w hw)) z4
    ((vx_Zq.moved hW.alike hg.2.2.2.2.1).kept (fun a h1 h2 => hkeep a (by omega))) ((vx_Zq.moved hW.alike hg.2.2.2.2.2.1).kept (fun a h1 h2 => hkeep a (by omega))) hS (hl.1.trans F.2.2.1.symm) d0 d3 d4 d7 ?_ ?_ ?_ ?_ ?_ F.2.2.2.2.2.1 ?_ hL ?_ ?_
  · rw [F.2.2.2.2.2.2.1, htab]; intro x hx; cases hx
  · show 2 + 3 < M.2.2.2.2.2.2; omega
  · show _ + (13 * (2 + 1) + 42) ≤ 200 * M.2.2.2.2.2.2; omega
  · show cells + 1 ≤ mc; omega
  · show slots + 6 ≤ ms; omega
  · intro t hal hz hk
    refine ⟨h, ⟨fun a e9 he => ?_, hP.2.1, fun q hq => by rw [hk q (by have := hP.2.2.2.1; omega)]; exact hP.2.2.1 q hq, by have := hP.2.2.2.1; omega, fun a ha => by have := hP.2.2.2.2.1 a ha; omega, hP.2.2.2.2.2.1, hP.2.2.2.2.2.2⟩, q⟩
    have h9 := hP.1 a e9 he
    exact h9.kept (hk a h9.lt)
  · omega
  · omega

theorem r_aastore {a v ci : Nat} {C : String} {T : u_T} {N : Nat} {ty : Nat → FieldType} {i : Int} (hg : zG g) (zc : z_cls ci C T N ty) (hk : kd_ h a = 25) (h0 : 0 ≤ i) (h2 : i ≤ 2147483647) (h1 : i < ln_ h a) (hv : kd_ h v = ci + 1) (hca : Cond.castable C "java/lang/Object" ∈ lw_tbl) (pc' : Nat) (hp : pc + 1 = pc') (d : decode M.2.1 pc = .ok (.aastore, 1)) (k : zX g M mc ms Q pc' lv st (sar h a i.toNat (some v)) bc bs) : zX g M mc ms Q pc lv (.ref v :: .int (zI i) :: .ref a :: st) h bc bs := by
  subst hp
  intro p e s m args below meth c F H locs cells slots ls hP hs hL hc hsl hl
  obtain ⟨z1, z2, z3, z4, z5, z6, z7⟩ := zc
  have ha0 : (gS_ g).heap.size ≤ a := hP.real hk (by decide) (by decide) (by decide) (by decide)
  have hPa := hP.arr hk (by decide) (by decide)
  have hKa := zKa hg F (k := 25) (by decide) (by decide)
  obtain ⟨r', hr', cellV, g1, g2, g3, -⟩ := hP.obj hv z7 0 _ rfl
  have hcls := (hKa.1 ci _ z1).2
  obtain ⟨kA, comp, k1, k2, k3, -⟩ := (hKa.2 0 _ rfl).2
  obtain ⟨kC, hkC, -⟩ := hcls.2
  obtain ⟨kE, hkE, -⟩ := Vm.findClass_spec k3
  obtain ⟨c0, t1, f1, f2, f3⟩ := Cond.castable_spec (zw2 hg F (args := args) hca rfl)
  cases hcls.1.symm.trans f1
  cases k3.symm.trans f2
  refine W.aast F.1 F.2.1 (hPa 0 _ rfl) (fun q h => by cases h) (fun h => by cases h) k1 k2 rfl hkE ⟨zI_nonneg (i := i) (by unfold zR; omega) h0, by show _ < (arrV _ _ _).slots.size; rw [arrV_size, zI_clamp h0 h2]; exact (by omega : i.toNat < ln_ h a)⟩ g1 (fun q h => by rw [g3] at h; cases h) (by rw [g2]; exact hkC) (by rw [g2]; exact f3) rfl rfl d fun H1 e9 z oq => ?_
  have hP1 : zP g (sar h a i.toNat (some v)) H1 := by
    refine hP.put ha0 z oq (fun b hb => z_ent_sar hb) rfl rfl (fun e he => ?_)
    rw [z_at_arr (k := 25) (by exact hk) (by decide) (by decide)] at he
    cases he
    show H1[a]? = some (vp_cell _ _)
    rw [e9]
    show some ((vp_cell _ (_, .inr (.inr (.inr (.inr fun j => ar_ h a j))))).setSlot _ _) = some (vp_cell _ (_, .inr (.inr (.inr (.inr fun j => ar_ (sar h a i.toNat (some v)) a j)))))
    rw [vp_cell_q, vp_cell_q, arrV_store]
    congr 2
    funext q
    rw [zI_clamp h0 h2]
    by_cases hq : q = i.toNat
    · subst hq
      simp [updV, ar_, sar, zu2, va_rf]
    · simp [updV, ar_, sar, zu2, hq]
  exact k p e s m args below meth c F H1 _ cells slots ls hP1 (by omega) (fun z hz => (List.mem_append.mp hz).elim (hL z) (fun q => by rw [List.mem_singleton.mp q]; exact ha0)) hc hsl hl

theorem r_aastoreC {a v ci : Nat} {C : String} {T : u_T} {N : Nat} {ty : Nat → FieldType} {i : Int} (hg : zG g) (zc : z_cls ci C T N ty) (hk : kd_ h a = 26) (h0 : 0 ≤ i) (h2 : i ≤ 2147483647) (h1 : i < ln_ h a) (hv : kd_ h v = ci + 1) (hC : C = "Platehall$Course") (pc' : Nat) (hp : pc + 1 = pc') (d : decode M.2.1 pc = .ok (.aastore, 1)) (k : zX g M mc ms Q pc' lv st (sar h a i.toNat (some v)) bc bs) : zX g M mc ms Q pc lv (.ref v :: .int (zI i) :: .ref a :: st) h bc bs := by
  subst hp
  intro p e s m args below meth c F H locs cells slots ls hP hs hL hc hsl hl
  obtain ⟨z1, z2, z3, z4, z5, z6, z7⟩ := zc
  have ha0 : (gS_ g).heap.size ≤ a := hP.real hk (by decide) (by decide) (by decide) (by decide)
  have hPa := hP.arr hk (by decide) (by decide)
  have hKa := zKa hg F (k := 26) (by decide) (by decide)
  obtain ⟨r', hr', cellV, g1, g2, g3, -⟩ := hP.obj hv z7 0 _ rfl
  have hcls := (hKa.1 ci _ z1).2
  obtain ⟨kA, comp, k1, k2, k3, -⟩ := (hKa.2 0 _ rfl).2
  obtain ⟨kC, hkC, -⟩ := hcls.2
  have hcomp : comp = (gD_ g).1 ci := Option.some.inj (k3.symm.trans (by rw [← hC]; exact hcls.1))
  subst hcomp
  refine W.aast F.1 F.2.1 (hPa 0 _ rfl) (fun q h => by cases h) (fun h => by cases h) k1 k2 rfl hkC ⟨zI_nonneg (i := i) (by unfold zR; omega) h0, by show _ < (arrV _ _ _).slots.size; rw [arrV_size, zI_clamp h0 h2]; exact (by omega : i.toNat < ln_ h a)⟩ g1 (fun q h => by rw [g3] at h; cases h) (by rw [g2]; exact hkC) (by rw [g2]; exact va_assign hcls) rfl rfl d fun H1 e9 z oq => ?_
  have hP1 : zP g (sar h a i.toNat (some v)) H1 := by
    refine hP.put ha0 z oq (fun b hb => z_ent_sar hb) rfl rfl (fun e he => ?_)
    rw [z_at_arr (k := 26) (by exact hk) (by decide) (by decide)] at he
    cases he
    show H1[a]? = some (vp_cell _ _)
    rw [e9]
    show some ((vp_cell _ (_, .inr (.inr (.inr (.inr fun j => ar_ h a j))))).setSlot _ _) = some (vp_cell _ (_, .inr (.inr (.inr (.inr fun j => ar_ (sar h a i.toNat (some v)) a j)))))
    rw [vp_cell_q, vp_cell_q, arrV_store]
    congr 2
    funext q
    rw [zI_clamp h0 h2]
    by_cases hq : q = i.toNat
    · subst hq
      simp [updV, ar_, sar, zu2, va_rf]
    · simp [updV, ar_, sar, zu2, hq]
  exact k p e s m args below meth c F H1 _ cells slots ls hP1 (by omega) (fun z hz => (List.mem_append.mp hz).elim (hL z) (fun q => by rw [List.mem_singleton.mp q]; exact ha0)) hc hsl hl

theorem r_new {ci : Nat} {C : String} {T : u_T} {N : Nat} {ty : Nat → FieldType} {idx : Nat} (bc2 bs2 : Nat) (hg : zG g) (zc : z_cls ci C T N ty) (hcl : Cond.classLink M.1 idx C ∈ lw_tbl) (hinst : Cond.instantiable C N ∈ lw_tbl) (hini : Cond.initialized C ∈ lw_tbl) (hb1 : bc2 + 1 ≤ bc) (hb2 : bs2 + N ≤ bs) (hdv : ∀ j, j < N → defaultValue (ty j) = z_val (ty j) 0 0 none) (pc' : Nat) (hp : pc + 3 = pc') (d : decode M.2.1 pc = .ok (.new idx, 3)) (k : ∀ a : Nat, kd_ h a = 0 → zX g M mc ms Q pc' lv (.ref a :: st) (nob h a ci) bc2 bs2) : zX g M mc ms Q pc lv st h bc bs := by
  subst hp
  intro p e s m args below meth c F H locs cells slots ls hP hs hL hc hsl hl
  obtain ⟨z1, z2, z3, z4, z5, z6, z7⟩ := zc
  have hKs := zK hg F
  have hKn := hKs.1 ci _ z1
  refine W.newcK F.1 F.2.1 F.2.2.2.2.1 (zw hg F hcl rfl) (zw hg F hinst rfl) (zw hg F hini rfl) rfl d (show cells + 1 ≤ mc by omega) (show slots + N ≤ ms by omega) hKn.2.1 rfl fun H1 kC hkC e1 w1 o1 => ?_
  have hP1 : zP g (nob h H.size ci) H1 := by
    refine hP.new rfl w1 o1 (fun b hb => z_ent_nob hb) (fun b hb => by simp [kd_, nob, zu1, hb]) (fun b hb => rfl) (fun e he => ?_)
    rw [z_at_obj (c := ci) (by simp [kd_, nob, zu1]) z7] at he
    cases he
    refine ⟨_, z1, (u_born ty (zts hg F (args := args)) z2 hKn hkC e1 z3).to (fun j hj => ?_)⟩
    rw [hdv j hj]
    unfold vp_V
    rw [List.getD_eq_getElem?_getD, z_obj_get (by rw [z6]; exact hj)]
    simp [z_fld, fi_, fj_, fr_, nob, z5]
  exact k _ hP.fresh p e s m args below meth c F H1 locs (cells + 1) (slots + N) ls hP1 (by omega) hL (by omega) (by omega) hl

theorem r_newarray {atype : ArrayType} {n : Int} (kind bc2 bs2 : Nat) (hg : zG g) (hk1 : 20 ≤ kind) (hk2 : kind ≤ 23) (hty : newarray.typeOf atype = z_aty kind) (harr : Cond.arrayClass (z_aty kind) ∈ lw_tbl) (h0 : 0 ≤ n) (h2 : n ≤ 60000000) (hb1 : bc2 + 1 ≤ bc) (hb2 : bs2 + n.toNat ≤ bs) (pc' : Nat) (hp : pc + 2 = pc') (d : decode M.2.1 pc = .ok (.newarray atype, 2)) (k : ∀ a : Nat, kd_ h a = 0 → zX g M mc ms Q pc' lv (.ref a :: st) (nar h a kind n.toNat) bc2 bs2) : zX g M mc ms Q pc lv (.int (zI n) :: st) h bc bs := by
  subst hp
  intro p e s m args below meth c F H locs cells slots ls hP hs hL hc hsl hl
  have hKa := zKa hg F (k := kind) hk1 (by omega)
  have h9 : kind = 20 ∨ kind = 21 ∨ kind = 22 ∨ kind = 23 ∨ kind = 24 := by omega
  have hcomp : componentBytes (z_aty kind) ≤ 8 := by rcases h9 with rfl | rfl | rfl | rfl | rfl <;> decide
  refine va_newaK F.1 F.2.1 (by rw [hty]; exact zw hg F harr rfl) rfl d rfl (zI_nonneg (by unfold zR; omega) h0) (zI_clamp h0 (by omega)) ?_ (show cells + 1 ≤ mc by omega) (show slots + n.toNat ≤ ms by omega) rfl fun H1 cA e1 w1 o1 hAr hNm => ?_
  · rw [hty]
    calc n.toNat * componentBytes (z_aty kind) ≤ n.toNat * 8 := Nat.mul_le_mul_left _ hcomp
      _ ≤ 536870912 := by omega
  have hcA : cA = gA_ g kind := by
    have hR := (hKa.2 0 _ rfl).2
    rw [hty] at hNm
    have hR2 : s.vm.findClass ("[" ++ (z_aty kind).toString) = some (gA_ g kind) := by
      rcases h9 with rfl | rfl | rfl | rfl | rfl <;> exact hR
    exact Option.some.inj (hNm.symm.trans hR2)
  have hP1 : zP g (nar h H.size kind n.toNat) H1 := by
    refine hP.new rfl w1 o1 (fun b hb => z_ent_nar hb) (fun b hb => by simp [kd_, nar, zu1, hb]) (fun b hb => by simp [ln_, nar, zu1, hb]) (fun e he => ?_)
    rw [z_at_arr (k := kind) (by simp [kd_, nar, zu1]) (by omega) (by omega)] at he
    cases he
    show H1[H.size]? = some (vp_cell _ _)
    have hln : ln_ (nar h H.size kind n.toNat) H.size = n.toNat := by simp [ln_, nar, zu1]
    have q1 : ∀ j, ai_ (nar h H.size kind n.toNat) H.size j = 0 := fun j => by simp [ai_, nar]
    have q2 : ∀ j, aj_ (nar h H.size kind n.toNat) H.size j = 0 := fun j => by simp [aj_, nar]
    rw [e1, hcA, hty, hln]
    rcases h9 with rfl | rfl | rfl | rfl | rfl <;> simp only [z_con, q1, q2] <;> rfl
  exact k _ hP.fresh p e s m args below meth c F H1 locs (cells + 1) (slots + n.toNat) ls hP1 (by omega) hL (by omega) (by omega) hl

theorem r_anewarray {n : Int} {C : String} {idx : Nat} (kind bc2 bs2 : Nat) (hg : zG g) (hk : (kind = 25 ∧ C = "java/lang/Object") ∨ (kind = 26 ∧ C = "Platehall$Course")) (hcl : Cond.classLink M.1 idx C ∈ lw_tbl) (hover : va_AO C (gS_ g)) (h0 : 0 ≤ n) (h2 : n ≤ 60000000) (hb1 : bc2 + 1 ≤ bc) (hb2 : bs2 + n.toNat ≤ bs) (pc' : Nat) (hp : pc + 3 = pc') (d : decode M.2.1 pc = .ok (.anewarray idx, 3)) (k : ∀ a : Nat, kd_ h a = 0 → zX g M mc ms Q pc' lv (.ref a :: st) (nar h a kind n.toNat) bc2 bs2) : zX g M mc ms Q pc lv (.int (zI n) :: st) h bc bs := by
  subst hp
  intro p e s m args below meth c F H locs cells slots ls hP hs hL hc hsl hl
  have hk25 : 20 ≤ kind ∧ kind ≤ 27 := by rcases hk with ⟨rfl, -⟩ | ⟨rfl, -⟩ <;> decide
  have hat : z_aty kind = .object C := by rcases hk with ⟨rfl, rfl⟩ | ⟨rfl, rfl⟩ <;> rfl
  have hKa := zKa hg F (k := kind) hk25.1 hk25.2
  have ecl := zI_clamp h0 (show n ≤ 2147483647 by omega)
  refine W.anew F.1 F.2.1 F.2.2.2.2.1 (zw hg F hcl rfl) (va_AO.use (va_AO.moved F.2.2.2.2.2.2.2.1.alike hover)) rfl d rfl (zI_nonneg (by unfold zR; omega) h0) (by rw [ecl]; omega) (show cells + 1 ≤ mc by omega) (show slots + (zI n).toNatClampNeg ≤ ms by rw [ecl]; omega) fun cA kA comp f1 f2 f3 f4 => ?_
  rw [ecl]
  generalize hH1 : H.push ({ cls := cA, slots := Array.replicate n.toNat .null, vm := .none } : Cell) = H1
  have w1 : H1.size = H.size + 1 := by rw [← hH1, Array.size_push]
  have e1 : H1[H.size]? = some (arrV cA n.toNat (fun _ => .null)) := by rw [← hH1, Array.getElem?_push_size, ← arrV_new]
  have o1 : ∀ q : Nat, q < H.size → H1[q]? = H[q]? := fun q hq => by rw [← hH1, Array.getElem?_push, if_neg (Nat.ne_of_lt hq)]
  have hcA : cA = gA_ g kind := by
    have hR := (hKa.2 0 _ rfl).2
    rw [hat] at hR
    obtain ⟨_, _, -, -, -, hR2⟩ := hR
    exact Option.some.inj (f1.symm.trans hR2)
  have hP1 : zP g (nar h H.size kind n.toNat) H1 := by
    refine hP.new rfl w1 o1 (fun b hb => z_ent_nar hb) (fun b hb => by simp [kd_, nar, zu1, hb]) (fun b hb => by simp [ln_, nar, zu1, hb]) (fun e he => ?_)
    rw [z_at_arr (k := kind) (by simp [kd_, nar, zu1]) (by omega) (by omega)] at he
    cases he
    show H1[H.size]? = some (vp_cell _ _)
    have hln : ln_ (nar h H.size kind n.toNat) H.size = n.toNat := by simp [ln_, nar, zu1]
    have q1 : ∀ j, ar_ (nar h H.size kind n.toNat) H.size j = none := fun j => by simp [ar_, nar]
    rw [e1, hcA, hln]
    rcases hk with ⟨rfl, -⟩ | ⟨rfl, -⟩ <;> simp only [z_con, q1] <;> rfl
  exact k _ hP.fresh p e s m args below meth c F H1 locs (cells + 1) (slots + n.toNat) ls hP1 (by omega) hL (by omega) (by omega) hl

theorem r_checkcast {a ci : Nat} {C nm : String} {T : u_T} {N : Nat} {ty : Nat → FieldType} {idx : Nat} (hg : zG g) (zc : z_cls ci C T N ty) (hk : kd_ h a = ci + 1) (hcl : Cond.classLink M.1 idx nm ∈ lw_tbl) (hca : Cond.castable C nm ∈ lw_tbl) (pc' : Nat) (hp : pc + 3 = pc') (d : decode M.2.1 pc = .ok (.checkcast idx, 3)) (k : zX g M mc ms Q pc' lv (.ref a :: st) h bc bs) : zX g M mc ms Q pc lv (.ref a :: st) h bc bs := by
  subst hp
  intro p e s m args below meth c F H locs cells slots ls hP hs hL hc hsl hl
  obtain ⟨z1, z2, z3, z4, z5, z6, z7⟩ := zc
  exact va_castY F.1 F.2.1 F.2.2.2.2.1 (zw hg F hcl rfl) (va_Nw.of rfl (zw2 hg F (args := args) hca rfl)) (va_recv (zK hg F) (hP.obj hk z7) z1 (q0 := 0) rfl) d (k p e s m args below meth c F H locs cells slots ls hP hs hL hc hsl hl)

theorem r_checkcastN {idx : Nat} (pc' : Nat) (hp : pc + 3 = pc') (d : decode M.2.1 pc = .ok (.checkcast idx, 3)) (k : zX g M mc ms Q pc' lv (.null :: st) h bc bs) : zX g M mc ms Q pc lv (.null :: st) h bc bs := by
  subst hp
  intro p e s m args below meth c F H locs cells slots ls hP hs hL hc hsl hl
  exact lv_castN F.1 F.2.1 d (k p e s m args below meth c F H locs cells slots ls hP hs hL hc hsl hl)

theorem r_getsE {idx : Nat} (hg : zG g) (hlink : Cond.fieldLink M.1 idx "java/util/ArrayList" "DEFAULTCAPACITY_EMPTY_ELEMENTDATA" "[Ljava/lang/Object;" ∈ lw_tbl) (pc' : Nat) (hp : pc + 3 = pc') (d : decode M.2.1 pc = .ok (.getstatic idx, 3)) (k : zX g M mc ms Q pc' lv (.ref (ge_ g) :: st) h bc bs) : zX g M mc ms Q pc lv st h bc bs := by
  subst hp
  intro p e s m args below meth c F H locs cells slots ls hP hs hL hc hsl hl
  have hS : va_S (fun q => (gS_ g).heap.size ≤ q) s.heap H locs := ⟨hs, fun q hq hn => by rw [hP.2.2.1 q (by omega), F.2.2.2.2.2.2.2.2.2.2 q (by omega)], hL⟩
  have hZ := (va_Z.moved F.2.2.2.2.2.2.2.1.alike hg.2.2.2.2.2.2.1).kept (H1 := s.heap) (fun a h1 h2 => F.2.2.2.2.2.2.2.2.2.2 a (by omega))
  exact va_gets F.1 F.2.1 hZ hS F.2.2.2.2.1 (zw hg F hlink rfl) (fun x hx => hx) d (k p e s m args below meth c F H locs cells slots ls hP hs hL hc hsl hl)

theorem r_ldc {idx : Nat} {v : Int32} (hg : zG g) (hw : Cond.constant M.1 idx v ∈ lw_tbl) (pc' : Nat) (hp : pc + 2 = pc') (d : decode M.2.1 pc = .ok (.ldc idx, 2)) (k : zX g M mc ms Q pc' lv (.int v :: st) h bc bs) : zX g M mc ms Q pc lv st h bc bs := by
  subst hp
  intro p e s m args below meth c F H locs cells slots ls hP hs hL hc hsl hl
  exact lv_ldc F.1 F.2.1 F.2.2.2.2.1 (zw hg F hw rfl) d (k p e s m args below meth c F H locs cells slots ls hP hs hL hc hsl hl)

theorem r_ldcw {idx : Nat} {v : Int32} (hg : zG g) (hw : Cond.constant M.1 idx v ∈ lw_tbl) (pc' : Nat) (hp : pc + 3 = pc') (d : decode M.2.1 pc = .ok (.ldc_w idx, 3)) (k : zX g M mc ms Q pc' lv (.int v :: st) h bc bs) : zX g M mc ms Q pc lv st h bc bs := by
  subst hp
  intro p e s m args below meth c F H locs cells slots ls hP hs hL hc hsl hl
  exact lv_ldcw F.1 F.2.1 F.2.2.2.2.1 (zw hg F hw rfl) d (k p e s m args below meth c F H locs cells slots ls hP hs hL hc hsl hl)

theorem r_ldc2 {idx : Nat} {v : Int64} (hg : zG g) (hw : Cond.constantLong M.1 idx v ∈ lw_tbl) (pc' : Nat) (hp : pc + 3 = pc') (d : decode M.2.1 pc = .ok (.ldc2_w idx, 3)) (k : zX g M mc ms Q pc' lv (.long v :: st) h bc bs) : zX g M mc ms Q pc lv st h bc bs := by
  subst hp
  intro p e s m args below meth c F H locs cells slots ls hP hs hL hc hsl hl
  exact lv_ldc2 F.1 F.2.1 F.2.2.2.2.1 (zw hg F hw rfl) d (k p e s m args below meth c F H locs cells slots ls hP hs hL hc hsl hl)

theorem r_ireturn {x : Int32} {ty : FieldType} (hr : M.2.2.2.1 = some ty) (hn : narrow ty (.int x) = .int x) (d : decode M.2.1 pc = .ok (.ireturn, 1)) (q : Q (.inl (some (.int x))) h) : zX g M mc ms Q pc lv [.int x] h bc bs := by
  intro p e s m args below meth c F H locs cells slots ls hP hs hL hc hsl hl
  refine W.widen (k := mc) (n := ms) (by omega) (by omega) ?_
  refine vx_ret ?_
  exact W.zret F.1 F.2.1 (F.2.2.2.1.trans hr) hn (fun t ht hW => ⟨_, h, rfl, by rw [ht]; exact hP, q⟩) hL d F.2.2.2.2.2.1

theorem r_lreturn {x : Int64} (hr : M.2.2.2.1 = some .long) (d : decode M.2.1 pc = .ok (.lreturn, 1)) (q : Q (.inl (some (.long x))) h) : zX g M mc ms Q pc lv [.long x] h bc bs := by
  intro p e s m args below meth c F H locs cells slots ls hP hs hL hc hsl hl
  refine W.widen (k := mc) (n := ms) (by omega) (by omega) ?_
  refine vx_ret ?_
  exact W.lret F.1 F.2.1 (F.2.2.2.1.trans hr) (fun t ht hW => ⟨_, h, rfl, by rw [ht]; exact hP, q⟩) hL d F.2.2.2.2.2.1

theorem r_areturn {x : Nat} {rt : FieldType} (hr : M.2.2.2.1 = some rt) (hrt : (∃ n, rt = .object n) ∨ ∃ t, rt = .array t) (d : decode M.2.1 pc = .ok (.areturn, 1)) (q : Q (.inl (some (.ref x))) h) : zX g M mc ms Q pc lv [.ref x] h bc bs := by
  intro p e s m args below meth c F H locs cells slots ls hP hs hL hc hsl hl
  refine W.widen (k := mc) (n := ms) (by omega) (by omega) ?_
  refine vx_ret ?_
  exact W.aret F.1 F.2.1 (F.2.2.2.1.trans hr) hrt (Or.inr ⟨_, rfl⟩) (fun t ht hW => ⟨_, h, rfl, by rw [ht]; exact hP, q⟩) hL d F.2.2.2.2.2.1

theorem r_areturnN {rt : FieldType} (hr : M.2.2.2.1 = some rt) (hrt : (∃ n, rt = .object n) ∨ ∃ t, rt = .array t) (d : decode M.2.1 pc = .ok (.areturn, 1)) (q : Q (.inl (some .null)) h) : zX g M mc ms Q pc lv [.null] h bc bs := by
  intro p e s m args below meth c F H locs cells slots ls hP hs hL hc hsl hl
  refine W.widen (k := mc) (n := ms) (by omega) (by omega) ?_
  refine vx_ret ?_
  exact W.aret F.1 F.2.1 (F.2.2.2.1.trans hr) hrt (Or.inl rfl) (fun t ht hW => ⟨_, h, rfl, by rw [ht]; exact hP, q⟩) hL d F.2.2.2.2.2.1

theorem r_vreturn (hr : M.2.2.2.1 = none) (d : decode M.2.1 pc = .ok (.return_, 1)) (q : Q (.inl (none)) h) : zX g M mc ms Q pc lv [] h bc bs := by
  intro p e s m args below meth c F H locs cells slots ls hP hs hL hc hsl hl
  refine W.widen (k := mc) (n := ms) (by omega) (by omega) ?_
  refine vx_ret ?_
  exact W.vret F.1 F.2.1 (F.2.2.2.1.trans hr) (fun t ht hW => ⟨_, h, rfl, by rw [ht]; exact hP, q⟩) hL d F.2.2.2.2.2.1

/-- a method's contract: called with args over the picture h, it comes back (or throws) with Q; cw is its code's word -/
def zC (g : zGT) (cw : Cond) (y : MethodName) (lvl mc ms : Nat) (args : List Value) (h : zH) (Q : zO → zH → Prop) : Prop :=
  vx_Met (gl_ g) y [cw] { frames := lvl, cells := mc, slots := ms, locals := 200 * lvl } (va_Pc args (fun U => (gS_ g).WarmedH U.vm ∧ zP g h U.heap)) (zQc g Q) (zXC g Q) mc ms (fun q => (gS_ g).heap.size ≤ q)
def z_args (n : Nat) (vs : List Value) : List (Option Value) := (vs.flatMap fun v => if v.category = 2 then [some v, none] else [some v]) ++ List.replicate (n - (vs.flatMap fun v => if v.category = 2 then [some v, none] else [some v]).length) none
theorem z_args_mem (vs : List Value) : ∀ (n : Nat) (pre i : Nat) (v : Value), ((vs.flatMap fun v => if v.category = 2 then [some v, none] else [some v]) ++ List.replicate n none)[i]? = some (some v) → (pre + i, v) ∈ lv_args pre vs := by
  induction vs with
  | nil =>
    intro n pre i v h
    simp [List.getElem?_replicate] at h
  | cons a l ih =>
    intro n pre i v h
    rw [List.flatMap_cons, List.append_assoc] at h
    unfold lv_args
    by_cases h2 : a.category = 2
    · rw [if_pos h2] at h ⊢
      match i, h with
      | 0, h => simp at h; subst h; exact List.mem_cons_self
      | 1, h => simp at h
      | j + 2, h =>
        have h9 : ((l.flatMap fun v => if v.category = 2 then [some v, none] else [some v]) ++ List.replicate n none)[j]? = some (some v) := by simpa using h
        have := ih n (pre + 2) j v h9
        rw [show pre + (j + 2) = pre + 2 + j by omega]
        exact List.mem_cons_of_mem _ this
    · rw [if_neg h2] at h ⊢
      match i, h with
      | 0, h => simp at h; subst h; exact List.mem_cons_self
      | j + 1, h =>
        have h9 : ((l.flatMap fun v => if v.category = 2 then [some v, none] else [some v]) ++ List.replicate n none)[j]? = some (some v) := by simpa using h
        have := ih n (pre + 1) j v h9
        rw [show pre + (j + 1) = pre + 1 + j by omega]
        exact List.mem_cons_of_mem _ this
theorem zC_of {g : zGT} {M : zM} {mc ms : Nat} {Q : zO → zH → Prop} {h : zH} {y : MethodName} {avs : List Value} {lv : List (Option Value)} (hy : plainName y.cls = true) (hown : y.cls = M.1) (hnm : y.name = M.2.2.2.2.2.1) (hlen : (lg_sl avs).length ≤ M.2.2.1) (htab : M.2.2.2.2.1 = []) (hlv : z_args M.2.2.1 avs = lv) (k : zX g M mc ms Q 0 lv [] h mc ms) : zC g (.code y M.2.1 M.2.2.1 M.2.2.2.1) y M.2.2.2.2.2.2 mc ms avs h Q := by
  subst hlv
  refine vx_ofW (cc := M.2.1) (maxL := M.2.2.1) (ret := M.2.2.2.1) hy rfl ?_
  intro p e s m args below meth c s₁ B hml ht hv
  obtain ⟨rfl, hW, hP⟩ := hv
  have hl := lv_entry avs (n := M.2.2.1) hlen
  rw [lg_entry_eq]
  generalize (lg_sl avs ++ List.replicate (M.2.2.1 - (lg_sl avs).length) Slot.unset).toArray = ls at hl ⊢
  refine k p e s m _ below meth c ⟨B.exec, B.bytes, hml, B.returns, ?_, B.notSynchronized, ?_, hW, ?_, hP.2.2.2.1, hP.2.2.1⟩ s.heap [] 0 0 ls hP (Nat.le_refl _) (fun z hz => by cases hz) (by omega) (by omega) ?_
  · rw [← hown]; exact findClass_of_methodNamed B.named
  · rw [htab]
    cases hq : c.exceptionTable.toList with
    | nil => rfl
    | cons x t => exact absurd (ht x (by rw [hq]; exact List.mem_cons_self)) id
  · rw [← hnm]; exact (name_of_methodNamed B.named B.method).1
  · refine ⟨hl.1, hl.2.1, fun q hq => hl.2.2 q ?_⟩
    obtain ⟨i, v⟩ := q
    have := z_args_mem avs _ 0 i v (z_as_mem.mp hq)
    rwa [Nat.zero_add] at this
/-- how a call goes on -/
theorem z_run {p : Program} {l : Launch} {e : Env} {R : Room} {s : State} {m : MethodId} {args : Array Value} {below : List Frame} {meth : Method} {c : Code} {H : Heap} {locs : List Loc} {cells slots mc1 ms1 : Nat} {Q9 : State → Prop} {pc : Nat} {ls : Array Slot} {st0 rest : List Value} {a : Array Value} {Q1 : zO → zH → Prop}
    (hr : vx_Run p l e R s m args below meth c H locs cells slots mc1 ms1 (F0 m pc ls st0) rest (zQc g Q1 a) (zXC g Q1) (fun q => (gS_ g).heap.size ≤ q)) (hL : ∀ z ∈ locs, (gS_ g).heap.size ≤ z.base)
    (kk : ∀ (v : Option Value) (h' : zH) (H1 : Heap) (locs1 : List Loc), zP g h' H1 → s.heap.size ≤ H1.size → (∀ z ∈ locs1, (gS_ g).heap.size ≤ z.base) → Q1 (.inl v) h' → W p l e R s m args below meth c H1 locs1 (cells + mc1) (slots + ms1) Q9 (F0 m (pc + 3) ls (v.toList ++ rest)))
    (kx : ∀ (E : String) (ce : Cell) (q9 : Addr) (h' : zH) (H1 : Heap) (locs1 : List Loc), zP g h' H1 → s.heap.size ≤ H1.size → (∀ z ∈ locs1, (gS_ g).heap.size ≤ z.base) → Q1 (.inr E) h' → H1[q9]? = some ce → ce.vm = .none → s.vm.findClass E = some ce.cls → vx_W p l e R s m args below meth c H1 locs1 (cells + mc1) (slots + ms1) Q9 (F0 m pc ls rest) q9) :
    W p l e R s m args below meth c H locs cells slots Q9 (F0 m pc ls st0) := by
  intro T hT X
  rcases hr T hT X with ⟨v, st₀, t, T', L, h0, X', hL2, e1, e2, ⟨v2, h2, hv, hp, hq⟩, st⟩ | ⟨q, st₀, t, T', L, E, ce, h0, X', hL2, e1, e2, ⟨h2, hp, hq⟩, hce, hcv, hcl, st⟩
  · cases hv
    have hz := (vx_frame (U := T'.setVm s.vm) X'.same).1
    obtain ⟨t2, a1, b1⟩ := kk v h2 T'.heap (locs ++ L) (by rw [e1]; exact hp) hz (fun z hz => (List.mem_append.mp hz).elim (hL z) (hL2 z)) hq T' rfl X'
    exact ⟨t2, st t2 a1, b1⟩
  · have hz := (vx_frame (U := T'.setVm s.vm) X'.same).1
    obtain ⟨t2, a1, b1⟩ := kx E ce q h2 T'.heap (locs ++ L) (by rw [e1]; exact hp) hz (fun z hz => (List.mem_append.mp hz).elim (hL z) (hL2 z)) hq (by rw [e1]; exact hce) hcv hcl T' rfl X'
    exact ⟨t2, st.trans a1, b1⟩
/-- what the tables say of a method that is called -/
def z_md (y : MethodName) (bytes : ByteArray) (maxL : Nat) (ret : Option FieldType) (n : Nat) : Prop := Cond.code y bytes maxL ret ∈ lw_tbl ∧ Cond.initialized y.cls ∈ lw_tbl ∧ (y.cls ≠ "java/lang/invoke/MethodHandle" ∧ y.cls ≠ "java/lang/invoke/VarHandle") ∧ (parseMethodDescriptor y.desc).map (fun d => d.parameters.length) = some n
abbrev zCont (g : zGT) (M : zM) (mc ms : Nat) (Q : zO → zH → Prop) (pc' : Nat) (lv : List (Option Value)) (st : List Value) (bc bs : Nat) : zO → zH → Prop := fun o h' => match o with
  | .inl v => zX g M mc ms Q pc' lv (v.toList ++ st) h' bc bs
  | .inr E => Q (.inr E) h'
theorem zC_blind {g : zGT} {args : List Value} {h : zH} : FrameBlind (va_Pc args (fun U => (gS_ g).WarmedH U.vm ∧ zP g h U.heap)) := fun _ _ _ _ q => q
theorem z_callB {p : Program} {s : State} {m : MethodId} {meth : Method} {c : Code} {args : Array Value} {y : MethodName} {bytes : ByteArray} {maxL : Nat} {ret : Option FieldType} {n lvl mc1 ms1 idx : Nat} (hg : zG g) (F : zF g M p s m meth c) (md : z_md y bytes maxL ret n) (hlvl : lvl + 1 ≤ M.2.2.2.2.2.2) (hmaxL : maxL ≤ 150) (hlink : (Cond.methodLink M.1 idx y).before args s = true) :
    CallB (zRoom M mc ms) s args M.1 idx y bytes maxL ret [.code y bytes maxL ret] { frames := lvl, cells := mc1, slots := ms1, locals := 200 * lvl } mc1 ms1 n := by
  obtain ⟨m1, m2, m3, m4⟩ := md
  refine ⟨rfl, rfl, hlvl, by show _ ≤ 200 * M.2.2.2.2.2.2; show 8 + (maxL + 11) + 200 * lvl ≤ _; omega, fun w hw a' U hU => ?_, List.mem_singleton_self _, zw hg F m1 rfl, zw hg F m2 rfl, m3, fun sig hsig => ?_, hlink⟩
  · rw [List.mem_singleton.mp hw]
    exact word_at (F.2.2.2.2.2.2.2.1.trans hU) (good_of_word rfl) (hg.2.1 _ m1)
  · rw [hsig] at m4
    exact (Option.some.inj m4).symm
theorem z_callN {p : Program} {s : State} {m : MethodId} {meth : Method} {c : Code} {args : Array Value} {y : MethodName} {host : String} {bytes : ByteArray} {maxL : Nat} {ret : Option FieldType} {n lvl mc1 ms1 idx : Nat} (hg : zG g) (F : zF g M p s m meth c) (md : z_md y bytes maxL ret n) (hlvl : lvl + 1 ≤ M.2.2.2.2.2.2) (hmaxL : maxL ≤ 150) (hlink : Cond.methodLinkNest M.1 idx y host ∈ lw_tbl) :
    va_CN (zRoom M mc ms) s args M.1 idx y host bytes maxL ret [.code y bytes maxL ret] { frames := lvl, cells := mc1, slots := ms1, locals := 200 * lvl } mc1 ms1 n := by
  obtain ⟨m1, m2, m3, m4⟩ := md
  refine ⟨⟨rfl, rfl, hlvl, by show _ ≤ 200 * M.2.2.2.2.2.2; show 8 + (maxL + 11) + 200 * lvl ≤ _; omega, fun w hw a' U hU => ?_, List.mem_singleton_self _⟩, zw hg F m1 rfl, zw hg F m2 rfl, m3, fun sig hsig => ?_, zw2 hg F hlink rfl⟩
  · rw [List.mem_singleton.mp hw]
    exact word_at (F.2.2.2.2.2.2.2.1.trans hU) (good_of_word rfl) (hg.2.1 _ m1)
  · rw [hsig] at m4
    exact (Option.some.inj m4).symm

theorem r_callV {y : MethodName} {bytes : ByteArray} {maxL : Nat} {ret : Option FieldType} {n lvl mc1 ms1 idx : Nat} {As rest : List Value} {b ci : Nat} {C : String} {T : u_T} {N : Nat} {ty : Nat → FieldType} (bc2 bs2 : Nat) (hg : zG g) (htab : M.2.2.2.2.1 = []) (md : z_md y bytes maxL ret n) (zc : z_cls ci C T N ty) (hkd : kd_ h b = ci + 1) (hin : Cond.instanceMethod y ∈ lw_tbl) (hsel : Cond.selects C y y ∈ lw_tbl) (hlink : Cond.methodLink M.1 idx y ∈ lw_tbl) (hlvl : lvl + 1 ≤ M.2.2.2.2.2.2) (hmaxL : maxL ≤ 150) (hn : As.length = n) (hroom : (rest.map fun v => v.category).sum ≤ 8) (hb1 : bc2 + mc1 ≤ bc) (hb2 : bs2 + ms1 ≤ bs) (hst : st = As.reverse ++ .ref b :: rest) (pc' : Nat) (hp : pc + 3 = pc') (d : decode M.2.1 pc = .ok (.invokevirtual idx, 3))
    (hC : zC g (.code y bytes maxL ret) y lvl mc1 ms1 (.ref b :: As) h (zCont g M mc ms Q pc' lv rest bc2 bs2)) : zX g M mc ms Q pc lv st h bc bs := by
  subst hp; subst hst
  intro p e s m args below meth c F H locs cells slots ls hP hs hL hc hsl hl
  obtain ⟨z1, z2, z3, z4, z5, z6, z7⟩ := zc
  have hrecv := va_recv (zK hg F) (hP.obj hkd z7) z1 (q0 := 0) rfl
  refine z_run (Q1 := zCont g M mc ms Q (pc + 3) lv rest bc2 bs2) (vx_runV ⟨F.1, F.2.1, F.2.2.1, F.2.2.2.2.1, zts hg F⟩ hC ⟨z_callB hg F md hlvl hmaxL (zw hg F hlink rfl), zw hg F hin rfl, zw hg F hsel rfl⟩ ⟨zC_blind, hrecv, fun U hU hW => ⟨rfl, F.2.2.2.2.2.2.2.1.trans hW, by rw [hU]; exact hP⟩⟩ rfl hn hl.1 rfl (lv_room hroom) d (show cells + mc1 ≤ mc ∧ slots + ms1 ≤ ms by omega)) hL (fun v h' H1 locs1 hP1 hz1 hL1 hq => ?_) (fun E ce q9 h' H1 locs1 hP1 hz1 hL1 hq hce hcv hcl => ?_)
  · exact hq p e s m args below meth c F H1 locs1 (cells + mc1) (slots + ms1) ls hP1 hz1 hL1 (by omega) (by omega) hl
  · exact vx_out (by rw [F.2.2.2.2.2.2.1, htab]; intro x hx; cases hx) F.2.2.2.2.2.1 hce hcv hcl (fun t ht hal => ⟨h', by rw [ht]; exact hP1, hq⟩) hL1 (by omega) (by omega)

theorem r_callS {y : MethodName} {bytes : ByteArray} {maxL : Nat} {ret : Option FieldType} {n lvl mc1 ms1 idx : Nat} {As rest : List Value}  (bc2 bs2 : Nat) (hg : zG g) (htab : M.2.2.2.2.1 = []) (md : z_md y bytes maxL ret n) (hstat : Cond.static y ∈ lw_tbl) (hlink : Cond.methodLink M.1 idx y ∈ lw_tbl) (hlvl : lvl + 1 ≤ M.2.2.2.2.2.2) (hmaxL : maxL ≤ 150) (hn : As.length = n) (hroom : (rest.map fun v => v.category).sum ≤ 8) (hb1 : bc2 + mc1 ≤ bc) (hb2 : bs2 + ms1 ≤ bs) (hst : st = As.reverse ++ rest) (pc' : Nat) (hp : pc + 3 = pc') (d : decode M.2.1 pc = .ok (.invokestatic idx, 3))
    (hC : zC g (.code y bytes maxL ret) y lvl mc1 ms1 (As) h (zCont g M mc ms Q pc' lv rest bc2 bs2)) : zX g M mc ms Q pc lv st h bc bs := by
  subst hp; subst hst
  intro p e s m args below meth c F H locs cells slots ls hP hs hL hc hsl hl
  refine z_run (Q1 := zCont g M mc ms Q (pc + 3) lv rest bc2 bs2) (vx_runS ⟨F.1, F.2.1, F.2.2.1, F.2.2.2.2.1, zts hg F⟩ hC ⟨z_callB hg F md hlvl hmaxL (zw hg F hlink rfl), zw hg F hstat rfl⟩ ⟨zC_blind, fun U hU hW => ⟨rfl, F.2.2.2.2.2.2.2.1.trans hW, by rw [hU]; exact hP⟩⟩ rfl hn hl.1 rfl (lv_room hroom) d (show cells + mc1 ≤ mc ∧ slots + ms1 ≤ ms by omega)) hL (fun v h' H1 locs1 hP1 hz1 hL1 hq => ?_) (fun E ce q9 h' H1 locs1 hP1 hz1 hL1 hq hce hcv hcl => ?_)
  · exact hq p e s m args below meth c F H1 locs1 (cells + mc1) (slots + ms1) ls hP1 hz1 hL1 (by omega) (by omega) hl
  · exact vx_out (by rw [F.2.2.2.2.2.2.1, htab]; intro x hx; cases hx) F.2.2.2.2.2.1 hce hcv hcl (fun t ht hal => ⟨h', by rw [ht]; exact hP1, hq⟩) hL1 (by omega) (by omega)

theorem r_callI {y : MethodName} {bytes : ByteArray} {maxL : Nat} {ret : Option FieldType} {n lvl mc1 ms1 idx : Nat} {As rest : List Value} {b : Nat} (bc2 bs2 : Nat) (hg : zG g) (htab : M.2.2.2.2.1 = []) (md : z_md y bytes maxL ret n) (hin : Cond.instanceMethod y ∈ lw_tbl) (hy1 : y.name = "<init>") (hret : ret = none) (hlink : Cond.methodLink M.1 idx y ∈ lw_tbl) (hlvl : lvl + 1 ≤ M.2.2.2.2.2.2) (hmaxL : maxL ≤ 150) (hn : As.length = n) (hroom : (rest.map fun v => v.category).sum ≤ 8) (hb1 : bc2 + mc1 ≤ bc) (hb2 : bs2 + ms1 ≤ bs) (hst : st = As.reverse ++ .ref b :: rest) (pc' : Nat) (hp : pc + 3 = pc') (d : decode M.2.1 pc = .ok (.invokespecial idx, 3))
    (hC : zC g (.code y bytes maxL ret) y lvl mc1 ms1 (.ref b :: As) h (zCont g M mc ms Q pc' lv rest bc2 bs2)) : zX g M mc ms Q pc lv st h bc bs := by
  subst hp; subst hst
  intro p e s m args below meth c F H locs cells slots ls hP hs hL hc hsl hl
  subst hret
  refine z_run (Q1 := zCont g M mc ms Q (pc + 3) lv rest bc2 bs2) (vx_runI ⟨F.1, F.2.1, F.2.2.1, F.2.2.2.2.1, zts hg F⟩ hC ⟨z_callB hg F md hlvl hmaxL (zw hg F hlink rfl), hy1, zw hg F hin rfl⟩ ⟨zC_blind, fun U hU hW => ⟨rfl, F.2.2.2.2.2.2.2.1.trans hW, by rw [hU]; exact hP⟩⟩ rfl hn hl.1 rfl (lv_room hroom) d (show cells + mc1 ≤ mc ∧ slots + ms1 ≤ ms by omega)) hL (fun v h' H1 locs1 hP1 hz1 hL1 hq => ?_) (fun E ce q9 h' H1 locs1 hP1 hz1 hL1 hq hce hcv hcl => ?_)
  · exact hq p e s m args below meth c F H1 locs1 (cells + mc1) (slots + ms1) ls hP1 hz1 hL1 (by omega) (by omega) hl
  · exact vx_out (by rw [F.2.2.2.2.2.2.1, htab]; intro x hx; cases hx) F.2.2.2.2.2.1 hce hcv hcl (fun t ht hal => ⟨h', by rw [ht]; exact hP1, hq⟩) hL1 (by omega) (by omega)

theorem r_callIN {y : MethodName} {bytes : ByteArray} {maxL : Nat} {ret : Option FieldType} {n lvl mc1 ms1 idx : Nat} {As rest : List Value} {b : Nat} {host : String} (bc2 bs2 : Nat) (hg : zG g) (htab : M.2.2.2.2.1 = []) (md : z_md y bytes maxL ret n) (hin : Cond.instanceMethod y ∈ lw_tbl) (hy1 : y.name = "<init>") (hret : ret = none) (hlink : Cond.methodLinkNest M.1 idx y host ∈ lw_tbl) (hlvl : lvl + 1 ≤ M.2.2.2.2.2.2) (hmaxL : maxL ≤ 150) (hn : As.length = n) (hroom : (rest.map fun v => v.category).sum ≤ 8) (hb1 : bc2 + mc1 ≤ bc) (hb2 : bs2 + ms1 ≤ bs) (hst : st = As.reverse ++ .ref b :: rest) (pc' : Nat) (hp : pc + 3 = pc') (d : decode M.2.1 pc = .ok (.invokespecial idx, 3))
    (hC : zC g (.code y bytes maxL ret) y lvl mc1 ms1 (.ref b :: As) h (zCont g M mc ms Q pc' lv rest bc2 bs2)) : zX g M mc ms Q pc lv st h bc bs := by
  subst hp; subst hst
  intro p e s m args below meth c F H locs cells slots ls hP hs hL hc hsl hl
  subst hret
  refine z_run (Q1 := zCont g M mc ms Q (pc + 3) lv rest bc2 bs2) (vx_runIN (host := host) ⟨F.1, F.2.1, F.2.2.1, F.2.2.2.2.1, zts hg F⟩ hC ⟨z_callN hg F md hlvl hmaxL hlink, hy1, zw hg F hin rfl⟩ ⟨zC_blind, fun U hU hW => ⟨rfl, F.2.2.2.2.2.2.2.1.trans hW, by rw [hU]; exact hP⟩⟩ rfl hn hl.1 rfl (lv_room hroom) d (show cells + mc1 ≤ mc ∧ slots + ms1 ≤ ms by omega)) hL (fun v h' H1 locs1 hP1 hz1 hL1 hq => ?_) (fun E ce q9 h' H1 locs1 hP1 hz1 hL1 hq hce hcv hcl => ?_)
  · exact hq p e s m args below meth c F H1 locs1 (cells + mc1) (slots + ms1) ls hP1 hz1 hL1 (by omega) (by omega) hl
  · exact vx_out (by rw [F.2.2.2.2.2.2.1, htab]; intro x hx; cases hx) F.2.2.2.2.2.1 hce hcv hcl (fun t ht hal => ⟨h', by rw [ht]; exact hP1, hq⟩) hL1 (by omega) (by omega)

theorem r_callSN {y : MethodName} {bytes : ByteArray} {maxL : Nat} {ret : Option FieldType} {n lvl mc1 ms1 idx : Nat} {As rest : List Value} {host : String} (bc2 bs2 : Nat) (hg : zG g) (htab : M.2.2.2.2.1 = []) (md : z_md y bytes maxL ret n) (hstat : Cond.static y ∈ lw_tbl) (hlink : Cond.methodLinkNest M.1 idx y host ∈ lw_tbl) (hlvl : lvl + 1 ≤ M.2.2.2.2.2.2) (hmaxL : maxL ≤ 150) (hn : As.length = n) (hroom : (rest.map fun v => v.category).sum ≤ 8) (hb1 : bc2 + mc1 ≤ bc) (hb2 : bs2 + ms1 ≤ bs) (hst : st = As.reverse ++ rest) (pc' : Nat) (hp : pc + 3 = pc') (d : decode M.2.1 pc = .ok (.invokestatic idx, 3))
    (hC : zC g (.code y bytes maxL ret) y lvl mc1 ms1 (As) h (zCont g M mc ms Q pc' lv rest bc2 bs2)) : zX g M mc ms Q pc lv st h bc bs := by
  subst hp; subst hst
  intro p e s m args below meth c F H locs cells slots ls hP hs hL hc hsl hl
  refine z_run (Q1 := zCont g M mc ms Q (pc + 3) lv rest bc2 bs2) (vx_runSN (host := host) ⟨F.1, F.2.1, F.2.2.1, F.2.2.2.2.1, zts hg F⟩ hC ⟨z_callN hg F md hlvl hmaxL hlink, zw hg F hstat rfl, trivial⟩ ⟨zC_blind, fun U hU hW => ⟨rfl, F.2.2.2.2.2.2.2.1.trans hW, by rw [hU]; exact hP⟩⟩ rfl hn hl.1 rfl (lv_room hroom) d (show cells + mc1 ≤ mc ∧ slots + ms1 ≤ ms by omega)) hL (fun v h' H1 locs1 hP1 hz1 hL1 hq => ?_) (fun E ce q9 h' H1 locs1 hP1 hz1 hL1 hq hce hcv hcl => ?_)
  · exact hq p e s m args below meth c F H1 locs1 (cells + mc1) (slots + ms1) ls hP1 hz1 hL1 (by omega) (by omega) hl
  · exact vx_out (by rw [F.2.2.2.2.2.2.1, htab]; intro x hx; cases hx) F.2.2.2.2.2.1 hce hcv hcl (fun t ht hal => ⟨h', by rw [ht]; exact hP1, hq⟩) hL1 (by omega) (by omega)

theorem r_objInit {b idx : Nat} (hg : zG g) (hlink : Cond.methodLink M.1 idx objectInit ∈ lw_tbl) (hin : Cond.instanceMethod objectInit ∈ lw_tbl) (hcode : Cond.code objectInit ⟨#[0xb1]⟩ 1 none ∈ lw_tbl) (hroom : (st.map fun v => v.category).sum ≤ 8) (hlv : 1 ≤ M.2.2.2.2.2.2) (pc' : Nat) (hp : pc + 3 = pc') (d : decode M.2.1 pc = .ok (.invokespecial idx, 3)) (k : zX g M mc ms Q pc' lv st h bc bs) : zX g M mc ms Q pc lv (.ref b :: st) h bc bs := by
  subst hp
  intro p e s m args below meth c F H locs cells slots ls hP hs hL hc hsl hl
  refine W.objInit F.1 F.2.1 F.2.2.2.2.1 (zw hg F hlink rfl) (zw hg F hin rfl) (zw hg F hcode rfl) rfl (hl.1.trans F.2.2.1.symm) rfl d (show 1 ≤ M.2.2.2.2.2.2 from hlv) ?_ (k p e s m args below meth c F H locs cells slots ls hP hs hL hc hsl hl)
  have := lv_room (m := m) (pc := pc) (ls := ls) (rest := .ref b :: st) hroom
  show _ ≤ 200 * M.2.2.2.2.2.2
  have e9 : 2 * (F0 m pc ls (.ref b :: st)).monitorRoom = 0 := rfl
  omega

end Calls
