abbrev mX11_person : zM := (RX11, cX11_person, 1, (Option.some Jvm.ClassFile.FieldType.int), [], "person", 17)
set_option maxRecDepth 20000 in
theorem c_X11_person {g : zGT} {Q : zO → zH → Prop} {h : zH} (hg : zG g) {mi : Nat} (hm : zMi g mi) {o : Nat → Nat} {x : Nat} {S : zS} {n : Nat} {Vs Ps Ss Ts Fs Tn : List Nat} {A : Nat → Nat} {G : Nat → Nat → Nat} {Rc : Nat → Nat} (hI : MInv n S) (y : CRep g o h x S n Vs Ps Ss Ts Fs Tn A G Rc) (kE : S.1 12 = 10 → Q (.inr "java/lang/IllegalStateException") h) (k0 : S.1 12 ≠ 10 → ∀ o1 h1, CEx g o1 h1 x (zu1 S.1 12 (S.1 12 + 1), S.2) (n + 1) → zStep zOwn o h o1 h1 → Q (.inl (some (.int (zI (S.1 12))))) h1) : zC g (.code yX11_person cX11_person 1 (Option.some Jvm.ClassFile.FieldType.int)) yX11_person 17 6 150 [.ref x] h Q := by
  refine zC_of (M := mX11_person) (lv := [some (.ref x)]) (by decide) rfl rfl (Nat.le_of_ble_eq_true rfl) rfl rfl ?_
  have e1 := hI.vehicles
  have e2 := hI.today
  have e3 := hI.people
  have e4 := hI.sightings
  have e5 := hI.fines
  have e6 := hI.calls
  have nv := y.nv
  have np := y.np
  have ns := y.ns
  have nf := y.nf
  have e9 := hI.signs
  refine r_aload_0 1 rfl (dd_X11_person 0 _ _ _ rfl) ?_
  refine r_getr hg zc_X11 4 (by decide) (fun _ _ _ => rfl) y.mn.2.2.2.2.2.2.2.1 y.mn.1 (Or.inl rfl) (tb_1 125 _ rfl) 4 rfl (dd_X11_person 1 _ _ _ rfl) ?_
  refine r_callV0 (lvl := 10) (mc1 := 0) (ms1 := 0) 6 150 hg rfl md_Jx4a65c_size_8abf5 zc_Jx4a65c y.lp.1 wi_Jx4a65c_size_8abf5 wv_Jx4a65c_size_8abf5 (tb_2 8 _ rfl) (by decide) (by decide) rfl (Nat.le_of_ble_eq_true rfl) (Nat.le_of_ble_eq_true rfl) (Nat.le_of_ble_eq_true rfl) 7 rfl (dd_X11_person 2 _ _ _ rfl) ?_
  refine c_Jx4a65c_size_8abf5 hg y.lp ?_
  dsimp only [zCont, Option.toList, List.cons_append, List.nil_append]
  refine r_bipush (by decide) 9 rfl (dd_X11_person 3 _ _ _ rfl) ?_
  refine r_if_icmplt (by omega) (by omega) 12 rfl 20 rfl (dd_X11_person 4 _ _ _ rfl) (fun hc1 => ?_) (fun hc1 => ?_)
  · refine r_aload_0 21 rfl (dd_X11_person 9 _ _ _ rfl) ?_
    refine r_getr hg zc_X11 4 (by decide) (fun _ _ _ => rfl) y.mn.2.2.2.2.2.2.2.1 y.mn.1 (Or.inl rfl) (tb_1 125 _ rfl) 24 rfl (dd_X11_person 10 _ _ _ rfl) ?_
    refine r_new 5 148 hg zc_X5 (tb_2 220 _ rfl) (tb_2 221 _ rfl) (tb_1 23 _ rfl) (Nat.le_of_ble_eq_true rfl) (Nat.le_of_ble_eq_true rfl) zd_X5 27 rfl (dd_X11_person 11 _ _ _ rfl) (fun a hz_a => ?_)
    refine r_dup rfl 28 rfl (dd_X11_person 12 _ _ _ rfl) ?_
    refine r_callIN0 (lvl := 10) (mc1 := 0) (ms1 := 0) 5 148 hg rfl md_X5_init wi_X5_init rfl rfl (tb_2 222 _ rfl) (by decide) (by decide) rfl (Nat.le_of_ble_eq_true rfl) (Nat.le_of_ble_eq_true rfl) (Nat.le_of_ble_eq_true rfl) 31 rfl (dd_X11_person 13 _ _ _ rfl) ?_
    refine c_X5_init (o := zu1 o a (rg 5 Ps.length)) (r := rg 5 Ps.length) hg zu1_at zu1_at (fun h1 q0 q1 q2 => ?_)
    have st1 : zStep (fun q => q = rg 5 Ps.length) o h (zu1 o a (rg 5 Ps.length)) h1 := (step_nob hz_a).trans q2
    have ka : kd_ h1 a = 9 := q2.kd zu1_at (by decide)
    have oa : zu1 o a (rg 5 Ps.length) a = rg 5 Ps.length := zu1_at
    generalize zu1 o a (rg 5 Ps.length) = o1 at st1 oa
    have lp1 := y.lp.fr (st1.fr (r := 5) (by show ¬ _ = _; unfold rg; omega))
    dsimp only [zCont, Option.toList, List.cons_append, List.nil_append]
    refine r_callV1 (lvl := 16) (mc1 := 1) (ms1 := 100) 4 48 hg rfl md_Jx4a65c_add_9ea2d zc_Jx4a65c lp1.1 wi_Jx4a65c_add_9ea2d wv_Jx4a65c_add_9ea2d (tb_2 147 _ rfl) (by decide) (by decide) rfl (Nat.le_of_ble_eq_true rfl) (Nat.le_of_ble_eq_true rfl) (Nat.le_of_ble_eq_true rfl) 34 rfl (dd_X11_person 14 _ _ _ rfl) ?_
    refine c_Jx4a65c_add_9ea2d hg zc_X5 (tb_6 84 _ rfl) hm lp1 (by omega) (fun z hz => by obtain ⟨i, hi⟩ := List.getElem?_of_mem hz; exact st1.kd (y.pe i z hi).1 (by decide)) ka (fun o2 h2 hL st2 => ?_)
    dsimp only [zCont, Option.toList, List.cons_append, List.nil_append]
    refine r_pop rfl 35 rfl (dd_X11_person 15 _ _ _ rfl) ?_
    have st : zStep (fun q => q = 5 ∨ q = rg 5 Ps.length) o h o2 h2 := (st1.mono (fun _ q => Or.inr q)).trans (st2.mono (fun _ q => Or.inl q))
    have fp9 := y.fp Ps.length (by omega)
    have pe1 : PeRep o1 (rg 5 Ps.length) h1 a (zu1 S.1 12 (S.1 12 + 1), S.2) Ps.length := ⟨ka, oa, q0.trans fp9.1.symm, q1.trans fp9.2.symm⟩
    have y := y.addPe (S2 := (zu1 S.1 12 (S.1 12 + 1), S.2)) (n2 := n + 1) (Nat.le_succ n) st (fun k i _ => rfl) (fun k hk => (zu1_ne (fun q => hk (by omega)))) hL (show zu1 S.1 12 (S.1 12 + 1) 12 = S.1 12 + 1 from zu1_at) (pe1.fr (st2.fr (r := rg 5 Ps.length) (by show ¬ _ = _; unfold rg; omega)))
    have np := y.np
    refine r_aload_0 36 rfl (dd_X11_person 16 _ _ _ rfl) ?_
    refine r_getr hg zc_X11 4 (by decide) (fun _ _ _ => rfl) y.mn.2.2.2.2.2.2.2.1 y.mn.1 (Or.inl rfl) (tb_1 125 _ rfl) 39 rfl (dd_X11_person 17 _ _ _ rfl) ?_
    refine r_callV0 (lvl := 10) (mc1 := 0) (ms1 := 0) 4 48 hg rfl md_Jx4a65c_size_8abf5 zc_Jx4a65c y.lp.1 wi_Jx4a65c_size_8abf5 wv_Jx4a65c_size_8abf5 (tb_2 8 _ rfl) (by decide) (by decide) rfl (Nat.le_of_ble_eq_true rfl) (Nat.le_of_ble_eq_true rfl) (Nat.le_of_ble_eq_true rfl) 42 rfl (dd_X11_person 18 _ _ _ rfl) ?_
    refine c_Jx4a65c_size_8abf5 hg y.lp ?_
    dsimp only [zCont, Option.toList, List.cons_append, List.nil_append]
    refine r_iconst 43 rfl (dd_X11_person 19 _ _ _ rfl) ?_
    refine r_isub 44 rfl (dd_X11_person 20 _ _ _ rfl) ?_
    refine r_ireturn rfl rfl (dd_X11_person 21 _ _ _ rfl) ?_
    have k := k0 (by omega) _ _ y.ex (st.mono (fun q hq => by rcases hq with hq | hq <;> (show _ ≠ 0; rw [hq]; first | decide | (unfold rg; omega))))
    rw [show (((Ps ++ [a]).length : Nat) : Int) - 1 = S.1 12 by simp; omega]
    exact k
  · refine r_throw hg zt_ISE rfl (by decide) (Nat.le_of_ble_eq_true rfl) (Nat.le_of_ble_eq_true rfl) (Nat.le_of_ble_eq_true rfl) (pc3 := 15) (pc4 := 16) (pc7 := 19) rfl rfl rfl (dd_X11_person 5 _ _ _ rfl) (dd_X11_person 6 _ _ _ rfl) (dd_X11_person 7 _ _ _ rfl) (dd_X11_person 8 _ _ _ rfl) ?_
    exact kE (by omega)

abbrev mX11_pay : zM := (RX11, cX11_pay, 4, (Option.some Jvm.ClassFile.FieldType.long), [], "pay", 17)
set_option maxRecDepth 20000 in
theorem c_X11_pay {g : zGT} {Q : zO → zH → Prop} {h : zH} (hg : zG g) {o : Nat → Nat} {x : Nat} {S : zS} {n : Nat} {Vs Ps Ss Ts Fs Tn : List Nat} {A : Nat → Nat} {G : Nat → Nat → Nat} {Rc : Nat → Nat} (hI : MInv n S) (y : CRep g o h x S n Vs Ps Ss Ts Fs Tn A G Rc) {v b : Int} (hn : n < 512) (hv : zR v) (hb : zR b) (kE : ¬ (0 ≤ v ∧ v < S.1 4) → Q (.inr "java/lang/IndexOutOfBoundsException") h) (k2 : ∀ u : Nat, v = u → v < S.1 4 → ¬ (1 ≤ b ∧ b ≤ 1000000) → Q (.inr "java/lang/IllegalArgumentException") h) (k0 : ∀ u : Nat, v = u → v < S.1 4 → (1 ≤ b ∧ b ≤ 1000000) → ∀ o1 h1, CEx g o1 h1 x (S.1, zu2 S.2 24 u (S.2 24 u + b)) (n + 1) → zStep zOwn o h o1 h1 → Q (.inl (some (.long (zL (zowed (S.1, zu2 S.2 24 u (S.2 24 u + b)) u))))) h1) : zC g (.code yX11_pay cX11_pay 4 (Option.some Jvm.ClassFile.FieldType.long)) yX11_pay 17 4 40 [.ref x, .int (zI v), .int (zI b)] h Q := by
  refine zC_of (M := mX11_pay) (lv := [some (.ref x), some (.int (zI v)), some (.int (zI b)), none]) (by decide) rfl rfl (Nat.le_of_ble_eq_true rfl) rfl rfl ?_
  have e1 := hI.vehicles
  have e2 := hI.today
  have e3 := hI.people
  have e4 := hI.sightings
  have e5 := hI.fines
  have e6 := hI.calls
  have nv := y.nv
  have np := y.np
  have ns := y.ns
  have nf := y.nf
  have e9 := hI.signs
  refine r_aload_0 1 rfl (dd_X11_pay 0 _ _ _ rfl) ?_
  refine r_iload_1 2 rfl (dd_X11_pay 1 _ _ _ rfl) ?_
  refine r_callV1 (lvl := 13) (mc1 := 1) (ms1 := 6) 3 34 hg rfl md_X11_vehicleAt zc_X11 y.mn.1 wi_X11_vehicleAt wv_X11_vehicleAt (tb_3 29 _ rfl) (by decide) (by decide) rfl (Nat.le_of_ble_eq_true rfl) (Nat.le_of_ble_eq_true rfl) (Nat.le_of_ble_eq_true rfl) 5 rfl (dd_X11_pay 2 _ _ _ rfl) ?_
  refine c_X11_vehicleAt hg hI y (by omega) (fun hE => ?_) (fun u va hu hV hu4 => ?_)
  · dsimp only [zCont]
    exact kE hE
  · dsimp only [zCont, Option.toList, List.cons_append, List.nil_append]
    refine r_astore_3 6 rfl (by decide) rfl (dd_X11_pay 3 _ _ _ rfl) ?_
    refine r_iload_2 7 rfl (dd_X11_pay 4 _ _ _ rfl) ?_
    refine r_iconst 8 rfl (dd_X11_pay 5 _ _ _ rfl) ?_
    refine r_ldc hg (tb_5 11 _ rfl) 10 rfl (dd_X11_pay 6 _ _ _ rfl) ?_
    refine r_top 1000000 rfl ?_
    refine r_callS3 (lvl := 10) (mc1 := 0) (ms1 := 0) 3 34 hg rfl md_X11_isWithin ws_X11_isWithin (tb_1 171 _ rfl) (by decide) (by decide) rfl (Nat.le_of_ble_eq_true rfl) (Nat.le_of_ble_eq_true rfl) (Nat.le_of_ble_eq_true rfl) 13 rfl (dd_X11_pay 7 _ _ _ rfl) ?_
    refine c_X11_isWithin hg (by omega) (by omega) (by omega) (fun hb1 => ?_) (fun hb1 => ?_)
    · dsimp only [zCont, Option.toList, List.cons_append, List.nil_append]
      refine r_ifne (by omega) 16 rfl 24 rfl (dd_X11_pay 8 _ _ _ rfl) (fun _ => ?_) (fun q => absurd q (by decide))
      refine r_aload_3 25 rfl (dd_X11_pay 13 _ _ _ rfl) ?_
      refine r_dup rfl 26 rfl (dd_X11_pay 14 _ _ _ rfl) ?_
      refine r_getj hg zc_X10 6 (by decide) (fun _ _ _ => rfl) (y.vo u va hV).2.2.2.2.2.2.2.2 (y.vo u va hV).1 (Or.inl rfl) (tb_2 131 _ rfl) 29 rfl (dd_X11_pay 15 _ _ _ rfl) ?_
      refine r_iload_2 30 rfl (dd_X11_pay 16 _ _ _ rfl) ?_
      refine r_i2l (by omega) 31 rfl (dd_X11_pay 17 _ _ _ rfl) ?_
      refine r_ladd 32 rfl (dd_X11_pay 18 _ _ _ rfl) ?_
      refine r_putj hg zc_X10 6 (by decide) rfl (fun _ _ _ => rfl) rfl rfl (by decide) (y.vo u va hV).1 (Or.inl rfl) (tb_2 131 _ rfl) 35 rfl (dd_X11_pay 19 _ _ _ rfl) ?_
      have st : zStep (fun q => q = rg 0 u) o h o (sfj h va 6 (S.2 24 u + b)) := step_sfj (R := fun q => q = rg 0 u) (y.vo u va hV).2.1
      have vo2 : VoRep o (rg 0 u) (sfj h va 6 (S.2 24 u + b)) va (S.1, zu2 S.2 24 u (S.2 24 u + b)) u G := by obtain ⟨a1, a2, a3, a4, a5, a6, a7, a8, a9⟩ := y.vo u va hV; exact ⟨a1, a2, a3, a4, a5, a6, a7, a8, zu2_at.trans (show zu2 S.2 24 u (S.2 24 u + b) 24 u = _ from zu2_at).symm⟩
      have y := y.toVo (S2 := (S.1, zu2 S.2 24 u (S.2 24 u + b))) (n2 := n + 1) (Nat.le_succ n) st (fun k i hk => (zu2_ne (fun q => hk (by omega)))) (fun k _ => rfl) (v := u) (by omega) (fun i hi => zu2_ne (fun q => hi q.2)) (fun a ha => by obtain rfl : va = a := Option.some.inj (hV.symm.trans ha); exact vo2)
      have hI := (hI.mono (n2 := n + 1) (by omega) (by omega)).a24 (j := u) (v := S.2 24 u + b) (by have := hI.paid u; omega)
      refine r_aload_0 36 rfl (dd_X11_pay 20 _ _ _ rfl) ?_
      refine r_aload_3 37 rfl (dd_X11_pay 21 _ _ _ rfl) ?_
      refine r_getr hg zc_X10 2 (by decide) (fun _ _ _ => rfl) (y.vo u va hV).2.2.2.2.1 (y.vo u va hV).1 (Or.inl rfl) (tb_2 123 _ rfl) 40 rfl (dd_X11_pay 22 _ _ _ rfl) ?_
      refine r_callV1 (lvl := 15) (mc1 := 0) (ms1 := 0) 3 34 hg rfl md_X11_taxOf zc_X11 y.mn.1 wi_X11_taxOf wv_X11_taxOf (tb_5 12 _ rfl) (by decide) (by decide) rfl (Nat.le_of_ble_eq_true rfl) (Nat.le_of_ble_eq_true rfl) (Nat.le_of_ble_eq_true rfl) 43 rfl (dd_X11_pay 23 _ _ _ rfl) ?_
      refine c_X11_taxOf hg hI y (u := u) (by omega) ?_
      dsimp only [zCont, Option.toList, List.cons_append, List.nil_append]
      refine r_aload_3 44 rfl (dd_X11_pay 24 _ _ _ rfl) ?_
      refine r_getj hg zc_X10 6 (by decide) (fun _ _ _ => rfl) (y.vo u va hV).2.2.2.2.2.2.2.2 (y.vo u va hV).1 (Or.inl rfl) (tb_2 131 _ rfl) 47 rfl (dd_X11_pay 25 _ _ _ rfl) ?_
      refine r_lsub 48 rfl (dd_X11_pay 26 _ _ _ rfl) ?_
      refine r_lreturn rfl (dd_X11_pay 27 _ _ _ rfl) ?_
      exact k0 u hu (by omega) (by omega) _ _ y.ex (st.mono (fun q hq => by show q ≠ 0; rw [show q = _ from hq]; first | decide | (unfold rg; omega)))
    · dsimp only [zCont, Option.toList, List.cons_append, List.nil_append]
      refine r_ifne (by omega) 16 rfl 24 rfl (dd_X11_pay 8 _ _ _ rfl) (fun q => absurd q (by decide)) (fun _ => ?_)
      refine r_throw hg zt_IAE rfl (by decide) (Nat.le_of_ble_eq_true rfl) (Nat.le_of_ble_eq_true rfl) (Nat.le_of_ble_eq_true rfl) (pc3 := 19) (pc4 := 20) (pc7 := 23) rfl rfl rfl (dd_X11_pay 9 _ _ _ rfl) (dd_X11_pay 10 _ _ _ rfl) (dd_X11_pay 11 _ _ _ rfl) (dd_X11_pay 12 _ _ _ rfl) ?_
      exact k2 u hu (by omega) (by omega)

abbrev mX11_test : zM := (RX11, cX11_test, 6, (Option.some Jvm.ClassFile.FieldType.int), [], "test", 15)
set_option maxRecDepth 20000 in
theorem c_X11_test {g : zGT} {Q : zO → zH → Prop} {h : zH} (hg : zG g) {o : Nat → Nat} {x : Nat} {S : zS} {n : Nat} {Vs Ps Ss Ts Fs Tn : List Nat} {A : Nat → Nat} {G : Nat → Nat → Nat} {Rc : Nat → Nat} (hI : MInv n S) (y : CRep g o h x S n Vs Ps Ss Ts Fs Tn A G Rc) {v w gr far : Int} (hv : zR v) (hw : zR w) (hg9 : zR gr) (hf : zR far) (kE : ¬ (0 ≤ v ∧ v < S.1 4) → Q (.inr "java/lang/IndexOutOfBoundsException") h) (k2 : ∀ u : Nat, v = u → v < S.1 4 → ¬ ztestOK S u w gr far → Q (.inr "java/lang/IllegalArgumentException") h) (k3 : ∀ u : Nat, v = u → v < S.1 4 → ztestOK S u w gr far → S.2 25 u = 20 → Q (.inr "java/lang/IllegalStateException") h) (k0 : ∀ (u : Nat) (B U : Int), v = u → v < S.1 4 → ztestOK S u w gr far → S.2 25 u ≠ 20 → B = zback S u far → U = zuntil S u w gr → ∀ o1 h1, CEx g o1 h1 x (S.1, zu2 (zu2 (zu2 (zu2 (zu2 S.2 28 u (S.2 28 u + B)) 25 u (S.2 25 u + 1)) 26 u w) 27 u far) 29 u U) (n + 1) → zStep zOwn o h o1 h1 → Q (.inl (some (.int (zI U)))) h1) : zC g (.code yX11_test cX11_test 6 (Option.some Jvm.ClassFile.FieldType.int)) yX11_test 15 4 40 [.ref x, .int (zI v), .int (zI w), .int (zI gr), .int (zI far)] h Q := by
  refine zC_of (M := mX11_test) (lv := [some (.ref x), some (.int (zI v)), some (.int (zI w)), some (.int (zI gr)), some (.int (zI far)), none]) (by decide) rfl rfl (Nat.le_of_ble_eq_true rfl) rfl rfl ?_
  have e1 := hI.vehicles
  have e2 := hI.today
  have e3 := hI.people
  have e4 := hI.sightings
  have e5 := hI.fines
  have e6 := hI.calls
  have nv := y.nv
  have np := y.np
  have ns := y.ns
  have nf := y.nf
  have e9 := hI.signs
  refine r_aload_0 1 rfl (dd_X11_test 0 _ _ _ rfl) ?_
  refine r_iload_1 2 rfl (dd_X11_test 1 _ _ _ rfl) ?_
  refine r_callV1 (lvl := 13) (mc1 := 1) (ms1 := 6) 3 34 hg rfl md_X11_vehicleAt zc_X11 y.mn.1 wi_X11_vehicleAt wv_X11_vehicleAt (tb_3 29 _ rfl) (by decide) (by decide) rfl (Nat.le_of_ble_eq_true rfl) (Nat.le_of_ble_eq_true rfl) (Nat.le_of_ble_eq_true rfl) 5 rfl (dd_X11_test 2 _ _ _ rfl) ?_
  refine c_X11_vehicleAt hg hI y (by omega) (fun hE => ?_) (fun u va hu hV hu4 => ?_)
  · dsimp only [zCont]
    exact kE hE
  · dsimp only [zCont, Option.toList, List.cons_append, List.nil_append]
    refine r_astore_5 7 rfl (by decide) rfl (dd_X11_test 3 _ _ _ rfl) ?_
    have hul : u < Vs.length := by omega
    obtain ⟨t1, t2, t3, t4, t5, t6, t7⟩ := id (y.te u hul)
    have g1 := hI.tests u
    have g2 := hI.testDay u
    have g3 := hI.mileage u
    have g4 := hI.until u
    have g5 := hI.built u
    have g6 := hI.back u
    refine r_iload_2 8 rfl (dd_X11_test 4 _ _ _ rfl) ?_
    refine r_aload_5 10 rfl (dd_X11_test 5 _ _ _ rfl) ?_
    refine r_getr hg zc_X10 3 (by decide) (fun _ _ _ => rfl) (y.vo u va hV).2.2.2.2.2.1 (y.vo u va hV).1 (Or.inl rfl) (tb_2 125 _ rfl) 13 rfl (dd_X11_test 6 _ _ _ rfl) ?_
    refine r_geti hg zc_X9 1 (by decide) (fun _ _ _ => rfl) t4 t1 (Or.inl rfl) (tb_2 101 _ rfl) 16 rfl (dd_X11_test 7 _ _ _ rfl) ?_
    refine r_aload_0 17 rfl (dd_X11_test 8 _ _ _ rfl) ?_
    refine r_geti hg zc_X11 0 (by decide) (fun _ _ _ => rfl) y.mn.2.2.1 y.mn.1 (Or.inl rfl) (tb_1 121 _ rfl) 20 rfl (dd_X11_test 9 _ _ _ rfl) ?_
    refine r_callS3 (lvl := 10) (mc1 := 0) (ms1 := 0) 3 34 hg rfl md_X11_isWithin ws_X11_isWithin (tb_1 171 _ rfl) (by decide) (by decide) rfl (Nat.le_of_ble_eq_true rfl) (Nat.le_of_ble_eq_true rfl) (Nat.le_of_ble_eq_true rfl) 23 rfl (dd_X11_test 10 _ _ _ rfl) ?_
    refine c_X11_isWithin hg (by omega) (by omega) (by omega) (fun hb1 => ?_) (fun hb1 => ?_)
    · dsimp only [zCont, Option.toList, List.cons_append, List.nil_append]
      refine r_ifeq (by omega) 26 rfl 47 rfl (dd_X11_test 11 _ _ _ rfl) (fun q => absurd q (by decide)) (fun _ => ?_)
      refine r_iload_3 27 rfl (dd_X11_test 12 _ _ _ rfl) ?_
      refine r_iconst 28 rfl (dd_X11_test 13 _ _ _ rfl) ?_
      refine r_iconst 29 rfl (dd_X11_test 14 _ _ _ rfl) ?_
      refine r_callS3 (lvl := 10) (mc1 := 0) (ms1 := 0) 3 34 hg rfl md_X11_isWithin ws_X11_isWithin (tb_1 171 _ rfl) (by decide) (by decide) rfl (Nat.le_of_ble_eq_true rfl) (Nat.le_of_ble_eq_true rfl) (Nat.le_of_ble_eq_true rfl) 32 rfl (dd_X11_test 15 _ _ _ rfl) ?_
      refine c_X11_isWithin hg (by omega) (by omega) (by omega) (fun hb2 => ?_) (fun hb2 => ?_)
      · dsimp only [zCont, Option.toList, List.cons_append, List.nil_append]
        refine r_ifeq (by omega) 35 rfl 47 rfl (dd_X11_test 16 _ _ _ rfl) (fun q => absurd q (by decide)) (fun _ => ?_)
        refine r_iload_4 37 rfl (dd_X11_test 17 _ _ _ rfl) ?_
        refine r_iconst 38 rfl (dd_X11_test 18 _ _ _ rfl) ?_
        refine r_ldcw hg (tb_5 49 _ rfl) 41 rfl (dd_X11_test 19 _ _ _ rfl) ?_
        refine r_top 10000000 rfl ?_
        refine r_callS3 (lvl := 10) (mc1 := 0) (ms1 := 0) 3 34 hg rfl md_X11_isWithin ws_X11_isWithin (tb_1 171 _ rfl) (by decide) (by decide) rfl (Nat.le_of_ble_eq_true rfl) (Nat.le_of_ble_eq_true rfl) (Nat.le_of_ble_eq_true rfl) 44 rfl (dd_X11_test 20 _ _ _ rfl) ?_
        refine c_X11_isWithin hg (by omega) (by omega) (by omega) (fun hb3 => ?_) (fun hb3 => ?_)
        · dsimp only [zCont, Option.toList, List.cons_append, List.nil_append]
          refine r_ifne (by omega) 47 rfl 55 rfl (dd_X11_test 21 _ _ _ rfl) (fun _ => ?_) (fun q => absurd q (by decide))
          refine r_aload_5 57 rfl (dd_X11_test 26 _ _ _ rfl) ?_
          refine r_getr hg zc_X10 3 (by decide) (fun _ _ _ => rfl) (y.vo u va hV).2.2.2.2.2.1 (y.vo u va hV).1 (Or.inl rfl) (tb_2 125 _ rfl) 60 rfl (dd_X11_test 27 _ _ _ rfl) ?_
          refine r_geti hg zc_X9 0 (by decide) (fun _ _ _ => rfl) t3 t1 (Or.inl rfl) (tb_2 99 _ rfl) 63 rfl (dd_X11_test 28 _ _ _ rfl) ?_
          refine r_bipush (by decide) 65 rfl (dd_X11_test 29 _ _ _ rfl) ?_
          refine r_if_icmplt (by omega) (by omega) 68 rfl 76 rfl (dd_X11_test 30 _ _ _ rfl) (fun hc4 => ?_) (fun hc4 => ?_)
          · refine r_aload_5 78 rfl (dd_X11_test 35 _ _ _ rfl) ?_
            refine r_getr hg zc_X10 3 (by decide) (fun _ _ _ => rfl) (y.vo u va hV).2.2.2.2.2.1 (y.vo u va hV).1 (Or.inl rfl) (tb_2 125 _ rfl) 81 rfl (dd_X11_test 36 _ _ _ rfl) ?_
            refine r_iload_2 82 rfl (dd_X11_test 37 _ _ _ rfl) ?_
            refine r_iload_3 83 rfl (dd_X11_test 38 _ _ _ rfl) ?_
            refine r_iload_4 85 rfl (dd_X11_test 39 _ _ _ rfl) ?_
            refine r_callV3 (lvl := 10) (mc1 := 0) (ms1 := 0) 3 34 hg rfl md_X9_take zc_X9 t1 wi_X9_take wv_X9_take (tb_5 50 _ rfl) (by decide) (by decide) rfl (Nat.le_of_ble_eq_true rfl) (Nat.le_of_ble_eq_true rfl) (Nat.le_of_ble_eq_true rfl) 88 rfl (dd_X11_test 40 _ _ _ rfl) ?_
            refine c_X9_take hg t1 t2 t3 t4 t5 t6 t7 (by omega) (by omega) (by omega) (by omega) (by omega) (fun h1 q0 q1 q2 q3 q4 st => ?_)
            dsimp only [zCont, Option.toList, List.cons_append, List.nil_append]
            have k := k0 u (zback S u far) (zuntil S u w gr) hu (by omega) (by unfold ztestOK; omega) (by omega) rfl rfl
            have hB : zback S u far = if far < (if S.2 25 u = 0 then 0 else S.2 27 u) then 1 else 0 := by unfold zback; split <;> split <;> omega
            have hU : zuntil S u w gr = if gr = 2 then (if w < S.2 29 u then w else S.2 29 u) else (if S.2 29 u < w + 360 then w + 360 else S.2 29 u) := rfl
            generalize zback S u far = B at k hB
            generalize zuntil S u w gr = U at k hU
            have te2 : TeRep o (rg 2 u) h1 (G 3 u) (S.1, zu2 (zu2 (zu2 (zu2 (zu2 S.2 28 u (S.2 28 u + B)) 25 u (S.2 25 u + 1)) 26 u w) 27 u far) 29 u U) u := ⟨st.kd t1 (by decide), t2, q0.trans (by simp [zu2]), q1.trans (by simp [zu2]; intro q; omega), q2.trans (by simp [zu2]; intro q; omega), q3.trans (by simp [zu2, hU]), q4.trans (by simp [zu2, hB])⟩
            have y := y.toTe (S2 := (S.1, zu2 (zu2 (zu2 (zu2 (zu2 S.2 28 u (S.2 28 u + B)) 25 u (S.2 25 u + 1)) 26 u w) 27 u far) 29 u U)) (n2 := n + 1) (Nat.le_succ n) st (fun k i hk => ((zu2_ne (fun q => hk (by omega))).trans ((zu2_ne (fun q => hk (by omega))).trans ((zu2_ne (fun q => hk (by omega))).trans ((zu2_ne (fun q => hk (by omega))).trans (zu2_ne (fun q => hk (by omega)))))))) (fun k _ => rfl) (v := u) (by omega) (fun k i hi => (zu2_ne (fun q => hi q.2)).trans ((zu2_ne (fun q => hi q.2)).trans ((zu2_ne (fun q => hi q.2)).trans ((zu2_ne (fun q => hi q.2)).trans (zu2_ne (fun q => hi q.2)))))) te2
            obtain ⟨t1, t2, t3, t4, t5, t6, t7⟩ := id (y.te u hul)
            have e29 : (S.1, zu2 (zu2 (zu2 (zu2 (zu2 S.2 28 u (S.2 28 u + B)) 25 u (S.2 25 u + 1)) 26 u w) 27 u far) 29 u U).2 29 u = U := by simp [zu2]
            rw [e29] at t6
            refine r_aload_5 90 rfl (dd_X11_test 41 _ _ _ rfl) ?_
            refine r_getr hg zc_X10 3 (by decide) (fun _ _ _ => rfl) (y.vo u va hV).2.2.2.2.2.1 (y.vo u va hV).1 (Or.inl rfl) (tb_2 125 _ rfl) 93 rfl (dd_X11_test 42 _ _ _ rfl) ?_
            refine r_geti hg zc_X9 3 (by decide) (fun _ _ _ => rfl) t6 t1 (Or.inl rfl) (tb_2 104 _ rfl) 96 rfl (dd_X11_test 43 _ _ _ rfl) ?_
            refine r_ireturn rfl rfl (dd_X11_test 44 _ _ _ rfl) ?_
            exact k _ _ y.ex (st.mono (fun q hq => by show q ≠ 0; rw [show q = _ from hq]; first | decide | (unfold rg; omega)))
          · refine r_throw hg zt_ISE rfl (by decide) (Nat.le_of_ble_eq_true rfl) (Nat.le_of_ble_eq_true rfl) (Nat.le_of_ble_eq_true rfl) (pc3 := 71) (pc4 := 72) (pc7 := 75) rfl rfl rfl (dd_X11_test 31 _ _ _ rfl) (dd_X11_test 32 _ _ _ rfl) (dd_X11_test 33 _ _ _ rfl) (dd_X11_test 34 _ _ _ rfl) ?_
            exact k3 u hu (by omega) (by unfold ztestOK; omega) (by omega)
        · dsimp only [zCont, Option.toList, List.cons_append, List.nil_append]
          refine r_ifne (by omega) 47 rfl 55 rfl (dd_X11_test 21 _ _ _ rfl) (fun q => absurd q (by decide)) (fun _ => ?_)
          refine r_throw hg zt_IAE rfl (by decide) (Nat.le_of_ble_eq_true rfl) (Nat.le_of_ble_eq_true rfl) (Nat.le_of_ble_eq_true rfl) (pc3 := 50) (pc4 := 51) (pc7 := 54) rfl rfl rfl (dd_X11_test 22 _ _ _ rfl) (dd_X11_test 23 _ _ _ rfl) (dd_X11_test 24 _ _ _ rfl) (dd_X11_test 25 _ _ _ rfl) ?_
          exact k2 u hu (by omega) (by unfold ztestOK; omega)
      · dsimp only [zCont, Option.toList, List.cons_append, List.nil_append]
        refine r_ifeq (by omega) 35 rfl 47 rfl (dd_X11_test 16 _ _ _ rfl) (fun _ => ?_) (fun q => absurd q (by decide))
        refine r_throw hg zt_IAE rfl (by decide) (Nat.le_of_ble_eq_true rfl) (Nat.le_of_ble_eq_true rfl) (Nat.le_of_ble_eq_true rfl) (pc3 := 50) (pc4 := 51) (pc7 := 54) rfl rfl rfl (dd_X11_test 22 _ _ _ rfl) (dd_X11_test 23 _ _ _ rfl) (dd_X11_test 24 _ _ _ rfl) (dd_X11_test 25 _ _ _ rfl) ?_
        exact k2 u hu (by omega) (by unfold ztestOK; omega)
    · dsimp only [zCont, Option.toList, List.cons_append, List.nil_append]
      refine r_ifeq (by omega) 26 rfl 47 rfl (dd_X11_test 11 _ _ _ rfl) (fun _ => ?_) (fun q => absurd q (by decide))
      refine r_throw hg zt_IAE rfl (by decide) (Nat.le_of_ble_eq_true rfl) (Nat.le_of_ble_eq_true rfl) (Nat.le_of_ble_eq_true rfl) (pc3 := 50) (pc4 := 51) (pc7 := 54) rfl rfl rfl (dd_X11_test 22 _ _ _ rfl) (dd_X11_test 23 _ _ _ rfl) (dd_X11_test 24 _ _ _ rfl) (dd_X11_test 25 _ _ _ rfl) ?_
      exact k2 u hu (by omega) (by unfold ztestOK; omega)

theorem zil_out {ar : Nat → Nat → Int} {v : Nat} {to t0 : Int} {k i : Nat} (h : ¬ (k = 30 ∧ 313 * v ≤ i ∧ i < 313 * (v + 1))) (h0 : 0 ≤ t0) : ∀ j : Nat, t0 + j ≤ 20032 → zil ar v to t0 j k i = ar k i
  | 0, _ => rfl
  | j + 1, hj => by
    unfold zil
    rw [zu2_ne (by omega)]
    exact zil_out h h0 j (by omega)
theorem zil_in {ar : Nat → Nat → Int} {v : Nat} {to t0 w : Int} (h0 : 0 ≤ t0) (hw : 0 ≤ w) : ∀ j : Nat, zins (zil ar v to t0 j) v w = if t0 ≤ w ∧ w < t0 + j then decide (w ≤ to) else zins ar v w
  | 0 => by rw [if_neg (by omega)]; rfl
  | j + 1 => by
    have ih := zil_in (ar := ar) (v := v) (to := to) h0 hw j
    unfold zins at *
    unfold zil
    by_cases hq : (w / 64).toNat = ((t0 + j) / 64).toNat
    · rw [hq, zu2_at]
      rw [hq] at ih
      have hw64 : w / 64 = (t0 + j) / 64 := by omega
      by_cases hc : t0 + j ≤ to
      · rw [if_pos hc, zbit_set (by omega) (by omega) (by omega) (by omega), ih]
        by_cases he : w = t0 + j
        · rw [if_neg (show ¬ (t0 ≤ w ∧ w < t0 + (j : Int)) by omega), if_pos (show t0 ≤ w ∧ w < t0 + ((j + 1 : Nat) : Int) by omega), he]; simp; omega
        · have : ¬ (t0 + j) % 64 = w % 64 := by omega
          by_cases hr : t0 ≤ w ∧ w < t0 + j
          · rw [if_pos hr, if_pos (by omega)]; simp [this]
          · rw [if_neg hr, if_neg (by omega)]; simp [this]
      · rw [if_neg hc, zbit_clr (by omega) (by omega) (by omega) (by omega), ih]
        by_cases he : w = t0 + j
        · rw [if_neg (show ¬ (t0 ≤ w ∧ w < t0 + (j : Int)) by omega), if_pos (show t0 ≤ w ∧ w < t0 + ((j + 1 : Nat) : Int) by omega), he]; simp; omega
        · have : ¬ (t0 + j) % 64 = w % 64 := by omega
          by_cases hr : t0 ≤ w ∧ w < t0 + j
          · rw [if_pos hr, if_pos (by omega)]; simp [this]
          · rw [if_neg hr, if_neg (by omega)]; simp [this]
    · rw [zu2_ne (by omega), ih]
      by_cases hr : t0 ≤ w ∧ w < t0 + j
      · rw [if_pos hr, if_pos (by omega)]
      · rw [if_neg hr, if_neg (by omega)]
abbrev mX11_insure : zM := (RX11, cX11_insure, 5, (Option.some Jvm.ClassFile.FieldType.boolean), [], "insure", 15)
set_option maxRecDepth 20000 in
theorem c_X11_insure {g : zGT} {Q : zO → zH → Prop} {h : zH} (hg : zG g) {o : Nat → Nat} {x : Nat} {S : zS} {n : Nat} {Vs Ps Ss Ts Fs Tn : List Nat} {A : Nat → Nat} {G : Nat → Nat → Nat} {Rc : Nat → Nat} (hI : MInv n S) (y : CRep g o h x S n Vs Ps Ss Ts Fs Tn A G Rc) {v to : Int} (hv : zR v) (ht : zR to) (kE : ¬ (0 ≤ v ∧ v < S.1 4) → Q (.inr "java/lang/IndexOutOfBoundsException") h) (k2 : ∀ u : Nat, v = u → v < S.1 4 → ¬ (to = -1 ∨ S.1 1 ≤ to ∧ to ≤ 20000) → Q (.inr "java/lang/IllegalArgumentException") h) (k3 : ∀ u : Nat, v = u → v < S.1 4 → (to = -1 ∨ S.1 1 ≤ to ∧ to ≤ 20000) → zins S.2 u (S.1 1) = true → ∀ o1 h1, CEx g o1 h1 x (S.1, zil S.2 u to (S.1 1) (20001 - S.1 1).toNat) (n + 1) → zStep zOwn o h o1 h1 → Q (.inl (some (.int (zI 1)))) h1) (k4 : ∀ u : Nat, v = u → v < S.1 4 → (to = -1 ∨ S.1 1 ≤ to ∧ to ≤ 20000) → zins S.2 u (S.1 1) = false → ∀ o1 h1, CEx g o1 h1 x (S.1, zil S.2 u to (S.1 1) (20001 - S.1 1).toNat) (n + 1) → zStep zOwn o h o1 h1 → Q (.inl (some (.int (zI 0)))) h1) : zC g (.code yX11_insure cX11_insure 5 (Option.some Jvm.ClassFile.FieldType.boolean)) yX11_insure 15 6 4300 [.ref x, .int (zI v), .int (zI to)] h Q := by
  refine zC_of (M := mX11_insure) (lv := [some (.ref x), some (.int (zI v)), some (.int (zI to)), none, none]) (by decide) rfl rfl (Nat.le_of_ble_eq_true rfl) rfl rfl ?_
  have e1 := hI.vehicles
  have e2 := hI.today
  have e3 := hI.people
  have e4 := hI.sightings
  have e5 := hI.fines
  have e6 := hI.calls
  have nv := y.nv
  have np := y.np
  have ns := y.ns
  have nf := y.nf
  have e9 := hI.signs
  refine r_aload_0 1 rfl (dd_X11_insure 0 _ _ _ rfl) ?_
  refine r_iload_1 2 rfl (dd_X11_insure 1 _ _ _ rfl) ?_
  refine r_callV1 (lvl := 13) (mc1 := 1) (ms1 := 6) 5 4294 hg rfl md_X11_vehicleAt zc_X11 y.mn.1 wi_X11_vehicleAt wv_X11_vehicleAt (tb_3 29 _ rfl) (by decide) (by decide) rfl (Nat.le_of_ble_eq_true rfl) (Nat.le_of_ble_eq_true rfl) (Nat.le_of_ble_eq_true rfl) 5 rfl (dd_X11_insure 2 _ _ _ rfl) ?_
  refine c_X11_vehicleAt hg hI y (by omega) (fun hE => ?_) (fun u va hu hV hu4 => ?_)
  · dsimp only [zCont]
    exact kE hE
  · dsimp only [zCont, Option.toList, List.cons_append, List.nil_append]
    refine r_astore_3 6 rfl (by decide) rfl (dd_X11_insure 3 _ _ _ rfl) ?_
    refine r_iload_2 7 rfl (dd_X11_insure 4 _ _ _ rfl) ?_
    refine r_iconst 8 rfl (dd_X11_insure 5 _ _ _ rfl) ?_
    refine r_if_icmpeq (by omega) (by omega) 11 rfl 33 rfl (dd_X11_insure 6 _ _ _ rfl) (fun hc1 => ?_) (fun hc1 => ?_)
    · have hul : u < Vs.length := by omega
      obtain ⟨R, hR, hRz, hRt⟩ := y.ii u hul
      have hrt := hRt (S.1 1)
      have hz9 := hRz (S.1 1) (by omega) (by omega)
      have hrr : -1 ≤ (R (S.1 1)).2 ∧ (R (S.1 1)).2 ≤ 100000 := by obtain ⟨ef, ev, F, V, c, hC, hCok, hR9⟩ := hR; rw [← hR9]; rcases zcp1_char F V (-1) (S.1 1) c with q | ⟨i, a, b, e⟩; (rw [zcp1_none c q]; decide); (rw [zcp1_eq b c a e]; have := hCok.2.1 i a; exact this.2.2)
      refine r_aload_3 34 rfl (dd_X11_insure 17 _ _ _ rfl) ?_
      refine r_getr hg zc_X10 5 (by decide) (fun _ _ _ => rfl) (y.vo u va hV).2.2.2.2.2.2.2.1 (y.vo u va hV).1 (Or.inl rfl) (tb_2 129 _ rfl) 37 rfl (dd_X11_insure 18 _ _ _ rfl) ?_
      refine r_aload_0 38 rfl (dd_X11_insure 19 _ _ _ rfl) ?_
      refine r_geti hg zc_X11 0 (by decide) (fun _ _ _ => rfl) y.mn.2.2.1 y.mn.1 (Or.inl rfl) (tb_1 121 _ rfl) 41 rfl (dd_X11_insure 20 _ _ _ rfl) ?_
      refine r_iconst 42 rfl (dd_X11_insure 21 _ _ _ rfl) ?_
      refine r_callV2 (lvl := 11) (mc1 := 0) (ms1 := 0) 5 4294 hg rfl md_X1_valueOn zc_X1 hR.own.1 wi_X1_valueOn wv_X1_valueOn (tb_4 229 _ rfl) (by decide) (by decide) rfl (Nat.le_of_ble_eq_true rfl) (Nat.le_of_ble_eq_true rfl) (Nat.le_of_ble_eq_true rfl) 45 rfl (dd_X11_insure 22 _ _ _ rfl) ?_
      refine c_X1_valueOnS hg hR (by omega) (by omega) ?_
      dsimp only [zCont, Option.toList, List.cons_append, List.nil_append]
      refine r_aload_0 46 rfl (dd_X11_insure 23 _ _ _ rfl) ?_
      refine r_geti hg zc_X11 0 (by decide) (fun _ _ _ => rfl) y.mn.2.2.1 y.mn.1 (Or.inl rfl) (tb_1 121 _ rfl) 49 rfl (dd_X11_insure 24 _ _ _ rfl) ?_
      refine r_if_icmplt (by omega) (by omega) 52 rfl 56 rfl (dd_X11_insure 25 _ _ _ rfl) (fun hc2 => ?_) (fun hc2 => ?_)
      · refine r_iconst 57 rfl (dd_X11_insure 28 _ _ _ rfl) ?_
        refine r_istore_4 59 rfl (by decide) rfl (dd_X11_insure 29 _ _ _ rfl) ?_
        refine r_aload_3 60 rfl (dd_X11_insure 30 _ _ _ rfl) ?_
        refine r_getr hg zc_X10 5 (by decide) (fun _ _ _ => rfl) (y.vo u va hV).2.2.2.2.2.2.2.1 (y.vo u va hV).1 (Or.inl rfl) (tb_2 129 _ rfl) 63 rfl (dd_X11_insure 31 _ _ _ rfl) ?_
        refine r_aload_0 64 rfl (dd_X11_insure 32 _ _ _ rfl) ?_
        refine r_geti hg zc_X11 0 (by decide) (fun _ _ _ => rfl) y.mn.2.2.1 y.mn.1 (Or.inl rfl) (tb_1 121 _ rfl) 67 rfl (dd_X11_insure 33 _ _ _ rfl) ?_
        refine r_iload_2 68 rfl (dd_X11_insure 34 _ _ _ rfl) ?_
        refine r_callV2 (lvl := 13) (mc1 := 2) (ms1 := 4200) 3 94 hg rfl md_X1_put zc_X1 hR.own.1 wi_X1_put wv_X1_put (tb_4 157 _ rfl) (by decide) (by decide) rfl (Nat.le_of_ble_eq_true rfl) (Nat.le_of_ble_eq_true rfl) (Nat.le_of_ble_eq_true rfl) 71 rfl (dd_X11_insure 35 _ _ _ rfl) ?_
        refine c_X1_putS hg hR (by omega) (by omega) (by omega) (fun o1 h1 hC st => ?_)
        dsimp only [zCont, Option.toList, List.cons_append, List.nil_append]
        have hzi : ∀ w, 0 ≤ w → zins (zil S.2 u to (S.1 1) (20001 - S.1 1).toNat) u w = if S.1 1 ≤ w ∧ w < S.1 1 + ((20001 - S.1 1).toNat : Int) then decide (w ≤ to) else zins S.2 u w := fun w hw => zil_in (by omega) hw _
        have ii2 : IiRep o1 (rg 4 u) h1 (G 5 u) (S.1, zil S.2 u to (S.1 1) (20001 - S.1 1).toNat) u (n + 1) := ⟨_, hC, fun w h0 h2 => by
            show zins (zil S.2 u to (S.1 1) (20001 - S.1 1).toNat) u w = true ↔ w ≤ (if S.1 1 ≤ w ∧ (R w).1 ≤ S.1 1 then (S.1 1, to) else R w).2
            have hr9 := hRt w
            rw [hzi w h0]
            by_cases hq : S.1 1 ≤ w
            · rw [if_pos (by omega), if_pos ⟨hq, hr9⟩]; simp
            · rw [if_neg (by omega), if_neg (fun q => hq q.1)]; exact hRz w h0 h2,
          fun w => by show (if S.1 1 ≤ w ∧ (R w).1 ≤ S.1 1 then (S.1 1, to) else R w).1 ≤ S.1 1; have hr9 := hRt w; split; exact Int.le_refl _; exact hr9⟩
        have z := y.toIi (S2 := (S.1, zil S.2 u to (S.1 1) (20001 - S.1 1).toNat)) (n2 := n + 1) (Nat.le_succ n) st (fun k i hk => zil_out (fun q => hk q.1) (by omega) _ (by omega)) (fun k _ => rfl) (v := u) (by omega) (fun u2 i h1 h2 => zil_out (fun q => by omega) (by omega) _ (by omega)) ii2 (fun u2 w hq g1 g2 => by show zbit (zil S.2 u to (S.1 1) (20001 - S.1 1).toNat 30 (313 * u2 + (w / 64).toNat)) (w % 64) = _; rw [zil_out (fun q => by omega) (by omega) _ (by omega)]; rfl)
        refine r_iload_4 73 rfl (dd_X11_insure 36 _ _ _ rfl) ?_
        refine r_ireturn rfl rfl (dd_X11_insure 37 _ _ _ rfl) ?_
        first | exact k3 u hu (by omega) (by omega) (hz9.mpr (by omega)) _ _ z.ex (st.mono (fun q hq => by show q ≠ 0; rw [show q = _ from hq]; first | decide | (unfold rg; omega))) | exact k4 u hu (by omega) (by omega) (by cases hzc : zins S.2 u (S.1 1) with | false => rfl | true => have := hz9.mp hzc; omega) _ _ z.ex (st.mono (fun q hq => by show q ≠ 0; rw [show q = _ from hq]; first | decide | (unfold rg; omega)))
      · refine r_iconst 53 rfl (dd_X11_insure 26 _ _ _ rfl) ?_
        refine r_goto 57 rfl (dd_X11_insure 27 _ _ _ rfl) ?_
        refine r_istore_4 59 rfl (by decide) rfl (dd_X11_insure 29 _ _ _ rfl) ?_
        refine r_aload_3 60 rfl (dd_X11_insure 30 _ _ _ rfl) ?_
        refine r_getr hg zc_X10 5 (by decide) (fun _ _ _ => rfl) (y.vo u va hV).2.2.2.2.2.2.2.1 (y.vo u va hV).1 (Or.inl rfl) (tb_2 129 _ rfl) 63 rfl (dd_X11_insure 31 _ _ _ rfl) ?_
        refine r_aload_0 64 rfl (dd_X11_insure 32 _ _ _ rfl) ?_
        refine r_geti hg zc_X11 0 (by decide) (fun _ _ _ => rfl) y.mn.2.2.1 y.mn.1 (Or.inl rfl) (tb_1 121 _ rfl) 67 rfl (dd_X11_insure 33 _ _ _ rfl) ?_
        refine r_iload_2 68 rfl (dd_X11_insure 34 _ _ _ rfl) ?_
        refine r_callV2 (lvl := 13) (mc1 := 2) (ms1 := 4200) 3 94 hg rfl md_X1_put zc_X1 hR.own.1 wi_X1_put wv_X1_put (tb_4 157 _ rfl) (by decide) (by decide) rfl (Nat.le_of_ble_eq_true rfl) (Nat.le_of_ble_eq_true rfl) (Nat.le_of_ble_eq_true rfl) 71 rfl (dd_X11_insure 35 _ _ _ rfl) ?_
        refine c_X1_putS hg hR (by omega) (by omega) (by omega) (fun o1 h1 hC st => ?_)
        dsimp only [zCont, Option.toList, List.cons_append, List.nil_append]
        have hzi : ∀ w, 0 ≤ w → zins (zil S.2 u to (S.1 1) (20001 - S.1 1).toNat) u w = if S.1 1 ≤ w ∧ w < S.1 1 + ((20001 - S.1 1).toNat : Int) then decide (w ≤ to) else zins S.2 u w := fun w hw => zil_in (by omega) hw _
        have ii2 : IiRep o1 (rg 4 u) h1 (G 5 u) (S.1, zil S.2 u to (S.1 1) (20001 - S.1 1).toNat) u (n + 1) := ⟨_, hC, fun w h0 h2 => by
            show zins (zil S.2 u to (S.1 1) (20001 - S.1 1).toNat) u w = true ↔ w ≤ (if S.1 1 ≤ w ∧ (R w).1 ≤ S.1 1 then (S.1 1, to) else R w).2
            have hr9 := hRt w
            rw [hzi w h0]
            by_cases hq : S.1 1 ≤ w
            · rw [if_pos (by omega), if_pos ⟨hq, hr9⟩]; simp
            · rw [if_neg (by omega), if_neg (fun q => hq q.1)]; exact hRz w h0 h2,
          fun w => by show (if S.1 1 ≤ w ∧ (R w).1 ≤ S.1 1 then (S.1 1, to) else R w).1 ≤ S.1 1; have hr9 := hRt w; split; exact Int.le_refl _; exact hr9⟩
        have z := y.toIi (S2 := (S.1, zil S.2 u to (S.1 1) (20001 - S.1 1).toNat)) (n2 := n + 1) (Nat.le_succ n) st (fun k i hk => zil_out (fun q => hk q.1) (by omega) _ (by omega)) (fun k _ => rfl) (v := u) (by omega) (fun u2 i h1 h2 => zil_out (fun q => by omega) (by omega) _ (by omega)) ii2 (fun u2 w hq g1 g2 => by show zbit (zil S.2 u to (S.1 1) (20001 - S.1 1).toNat 30 (313 * u2 + (w / 64).toNat)) (w % 64) = _; rw [zil_out (fun q => by omega) (by omega) _ (by omega)]; rfl)
        refine r_iload_4 73 rfl (dd_X11_insure 36 _ _ _ rfl) ?_
        refine r_ireturn rfl rfl (dd_X11_insure 37 _ _ _ rfl) ?_
        first | exact k3 u hu (by omega) (by omega) (hz9.mpr (by omega)) _ _ z.ex (st.mono (fun q hq => by show q ≠ 0; rw [show q = _ from hq]; first | decide | (unfold rg; omega))) | exact k4 u hu (by omega) (by omega) (by cases hzc : zins S.2 u (S.1 1) with | false => rfl | true => have := hz9.mp hzc; omega) _ _ z.ex (st.mono (fun q hq => by show q ≠ 0; rw [show q = _ from hq]; first | decide | (unfold rg; omega)))
    · refine r_iload_2 12 rfl (dd_X11_insure 7 _ _ _ rfl) ?_
      refine r_aload_0 13 rfl (dd_X11_insure 8 _ _ _ rfl) ?_
      refine r_geti hg zc_X11 0 (by decide) (fun _ _ _ => rfl) y.mn.2.2.1 y.mn.1 (Or.inl rfl) (tb_1 121 _ rfl) 16 rfl (dd_X11_insure 9 _ _ _ rfl) ?_
      refine r_sipush (by decide) 19 rfl (dd_X11_insure 10 _ _ _ rfl) ?_
      refine r_callS3 (lvl := 10) (mc1 := 0) (ms1 := 0) 5 4294 hg rfl md_X11_isWithin ws_X11_isWithin (tb_1 171 _ rfl) (by decide) (by decide) rfl (Nat.le_of_ble_eq_true rfl) (Nat.le_of_ble_eq_true rfl) (Nat.le_of_ble_eq_true rfl) 22 rfl (dd_X11_insure 11 _ _ _ rfl) ?_
      refine c_X11_isWithin hg (by omega) (by omega) (by omega) (fun hb3 => ?_) (fun hb3 => ?_)
      · dsimp only [zCont, Option.toList, List.cons_append, List.nil_append]
        refine r_ifne (by omega) 25 rfl 33 rfl (dd_X11_insure 12 _ _ _ rfl) (fun _ => ?_) (fun q => absurd q (by decide))
        have hul : u < Vs.length := by omega
        obtain ⟨R, hR, hRz, hRt⟩ := y.ii u hul
        have hrt := hRt (S.1 1)
        have hz9 := hRz (S.1 1) (by omega) (by omega)
        have hrr : -1 ≤ (R (S.1 1)).2 ∧ (R (S.1 1)).2 ≤ 100000 := by obtain ⟨ef, ev, F, V, c, hC, hCok, hR9⟩ := hR; rw [← hR9]; rcases zcp1_char F V (-1) (S.1 1) c with q | ⟨i, a, b, e⟩; (rw [zcp1_none c q]; decide); (rw [zcp1_eq b c a e]; have := hCok.2.1 i a; exact this.2.2)
        refine r_aload_3 34 rfl (dd_X11_insure 17 _ _ _ rfl) ?_
        refine r_getr hg zc_X10 5 (by decide) (fun _ _ _ => rfl) (y.vo u va hV).2.2.2.2.2.2.2.1 (y.vo u va hV).1 (Or.inl rfl) (tb_2 129 _ rfl) 37 rfl (dd_X11_insure 18 _ _ _ rfl) ?_
        refine r_aload_0 38 rfl (dd_X11_insure 19 _ _ _ rfl) ?_
        refine r_geti hg zc_X11 0 (by decide) (fun _ _ _ => rfl) y.mn.2.2.1 y.mn.1 (Or.inl rfl) (tb_1 121 _ rfl) 41 rfl (dd_X11_insure 20 _ _ _ rfl) ?_
        refine r_iconst 42 rfl (dd_X11_insure 21 _ _ _ rfl) ?_
        refine r_callV2 (lvl := 11) (mc1 := 0) (ms1 := 0) 5 4294 hg rfl md_X1_valueOn zc_X1 hR.own.1 wi_X1_valueOn wv_X1_valueOn (tb_4 229 _ rfl) (by decide) (by decide) rfl (Nat.le_of_ble_eq_true rfl) (Nat.le_of_ble_eq_true rfl) (Nat.le_of_ble_eq_true rfl) 45 rfl (dd_X11_insure 22 _ _ _ rfl) ?_
        refine c_X1_valueOnS hg hR (by omega) (by omega) ?_
        dsimp only [zCont, Option.toList, List.cons_append, List.nil_append]
        refine r_aload_0 46 rfl (dd_X11_insure 23 _ _ _ rfl) ?_
        refine r_geti hg zc_X11 0 (by decide) (fun _ _ _ => rfl) y.mn.2.2.1 y.mn.1 (Or.inl rfl) (tb_1 121 _ rfl) 49 rfl (dd_X11_insure 24 _ _ _ rfl) ?_
        refine r_if_icmplt (by omega) (by omega) 52 rfl 56 rfl (dd_X11_insure 25 _ _ _ rfl) (fun hc4 => ?_) (fun hc4 => ?_)
        · refine r_iconst 57 rfl (dd_X11_insure 28 _ _ _ rfl) ?_
          refine r_istore_4 59 rfl (by decide) rfl (dd_X11_insure 29 _ _ _ rfl) ?_
          refine r_aload_3 60 rfl (dd_X11_insure 30 _ _ _ rfl) ?_
          refine r_getr hg zc_X10 5 (by decide) (fun _ _ _ => rfl) (y.vo u va hV).2.2.2.2.2.2.2.1 (y.vo u va hV).1 (Or.inl rfl) (tb_2 129 _ rfl) 63 rfl (dd_X11_insure 31 _ _ _ rfl) ?_
          refine r_aload_0 64 rfl (dd_X11_insure 32 _ _ _ rfl) ?_
          refine r_geti hg zc_X11 0 (by decide) (fun _ _ _ => rfl) y.mn.2.2.1 y.mn.1 (Or.inl rfl) (tb_1 121 _ rfl) 67 rfl (dd_X11_insure 33 _ _ _ rfl) ?_
          refine r_iload_2 68 rfl (dd_X11_insure 34 _ _ _ rfl) ?_
          refine r_callV2 (lvl := 13) (mc1 := 2) (ms1 := 4200) 3 94 hg rfl md_X1_put zc_X1 hR.own.1 wi_X1_put wv_X1_put (tb_4 157 _ rfl) (by decide) (by decide) rfl (Nat.le_of_ble_eq_true rfl) (Nat.le_of_ble_eq_true rfl) (Nat.le_of_ble_eq_true rfl) 71 rfl (dd_X11_insure 35 _ _ _ rfl) ?_
          refine c_X1_putS hg hR (by omega) (by omega) (by omega) (fun o1 h1 hC st => ?_)
          dsimp only [zCont, Option.toList, List.cons_append, List.nil_append]
          have hzi : ∀ w, 0 ≤ w → zins (zil S.2 u to (S.1 1) (20001 - S.1 1).toNat) u w = if S.1 1 ≤ w ∧ w < S.1 1 + ((20001 - S.1 1).toNat : Int) then decide (w ≤ to) else zins S.2 u w := fun w hw => zil_in (by omega) hw _
          have ii2 : IiRep o1 (rg 4 u) h1 (G 5 u) (S.1, zil S.2 u to (S.1 1) (20001 - S.1 1).toNat) u (n + 1) := ⟨_, hC, fun w h0 h2 => by
              show zins (zil S.2 u to (S.1 1) (20001 - S.1 1).toNat) u w = true ↔ w ≤ (if S.1 1 ≤ w ∧ (R w).1 ≤ S.1 1 then (S.1 1, to) else R w).2
              have hr9 := hRt w
              rw [hzi w h0]
              by_cases hq : S.1 1 ≤ w
              · rw [if_pos (by omega), if_pos ⟨hq, hr9⟩]; simp
              · rw [if_neg (by omega), if_neg (fun q => hq q.1)]; exact hRz w h0 h2,
            fun w => by show (if S.1 1 ≤ w ∧ (R w).1 ≤ S.1 1 then (S.1 1, to) else R w).1 ≤ S.1 1; have hr9 := hRt w; split; exact Int.le_refl _; exact hr9⟩
          have z := y.toIi (S2 := (S.1, zil S.2 u to (S.1 1) (20001 - S.1 1).toNat)) (n2 := n + 1) (Nat.le_succ n) st (fun k i hk => zil_out (fun q => hk q.1) (by omega) _ (by omega)) (fun k _ => rfl) (v := u) (by omega) (fun u2 i h1 h2 => zil_out (fun q => by omega) (by omega) _ (by omega)) ii2 (fun u2 w hq g1 g2 => by show zbit (zil S.2 u to (S.1 1) (20001 - S.1 1).toNat 30 (313 * u2 + (w / 64).toNat)) (w % 64) = _; rw [zil_out (fun q => by omega) (by omega) _ (by omega)]; rfl)
          refine r_iload_4 73 rfl (dd_X11_insure 36 _ _ _ rfl) ?_
          refine r_ireturn rfl rfl (dd_X11_insure 37 _ _ _ rfl) ?_
          first | exact k3 u hu (by omega) (by omega) (hz9.mpr (by omega)) _ _ z.ex (st.mono (fun q hq => by show q ≠ 0; rw [show q = _ from hq]; first | decide | (unfold rg; omega))) | exact k4 u hu (by omega) (by omega) (by cases hzc : zins S.2 u (S.1 1) with | false => rfl | true => have := hz9.mp hzc; omega) _ _ z.ex (st.mono (fun q hq => by show q ≠ 0; rw [show q = _ from hq]; first | decide | (unfold rg; omega)))
        · refine r_iconst 53 rfl (dd_X11_insure 26 _ _ _ rfl) ?_
          refine r_goto 57 rfl (dd_X11_insure 27 _ _ _ rfl) ?_
          refine r_istore_4 59 rfl (by decide) rfl (dd_X11_insure 29 _ _ _ rfl) ?_
          refine r_aload_3 60 rfl (dd_X11_insure 30 _ _ _ rfl) ?_
          refine r_getr hg zc_X10 5 (by decide) (fun _ _ _ => rfl) (y.vo u va hV).2.2.2.2.2.2.2.1 (y.vo u va hV).1 (Or.inl rfl) (tb_2 129 _ rfl) 63 rfl (dd_X11_insure 31 _ _ _ rfl) ?_
          refine r_aload_0 64 rfl (dd_X11_insure 32 _ _ _ rfl) ?_
          refine r_geti hg zc_X11 0 (by decide) (fun _ _ _ => rfl) y.mn.2.2.1 y.mn.1 (Or.inl rfl) (tb_1 121 _ rfl) 67 rfl (dd_X11_insure 33 _ _ _ rfl) ?_
          refine r_iload_2 68 rfl (dd_X11_insure 34 _ _ _ rfl) ?_
          refine r_callV2 (lvl := 13) (mc1 := 2) (ms1 := 4200) 3 94 hg rfl md_X1_put zc_X1 hR.own.1 wi_X1_put wv_X1_put (tb_4 157 _ rfl) (by decide) (by decide) rfl (Nat.le_of_ble_eq_true rfl) (Nat.le_of_ble_eq_true rfl) (Nat.le_of_ble_eq_true rfl) 71 rfl (dd_X11_insure 35 _ _ _ rfl) ?_
          refine c_X1_putS hg hR (by omega) (by omega) (by omega) (fun o1 h1 hC st => ?_)
          dsimp only [zCont, Option.toList, List.cons_append, List.nil_append]
          have hzi : ∀ w, 0 ≤ w → zins (zil S.2 u to (S.1 1) (20001 - S.1 1).toNat) u w = if S.1 1 ≤ w ∧ w < S.1 1 + ((20001 - S.1 1).toNat : Int) then decide (w ≤ to) else zins S.2 u w := fun w hw => zil_in (by omega) hw _
          have ii2 : IiRep o1 (rg 4 u) h1 (G 5 u) (S.1, zil S.2 u to (S.1 1) (20001 - S.1 1).toNat) u (n + 1) := ⟨_, hC, fun w h0 h2 => by
              show zins (zil S.2 u to (S.1 1) (20001 - S.1 1).toNat) u w = true ↔ w ≤ (if S.1 1 ≤ w ∧ (R w).1 ≤ S.1 1 then (S.1 1, to) else R w).2
              have hr9 := hRt w
              rw [hzi w h0]
              by_cases hq : S.1 1 ≤ w
              · rw [if_pos (by omega), if_pos ⟨hq, hr9⟩]; simp
              · rw [if_neg (by omega), if_neg (fun q => hq q.1)]; exact hRz w h0 h2,
            fun w => by show (if S.1 1 ≤ w ∧ (R w).1 ≤ S.1 1 then (S.1 1, to) else R w).1 ≤ S.1 1; have hr9 := hRt w; split; exact Int.le_refl _; exact hr9⟩
          have z := y.toIi (S2 := (S.1, zil S.2 u to (S.1 1) (20001 - S.1 1).toNat)) (n2 := n + 1) (Nat.le_succ n) st (fun k i hk => zil_out (fun q => hk q.1) (by omega) _ (by omega)) (fun k _ => rfl) (v := u) (by omega) (fun u2 i h1 h2 => zil_out (fun q => by omega) (by omega) _ (by omega)) ii2 (fun u2 w hq g1 g2 => by show zbit (zil S.2 u to (S.1 1) (20001 - S.1 1).toNat 30 (313 * u2 + (w / 64).toNat)) (w % 64) = _; rw [zil_out (fun q => by omega) (by omega) _ (by omega)]; rfl)
          refine r_iload_4 73 rfl (dd_X11_insure 36 _ _ _ rfl) ?_
          refine r_ireturn rfl rfl (dd_X11_insure 37 _ _ _ rfl) ?_
          first | exact k3 u hu (by omega) (by omega) (hz9.mpr (by omega)) _ _ z.ex (st.mono (fun q hq => by show q ≠ 0; rw [show q = _ from hq]; first | decide | (unfold rg; omega))) | exact k4 u hu (by omega) (by omega) (by cases hzc : zins S.2 u (S.1 1) with | false => rfl | true => have := hz9.mp hzc; omega) _ _ z.ex (st.mono (fun q hq => by show q ≠ 0; rw [show q = _ from hq]; first | decide | (unfold rg; omega)))
      · dsimp only [zCont, Option.toList, List.cons_append, List.nil_append]
        refine r_ifne (by omega) 25 rfl 33 rfl (dd_X11_insure 12 _ _ _ rfl) (fun q => absurd q (by decide)) (fun _ => ?_)
        refine r_throw hg zt_IAE rfl (by decide) (Nat.le_of_ble_eq_true rfl) (Nat.le_of_ble_eq_true rfl) (Nat.le_of_ble_eq_true rfl) (pc3 := 28) (pc4 := 29) (pc7 := 32) rfl rfl rfl (dd_X11_insure 13 _ _ _ rfl) (dd_X11_insure 14 _ _ _ rfl) (dd_X11_insure 15 _ _ _ rfl) (dd_X11_insure 16 _ _ _ rfl) ?_
        exact k2 u hu (by omega) (by omega)
