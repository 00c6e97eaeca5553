def CEx (g : zGT) (o : Nat → Nat) (h : zH) (x : Nat) (S : zS) (n : Nat) : Prop := ∃ (Vs Ps Ss Ts Fs Tn : List Nat) (A : Nat → Nat) (G : Nat → Nat → Nat) (Rc : Nat → Nat), CRep g o h x S n Vs Ps Ss Ts Fs Tn A G Rc
theorem CRep.ex {g : zGT} {o : Nat → Nat} {h : zH} {x : Nat} {S : zS} {n : Nat} {Vs Ps Ss Ts Fs Tn : List Nat} {A : Nat → Nat} {G : Nat → Nat → Nat} {Rc : Nat → Nat} (y : CRep g o h x S n Vs Ps Ss Ts Fs Tn A G Rc) : CEx g o h x S n := ⟨_, _, _, _, _, _, _, _, _, y⟩
theorem CRep.mono {g : zGT} {o : Nat → Nat} {h : zH} {x : Nat} {S : zS} {n : Nat} {Vs Ps Ss Ts Fs Tn : List Nat} {A : Nat → Nat} {G : Nat → Nat → Nat} {Rc : Nat → Nat} {n2 : Nat} (y : CRep g o h x S n Vs Ps Ss Ts Fs Tn A G Rc) (hn : n ≤ n2) : CRep g o h x S n2 Vs Ps Ss Ts Fs Tn A G Rc := by
  obtain ⟨a0, a1, a2, a3, a4, a5, a6, a7, a8, a9, a10, a11, a12, a13, a14, a15, a16, a17, a18, a19, a20, a21, a22, a23, a24, a25, a26, a27, a28⟩ := y
  exact ⟨a0, a1, a2, a3, a4, a5, a6, a7, fun c hc => (a8 c hc).mono hn, a9, a10, a11, a12, a13, a14, a15, a16, a17, fun v hv => (a18 v hv).cg hn (fun _ => rfl) rfl (Int.le_refl _), fun v hv => (a19 v hv).cg hn (fun _ _ => rfl) (Int.le_refl _), a20, a21, a22, a23, a24, a25, a26, a27, a28⟩
abbrev zOwn : Nat → Prop := fun r => r ≠ 0
theorem MnRep.day {o : Nat → Nat} {h : zH} {x : Nat} {S : zS} {A : Nat → Nat} {v : Int} (y : MnRep o h x S A) : MnRep o (sfi h x 0 v) x (zu1 S.1 1 v, S.2) A := by
  obtain ⟨x1, x2, x3, x4, x5, x6, x7, x8, x9, x10, x11, x12⟩ := y
  exact ⟨x1, x2, zu2_at.trans (show zu1 S.1 1 v 1 = v from zu1_at).symm, (zu2_ne (fun q => by omega)).trans x4, x5, x6, x7, x8, x9, x10, x11, x12⟩
theorem MnRep.told {o : Nat → Nat} {h : zH} {x : Nat} {S : zS} {A : Nat → Nat} {v : Int} {ar : Nat → Nat → Int} (y : MnRep o h x S A) : MnRep o (sfi h x 6 v) x (zu1 S.1 20 v, ar) A := by
  obtain ⟨x1, x2, x3, x4, x5, x6, x7, x8, x9, x10, x11, x12⟩ := y
  exact ⟨x1, x2, (zu2_ne (fun q => by omega)).trans x3, zu2_at.trans (show zu1 S.1 20 v 20 = v from zu1_at).symm, x5, x6, x7, x8, x9, x10, x11, x12⟩
abbrev mX11_type : zM := (RX11, cX11_type, 2, (Option.some Jvm.ClassFile.FieldType.int), [], "type", 14)
set_option maxRecDepth 20000 in
theorem c_X11_type {g : zGT} {Q : zO → zH → Prop} {h : zH} (hg : zG g) {o : Nat → Nat} {x : Nat} {S : zS} {n : Nat} {Vs Ps Ss Ts Fs Tn : List Nat} {A : Nat → Nat} {G : Nat → Nat → Nat} {Rc : Nat → Nat} (hI : MInv n S) (y : CRep g o h x S n Vs Ps Ss Ts Fs Tn A G Rc) {v : Int} (hv : 0 ≤ v ∧ v < 65536) (kE : S.1 2 = 8 → Q (.inr "java/lang/IllegalStateException") h) (k0 : S.1 2 ≠ 8 → ∀ o1 h1, CEx g o1 h1 x (zu1 S.1 2 (S.1 2 + 1), zu2 S.2 3 (S.1 2).toNat v) n → zStep zOwn o h o1 h1 → Q (.inl (some (.int (zI (S.1 2 + 1))))) h1) : zC g (.code yX11_type cX11_type 2 (Option.some Jvm.ClassFile.FieldType.int)) yX11_type 14 4 40 [.ref x, .int (zI v)] h Q := by
  refine zC_of (M := mX11_type) (lv := [some (.ref x), some (.int (zI v))]) (by decide) rfl rfl (Nat.le_of_ble_eq_true rfl) rfl rfl ?_
  have e1 := hI.vehicles
  have e2 := hI.today
  have e3 := hI.people
  have e4 := hI.sightings
  have e5 := hI.fines
  have e6 := hI.calls
  have nv := y.nv
  have np := y.np
  have ns := y.ns
  have nf := y.nf
  have e9 := hI.signs
  obtain ⟨bg, b1, b2, b3, b4, b5, b6, b7, b8⟩ := id y.bu
  refine r_aload_0 1 rfl (dd_X11_type 0 _ _ _ rfl) ?_
  refine r_getr hg zc_X11 1 (by decide) (fun _ _ _ => rfl) y.mn.2.2.2.2.1 y.mn.1 (Or.inl rfl) (tb_1 122 _ rfl) 4 rfl (dd_X11_type 1 _ _ _ rfl) ?_
  refine r_iload_1 5 rfl (dd_X11_type 2 _ _ _ rfl) ?_
  refine r_callV1 (lvl := 10) (mc1 := 0) (ms1 := 0) 4 40 hg rfl md_X0_append zc_X0 b1 wi_X0_append wv_X0_append (tb_4 192 _ rfl) (by decide) (by decide) rfl (Nat.le_of_ble_eq_true rfl) (Nat.le_of_ble_eq_true rfl) (Nat.le_of_ble_eq_true rfl) 8 rfl (dd_X11_type 3 _ _ _ rfl) ?_
  refine c_X0_append hg hI y.bu (by omega) (fun h8 => ?_) (fun h8 h1 hb st => ?_)
  · dsimp only [zCont, Option.toList, List.cons_append, List.nil_append]
    refine r_ifne (by omega) 11 rfl 19 rfl (dd_X11_type 4 _ _ _ rfl) (fun q => absurd q (by decide)) (fun _ => ?_)
    refine r_throw hg zt_ISE rfl (by decide) (Nat.le_of_ble_eq_true rfl) (Nat.le_of_ble_eq_true rfl) (Nat.le_of_ble_eq_true rfl) (pc3 := 14) (pc4 := 15) (pc7 := 18) rfl rfl rfl (dd_X11_type 5 _ _ _ rfl) (dd_X11_type 6 _ _ _ rfl) (dd_X11_type 7 _ _ _ rfl) (dd_X11_type 8 _ _ _ rfl) ?_
    exact kE (by omega)
  · have y := y.toBu (S2 := (zu1 S.1 2 (S.1 2 + 1), zu2 S.2 3 (S.1 2).toNat v)) (n2 := n) (Nat.le_refl n) st (fun k i hk => (zu2_ne (fun q => hk (by omega)))) (fun k hk => (zu1_ne (fun q => hk (by omega)))) hb
    obtain ⟨bg, b1, b2, b3, b4, b5, b6, b7, b8⟩ := id y.bu
    dsimp only [zCont, Option.toList, List.cons_append, List.nil_append]
    refine r_ifne (by omega) 11 rfl 19 rfl (dd_X11_type 4 _ _ _ rfl) (fun _ => ?_) (fun q => absurd q (by decide))
    refine r_aload_0 20 rfl (dd_X11_type 9 _ _ _ rfl) ?_
    refine r_getr hg zc_X11 1 (by decide) (fun _ _ _ => rfl) y.mn.2.2.2.2.1 y.mn.1 (Or.inl rfl) (tb_1 122 _ rfl) 23 rfl (dd_X11_type 10 _ _ _ rfl) ?_
    refine r_geti hg zc_X0 1 (by decide) (fun _ _ _ => rfl) b4 b1 (Or.inl rfl) (tb_1 51 _ rfl) 26 rfl (dd_X11_type 11 _ _ _ rfl) ?_
    refine r_ireturn rfl rfl (dd_X11_type 12 _ _ _ rfl) ?_
    have k := k0 (by omega) _ _ y.ex (st.mono (fun q hq => by show q ≠ 0; rw [show q = _ from hq]; first | decide | (unfold rg; omega)))
    show Q (.inl (some (.int (zI (zu1 S.1 2 (S.1 2 + 1) 2))))) _
    rw [show zu1 S.1 2 (S.1 2 + 1) 2 = S.1 2 + 1 from zu1_at]
    exact k

abbrev mX11_clear : zM := (RX11, cX11_clear, 1, (Option.some Jvm.ClassFile.FieldType.int), [], "clear", 14)
set_option maxRecDepth 20000 in
theorem c_X11_clear {g : zGT} {Q : zO → zH → Prop} {h : zH} (hg : zG g) {o : Nat → Nat} {x : Nat} {S : zS} {n : Nat} {Vs Ps Ss Ts Fs Tn : List Nat} {A : Nat → Nat} {G : Nat → Nat → Nat} {Rc : Nat → Nat} (hI : MInv n S) (y : CRep g o h x S n Vs Ps Ss Ts Fs Tn A G Rc) (k : ∀ o1 h1, CEx g o1 h1 x (zu1 S.1 2 0, S.2) n → zStep zOwn o h o1 h1 → Q (.inl (some (.int (zI (S.1 2))))) h1) : zC g (.code yX11_clear cX11_clear 1 (Option.some Jvm.ClassFile.FieldType.int)) yX11_clear 14 0 0 [.ref x] h Q := by
  refine zC_of (M := mX11_clear) (lv := [some (.ref x)]) (by decide) rfl rfl (Nat.le_of_ble_eq_true rfl) rfl rfl ?_
  have e1 := hI.vehicles
  have e2 := hI.today
  have e3 := hI.people
  have e4 := hI.sightings
  have e5 := hI.fines
  have e6 := hI.calls
  have nv := y.nv
  have np := y.np
  have ns := y.ns
  have nf := y.nf
  have e9 := hI.signs
  obtain ⟨bg, b1, b2, b3, b4, b5, b6, b7, b8⟩ := id y.bu
  refine r_aload_0 1 rfl (dd_X11_clear 0 _ _ _ rfl) ?_
  refine r_getr hg zc_X11 1 (by decide) (fun _ _ _ => rfl) y.mn.2.2.2.2.1 y.mn.1 (Or.inl rfl) (tb_1 122 _ rfl) 4 rfl (dd_X11_clear 1 _ _ _ rfl) ?_
  refine r_callV0 (lvl := 10) (mc1 := 0) (ms1 := 0) 0 0 hg rfl md_X0_empty zc_X0 b1 wi_X0_empty wv_X0_empty (tb_4 184 _ rfl) (by decide) (by decide) rfl (Nat.le_of_ble_eq_true rfl) (Nat.le_of_ble_eq_true rfl) (Nat.le_of_ble_eq_true rfl) 7 rfl (dd_X11_clear 2 _ _ _ rfl) ?_
  refine c_X0_empty hg hI y.bu (fun h1 hb st => ?_)
  dsimp only [zCont, Option.toList, List.cons_append, List.nil_append]
  refine r_ireturn rfl rfl (dd_X11_clear 3 _ _ _ rfl) ?_
  exact k o h1 (y.toBu (S2 := (zu1 S.1 2 0, S.2)) (n2 := n) (Nat.le_refl n) st (fun k i _ => rfl) (fun k hk => (zu1_ne (fun q => hk (by omega)))) hb).ex (st.mono (fun q hq => by show q ≠ 0; rw [show q = _ from hq]; first | decide | (unfold rg; omega)))

abbrev mX11_protect : zM := (RX11, cX11_protect, 5, (Option.some Jvm.ClassFile.FieldType.boolean), [], "protect", 14)
set_option maxRecDepth 20000 in
theorem c_X11_protect {g : zGT} {Q : zO → zH → Prop} {h : zH} (hg : zG g) {o : Nat → Nat} {x : Nat} {S : zS} {n : Nat} {Vs Ps Ss Ts Fs Tn : List Nat} {A : Nat → Nat} {G : Nat → Nat → Nat} {Rc : Nat → Nat} (hI : MInv n S) (y : CRep g o h x S n Vs Ps Ss Ts Fs Tn A G Rc) {v is : Int} (hv : zR v) (his : is = 0 ∨ is = 1) (kE : ¬ (0 ≤ v ∧ v < S.1 12) → Q (.inr "java/lang/IndexOutOfBoundsException") h) (k0 : ∀ p : Nat, v = p → v < S.1 12 → ∀ o1 h1, CEx g o1 h1 x (S.1, zu2 S.2 13 p is) (n + 1) → zStep zOwn o h o1 h1 → Q (.inl (some (.int (zI (S.2 13 p))))) h1) : zC g (.code yX11_protect cX11_protect 5 (Option.some Jvm.ClassFile.FieldType.boolean)) yX11_protect 14 4 40 [.ref x, .int (zI v), .int (zI is)] h Q := by
  refine zC_of (M := mX11_protect) (lv := [some (.ref x), some (.int (zI v)), some (.int (zI is)), none, none]) (by decide) rfl rfl (Nat.le_of_ble_eq_true rfl) rfl rfl ?_
  have e1 := hI.vehicles
  have e2 := hI.today
  have e3 := hI.people
  have e4 := hI.sightings
  have e5 := hI.fines
  have e6 := hI.calls
  have nv := y.nv
  have np := y.np
  have ns := y.ns
  have nf := y.nf
  have e9 := hI.signs
  refine r_aload_0 1 rfl (dd_X11_protect 0 _ _ _ rfl) ?_
  refine r_iload_1 2 rfl (dd_X11_protect 1 _ _ _ rfl) ?_
  refine r_callV1 (lvl := 13) (mc1 := 1) (ms1 := 6) 3 34 hg rfl md_X11_personAt zc_X11 y.mn.1 wi_X11_personAt wv_X11_personAt (tb_3 3 _ rfl) (by decide) (by decide) rfl (Nat.le_of_ble_eq_true rfl) (Nat.le_of_ble_eq_true rfl) (Nat.le_of_ble_eq_true rfl) 5 rfl (dd_X11_protect 2 _ _ _ rfl) ?_
  refine c_X11_personAt hg hI y (by omega) (fun hE => ?_) (fun p pa hp hP hp4 => ?_)
  · dsimp only [zCont]
    exact kE hE
  · dsimp only [zCont, Option.toList, List.cons_append, List.nil_append]
    refine r_astore_3 6 rfl (by decide) rfl (dd_X11_protect 3 _ _ _ rfl) ?_
    have hpr := hI.prot p
    refine r_aload_3 7 rfl (dd_X11_protect 4 _ _ _ rfl) ?_
    refine r_geti hg zc_X5 0 (by decide) (fun _ _ _ => rfl) (y.pe p pa hP).2.2.1 (y.pe p pa hP).1 (Or.inl rfl) (tb_2 227 _ rfl) 10 rfl (dd_X11_protect 5 _ _ _ rfl) ?_
    refine r_istore_4 12 rfl (by decide) rfl (dd_X11_protect 6 _ _ _ rfl) ?_
    refine r_aload_3 13 rfl (dd_X11_protect 7 _ _ _ rfl) ?_
    refine r_iload_2 14 rfl (dd_X11_protect 8 _ _ _ rfl) ?_
    refine r_puti hg zc_X5 0 (by decide) rfl (fun _ _ _ => rfl) (by rcases his with q | q <;> rw [q] <;> rfl) (by rcases his with q | q <;> rw [q] <;> rfl) (by decide) (y.pe p pa hP).1 (Or.inl rfl) (tb_2 227 _ rfl) 17 rfl (dd_X11_protect 9 _ _ _ rfl) ?_
    refine r_iload_4 19 rfl (dd_X11_protect 10 _ _ _ rfl) ?_
    refine r_ireturn rfl (by rcases hI.prot p with q | q <;> rw [q] <;> rfl) (dd_X11_protect 11 _ _ _ rfl) ?_
    have st : zStep (fun q => q = rg 5 p) o h o (sfi h pa 0 is) := step_sfi (R := fun q => q = rg 5 p) (y.pe p pa hP).2.1
    have z := y.toPe (S2 := (S.1, zu2 S.2 13 p is)) (n2 := n + 1) (Nat.le_succ n) st (fun k i hk => (zu2_ne (fun q => hk (by omega)))) (fun k _ => rfl) (p := p) (by omega) (fun i hi => zu2_ne (fun q => hi q.2)) (fun i hi => rfl) (fun a ha => by obtain rfl : pa = a := Option.some.inj (hP.symm.trans ha); exact ⟨(y.pe p pa hP).1, (y.pe p pa hP).2.1, zu2_at.trans (show zu2 S.2 13 p is 13 p = is from zu2_at).symm, (zu2_ne (fun q => by omega)).trans (y.pe p pa hP).2.2.2⟩)
    exact k0 p hp (by omega) _ _ z.ex (st.mono (fun q hq => by show q ≠ 0; rw [show q = _ from hq]; first | decide | (unfold rg; omega)))

abbrev mX11_bar : zM := (RX11, cX11_bar, 4, (Option.some Jvm.ClassFile.FieldType.boolean), [], "bar", 14)
set_option maxRecDepth 20000 in
theorem c_X11_bar {g : zGT} {Q : zO → zH → Prop} {h : zH} (hg : zG g) {o : Nat → Nat} {x : Nat} {S : zS} {n : Nat} {Vs Ps Ss Ts Fs Tn : List Nat} {A : Nat → Nat} {G : Nat → Nat → Nat} {Rc : Nat → Nat} (hI : MInv n S) (y : CRep g o h x S n Vs Ps Ss Ts Fs Tn A G Rc) {a b is : Int} (ha : zR a) (hb : zR b) (his : is = 0 ∨ is = 1) (kE : ¬ (65 ≤ a ∧ a ≤ 90 ∧ 65 ≤ b ∧ b ≤ 90) → Q (.inr "java/lang/IllegalArgumentException") h) (k0 : (65 ≤ a ∧ a ≤ 90 ∧ 65 ≤ b ∧ b ≤ 90) → ∀ o1 h1, CEx g o1 h1 x (S.1, zu2 S.2 15 (26 * (a - 65) + b - 65).toNat is) (n + 1) → zStep zOwn o h o1 h1 → Q (.inl (some (.int (zI (S.2 15 (26 * (a - 65) + b - 65).toNat))))) h1) : zC g (.code yX11_bar cX11_bar 4 (Option.some Jvm.ClassFile.FieldType.boolean)) yX11_bar 14 4 40 [.ref x, .int (zI a), .int (zI b), .int (zI is)] h Q := by
  refine zC_of (M := mX11_bar) (lv := [some (.ref x), some (.int (zI a)), some (.int (zI b)), some (.int (zI is))]) (by decide) rfl rfl (Nat.le_of_ble_eq_true rfl) rfl rfl ?_
  have e1 := hI.vehicles
  have e2 := hI.today
  have e3 := hI.people
  have e4 := hI.sightings
  have e5 := hI.fines
  have e6 := hI.calls
  have nv := y.nv
  have np := y.np
  have ns := y.ns
  have nf := y.nf
  have e9 := hI.signs
  refine r_iload_1 1 rfl (dd_X11_bar 0 _ _ _ rfl) ?_
  refine r_callS1 (lvl := 10) (mc1 := 0) (ms1 := 0) 4 40 hg rfl md_X11_isLetter ws_X11_isLetter (tb_4 118 _ rfl) (by decide) (by decide) rfl (Nat.le_of_ble_eq_true rfl) (Nat.le_of_ble_eq_true rfl) (Nat.le_of_ble_eq_true rfl) 4 rfl (dd_X11_bar 1 _ _ _ rfl) ?_
  refine c_X11_isLetter hg (by omega) (fun hb1 => ?_) (fun hb1 => ?_)
  · dsimp only [zCont, Option.toList, List.cons_append, List.nil_append]
    refine r_ifeq (by omega) 7 rfl 14 rfl (dd_X11_bar 2 _ _ _ rfl) (fun q => absurd q (by decide)) (fun _ => ?_)
    refine r_iload_2 8 rfl (dd_X11_bar 3 _ _ _ rfl) ?_
    refine r_callS1 (lvl := 10) (mc1 := 0) (ms1 := 0) 4 40 hg rfl md_X11_isLetter ws_X11_isLetter (tb_4 118 _ rfl) (by decide) (by decide) rfl (Nat.le_of_ble_eq_true rfl) (Nat.le_of_ble_eq_true rfl) (Nat.le_of_ble_eq_true rfl) 11 rfl (dd_X11_bar 4 _ _ _ rfl) ?_
    refine c_X11_isLetter hg (by omega) (fun hb2 => ?_) (fun hb2 => ?_)
    · dsimp only [zCont, Option.toList, List.cons_append, List.nil_append]
      refine r_ifne (by omega) 14 rfl 22 rfl (dd_X11_bar 5 _ _ _ rfl) (fun _ => ?_) (fun q => absurd q (by decide))
      obtain ⟨sb, sgv, s1, s2, s3, s4, s5, s6, s7, s8, s9, s10, s11, s12, s13⟩ := id y.se
      refine r_aload_0 23 rfl (dd_X11_bar 10 _ _ _ rfl) ?_
      refine r_getr hg zc_X11 2 (by decide) (fun _ _ _ => rfl) y.mn.2.2.2.2.2.1 y.mn.1 (Or.inl rfl) (tb_1 123 _ rfl) 26 rfl (dd_X11_bar 11 _ _ _ rfl) ?_
      refine r_iload_1 27 rfl (dd_X11_bar 12 _ _ _ rfl) ?_
      refine r_bipush (by decide) 29 rfl (dd_X11_bar 13 _ _ _ rfl) ?_
      refine r_isub 30 rfl (dd_X11_bar 14 _ _ _ rfl) ?_
      refine r_bipush (by decide) 32 rfl (dd_X11_bar 15 _ _ _ rfl) ?_
      refine r_imul 33 rfl (dd_X11_bar 16 _ _ _ rfl) ?_
      refine r_iload_2 34 rfl (dd_X11_bar 17 _ _ _ rfl) ?_
      refine r_bipush (by decide) 36 rfl (dd_X11_bar 18 _ _ _ rfl) ?_
      refine r_isub 37 rfl (dd_X11_bar 19 _ _ _ rfl) ?_
      refine r_iadd 38 rfl (dd_X11_bar 20 _ _ _ rfl) ?_
      refine r_top (((26 * (a - 65) + b - 65).toNat : Nat) : Int) (congrArg zI (by omega)) ?_
      refine r_iload_3 39 rfl (dd_X11_bar 21 _ _ _ rfl) ?_
      refine r_callV2 (lvl := 10) (mc1 := 0) (ms1 := 0) 4 40 hg rfl md_X6_setBarred zc_X6 s1 wi_X6_setBarred wv_X6_setBarred (tb_4 121 _ rfl) (by decide) (by decide) rfl (Nat.le_of_ble_eq_true rfl) (Nat.le_of_ble_eq_true rfl) (Nat.le_of_ble_eq_true rfl) 42 rfl (dd_X11_bar 22 _ _ _ rfl) ?_
      refine c_X6_setBarred hg hI y.se (p := (26 * (a - 65) + b - 65).toNat) (by omega) his (fun h1 hb st => ?_)
      dsimp only [zCont, Option.toList, List.cons_append, List.nil_append]
      refine r_ireturn rfl (by rcases hI.barred (26 * (a - 65) + b - 65).toNat with q | q <;> rw [q] <;> rfl) (dd_X11_bar 23 _ _ _ rfl) ?_
      exact k0 (by omega) _ _ (y.toSe (S2 := (S.1, zu2 S.2 15 (26 * (a - 65) + b - 65).toNat is)) (n2 := n + 1) (Nat.le_succ n) st (fun k i hk => (zu2_ne (fun q => hk (by omega)))) (fun k _ => rfl) hb).ex (st.mono (fun q hq => by show q ≠ 0; rw [show q = _ from hq]; first | decide | (unfold rg; omega)))
    · dsimp only [zCont, Option.toList, List.cons_append, List.nil_append]
      refine r_ifne (by omega) 14 rfl 22 rfl (dd_X11_bar 5 _ _ _ rfl) (fun q => absurd q (by decide)) (fun _ => ?_)
      refine r_throw hg zt_IAE rfl (by decide) (Nat.le_of_ble_eq_true rfl) (Nat.le_of_ble_eq_true rfl) (Nat.le_of_ble_eq_true rfl) (pc3 := 17) (pc4 := 18) (pc7 := 21) rfl rfl rfl (dd_X11_bar 6 _ _ _ rfl) (dd_X11_bar 7 _ _ _ rfl) (dd_X11_bar 8 _ _ _ rfl) (dd_X11_bar 9 _ _ _ rfl) ?_
      exact kE (by omega)
  · dsimp only [zCont, Option.toList, List.cons_append, List.nil_append]
    refine r_ifeq (by omega) 7 rfl 14 rfl (dd_X11_bar 2 _ _ _ rfl) (fun _ => ?_) (fun q => absurd q (by decide))
    refine r_throw hg zt_IAE rfl (by decide) (Nat.le_of_ble_eq_true rfl) (Nat.le_of_ble_eq_true rfl) (Nat.le_of_ble_eq_true rfl) (pc3 := 17) (pc4 := 18) (pc7 := 21) rfl rfl rfl (dd_X11_bar 6 _ _ _ rfl) (dd_X11_bar 7 _ _ _ rfl) (dd_X11_bar 8 _ _ _ rfl) (dd_X11_bar 9 _ _ _ rfl) ?_
    exact kE (by omega)

abbrev mX11_pass : zM := (RX11, cX11_pass, 2, (Option.some Jvm.ClassFile.FieldType.int), [], "pass", 14)
set_option maxRecDepth 20000 in
theorem c_X11_pass {g : zGT} {Q : zO → zH → Prop} {h : zH} (hg : zG g) {o : Nat → Nat} {x : Nat} {S : zS} {n : Nat} {Vs Ps Ss Ts Fs Tn : List Nat} {A : Nat → Nat} {G : Nat → Nat → Nat} {Rc : Nat → Nat} (hI : MInv n S) (y : CRep g o h x S n Vs Ps Ss Ts Fs Tn A G Rc) {v : Int} (hv : zR v) (kE : ¬ (1 ≤ v ∧ v ≤ 400) → Q (.inr "java/lang/IllegalArgumentException") h) (k2 : (1 ≤ v ∧ v ≤ 400) → 20000 < S.1 1 + v → Q (.inr "java/lang/IllegalStateException") h) (k0 : (1 ≤ v ∧ v ≤ 400) → S.1 1 + v ≤ 20000 → ∀ o1 h1, CEx g o1 h1 x (zu1 S.1 1 (S.1 1 + v), S.2) (n + 1) → zStep zOwn o h o1 h1 → Q (.inl (some (.int (zI (S.1 1 + v))))) h1) : zC g (.code yX11_pass cX11_pass 2 (Option.some Jvm.ClassFile.FieldType.int)) yX11_pass 14 4 40 [.ref x, .int (zI v)] h Q := by
  refine zC_of (M := mX11_pass) (lv := [some (.ref x), some (.int (zI v))]) (by decide) rfl rfl (Nat.le_of_ble_eq_true rfl) rfl rfl ?_
  have e1 := hI.vehicles
  have e2 := hI.today
  have e3 := hI.people
  have e4 := hI.sightings
  have e5 := hI.fines
  have e6 := hI.calls
  have nv := y.nv
  have np := y.np
  have ns := y.ns
  have nf := y.nf
  have e9 := hI.signs
  refine r_iload_1 1 rfl (dd_X11_pass 0 _ _ _ rfl) ?_
  refine r_iconst 2 rfl (dd_X11_pass 1 _ _ _ rfl) ?_
  refine r_sipush (by decide) 5 rfl (dd_X11_pass 2 _ _ _ rfl) ?_
  refine r_callS3 (lvl := 10) (mc1 := 0) (ms1 := 0) 4 40 hg rfl md_X11_isWithin ws_X11_isWithin (tb_1 171 _ rfl) (by decide) (by decide) rfl (Nat.le_of_ble_eq_true rfl) (Nat.le_of_ble_eq_true rfl) (Nat.le_of_ble_eq_true rfl) 8 rfl (dd_X11_pass 3 _ _ _ rfl) ?_
  refine c_X11_isWithin hg (by omega) (by omega) (by omega) (fun hb1 => ?_) (fun hb1 => ?_)
  · dsimp only [zCont, Option.toList, List.cons_append, List.nil_append]
    refine r_ifne (by omega) 11 rfl 19 rfl (dd_X11_pass 4 _ _ _ rfl) (fun _ => ?_) (fun q => absurd q (by decide))
    refine r_aload_0 20 rfl (dd_X11_pass 9 _ _ _ rfl) ?_
    refine r_geti hg zc_X11 0 (by decide) (fun _ _ _ => rfl) y.mn.2.2.1 y.mn.1 (Or.inl rfl) (tb_1 121 _ rfl) 23 rfl (dd_X11_pass 10 _ _ _ rfl) ?_
    refine r_iload_1 24 rfl (dd_X11_pass 11 _ _ _ rfl) ?_
    refine r_iadd 25 rfl (dd_X11_pass 12 _ _ _ rfl) ?_
    refine r_sipush (by decide) 28 rfl (dd_X11_pass 13 _ _ _ rfl) ?_
    refine r_if_icmple (by omega) (by omega) 31 rfl 39 rfl (dd_X11_pass 14 _ _ _ rfl) (fun hc2 => ?_) (fun hc2 => ?_)
    · refine r_aload_0 40 rfl (dd_X11_pass 19 _ _ _ rfl) ?_
      refine r_dup rfl 41 rfl (dd_X11_pass 20 _ _ _ rfl) ?_
      refine r_geti hg zc_X11 0 (by decide) (fun _ _ _ => rfl) y.mn.2.2.1 y.mn.1 (Or.inl rfl) (tb_1 121 _ rfl) 44 rfl (dd_X11_pass 21 _ _ _ rfl) ?_
      refine r_iload_1 45 rfl (dd_X11_pass 22 _ _ _ rfl) ?_
      refine r_iadd 46 rfl (dd_X11_pass 23 _ _ _ rfl) ?_
      refine r_puti hg zc_X11 0 (by decide) rfl (fun _ _ _ => rfl) rfl rfl (by decide) y.mn.1 (Or.inl rfl) (tb_1 121 _ rfl) 49 rfl (dd_X11_pass 24 _ _ _ rfl) ?_
      have st : zStep (fun q => q = 1) o h o (sfi h x 0 (S.1 1 + v)) := step_sfi (R := fun q => q = 1) y.mn.2.1
      have y := y.toMn (S2 := (zu1 S.1 1 (S.1 1 + v), S.2)) (n2 := n + 1) (Nat.le_succ n) st (fun k i _ => rfl) (fun k hk => (zu1_ne (fun q => hk (by omega)))) y.mn.day (by show _ ≤ zu1 S.1 1 (S.1 1 + v) 1; rw [show zu1 S.1 1 (S.1 1 + v) 1 = S.1 1 + v from zu1_at]; omega)
      refine r_aload_0 50 rfl (dd_X11_pass 25 _ _ _ rfl) ?_
      refine r_geti hg zc_X11 0 (by decide) (fun _ _ _ => rfl) y.mn.2.2.1 y.mn.1 (Or.inl rfl) (tb_1 121 _ rfl) 53 rfl (dd_X11_pass 26 _ _ _ rfl) ?_
      refine r_ireturn rfl rfl (dd_X11_pass 27 _ _ _ rfl) ?_
      show Q (.inl (some (.int (zI (zu1 S.1 1 (S.1 1 + v) 1))))) _
      rw [show zu1 S.1 1 (S.1 1 + v) 1 = S.1 1 + v from zu1_at]
      exact k0 (by omega) (by omega) _ _ y.ex (st.mono (fun q hq => by show q ≠ 0; rw [show q = _ from hq]; first | decide | (unfold rg; omega)))
    · refine r_throw hg zt_ISE rfl (by decide) (Nat.le_of_ble_eq_true rfl) (Nat.le_of_ble_eq_true rfl) (Nat.le_of_ble_eq_true rfl) (pc3 := 34) (pc4 := 35) (pc7 := 38) rfl rfl rfl (dd_X11_pass 15 _ _ _ rfl) (dd_X11_pass 16 _ _ _ rfl) (dd_X11_pass 17 _ _ _ rfl) (dd_X11_pass 18 _ _ _ rfl) ?_
      exact k2 (by omega) (by omega)
  · dsimp only [zCont, Option.toList, List.cons_append, List.nil_append]
    refine r_ifne (by omega) 11 rfl 19 rfl (dd_X11_pass 4 _ _ _ rfl) (fun q => absurd q (by decide)) (fun _ => ?_)
    refine r_throw hg zt_IAE rfl (by decide) (Nat.le_of_ble_eq_true rfl) (Nat.le_of_ble_eq_true rfl) (Nat.le_of_ble_eq_true rfl) (pc3 := 14) (pc4 := 15) (pc7 := 18) rfl rfl rfl (dd_X11_pass 5 _ _ _ rfl) (dd_X11_pass 6 _ _ _ rfl) (dd_X11_pass 7 _ _ _ rfl) (dd_X11_pass 8 _ _ _ rfl) ?_
    exact kE (by omega)

theorem zro_cgm {ar ar2 : Nat → Nat → Int} {v w : Int} {m : Nat} (c1 : ∀ k i, (k = 21 ∨ k = 22 ∨ k = 23) → i < m → ar2 k i = ar k i) : ∀ k, k ≤ m → zro ar2 v w k = zro ar v w k
  | 0, _ => rfl
  | k + 1, h => by unfold zro; rw [zro_cgm c1 k (by omega), c1 21 k (by omega) (by omega), c1 22 k (by omega) (by omega), c1 23 k (by omega) (by omega)]
abbrev mX11_rate : zM := (RX11, cX11_rate, 4, (Option.some Jvm.ClassFile.FieldType.int), [], "rate", 15)
set_option maxRecDepth 20000 in
theorem c_X11_rate {g : zGT} {Q : zO → zH → Prop} {h : zH} (hg : zG g) {o : Nat → Nat} {x : Nat} {S : zS} {n : Nat} {Vs Ps Ss Ts Fs Tn : List Nat} {A : Nat → Nat} {G : Nat → Nat → Nat} {Rc : Nat → Nat} (hI : MInv n S) (y : CRep g o h x S n Vs Ps Ss Ts Fs Tn A G Rc) {a b c9 : Int} (ha : zR a) (hb : zR b) (hc : zR c9) (kE : ¬ (0 ≤ a ∧ a ≤ 3 ∧ 0 ≤ b ∧ b ≤ 20000 ∧ 0 ≤ c9 ∧ c9 ≤ 100000) → Q (.inr "java/lang/IllegalArgumentException") h) (k2 : (0 ≤ a ∧ a ≤ 3 ∧ 0 ≤ b ∧ b ≤ 20000 ∧ 0 ≤ c9 ∧ c9 ≤ 100000) → S.1 20 = 40 → Q (.inr "java/lang/IllegalStateException") h) (k0 : (0 ≤ a ∧ a ≤ 3 ∧ 0 ≤ b ∧ b ≤ 20000 ∧ 0 ≤ c9 ∧ c9 ≤ 100000) → S.1 20 ≠ 40 → ∀ o1 h1, CEx g o1 h1 x (zu1 S.1 20 (S.1 20 + 1), zu2 (zu2 (zu2 S.2 21 (S.1 20).toNat a) 22 (S.1 20).toNat b) 23 (S.1 20).toNat c9) (n + 1) → zStep zOwn o h o1 h1 → Q (.inl (some (.int (zI (S.1 20 + 1))))) h1) : zC g (.code yX11_rate cX11_rate 4 (Option.some Jvm.ClassFile.FieldType.int)) yX11_rate 15 6 4300 [.ref x, .int (zI a), .int (zI b), .int (zI c9)] h Q := by
  refine zC_of (M := mX11_rate) (lv := [some (.ref x), some (.int (zI a)), some (.int (zI b)), some (.int (zI c9))]) (by decide) rfl rfl (Nat.le_of_ble_eq_true rfl) rfl rfl ?_
  have e1 := hI.vehicles
  have e2 := hI.today
  have e3 := hI.people
  have e4 := hI.sightings
  have e5 := hI.fines
  have e6 := hI.calls
  have nv := y.nv
  have np := y.np
  have ns := y.ns
  have nf := y.nf
  have e9 := hI.signs
  have e20r := hI.rates
  refine r_iload_1 1 rfl (dd_X11_rate 0 _ _ _ rfl) ?_
  refine r_callS1 (lvl := 11) (mc1 := 0) (ms1 := 0) 6 4300 hg rfl md_X11_isClass ws_X11_isClass (tb_1 174 _ rfl) (by decide) (by decide) rfl (Nat.le_of_ble_eq_true rfl) (Nat.le_of_ble_eq_true rfl) (Nat.le_of_ble_eq_true rfl) 4 rfl (dd_X11_rate 1 _ _ _ rfl) ?_
  refine c_X11_isClass hg (by omega) (fun hb1 => ?_) (fun hb1 => ?_)
  · dsimp only [zCont, Option.toList, List.cons_append, List.nil_append]
    refine r_ifeq (by omega) 7 rfl 28 rfl (dd_X11_rate 2 _ _ _ rfl) (fun q => absurd q (by decide)) (fun _ => ?_)
    refine r_iload_2 8 rfl (dd_X11_rate 3 _ _ _ rfl) ?_
    refine r_iconst 9 rfl (dd_X11_rate 4 _ _ _ rfl) ?_
    refine r_sipush (by decide) 12 rfl (dd_X11_rate 5 _ _ _ rfl) ?_
    refine r_callS3 (lvl := 10) (mc1 := 0) (ms1 := 0) 6 4300 hg rfl md_X11_isWithin ws_X11_isWithin (tb_1 171 _ rfl) (by decide) (by decide) rfl (Nat.le_of_ble_eq_true rfl) (Nat.le_of_ble_eq_true rfl) (Nat.le_of_ble_eq_true rfl) 15 rfl (dd_X11_rate 6 _ _ _ rfl) ?_
    refine c_X11_isWithin hg (by omega) (by omega) (by omega) (fun hb2 => ?_) (fun hb2 => ?_)
    · dsimp only [zCont, Option.toList, List.cons_append, List.nil_append]
      refine r_ifeq (by omega) 18 rfl 28 rfl (dd_X11_rate 7 _ _ _ rfl) (fun q => absurd q (by decide)) (fun _ => ?_)
      refine r_iload_3 19 rfl (dd_X11_rate 8 _ _ _ rfl) ?_
      refine r_iconst 20 rfl (dd_X11_rate 9 _ _ _ rfl) ?_
      refine r_ldc hg (tb_5 3 _ rfl) 22 rfl (dd_X11_rate 10 _ _ _ rfl) ?_
      refine r_top 100000 rfl ?_
      refine r_callS3 (lvl := 10) (mc1 := 0) (ms1 := 0) 6 4300 hg rfl md_X11_isWithin ws_X11_isWithin (tb_1 171 _ rfl) (by decide) (by decide) rfl (Nat.le_of_ble_eq_true rfl) (Nat.le_of_ble_eq_true rfl) (Nat.le_of_ble_eq_true rfl) 25 rfl (dd_X11_rate 11 _ _ _ rfl) ?_
      refine c_X11_isWithin hg (by omega) (by omega) (by omega) (fun hb3 => ?_) (fun hb3 => ?_)
      · dsimp only [zCont, Option.toList, List.cons_append, List.nil_append]
        refine r_ifne (by omega) 28 rfl 36 rfl (dd_X11_rate 12 _ _ _ rfl) (fun _ => ?_) (fun q => absurd q (by decide))
        refine r_aload_0 37 rfl (dd_X11_rate 17 _ _ _ rfl) ?_
        refine r_geti hg zc_X11 6 (by decide) (fun _ _ _ => rfl) y.mn.2.2.2.1 y.mn.1 (Or.inl rfl) (tb_1 127 _ rfl) 40 rfl (dd_X11_rate 18 _ _ _ rfl) ?_
        refine r_bipush (by decide) 42 rfl (dd_X11_rate 19 _ _ _ rfl) ?_
        refine r_if_icmplt (by omega) (by omega) 45 rfl 53 rfl (dd_X11_rate 20 _ _ _ rfl) (fun hc4 => ?_) (fun hc4 => ?_)
        · refine r_aload_0 54 rfl (dd_X11_rate 25 _ _ _ rfl) ?_
          refine r_getr hg zc_X11 5 (by decide) (fun _ _ _ => rfl) y.mn.2.2.2.2.2.2.2.2.1 y.mn.1 (Or.inl rfl) (tb_1 126 _ rfl) 57 rfl (dd_X11_rate 26 _ _ _ rfl) ?_
          refine r_iload_1 58 rfl (dd_X11_rate 27 _ _ _ rfl) ?_
          refine r_aaloadC (v := .ref (Rc a.toNat)) hg y.ra.1 (by omega) (by omega) (by rw [y.ra.2.2.1]; omega) (by rw [y.ra.2.2.2 a.toNat (by omega)]; rfl) 59 rfl (dd_X11_rate 28 _ _ _ rfl) ?_
          refine r_iload_2 60 rfl (dd_X11_rate 29 _ _ _ rfl) ?_
          refine r_iload_3 61 rfl (dd_X11_rate 30 _ _ _ rfl) ?_
          refine r_callV2 (lvl := 13) (mc1 := 2) (ms1 := 4200) 4 100 hg rfl md_X1_put zc_X1 (y.rc a.toNat (by omega)).own.1 wi_X1_put wv_X1_put (tb_4 157 _ rfl) (by decide) (by decide) rfl (Nat.le_of_ble_eq_true rfl) (Nat.le_of_ble_eq_true rfl) (Nat.le_of_ble_eq_true rfl) 64 rfl (dd_X11_rate 31 _ _ _ rfl) ?_
          refine c_X1_putS hg (y.rc a.toNat (by omega)) (by omega) (by omega) (by omega) (fun o1 h1 hC st1 => ?_)
          have mn1 := y.mn.fr (st1.fr (r := 1) (by show ¬ _ = _; unfold rg; omega))
          dsimp only [zCont, Option.toList, List.cons_append, List.nil_append]
          refine r_aload_0 65 rfl (dd_X11_rate 32 _ _ _ rfl) ?_
          refine r_dup rfl 66 rfl (dd_X11_rate 33 _ _ _ rfl) ?_
          refine r_geti hg zc_X11 6 (by decide) (fun _ _ _ => rfl) mn1.2.2.2.1 mn1.1 (Or.inl rfl) (tb_1 127 _ rfl) 69 rfl (dd_X11_rate 34 _ _ _ rfl) ?_
          refine r_iconst 70 rfl (dd_X11_rate 35 _ _ _ rfl) ?_
          refine r_iadd 71 rfl (dd_X11_rate 36 _ _ _ rfl) ?_
          refine r_puti hg zc_X11 6 (by decide) rfl (fun _ _ _ => rfl) rfl rfl (by decide) mn1.1 (Or.inl rfl) (tb_1 127 _ rfl) 74 rfl (dd_X11_rate 37 _ _ _ rfl) ?_
          refine r_aload_0 75 rfl (dd_X11_rate 38 _ _ _ rfl) ?_
          refine r_geti hg zc_X11 6 (by decide) (fun _ _ _ => rfl) zu2_at mn1.1 (Or.inl rfl) (tb_1 127 _ rfl) 78 rfl (dd_X11_rate 39 _ _ _ rfl) ?_
          refine r_ireturn rfl rfl (dd_X11_rate 40 _ _ _ rfl) ?_
          have st2 : zStep (fun q => q = 1) o1 h1 o1 (sfi h1 x 6 (S.1 20 + 1)) := step_sfi (R := fun q => q = 1) mn1.2.1
          have st : zStep (fun q => q = 1 ∨ q = rg 8 a.toNat) o h o1 (sfi h1 x 6 (S.1 20 + 1)) := (st1.mono (fun _ q => Or.inr q)).trans (st2.mono (fun _ q => Or.inl q))
          have hca := hC.fr (st2.fr (r := rg 8 a.toNat) (by show ¬ _ = _; unfold rg; omega))
          have e20 : (zu1 S.1 20 (S.1 20 + 1), zu2 (zu2 (zu2 S.2 21 (S.1 20).toNat a) 22 (S.1 20).toNat b) 23 (S.1 20).toNat c9).1 20 = S.1 20 + 1 := (show zu1 S.1 20 (S.1 20 + 1) 20 = S.1 20 + 1 from zu1_at)
          have hro : ∀ (c : Int) w, zro (zu1 S.1 20 (S.1 20 + 1), zu2 (zu2 (zu2 S.2 21 (S.1 20).toNat a) 22 (S.1 20).toNat b) 23 (S.1 20).toNat c9).2 c w ((zu1 S.1 20 (S.1 20 + 1), zu2 (zu2 (zu2 S.2 21 (S.1 20).toNat a) 22 (S.1 20).toNat b) 23 (S.1 20).toNat c9).1 20).toNat = if a = c ∧ b ≤ w ∧ (zro S.2 c w (S.1 20).toNat).1 ≤ b then (b, c9) else zro S.2 c w (S.1 20).toNat := fun c w => by
            rw [e20, show (S.1 20 + 1).toNat = (S.1 20).toNat + 1 by omega]
            have z1 : zro (zu1 S.1 20 (S.1 20 + 1), zu2 (zu2 (zu2 S.2 21 (S.1 20).toNat a) 22 (S.1 20).toNat b) 23 (S.1 20).toNat c9).2 c w (S.1 20).toNat = zro S.2 c w (S.1 20).toNat := zro_cgm (m := (S.1 20).toNat) (fun k i hk hi => (zu2_ne (fun q => by omega)).trans ((zu2_ne (fun q => by omega)).trans (zu2_ne (fun q => by omega)))) _ (Nat.le_refl _)
            have z2 : (zu1 S.1 20 (S.1 20 + 1), zu2 (zu2 (zu2 S.2 21 (S.1 20).toNat a) 22 (S.1 20).toNat b) 23 (S.1 20).toNat c9).2 21 (S.1 20).toNat = a := by simp [zu2]
            have z3 : (zu1 S.1 20 (S.1 20 + 1), zu2 (zu2 (zu2 S.2 21 (S.1 20).toNat a) 22 (S.1 20).toNat b) 23 (S.1 20).toNat c9).2 22 (S.1 20).toNat = b := by simp [zu2]
            have z4 : (zu1 S.1 20 (S.1 20 + 1), zu2 (zu2 (zu2 S.2 21 (S.1 20).toNat a) 22 (S.1 20).toNat b) 23 (S.1 20).toNat c9).2 23 (S.1 20).toNat = c9 := by simp [zu2]
            show (if _ then _ else _) = _
            rw [z1, z2, z3, z4]
          have z := y.toRc (S2 := (zu1 S.1 20 (S.1 20 + 1), zu2 (zu2 (zu2 S.2 21 (S.1 20).toNat a) 22 (S.1 20).toNat b) 23 (S.1 20).toNat c9)) (n2 := n + 1) (Nat.le_succ n) (c0 := a.toNat) st (fun k i hk => ((zu2_ne (fun q => hk (by omega))).trans ((zu2_ne (fun q => hk (by omega))).trans (zu2_ne (fun q => hk (by omega)))))) (fun k hk => (zu1_ne (fun q => hk (by omega)))) mn1.told (by rw [show (fun w => zro (zu1 S.1 20 (S.1 20 + 1), zu2 (zu2 (zu2 S.2 21 (S.1 20).toNat a) 22 (S.1 20).toNat b) 23 (S.1 20).toNat c9).2 ((a.toNat : Nat) : Int) w ((zu1 S.1 20 (S.1 20 + 1), zu2 (zu2 (zu2 S.2 21 (S.1 20).toNat a) 22 (S.1 20).toNat b) 23 (S.1 20).toNat c9).1 20).toNat) = (fun w => if b ≤ w ∧ (zro S.2 ((a.toNat : Nat) : Int) w (S.1 20).toNat).1 ≤ b then (b, c9) else zro S.2 ((a.toNat : Nat) : Int) w (S.1 20).toNat) from funext fun w => by rw [hro]; by_cases hq : b ≤ w ∧ (zro S.2 ((a.toNat : Nat) : Int) w (S.1 20).toNat).1 ≤ b; (rw [if_pos hq, if_pos ⟨by omega, hq⟩]); (rw [if_neg hq, if_neg (fun q => hq q.2)])]; exact hca) (fun c hc w => by rw [hro, if_neg (fun q => by omega)])
          exact k0 (by omega) (by omega) _ _ z.ex (st.mono (fun q hq => by rcases hq with hq | hq <;> (show _ ≠ 0; rw [hq]; first | decide | (unfold rg; omega))))
        · refine r_throw hg zt_ISE rfl (by decide) (Nat.le_of_ble_eq_true rfl) (Nat.le_of_ble_eq_true rfl) (Nat.le_of_ble_eq_true rfl) (pc3 := 48) (pc4 := 49) (pc7 := 52) rfl rfl rfl (dd_X11_rate 21 _ _ _ rfl) (dd_X11_rate 22 _ _ _ rfl) (dd_X11_rate 23 _ _ _ rfl) (dd_X11_rate 24 _ _ _ rfl) ?_
          exact k2 (by omega) (by omega)
      · dsimp only [zCont, Option.toList, List.cons_append, List.nil_append]
        refine r_ifne (by omega) 28 rfl 36 rfl (dd_X11_rate 12 _ _ _ rfl) (fun q => absurd q (by decide)) (fun _ => ?_)
        refine r_throw hg zt_IAE rfl (by decide) (Nat.le_of_ble_eq_true rfl) (Nat.le_of_ble_eq_true rfl) (Nat.le_of_ble_eq_true rfl) (pc3 := 31) (pc4 := 32) (pc7 := 35) rfl rfl rfl (dd_X11_rate 13 _ _ _ rfl) (dd_X11_rate 14 _ _ _ rfl) (dd_X11_rate 15 _ _ _ rfl) (dd_X11_rate 16 _ _ _ rfl) ?_
        exact kE (by omega)
    · dsimp only [zCont, Option.toList, List.cons_append, List.nil_append]
      refine r_ifeq (by omega) 18 rfl 28 rfl (dd_X11_rate 7 _ _ _ rfl) (fun _ => ?_) (fun q => absurd q (by decide))
      refine r_throw hg zt_IAE rfl (by decide) (Nat.le_of_ble_eq_true rfl) (Nat.le_of_ble_eq_true rfl) (Nat.le_of_ble_eq_true rfl) (pc3 := 31) (pc4 := 32) (pc7 := 35) rfl rfl rfl (dd_X11_rate 13 _ _ _ rfl) (dd_X11_rate 14 _ _ _ rfl) (dd_X11_rate 15 _ _ _ rfl) (dd_X11_rate 16 _ _ _ rfl) ?_
      exact kE (by omega)
  · dsimp only [zCont, Option.toList, List.cons_append, List.nil_append]
    refine r_ifeq (by omega) 7 rfl 28 rfl (dd_X11_rate 2 _ _ _ rfl) (fun _ => ?_) (fun q => absurd q (by decide))
    refine r_throw hg zt_IAE rfl (by decide) (Nat.le_of_ble_eq_true rfl) (Nat.le_of_ble_eq_true rfl) (Nat.le_of_ble_eq_true rfl) (pc3 := 31) (pc4 := 32) (pc7 := 35) rfl rfl rfl (dd_X11_rate 13 _ _ _ rfl) (dd_X11_rate 14 _ _ _ rfl) (dd_X11_rate 15 _ _ _ rfl) (dd_X11_rate 16 _ _ _ rfl) ?_
    exact kE (by omega)
