abbrev mX11_fine : zM := (RX11, cX11_fine, 4, (Option.some Jvm.ClassFile.FieldType.int), [], "fine", 17)
set_option maxRecDepth 20000 in
theorem c_X11_fine {g : zGT} {Q : zO → zH → Prop} {h : zH} (hg : zG g) {mi : Nat} (hm : zMi g mi) {o : Nat → Nat} {x : Nat} {S : zS} {n : Nat} {Vs Ps Ss Ts Fs Tn : List Nat} {A : Nat → Nat} {G : Nat → Nat → Nat} {Rc : Nat → Nat} (hI : MInv n S) (y : CRep g o h x S n Vs Ps Ss Ts Fs Tn A G Rc) {v b : Int} (hv : zR v) (hb : zR b) (kE : ¬ (0 ≤ v ∧ v < S.1 31) → Q (.inr "java/lang/IndexOutOfBoundsException") h) (k2 : ∀ s : Nat, v = s → v < S.1 31 → ¬ (1 ≤ b ∧ b ≤ 100000) → Q (.inr "java/lang/IllegalArgumentException") h) (k3 : ∀ s : Nat, v = s → v < S.1 31 → (1 ≤ b ∧ b ≤ 100000) → (zseen S s = -1 ∨ S.1 36 = 20) → Q (.inr "java/lang/IllegalStateException") h) (k0 : ∀ s : Nat, v = s → v < S.1 31 → (1 ≤ b ∧ b ≤ 100000) → (zseen S s ≠ -1 ∧ S.1 36 ≠ 20) → ∀ o1 h1, CEx g o1 h1 x (zu1 S.1 36 (S.1 36 + 1), zu2 (zu2 (zu2 S.2 37 (S.1 36).toNat s) 38 (S.1 36).toNat b) 39 (S.1 36).toNat (S.1 1)) (n + 1) → zStep zOwn o h o1 h1 → Q (.inl (some (.int (zI (S.1 36))))) h1) : zC g (.code yX11_fine cX11_fine 4 (Option.some Jvm.ClassFile.FieldType.int)) yX11_fine 17 6 150 [.ref x, .int (zI v), .int (zI b)] h Q := by
  refine zC_of (M := mX11_fine) (lv := [some (.ref x), some (.int (zI v)), some (.int (zI b)), none]) (by decide) rfl rfl (Nat.le_of_ble_eq_true rfl) rfl rfl ?_
  have e1 := hI.vehicles
  have e2 := hI.today
  have e3 := hI.people
  have e4 := hI.sightings
  have e5 := hI.fines
  have e6 := hI.calls
  have nv := y.nv
  have np := y.np
  have ns := y.ns
  have nf := y.nf
  have e9 := hI.signs
  refine r_aload_0 1 rfl (dd_X11_fine 0 _ _ _ rfl) ?_
  refine r_iload_1 2 rfl (dd_X11_fine 1 _ _ _ rfl) ?_
  refine r_callV1 (lvl := 13) (mc1 := 1) (ms1 := 6) 5 144 hg rfl md_X11_sightingAt zc_X11 y.mn.1 wi_X11_sightingAt wv_X11_sightingAt (tb_5 150 _ rfl) (by decide) (by decide) rfl (Nat.le_of_ble_eq_true rfl) (Nat.le_of_ble_eq_true rfl) (Nat.le_of_ble_eq_true rfl) 5 rfl (dd_X11_fine 2 _ _ _ rfl) ?_
  refine c_X11_sightingAt hg hI y (by omega) (fun hE => ?_) (fun s sa hs hS hs4 => ?_)
  · dsimp only [zCont]
    exact kE hE
  · dsimp only [zCont, Option.toList, List.cons_append, List.nil_append]
    refine r_astore_3 6 rfl (by decide) rfl (dd_X11_fine 3 _ _ _ rfl) ?_
    refine r_iload_2 7 rfl (dd_X11_fine 4 _ _ _ rfl) ?_
    refine r_iconst 8 rfl (dd_X11_fine 5 _ _ _ rfl) ?_
    refine r_ldc hg (tb_5 3 _ rfl) 10 rfl (dd_X11_fine 6 _ _ _ rfl) ?_
    refine r_top 100000 rfl ?_
    refine r_callS3 (lvl := 10) (mc1 := 0) (ms1 := 0) 5 144 hg rfl md_X11_isWithin ws_X11_isWithin (tb_1 171 _ rfl) (by decide) (by decide) rfl (Nat.le_of_ble_eq_true rfl) (Nat.le_of_ble_eq_true rfl) (Nat.le_of_ble_eq_true rfl) 13 rfl (dd_X11_fine 7 _ _ _ rfl) ?_
    refine c_X11_isWithin hg (by omega) (by omega) (by omega) (fun hb1 => ?_) (fun hb1 => ?_)
    · dsimp only [zCont, Option.toList, List.cons_append, List.nil_append]
      refine r_ifne (by omega) 16 rfl 24 rfl (dd_X11_fine 8 _ _ _ rfl) (fun _ => ?_) (fun q => absurd q (by decide))
      refine r_aload_0 25 rfl (dd_X11_fine 13 _ _ _ rfl) ?_
      refine r_aload_3 26 rfl (dd_X11_fine 14 _ _ _ rfl) ?_
      refine r_callV1 (lvl := 15) (mc1 := 0) (ms1 := 0) 5 144 hg rfl md_X11_vehicleSeen zc_X11 y.mn.1 wi_X11_vehicleSeen wv_X11_vehicleSeen (tb_5 88 _ rfl) (by decide) (by decide) rfl (Nat.le_of_ble_eq_true rfl) (Nat.le_of_ble_eq_true rfl) (Nat.le_of_ble_eq_true rfl) 29 rfl (dd_X11_fine 15 _ _ _ rfl) ?_
      refine c_X11_vehicleSeen hg hI y hS ?_
      dsimp only [zCont, Option.toList, List.cons_append, List.nil_append]
      have hzn := zseen_range (s := s) hI
      refine r_iconst 30 rfl (dd_X11_fine 16 _ _ _ rfl) ?_
      refine r_if_icmpeq (by omega) (by omega) 33 rfl 45 rfl (dd_X11_fine 17 _ _ _ rfl) (fun hc2 => ?_) (fun hc2 => ?_)
      · refine r_throw hg zt_ISE rfl (by decide) (Nat.le_of_ble_eq_true rfl) (Nat.le_of_ble_eq_true rfl) (Nat.le_of_ble_eq_true rfl) (pc3 := 48) (pc4 := 49) (pc7 := 52) rfl rfl rfl (dd_X11_fine 23 _ _ _ rfl) (dd_X11_fine 24 _ _ _ rfl) (dd_X11_fine 25 _ _ _ rfl) (dd_X11_fine 26 _ _ _ rfl) ?_
        exact k3 s hs (by omega) (by omega) (by omega)
      · refine r_aload_0 34 rfl (dd_X11_fine 18 _ _ _ rfl) ?_
        refine r_getr hg zc_X11 9 (by decide) (fun _ _ _ => rfl) y.mn.2.2.2.2.2.2.2.2.2.2.2 y.mn.1 (Or.inl rfl) (tb_1 130 _ rfl) 37 rfl (dd_X11_fine 19 _ _ _ rfl) ?_
        refine r_callV0 (lvl := 10) (mc1 := 0) (ms1 := 0) 5 144 hg rfl md_Jx4a65c_size_8abf5 zc_Jx4a65c y.lf.1 wi_Jx4a65c_size_8abf5 wv_Jx4a65c_size_8abf5 (tb_2 8 _ rfl) (by decide) (by decide) rfl (Nat.le_of_ble_eq_true rfl) (Nat.le_of_ble_eq_true rfl) (Nat.le_of_ble_eq_true rfl) 40 rfl (dd_X11_fine 20 _ _ _ rfl) ?_
        refine c_Jx4a65c_size_8abf5 hg y.lf ?_
        dsimp only [zCont, Option.toList, List.cons_append, List.nil_append]
        refine r_bipush (by decide) 42 rfl (dd_X11_fine 21 _ _ _ rfl) ?_
        refine r_if_icmplt (by omega) (by omega) 45 rfl 53 rfl (dd_X11_fine 22 _ _ _ rfl) (fun hc3 => ?_) (fun hc3 => ?_)
        · refine r_aload_0 54 rfl (dd_X11_fine 27 _ _ _ rfl) ?_
          refine r_getr hg zc_X11 9 (by decide) (fun _ _ _ => rfl) y.mn.2.2.2.2.2.2.2.2.2.2.2 y.mn.1 (Or.inl rfl) (tb_1 130 _ rfl) 57 rfl (dd_X11_fine 28 _ _ _ rfl) ?_
          refine r_new 4 139 hg zc_X3 (tb_5 161 _ rfl) (tb_5 162 _ rfl) (tb_1 34 _ rfl) (Nat.le_of_ble_eq_true rfl) (Nat.le_of_ble_eq_true rfl) zd_X3 60 rfl (dd_X11_fine 29 _ _ _ rfl) (fun a hz_a => ?_)
          refine r_dup rfl 61 rfl (dd_X11_fine 30 _ _ _ rfl) ?_
          refine r_aload_3 62 rfl (dd_X11_fine 31 _ _ _ rfl) ?_
          refine r_iload_2 63 rfl (dd_X11_fine 32 _ _ _ rfl) ?_
          have mn0 : fi_ (nob h a 6) x 0 = S.1 1 := (if_neg (fun q => by have := y.mn.1; rw [q, hz_a] at this; cases this)).trans y.mn.2.2.1
          have mnk : kd_ (nob h a 6) x = 15 := (zu1_ne (fun q => by have := y.mn.1; rw [q, hz_a] at this; cases this)).trans y.mn.1
          refine r_aload_0 64 rfl (dd_X11_fine 33 _ _ _ rfl) ?_
          refine r_geti hg zc_X11 0 (by decide) (fun _ _ _ => rfl) mn0 mnk (Or.inl rfl) (tb_1 121 _ rfl) 67 rfl (dd_X11_fine 34 _ _ _ rfl) ?_
          refine r_callI3 (lvl := 10) (mc1 := 0) (ms1 := 0) 4 139 hg rfl md_X3_init wi_X3_init rfl rfl (tb_5 163 _ rfl) (by decide) (by decide) rfl (Nat.le_of_ble_eq_true rfl) (Nat.le_of_ble_eq_true rfl) (Nat.le_of_ble_eq_true rfl) 70 rfl (dd_X11_fine 35 _ _ _ rfl) ?_
          refine c_X3_init (o := zu1 o a (rg 7 Fs.length)) (r := rg 7 Fs.length) hg zu1_at zu1_at (fun h1 q0 q1 q2 q3 q4 q5 => ?_)
          have st1 : zStep (fun q => q = rg 7 Fs.length) o h (zu1 o a (rg 7 Fs.length)) h1 := (step_nob hz_a).trans q5
          have ka : kd_ h1 a = 7 := q5.kd zu1_at (by decide)
          have oa : zu1 o a (rg 7 Fs.length) a = rg 7 Fs.length := zu1_at
          generalize zu1 o a (rg 7 Fs.length) = o1 at st1 oa
          have lf1 := y.lf.fr (st1.fr (r := 9) (by show ¬ _ = _; unfold rg; omega))
          dsimp only [zCont, Option.toList, List.cons_append, List.nil_append]
          refine r_callV1 (lvl := 16) (mc1 := 1) (ms1 := 100) 3 39 hg rfl md_Jx4a65c_add_9ea2d zc_Jx4a65c lf1.1 wi_Jx4a65c_add_9ea2d wv_Jx4a65c_add_9ea2d (tb_2 147 _ rfl) (by decide) (by decide) rfl (Nat.le_of_ble_eq_true rfl) (Nat.le_of_ble_eq_true rfl) (Nat.le_of_ble_eq_true rfl) 73 rfl (dd_X11_fine 36 _ _ _ rfl) ?_
          refine c_Jx4a65c_add_9ea2d hg zc_X3 (tb_6 90 _ rfl) hm lf1 (by omega) (fun z hz => by obtain ⟨i, hi⟩ := List.getElem?_of_mem hz; exact st1.kd (y.fi i z hi).1 (by decide)) ka (fun o2 h2 hL st2 => ?_)
          dsimp only [zCont, Option.toList, List.cons_append, List.nil_append]
          refine r_pop rfl 74 rfl (dd_X11_fine 37 _ _ _ rfl) ?_
          have hF9 : (S.1 36).toNat = Fs.length := by omega
          have st : zStep (fun q => q = 9 ∨ q = rg 7 Fs.length) o h o2 h2 := (st1.mono (fun _ q => Or.inr q)).trans (st2.mono (fun _ q => Or.inl q))
          have ff9 := y.ff Fs.length (by omega)
          have fi1 : FiRep o1 (rg 7 Fs.length) h1 a (zu1 S.1 36 (S.1 36 + 1), zu2 (zu2 (zu2 S.2 37 (S.1 36).toNat s) 38 (S.1 36).toNat b) 39 (S.1 36).toNat (S.1 1)) Fs.length Ss := ⟨ka, oa, q1.trans (by simp [zu2, hF9]), q3.trans (by simp [zu2]; exact ff9.symm), q4.trans (by simp [zu2, hF9]), fun q => by simp [zu2] at q; omega, sa, q0, by simp [zu2, hF9]; exact hS⟩
          have y := y.addFi (S2 := (zu1 S.1 36 (S.1 36 + 1), zu2 (zu2 (zu2 S.2 37 (S.1 36).toNat s) 38 (S.1 36).toNat b) 39 (S.1 36).toNat (S.1 1))) (n2 := n + 1) (Nat.le_succ n) st (fun k i hk => ((zu2_ne (fun q => hk (by omega))).trans ((zu2_ne (fun q => hk (by omega))).trans (zu2_ne (fun q => hk (by omega)))))) (fun k hk => (zu1_ne (fun q => hk (by omega)))) hL (show zu1 S.1 36 (S.1 36 + 1) 36 = S.1 36 + 1 from zu1_at) (fun k i hi => (zu2_ne (fun q => by omega)).trans ((zu2_ne (fun q => by omega)).trans (zu2_ne (fun q => by omega)))) (fi1.fr (st2.fr (r := rg 7 Fs.length) (by show ¬ _ = _; unfold rg; omega)))
          refine r_aload_0 75 rfl (dd_X11_fine 38 _ _ _ rfl) ?_
          refine r_getr hg zc_X11 9 (by decide) (fun _ _ _ => rfl) y.mn.2.2.2.2.2.2.2.2.2.2.2 y.mn.1 (Or.inl rfl) (tb_1 130 _ rfl) 78 rfl (dd_X11_fine 39 _ _ _ rfl) ?_
          refine r_callV0 (lvl := 10) (mc1 := 0) (ms1 := 0) 3 39 hg rfl md_Jx4a65c_size_8abf5 zc_Jx4a65c y.lf.1 wi_Jx4a65c_size_8abf5 wv_Jx4a65c_size_8abf5 (tb_2 8 _ rfl) (by decide) (by decide) rfl (Nat.le_of_ble_eq_true rfl) (Nat.le_of_ble_eq_true rfl) (Nat.le_of_ble_eq_true rfl) 81 rfl (dd_X11_fine 40 _ _ _ rfl) ?_
          refine c_Jx4a65c_size_8abf5 hg y.lf ?_
          dsimp only [zCont, Option.toList, List.cons_append, List.nil_append]
          refine r_iconst 82 rfl (dd_X11_fine 41 _ _ _ rfl) ?_
          refine r_isub 83 rfl (dd_X11_fine 42 _ _ _ rfl) ?_
          refine r_ireturn rfl rfl (dd_X11_fine 43 _ _ _ rfl) ?_
          have k := k0 s hs (by omega) (by omega) ⟨by omega, by omega⟩ _ _ y.ex (st.mono (fun q hq => by rcases hq with hq | hq <;> (show _ ≠ 0; rw [hq]; first | decide | (unfold rg; omega))))
          rw [show (((Fs ++ [a]).length : Nat) : Int) - 1 = S.1 36 by simp; omega]
          exact k
        · refine r_throw hg zt_ISE rfl (by decide) (Nat.le_of_ble_eq_true rfl) (Nat.le_of_ble_eq_true rfl) (Nat.le_of_ble_eq_true rfl) (pc3 := 48) (pc4 := 49) (pc7 := 52) rfl rfl rfl (dd_X11_fine 23 _ _ _ rfl) (dd_X11_fine 24 _ _ _ rfl) (dd_X11_fine 25 _ _ _ rfl) (dd_X11_fine 26 _ _ _ rfl) ?_
          exact k3 s hs (by omega) (by omega) (by omega)
    · dsimp only [zCont, Option.toList, List.cons_append, List.nil_append]
      refine r_ifne (by omega) 16 rfl 24 rfl (dd_X11_fine 8 _ _ _ rfl) (fun q => absurd q (by decide)) (fun _ => ?_)
      refine r_throw hg zt_IAE rfl (by decide) (Nat.le_of_ble_eq_true rfl) (Nat.le_of_ble_eq_true rfl) (Nat.le_of_ble_eq_true rfl) (pc3 := 19) (pc4 := 20) (pc7 := 23) rfl rfl rfl (dd_X11_fine 9 _ _ _ rfl) (dd_X11_fine 10 _ _ _ rfl) (dd_X11_fine 11 _ _ _ rfl) (dd_X11_fine 12 _ _ _ rfl) ?_
      exact k2 s hs (by omega) (by omega)

abbrev mX11_name : zM := (RX11, cX11_name, 5, (Option.some Jvm.ClassFile.FieldType.int), [], "name", 17)
set_option maxRecDepth 20000 in
theorem c_X11_name {g : zGT} {Q : zO → zH → Prop} {h : zH} (hg : zG g) {o : Nat → Nat} {x : Nat} {S : zS} {n : Nat} {Vs Ps Ss Ts Fs Tn : List Nat} {A : Nat → Nat} {G : Nat → Nat → Nat} {Rc : Nat → Nat} (hI : MInv n S) (y : CRep g o h x S n Vs Ps Ss Ts Fs Tn A G Rc) {v b : Int} (hv : zR v) (hb : zR b) (kE : ¬ (0 ≤ v ∧ v < S.1 36 ∧ 0 ≤ b ∧ b < S.1 12) → Q (.inr "java/lang/IndexOutOfBoundsException") h) (k2 : ∀ f : Nat, v = f → (0 ≤ v ∧ v < S.1 36 ∧ 0 ≤ b ∧ b < S.1 12) → ¬ (zwhose S f ≠ -1 ∧ zwhose S f ≠ b ∧ S.1 1 - S.2 39 f ≤ 14 ∧ S.2 40 f < 3) → Q (.inr "java/lang/IllegalStateException") h) (k0 : ∀ f : Nat, v = f → (0 ≤ v ∧ v < S.1 36 ∧ 0 ≤ b ∧ b < S.1 12) → (zwhose S f ≠ -1 ∧ zwhose S f ≠ b ∧ S.1 1 - S.2 39 f ≤ 14 ∧ S.2 40 f < 3) → ∀ o1 h1, CEx g o1 h1 x (S.1, zu2 (zu2 (zu2 S.2 40 f (S.2 40 f + 1)) 41 f b) 39 f (S.1 1)) (n + 1) → zStep zOwn o h o1 h1 → Q (.inl (some (.int (zI (zwhose S f))))) h1) : zC g (.code yX11_name cX11_name 5 (Option.some Jvm.ClassFile.FieldType.int)) yX11_name 17 4 40 [.ref x, .int (zI v), .int (zI b)] h Q := by
  refine zC_of (M := mX11_name) (lv := [some (.ref x), some (.int (zI v)), some (.int (zI b)), none, none]) (by decide) rfl rfl (Nat.le_of_ble_eq_true rfl) rfl rfl ?_
  have e1 := hI.vehicles
  have e2 := hI.today
  have e3 := hI.people
  have e4 := hI.sightings
  have e5 := hI.fines
  have e6 := hI.calls
  have nv := y.nv
  have np := y.np
  have ns := y.ns
  have nf := y.nf
  have e9 := hI.signs
  refine r_aload_0 1 rfl (dd_X11_name 0 _ _ _ rfl) ?_
  refine r_iload_1 2 rfl (dd_X11_name 1 _ _ _ rfl) ?_
  refine r_callV1 (lvl := 13) (mc1 := 1) (ms1 := 6) 3 34 hg rfl md_X11_fineAt zc_X11 y.mn.1 wi_X11_fineAt wv_X11_fineAt (tb_5 195 _ rfl) (by decide) (by decide) rfl (Nat.le_of_ble_eq_true rfl) (Nat.le_of_ble_eq_true rfl) (Nat.le_of_ble_eq_true rfl) 5 rfl (dd_X11_name 2 _ _ _ rfl) ?_
  refine c_X11_fineAt hg hI y (by omega) (fun hE => ?_) (fun f fa hf hF hf4 => ?_)
  · dsimp only [zCont]
    exact kE (by omega)
  · dsimp only [zCont, Option.toList, List.cons_append, List.nil_append]
    refine r_astore_3 6 rfl (by decide) rfl (dd_X11_name 3 _ _ _ rfl) ?_
    obtain ⟨f1, f2, f3, f4, f5, f6, si, f7, f8⟩ := id (y.fi f fa hF)
    have g1 := hI.since f
    have g2 := hI.names f
    refine r_aload_0 7 rfl (dd_X11_name 4 _ _ _ rfl) ?_
    refine r_iload_2 8 rfl (dd_X11_name 5 _ _ _ rfl) ?_
    refine r_callV1 (lvl := 13) (mc1 := 1) (ms1 := 6) 2 28 hg rfl md_X11_personAt zc_X11 y.mn.1 wi_X11_personAt wv_X11_personAt (tb_3 3 _ rfl) (by decide) (by decide) rfl (Nat.le_of_ble_eq_true rfl) (Nat.le_of_ble_eq_true rfl) (Nat.le_of_ble_eq_true rfl) 11 rfl (dd_X11_name 6 _ _ _ rfl) ?_
    refine c_X11_personAt hg hI y (by omega) (fun hE => ?_) (fun p pa hp hP hp4 => ?_)
    · dsimp only [zCont]
      exact kE (by omega)
    · dsimp only [zCont, Option.toList, List.cons_append, List.nil_append]
      refine r_pop rfl 12 rfl (dd_X11_name 7 _ _ _ rfl) ?_
      refine r_aload_0 13 rfl (dd_X11_name 8 _ _ _ rfl) ?_
      refine r_aload_3 14 rfl (dd_X11_name 9 _ _ _ rfl) ?_
      refine r_callV1 (lvl := 16) (mc1 := 0) (ms1 := 0) 2 28 hg rfl md_X11_payerOf zc_X11 y.mn.1 wi_X11_payerOf wv_X11_payerOf (tb_5 199 _ rfl) (by decide) (by decide) rfl (Nat.le_of_ble_eq_true rfl) (Nat.le_of_ble_eq_true rfl) (Nat.le_of_ble_eq_true rfl) 17 rfl (dd_X11_name 10 _ _ _ rfl) ?_
      refine c_X11_payerOf hg hI y hF ?_
      dsimp only [zCont, Option.toList, List.cons_append, List.nil_append]
      have hwn := zwhose_range (f := f) hI
      refine r_istore_4 19 rfl (by decide) rfl (dd_X11_name 11 _ _ _ rfl) ?_
      refine r_iload_4 21 rfl (dd_X11_name 12 _ _ _ rfl) ?_
      refine r_iconst 22 rfl (dd_X11_name 13 _ _ _ rfl) ?_
      refine r_if_icmpeq (by omega) (by omega) 25 rfl 53 rfl (dd_X11_name 14 _ _ _ rfl) (fun hc1 => ?_) (fun hc1 => ?_)
      · refine r_throw hg zt_ISE rfl (by decide) (Nat.le_of_ble_eq_true rfl) (Nat.le_of_ble_eq_true rfl) (Nat.le_of_ble_eq_true rfl) (pc3 := 56) (pc4 := 57) (pc7 := 60) rfl rfl rfl (dd_X11_name 29 _ _ _ rfl) (dd_X11_name 30 _ _ _ rfl) (dd_X11_name 31 _ _ _ rfl) (dd_X11_name 32 _ _ _ rfl) ?_
        exact k2 f hf (by omega) (by omega)
      · refine r_iload_4 27 rfl (dd_X11_name 15 _ _ _ rfl) ?_
        refine r_iload_2 28 rfl (dd_X11_name 16 _ _ _ rfl) ?_
        refine r_if_icmpeq (by omega) (by omega) 31 rfl 53 rfl (dd_X11_name 17 _ _ _ rfl) (fun hc2 => ?_) (fun hc2 => ?_)
        · refine r_throw hg zt_ISE rfl (by decide) (Nat.le_of_ble_eq_true rfl) (Nat.le_of_ble_eq_true rfl) (Nat.le_of_ble_eq_true rfl) (pc3 := 56) (pc4 := 57) (pc7 := 60) rfl rfl rfl (dd_X11_name 29 _ _ _ rfl) (dd_X11_name 30 _ _ _ rfl) (dd_X11_name 31 _ _ _ rfl) (dd_X11_name 32 _ _ _ rfl) ?_
          exact k2 f hf (by omega) (by omega)
        · refine r_aload_0 32 rfl (dd_X11_name 18 _ _ _ rfl) ?_
          refine r_geti hg zc_X11 0 (by decide) (fun _ _ _ => rfl) y.mn.2.2.1 y.mn.1 (Or.inl rfl) (tb_1 121 _ rfl) 35 rfl (dd_X11_name 19 _ _ _ rfl) ?_
          refine r_aload_3 36 rfl (dd_X11_name 20 _ _ _ rfl) ?_
          refine r_geti hg zc_X3 4 (by decide) (fun _ _ _ => rfl) f5 f1 (Or.inl rfl) (tb_5 176 _ rfl) 39 rfl (dd_X11_name 21 _ _ _ rfl) ?_
          refine r_bipush (by decide) 41 rfl (dd_X11_name 22 _ _ _ rfl) ?_
          refine r_iadd 42 rfl (dd_X11_name 23 _ _ _ rfl) ?_
          refine r_if_icmpgt (by omega) (by omega) 45 rfl 53 rfl (dd_X11_name 24 _ _ _ rfl) (fun hc3 => ?_) (fun hc3 => ?_)
          · refine r_throw hg zt_ISE rfl (by decide) (Nat.le_of_ble_eq_true rfl) (Nat.le_of_ble_eq_true rfl) (Nat.le_of_ble_eq_true rfl) (pc3 := 56) (pc4 := 57) (pc7 := 60) rfl rfl rfl (dd_X11_name 29 _ _ _ rfl) (dd_X11_name 30 _ _ _ rfl) (dd_X11_name 31 _ _ _ rfl) (dd_X11_name 32 _ _ _ rfl) ?_
            exact k2 f hf (by omega) (by omega)
          · refine r_aload_3 46 rfl (dd_X11_name 25 _ _ _ rfl) ?_
            refine r_geti hg zc_X3 3 (by decide) (fun _ _ _ => rfl) f4 f1 (Or.inl rfl) (tb_5 174 _ rfl) 49 rfl (dd_X11_name 26 _ _ _ rfl) ?_
            refine r_iconst 50 rfl (dd_X11_name 27 _ _ _ rfl) ?_
            refine r_if_icmplt (by omega) (by omega) 53 rfl 61 rfl (dd_X11_name 28 _ _ _ rfl) (fun hc4 => ?_) (fun hc4 => ?_)
            · refine r_aload_3 62 rfl (dd_X11_name 33 _ _ _ rfl) ?_
              refine r_iload_2 63 rfl (dd_X11_name 34 _ _ _ rfl) ?_
              refine r_aload_0 64 rfl (dd_X11_name 35 _ _ _ rfl) ?_
              refine r_geti hg zc_X11 0 (by decide) (fun _ _ _ => rfl) y.mn.2.2.1 y.mn.1 (Or.inl rfl) (tb_1 121 _ rfl) 67 rfl (dd_X11_name 36 _ _ _ rfl) ?_
              refine r_callV2 (lvl := 10) (mc1 := 0) (ms1 := 0) 2 28 hg rfl md_X3_passTo zc_X3 f1 wi_X3_passTo wv_X3_passTo (tb_5 203 _ rfl) (by decide) (by decide) rfl (Nat.le_of_ble_eq_true rfl) (Nat.le_of_ble_eq_true rfl) (Nat.le_of_ble_eq_true rfl) 70 rfl (dd_X11_name 37 _ _ _ rfl) ?_
              refine c_X3_passTo hg f1 f2 f4 (fun h1 q0 q1 q2 q3 q4 st => ?_)
              dsimp only [zCont, Option.toList, List.cons_append, List.nil_append]
              refine r_iload_4 72 rfl (dd_X11_name 38 _ _ _ rfl) ?_
              refine r_ireturn rfl rfl (dd_X11_name 39 _ _ _ rfl) ?_
              have fi1 : FiRep o (rg 7 f) h1 fa (S.1, zu2 (zu2 (zu2 S.2 40 f (S.2 40 f + 1)) 41 f b) 39 f (S.1 1)) f Ss := ⟨st.kd f1 (by decide), f2, (q0 1 (by decide)).trans (f3.trans (by simp [zu2])), q2.trans (by simp [zu2]), q3.trans (by simp [zu2]), fun _ => q1.trans (by simp [zu2]), si, q4.trans f7, by simp [zu2]; exact f8⟩
              have z := y.toFi (S2 := (S.1, zu2 (zu2 (zu2 S.2 40 f (S.2 40 f + 1)) 41 f b) 39 f (S.1 1))) (n2 := n + 1) (Nat.le_succ n) st (fun k i hk => ((zu2_ne (fun q => hk (by omega))).trans ((zu2_ne (fun q => hk (by omega))).trans (zu2_ne (fun q => hk (by omega)))))) (fun k _ => rfl) (f := f) (by omega) (fun k i hi => (zu2_ne (fun q => hi q.2)).trans ((zu2_ne (fun q => hi q.2)).trans (zu2_ne (fun q => hi q.2)))) (fun a ha => by obtain rfl : fa = a := Option.some.inj (hF.symm.trans ha); exact fi1)
              exact k0 f hf (by omega) (by omega) _ _ z.ex (st.mono (fun q hq => by show q ≠ 0; rw [show q = _ from hq]; first | decide | (unfold rg; omega)))
            · refine r_throw hg zt_ISE rfl (by decide) (Nat.le_of_ble_eq_true rfl) (Nat.le_of_ble_eq_true rfl) (Nat.le_of_ble_eq_true rfl) (pc3 := 56) (pc4 := 57) (pc7 := 60) rfl rfl rfl (dd_X11_name 29 _ _ _ rfl) (dd_X11_name 30 _ _ _ rfl) (dd_X11_name 31 _ _ _ rfl) (dd_X11_name 32 _ _ _ rfl) ?_
              exact k2 f hf (by omega) (by omega)

theorem zplate_new {S S2 : zS} {v : Nat} {p T : Int} (hv : v < 12) (hp : 0 ≤ p ∧ p < 67600) (hT : 0 ≤ T ∧ T ≤ 20000) (h18 : S2.1 18 = S.1 18 + 1) (h0 : 0 ≤ S.1 18) (h19 : S2.2 19 (S.1 18).toNat = zpack p v T) (hot : ∀ i, i ≠ (S.1 18).toNat → S2.2 19 i = S.2 19 i) (u : Nat) (w : Int) : zplate S2 u w = if u = v ∧ T ≤ w then p else zplate S u w := by
  have hz : ∀ k, k ≤ (S.1 18).toNat → zpo S2.2 u w k = zpo S.2 u w k := by
    intro k
    induction k with
    | zero => intro _; rfl
    | succ k ih => intro hk; unfold zpo; rw [ih (by omega), hot k (by omega)]
  unfold zplate
  rw [h18, show (S.1 18 + 1).toNat = (S.1 18).toNat + 1 by omega]
  show (if S2.2 19 (S.1 18).toNat / 131072 % 16 = (u : Int) ∧ S2.2 19 (S.1 18).toNat / 2097152 ≤ w then S2.2 19 (S.1 18).toNat % 131072 else zpo S2.2 u w (S.1 18).toNat) = _
  rw [h19, hz _ (Nat.le_refl _)]
  have e1 : zpack p v T / 131072 % 16 = v := by unfold zpack; omega
  have e2 : zpack p v T / 2097152 = T := by unfold zpack; omega
  have e3 : zpack p v T % 131072 = p := by unfold zpack; omega
  rw [e1, e2, e3]
  by_cases hq : u = v ∧ T ≤ w
  · rw [if_pos hq, if_pos (by omega)]
  · rw [if_neg hq, if_neg (by omega)]
abbrev mX11_give : zM := (RX11, cX11_give, 3, (Option.none : Option Jvm.ClassFile.FieldType), [], "give", 14)
set_option maxRecDepth 20000 in
theorem c_X11_give {g : zGT} {Q : zO → zH → Prop} {h : zH} (hg : zG g) {o : Nat → Nat} {x : Nat} {S : zS} {n : Nat} {Vs Ps Ss Ts Fs Tn : List Nat} {A : Nat → Nat} {G : Nat → Nat → Nat} {Rc : Nat → Nat} (hI : MInv n S) (y : CRep g o h x S n Vs Ps Ss Ts Fs Tn A G Rc) {u va : Nat} (hV : Vs[u]? = some va) {p : Int} (hp : 0 ≤ p) (hp2 : p < 67600) {R : Int → Int × Int} (hR : CoSem o (rg 3 u) h (G 4 u) n (-1) R) (k : ∀ o1 h1, SeRep o1 3 h1 (A 2) (S.1, zu2 S.2 17 (p / 64).toNat (zset (S.2 17 (p / 64).toNat) (p % 64))) → CoSem o1 (rg 3 u) h1 (G 4 u) (n + 1) (-1) (fun w => if S.1 1 ≤ w ∧ (R w).1 ≤ S.1 1 then (S.1 1, p) else R w) → zStep (fun q => q = 3 ∨ q = rg 3 u) o h o1 h1 → Q (.inl none) h1) : zC g (.code yX11_give cX11_give 3 (Option.none : Option Jvm.ClassFile.FieldType)) yX11_give 14 2 4200 [.ref x, .int (zI p), .ref va] h Q := by
  refine zC_of (M := mX11_give) (lv := [some (.ref x), some (.int (zI p)), some (.ref va)]) (by decide) rfl rfl (Nat.le_of_ble_eq_true rfl) rfl rfl ?_
  have e1 := hI.vehicles
  have e2 := hI.today
  have e3 := hI.people
  have e4 := hI.sightings
  have e5 := hI.fines
  have e6 := hI.calls
  have nv := y.nv
  have np := y.np
  have ns := y.ns
  have nf := y.nf
  have e9 := hI.signs
  obtain ⟨sb, sgv, s1, s2, s3, s4, s5, s6, s7, s8, s9, s10, s11, s12, s13⟩ := id y.se
  refine r_aload_0 1 rfl (dd_X11_give 0 _ _ _ rfl) ?_
  refine r_getr hg zc_X11 2 (by decide) (fun _ _ _ => rfl) y.mn.2.2.2.2.2.1 y.mn.1 (Or.inl rfl) (tb_1 123 _ rfl) 4 rfl (dd_X11_give 1 _ _ _ rfl) ?_
  refine r_iload_1 5 rfl (dd_X11_give 2 _ _ _ rfl) ?_
  refine r_callV1 (lvl := 10) (mc1 := 0) (ms1 := 0) 2 4200 hg rfl md_X6_markGiven zc_X6 s1 wi_X6_markGiven wv_X6_markGiven (tb_4 153 _ rfl) (by decide) (by decide) rfl (Nat.le_of_ble_eq_true rfl) (Nat.le_of_ble_eq_true rfl) (Nat.le_of_ble_eq_true rfl) 8 rfl (dd_X11_give 3 _ _ _ rfl) ?_
  refine c_X6_markGiven hg hI y.se (by omega) (by omega) (fun h1 hse st1 => ?_)
  have vo1 := (y.vo u va hV).fr (st1.fr (r := rg 0 u) (by show ¬ _ = _; unfold rg; omega))
  have mn1 := y.mn.fr (st1.fr (r := 1) (by show ¬ _ = _; decide))
  have hR1 := hR.fr (st1.fr (r := rg 3 u) (by show ¬ _ = _; unfold rg; omega))
  dsimp only [zCont, Option.toList, List.cons_append, List.nil_append]
  refine r_aload_2 9 rfl (dd_X11_give 4 _ _ _ rfl) ?_
  refine r_getr hg zc_X10 4 (by decide) (fun _ _ _ => rfl) vo1.2.2.2.2.2.2.1 vo1.1 (Or.inl rfl) (tb_2 127 _ rfl) 12 rfl (dd_X11_give 5 _ _ _ rfl) ?_
  refine r_aload_0 13 rfl (dd_X11_give 6 _ _ _ rfl) ?_
  refine r_geti hg zc_X11 0 (by decide) (fun _ _ _ => rfl) mn1.2.2.1 mn1.1 (Or.inl rfl) (tb_1 121 _ rfl) 16 rfl (dd_X11_give 7 _ _ _ rfl) ?_
  refine r_iload_1 17 rfl (dd_X11_give 8 _ _ _ rfl) ?_
  refine r_callV2 (lvl := 13) (mc1 := 2) (ms1 := 4200) 0 0 hg rfl md_X1_put zc_X1 hR1.own.1 wi_X1_put wv_X1_put (tb_4 157 _ rfl) (by decide) (by decide) rfl (Nat.le_of_ble_eq_true rfl) (Nat.le_of_ble_eq_true rfl) (Nat.le_of_ble_eq_true rfl) 20 rfl (dd_X11_give 9 _ _ _ rfl) ?_
  refine c_X1_putS hg hR1 (by omega) (by omega) (by omega) (fun o2 h2 hC st2 => ?_)
  dsimp only [zCont, Option.toList, List.cons_append, List.nil_append]
  refine r_vreturn rfl (dd_X11_give 10 _ _ _ rfl) ?_
  exact k _ _ (hse.fr (st2.fr (r := 3) (by show ¬ _ = _; unfold rg; omega))) hC ((st1.mono (fun _ q => Or.inl q)).trans (st2.mono (fun _ q => Or.inr q)))

abbrev mX11_allot : zM := (RX11, cX11_allot, 4, (Option.some Jvm.ClassFile.FieldType.int), [], "allot", 15)
set_option maxRecDepth 20000 in
theorem c_X11_allot {g : zGT} {Q : zO → zH → Prop} {h : zH} (hg : zG g) {o : Nat → Nat} {x : Nat} {S : zS} {n : Nat} {Vs Ps Ss Ts Fs Tn : List Nat} {A : Nat → Nat} {G : Nat → Nat → Nat} {Rc : Nat → Nat} (hI : MInv n S) (y : CRep g o h x S n Vs Ps Ss Ts Fs Tn A G Rc) {v : Int} (hn : n < 512) (hv : zR v) (kE : ¬ (0 ≤ v ∧ v < S.1 4) → Q (.inr "java/lang/IndexOutOfBoundsException") h) (k2 : ∀ u : Nat, v = u → v < S.1 4 → (zstate S u (S.1 1) = 4 ∨ znext S = 67600) → Q (.inr "java/lang/IllegalStateException") h) (k0 : ∀ u : Nat, v = u → v < S.1 4 → zstate S u (S.1 1) ≠ 4 → znext S < 67600 → ∀ o1 h1, CEx g o1 h1 x (zu1 (zu1 S.1 16 (znext S)) 18 (S.1 18 + 1), zu2 (zu2 S.2 17 ((znext S) / 64).toNat (zset (S.2 17 ((znext S) / 64).toNat) ((znext S) % 64))) 19 (S.1 18).toNat (zpack (znext S) u (S.1 1))) (n + 1) → zStep zOwn o h o1 h1 → Q (.inl (some (.int (zI (znext S))))) h1) : zC g (.code yX11_allot cX11_allot 4 (Option.some Jvm.ClassFile.FieldType.int)) yX11_allot 15 8 4300 [.ref x, .int (zI v)] h Q := by
  refine zC_of (M := mX11_allot) (lv := [some (.ref x), some (.int (zI v)), none, none]) (by decide) rfl rfl (Nat.le_of_ble_eq_true rfl) rfl rfl ?_
  have e1 := hI.vehicles
  have e2 := hI.today
  have e3 := hI.people
  have e4 := hI.sightings
  have e5 := hI.fines
  have e6 := hI.calls
  have nv := y.nv
  have np := y.np
  have ns := y.ns
  have nf := y.nf
  have e9 := hI.signs
  have ea := hI.allotted
  refine r_aload_0 1 rfl (dd_X11_allot 0 _ _ _ rfl) ?_
  refine r_iload_1 2 rfl (dd_X11_allot 1 _ _ _ rfl) ?_
  refine r_callV1 (lvl := 13) (mc1 := 1) (ms1 := 6) 7 4294 hg rfl md_X11_vehicleAt zc_X11 y.mn.1 wi_X11_vehicleAt wv_X11_vehicleAt (tb_3 29 _ rfl) (by decide) (by decide) rfl (Nat.le_of_ble_eq_true rfl) (Nat.le_of_ble_eq_true rfl) (Nat.le_of_ble_eq_true rfl) 5 rfl (dd_X11_allot 2 _ _ _ rfl) ?_
  refine c_X11_vehicleAt hg hI y (by omega) (fun hE => ?_) (fun u va hu hV hu4 => ?_)
  · dsimp only [zCont]
    exact kE hE
  · dsimp only [zCont, Option.toList, List.cons_append, List.nil_append]
    refine r_astore_2 6 rfl (by decide) rfl (dd_X11_allot 3 _ _ _ rfl) ?_
    obtain ⟨sb, sgv, s1, s2, s3, s4, s5, s6, s7, s8, s9, s10, s11, s12, s13⟩ := id y.se
    refine r_aload_0 7 rfl (dd_X11_allot 4 _ _ _ rfl) ?_
    refine r_getr hg zc_X11 2 (by decide) (fun _ _ _ => rfl) y.mn.2.2.2.2.2.1 y.mn.1 (Or.inl rfl) (tb_1 123 _ rfl) 10 rfl (dd_X11_allot 5 _ _ _ rfl) ?_
    refine r_callV0 (lvl := 11) (mc1 := 0) (ms1 := 0) 7 4294 hg rfl md_X6_next zc_X6 s1 wi_X6_next wv_X6_next (tb_4 132 _ rfl) (by decide) (by decide) rfl (Nat.le_of_ble_eq_true rfl) (Nat.le_of_ble_eq_true rfl) (Nat.le_of_ble_eq_true rfl) 13 rfl (dd_X11_allot 6 _ _ _ rfl) ?_
    refine c_X6_next hg hI y.se ?_
    have hnx := znext_range hI
    obtain ⟨PP, hPP⟩ : ∃ q, q = (if znext S = 67600 then -1 else znext S) := ⟨_, rfl⟩
    rw [← hPP]
    have hPr : PP = -1 ∧ znext S = 67600 ∨ PP = znext S ∧ znext S < 67600 := by rw [hPP]; split <;> omega
    dsimp only [zCont, Option.toList, List.cons_append, List.nil_append]
    refine r_istore_3 14 rfl (by decide) rfl (dd_X11_allot 7 _ _ _ rfl) ?_
    refine r_aload_0 15 rfl (dd_X11_allot 8 _ _ _ rfl) ?_
    refine r_aload_2 16 rfl (dd_X11_allot 9 _ _ _ rfl) ?_
    refine r_callV1 (lvl := 14) (mc1 := 0) (ms1 := 0) 7 4294 hg rfl md_X11_isGoneToday zc_X11 y.mn.1 wi_X11_isGoneToday wv_X11_isGoneToday (tb_4 141 _ rfl) (by decide) (by decide) rfl (Nat.le_of_ble_eq_true rfl) (Nat.le_of_ble_eq_true rfl) (Nat.le_of_ble_eq_true rfl) 19 rfl (dd_X11_allot 10 _ _ _ rfl) ?_
    refine c_X11_isGoneToday hg hI y hV (fun hgo => ?_) (fun hgo => ?_)
    · dsimp only [zCont, Option.toList, List.cons_append, List.nil_append]
      refine r_ifne (by omega) 22 rfl 27 rfl (dd_X11_allot 11 _ _ _ rfl) (fun _ => ?_) (fun q => absurd q (by decide))
      refine r_throw hg zt_ISE rfl (by decide) (Nat.le_of_ble_eq_true rfl) (Nat.le_of_ble_eq_true rfl) (Nat.le_of_ble_eq_true rfl) (pc3 := 30) (pc4 := 31) (pc7 := 34) rfl rfl rfl (dd_X11_allot 15 _ _ _ rfl) (dd_X11_allot 16 _ _ _ rfl) (dd_X11_allot 17 _ _ _ rfl) (dd_X11_allot 18 _ _ _ rfl) ?_
      exact k2 u hu (by omega) (by first | exact Or.inl (by assumption) | exact Or.inr (by omega))
    · dsimp only [zCont, Option.toList, List.cons_append, List.nil_append]
      refine r_ifne (by omega) 22 rfl 27 rfl (dd_X11_allot 11 _ _ _ rfl) (fun q => absurd q (by decide)) (fun _ => ?_)
      refine r_iload_3 23 rfl (dd_X11_allot 12 _ _ _ rfl) ?_
      refine r_iconst 24 rfl (dd_X11_allot 13 _ _ _ rfl) ?_
      refine r_if_icmpne (by omega) (by omega) 27 rfl 35 rfl (dd_X11_allot 14 _ _ _ rfl) (fun hc1 => ?_) (fun hc1 => ?_)
      · obtain ⟨rfl, hlt⟩ : PP = znext S ∧ znext S < 67600 := by omega
        have hul : u < Vs.length := by omega
        obtain ⟨R, hR0, hRp, hRt⟩ := y.pl u hul
        refine r_aload_0 36 rfl (dd_X11_allot 19 _ _ _ rfl) ?_
        refine r_getr hg zc_X11 2 (by decide) (fun _ _ _ => rfl) y.mn.2.2.2.2.2.1 y.mn.1 (Or.inl rfl) (tb_1 123 _ rfl) 39 rfl (dd_X11_allot 20 _ _ _ rfl) ?_
        refine r_iload_3 40 rfl (dd_X11_allot 21 _ _ _ rfl) ?_
        refine r_puti hg zc_X6 2 (by decide) rfl (fun _ _ _ => rfl) rfl rfl (by decide) s1 (Or.inl rfl) (tb_1 67 _ rfl) 43 rfl (dd_X11_allot 22 _ _ _ rfl) ?_
        have st : zStep (fun q => q = 3) o h o (sfi h (A 2) 2 (znext S)) := step_sfi (R := fun q => q = 3) s2
        have hI := MInv.s16 (sc := S.1) (ar := S.2) hI (v := znext S) (by omega)
        have y := y.toSe (S2 := (zu1 S.1 16 (znext S), S.2)) (n2 := n) (Nat.le_refl n) st (fun k i _ => rfl) (fun k hk => (zu1_ne (fun q => hk (by omega)))) ⟨sb, sgv, s1, s2, s3, s4, zu2_at.trans (show zu1 S.1 16 (znext S) 16 = znext S from zu1_at).symm, s6, s7, s8, s9, s10, s11, s12, s13⟩
        have hR := hR0.fr (st.fr (r := rg 3 u) (by show ¬ _ = _; unfold rg; omega))
        refine r_aload_0 44 rfl (dd_X11_allot 23 _ _ _ rfl) ?_
        refine r_iload_3 45 rfl (dd_X11_allot 24 _ _ _ rfl) ?_
        refine r_aload_2 46 rfl (dd_X11_allot 25 _ _ _ rfl) ?_
        refine r_callV2 (lvl := 14) (mc1 := 2) (ms1 := 4200) 5 94 hg rfl md_X11_give zc_X11 y.mn.1 wi_X11_give wv_X11_give (tb_4 149 _ rfl) (by decide) (by decide) rfl (Nat.le_of_ble_eq_true rfl) (Nat.le_of_ble_eq_true rfl) (Nat.le_of_ble_eq_true rfl) 49 rfl (dd_X11_allot 26 _ _ _ rfl) ?_
        refine c_X11_give hg hI y hV (by omega) (by omega) hR (fun o3 h3 hse3 hC3 st3 => ?_)
        dsimp only [zCont, Option.toList, List.cons_append, List.nil_append]
        refine r_iload_3 50 rfl (dd_X11_allot 27 _ _ _ rfl) ?_
        refine r_ireturn rfl rfl (dd_X11_allot 28 _ _ _ rfl) ?_
        have hze : ∀ (u2 : Nat) w, zplate (zu1 (zu1 S.1 16 (znext S)) 18 (S.1 18 + 1), zu2 (zu2 S.2 17 ((znext S) / 64).toNat (zset (S.2 17 ((znext S) / 64).toNat) ((znext S) % 64))) 19 (S.1 18).toNat (zpack (znext S) u (S.1 1))) u2 w = if u2 = u ∧ S.1 1 ≤ w then (znext S) else zplate S u2 w := zplate_new (S := S) (S2 := (zu1 (zu1 S.1 16 (znext S)) 18 (S.1 18 + 1), zu2 (zu2 S.2 17 ((znext S) / 64).toNat (zset (S.2 17 ((znext S) / 64).toNat) ((znext S) % 64))) 19 (S.1 18).toNat (zpack (znext S) u (S.1 1)))) (by omega) (by omega) (by omega) (show zu1 (zu1 S.1 16 (znext S)) 18 (S.1 18 + 1) 18 = S.1 18 + 1 from zu1_at) (by omega) (show zu2 (zu2 S.2 17 ((znext S) / 64).toNat (zset (S.2 17 ((znext S) / 64).toNat) ((znext S) % 64))) 19 (S.1 18).toNat (zpack (znext S) u (S.1 1)) 19 (S.1 18).toNat = zpack (znext S) u (S.1 1) from zu2_at) (fun i hi => (zu2_ne (fun q => hi q.2)).trans (zu2_ne (fun q => by omega)))
        have pl3 : PlRep o3 (rg 3 u) h3 (G 4 u) (zu1 (zu1 S.1 16 (znext S)) 18 (S.1 18 + 1), zu2 (zu2 S.2 17 ((znext S) / 64).toNat (zset (S.2 17 ((znext S) / 64).toNat) ((znext S) % 64))) 19 (S.1 18).toNat (zpack (znext S) u (S.1 1))) u (n + 1) := ⟨_, hC3, fun w => by
            have hr1 := hRp w
            have hr2 : (R w).1 ≤ S.1 1 := hRt w
            rw [hze u w]
            show (if S.1 1 ≤ w ∧ (R w).1 ≤ S.1 1 then (S.1 1, (znext S)) else R w).2 = _
            by_cases hq : S.1 1 ≤ w
            · rw [if_pos ⟨hq, hr2⟩, if_pos ⟨rfl, hq⟩]
            · rw [if_neg (fun q => hq q.1), if_neg (fun q => hq q.2)]; exact hr1,
          fun w => by show (if S.1 1 ≤ w ∧ (R w).1 ≤ S.1 1 then (S.1 1, (znext S)) else R w).1 ≤ S.1 1; have hr2 : (R w).1 ≤ S.1 1 := hRt w; split; exact Int.le_refl _; exact hr2⟩
        have st4 : zStep (fun q => q = 2 ∨ q = 3 ∨ q = rg 3 u) o (sfi h (A 2) 2 (znext S)) o3 h3 := st3.mono (fun _ q => Or.inr q)
        have z := y.toPl (S2 := (zu1 (zu1 S.1 16 (znext S)) 18 (S.1 18 + 1), zu2 (zu2 S.2 17 ((znext S) / 64).toNat (zset (S.2 17 ((znext S) / 64).toNat) ((znext S) % 64))) 19 (S.1 18).toNat (zpack (znext S) u (S.1 1)))) (n2 := n + 1) (Nat.le_succ n) (v := u) st4 (fun k i hk => ((zu2_ne (fun q => hk (by omega))).trans (zu2_ne (fun q => hk (by omega))))) (fun k hk => (zu1_ne (fun q => hk (by omega)))) (by show (u : Int) < S.1 4; omega) ((y.bu.fr (st3.fr (r := 2) (by show ¬ (_ = _ ∨ _ = _); unfold rg; omega))).cg rfl (fun _ => rfl)) (hse3.cg rfl (fun _ => rfl) (fun _ => rfl)) pl3 (fun u2 hu2 w => by rw [hze u2 w, if_neg (fun q => hu2 q.1)]; rfl)
        exact k0 u hu (by omega) (by assumption) hlt _ _ z.ex ((st.mono (fun q hq => by show q ≠ 0; rw [show q = _ from hq]; first | decide | (unfold rg; omega))).trans (st4.mono (fun q hq => by rcases hq with hq | hq | hq <;> (show _ ≠ 0; rw [hq]; first | decide | (unfold rg; omega)))))
      · refine r_throw hg zt_ISE rfl (by decide) (Nat.le_of_ble_eq_true rfl) (Nat.le_of_ble_eq_true rfl) (Nat.le_of_ble_eq_true rfl) (pc3 := 30) (pc4 := 31) (pc7 := 34) rfl rfl rfl (dd_X11_allot 15 _ _ _ rfl) (dd_X11_allot 16 _ _ _ rfl) (dd_X11_allot 17 _ _ _ rfl) (dd_X11_allot 18 _ _ _ rfl) ?_
        exact k2 u hu (by omega) (by first | exact Or.inl (by assumption) | exact Or.inr (by omega))

abbrev mX11_wish : zM := (RX11, cX11_wish, 4, (Option.some Jvm.ClassFile.FieldType.int), [], "wish", 15)
set_option maxRecDepth 20000 in
theorem c_X11_wish {g : zGT} {Q : zO → zH → Prop} {h : zH} (hg : zG g) {o : Nat → Nat} {x : Nat} {S : zS} {n : Nat} {Vs Ps Ss Ts Fs Tn : List Nat} {A : Nat → Nat} {G : Nat → Nat → Nat} {Rc : Nat → Nat} (hI : MInv n S) (y : CRep g o h x S n Vs Ps Ss Ts Fs Tn A G Rc) {v : Int} (hn : n < 512) (hv : zR v) (kE : ¬ (0 ≤ v ∧ v < S.1 4) → Q (.inr "java/lang/IndexOutOfBoundsException") h) (k2 : ∀ u : Nat, v = u → v < S.1 4 → (zstate S u (S.1 1) = 4 ∨ ¬ zplateOK S ∨ ¬ zfree S.2 (zplateV S)) → Q (.inr "java/lang/IllegalStateException") h) (k0 : ∀ u : Nat, v = u → v < S.1 4 → zstate S u (S.1 1) ≠ 4 → zplateOK S → zfree S.2 (zplateV S) → ∀ o1 h1, CEx g o1 h1 x (zu1 (zu1 S.1 2 0) 18 (S.1 18 + 1), zu2 (zu2 S.2 17 ((zplateV S) / 64).toNat (zset (S.2 17 ((zplateV S) / 64).toNat) ((zplateV S) % 64))) 19 (S.1 18).toNat (zpack (zplateV S) u (S.1 1))) (n + 1) → zStep zOwn o h o1 h1 → Q (.inl (some (.int (zI (zplateV S))))) h1) : zC g (.code yX11_wish cX11_wish 4 (Option.some Jvm.ClassFile.FieldType.int)) yX11_wish 15 8 4300 [.ref x, .int (zI v)] h Q := by
  refine zC_of (M := mX11_wish) (lv := [some (.ref x), some (.int (zI v)), none, none]) (by decide) rfl rfl (Nat.le_of_ble_eq_true rfl) rfl rfl ?_
  have e1 := hI.vehicles
  have e2 := hI.today
  have e3 := hI.people
  have e4 := hI.sightings
  have e5 := hI.fines
  have e6 := hI.calls
  have nv := y.nv
  have np := y.np
  have ns := y.ns
  have nf := y.nf
  have e9 := hI.signs
  have ea := hI.allotted
  refine r_aload_0 1 rfl (dd_X11_wish 0 _ _ _ rfl) ?_
  refine r_iload_1 2 rfl (dd_X11_wish 1 _ _ _ rfl) ?_
  refine r_callV1 (lvl := 13) (mc1 := 1) (ms1 := 6) 7 4294 hg rfl md_X11_vehicleAt zc_X11 y.mn.1 wi_X11_vehicleAt wv_X11_vehicleAt (tb_3 29 _ rfl) (by decide) (by decide) rfl (Nat.le_of_ble_eq_true rfl) (Nat.le_of_ble_eq_true rfl) (Nat.le_of_ble_eq_true rfl) 5 rfl (dd_X11_wish 2 _ _ _ rfl) ?_
  refine c_X11_vehicleAt hg hI y (by omega) (fun hE => ?_) (fun u va hu hV hu4 => ?_)
  · dsimp only [zCont]
    exact kE hE
  · dsimp only [zCont, Option.toList, List.cons_append, List.nil_append]
    refine r_astore_2 6 rfl (by decide) rfl (dd_X11_wish 3 _ _ _ rfl) ?_
    obtain ⟨sb, sgv, s1, s2, s3, s4, s5, s6, s7, s8, s9, s10, s11, s12, s13⟩ := id y.se
    obtain ⟨bg, b1, b2, b3, b4, b5, b6, b7, b8⟩ := id y.bu
    refine r_aload_0 7 rfl (dd_X11_wish 4 _ _ _ rfl) ?_
    refine r_getr hg zc_X11 1 (by decide) (fun _ _ _ => rfl) y.mn.2.2.2.2.1 y.mn.1 (Or.inl rfl) (tb_1 122 _ rfl) 10 rfl (dd_X11_wish 5 _ _ _ rfl) ?_
    refine r_callV0 (lvl := 13) (mc1 := 0) (ms1 := 0) 7 4294 hg rfl md_X0_plateInIt zc_X0 b1 wi_X0_plateInIt wv_X0_plateInIt (tb_4 207 _ rfl) (by decide) (by decide) rfl (Nat.le_of_ble_eq_true rfl) (Nat.le_of_ble_eq_true rfl) (Nat.le_of_ble_eq_true rfl) 13 rfl (dd_X11_wish 6 _ _ _ rfl) ?_
    refine c_X0_plateInIt hg hI y.bu (fun hpo => ?_) (fun hpo => ?_)
    · have hpv : 0 ≤ zplateV S ∧ zplateV S < 67600 := by obtain ⟨q1, q2, q3, q4, q5⟩ := hpo; unfold zplateV; omega
      dsimp only [zCont, Option.toList, List.cons_append, List.nil_append]
      refine r_istore_3 14 rfl (by decide) rfl (dd_X11_wish 7 _ _ _ rfl) ?_
      refine r_aload_0 15 rfl (dd_X11_wish 8 _ _ _ rfl) ?_
      refine r_aload_2 16 rfl (dd_X11_wish 9 _ _ _ rfl) ?_
      refine r_callV1 (lvl := 14) (mc1 := 0) (ms1 := 0) 7 4294 hg rfl md_X11_isGoneToday zc_X11 y.mn.1 wi_X11_isGoneToday wv_X11_isGoneToday (tb_4 141 _ rfl) (by decide) (by decide) rfl (Nat.le_of_ble_eq_true rfl) (Nat.le_of_ble_eq_true rfl) (Nat.le_of_ble_eq_true rfl) 19 rfl (dd_X11_wish 10 _ _ _ rfl) ?_
      refine c_X11_isGoneToday hg hI y hV (fun hgo => ?_) (fun hgo => ?_)
      · dsimp only [zCont, Option.toList, List.cons_append, List.nil_append]
        refine r_ifne (by omega) 22 rfl 38 rfl (dd_X11_wish 11 _ _ _ rfl) (fun _ => ?_) (fun q => absurd q (by decide))
        refine r_throw hg zt_ISE rfl (by decide) (Nat.le_of_ble_eq_true rfl) (Nat.le_of_ble_eq_true rfl) (Nat.le_of_ble_eq_true rfl) (pc3 := 41) (pc4 := 42) (pc7 := 45) rfl rfl rfl (dd_X11_wish 20 _ _ _ rfl) (dd_X11_wish 21 _ _ _ rfl) (dd_X11_wish 22 _ _ _ rfl) (dd_X11_wish 23 _ _ _ rfl) ?_
        first | exact k2 u hu (by omega) (by first | exact Or.inl (by assumption) | exact Or.inr (Or.inl (by assumption)) | exact Or.inr (Or.inr (by assumption))) | (exfalso; omega)
      · dsimp only [zCont, Option.toList, List.cons_append, List.nil_append]
        refine r_ifne (by omega) 22 rfl 38 rfl (dd_X11_wish 11 _ _ _ rfl) (fun q => absurd q (by decide)) (fun _ => ?_)
        refine r_iload_3 23 rfl (dd_X11_wish 12 _ _ _ rfl) ?_
        refine r_iconst 24 rfl (dd_X11_wish 13 _ _ _ rfl) ?_
        refine r_if_icmpeq (by omega) (by omega) 27 rfl 38 rfl (dd_X11_wish 14 _ _ _ rfl) (fun hc1 => ?_) (fun hc1 => ?_)
        · refine r_throw hg zt_ISE rfl (by decide) (Nat.le_of_ble_eq_true rfl) (Nat.le_of_ble_eq_true rfl) (Nat.le_of_ble_eq_true rfl) (pc3 := 41) (pc4 := 42) (pc7 := 45) rfl rfl rfl (dd_X11_wish 20 _ _ _ rfl) (dd_X11_wish 21 _ _ _ rfl) (dd_X11_wish 22 _ _ _ rfl) (dd_X11_wish 23 _ _ _ rfl) ?_
          first | exact k2 u hu (by omega) (by first | exact Or.inl (by assumption) | exact Or.inr (Or.inl (by assumption)) | exact Or.inr (Or.inr (by assumption))) | (exfalso; omega)
        · refine r_aload_0 28 rfl (dd_X11_wish 15 _ _ _ rfl) ?_
          refine r_getr hg zc_X11 2 (by decide) (fun _ _ _ => rfl) y.mn.2.2.2.2.2.1 y.mn.1 (Or.inl rfl) (tb_1 123 _ rfl) 31 rfl (dd_X11_wish 16 _ _ _ rfl) ?_
          refine r_iload_3 32 rfl (dd_X11_wish 17 _ _ _ rfl) ?_
          refine r_callV1 (lvl := 10) (mc1 := 0) (ms1 := 0) 7 4294 hg rfl md_X6_isFree zc_X6 s1 wi_X6_isFree wv_X6_isFree (tb_4 221 _ rfl) (by decide) (by decide) rfl (Nat.le_of_ble_eq_true rfl) (Nat.le_of_ble_eq_true rfl) (Nat.le_of_ble_eq_true rfl) 35 rfl (dd_X11_wish 18 _ _ _ rfl) ?_
          refine c_X6_isFree hg hI y.se (by omega) (by omega) (fun hfr => ?_) (fun hfr => ?_)
          · dsimp only [zCont, Option.toList, List.cons_append, List.nil_append]
            refine r_ifne (by omega) 38 rfl 46 rfl (dd_X11_wish 19 _ _ _ rfl) (fun _ => ?_) (fun q => absurd q (by decide))
            have hul : u < Vs.length := by omega
            obtain ⟨R, hR0, hRp, hRt⟩ := y.pl u hul
            refine r_aload_0 47 rfl (dd_X11_wish 24 _ _ _ rfl) ?_
            refine r_getr hg zc_X11 1 (by decide) (fun _ _ _ => rfl) y.mn.2.2.2.2.1 y.mn.1 (Or.inl rfl) (tb_1 122 _ rfl) 50 rfl (dd_X11_wish 25 _ _ _ rfl) ?_
            refine r_callV0 (lvl := 10) (mc1 := 0) (ms1 := 0) 7 4294 hg rfl md_X0_empty zc_X0 b1 wi_X0_empty wv_X0_empty (tb_4 184 _ rfl) (by decide) (by decide) rfl (Nat.le_of_ble_eq_true rfl) (Nat.le_of_ble_eq_true rfl) (Nat.le_of_ble_eq_true rfl) 53 rfl (dd_X11_wish 26 _ _ _ rfl) ?_
            refine c_X0_empty hg hI y.bu (fun h1 hb st => ?_)
            have hI0 := hI
            have hI := MInv.s2 (sc := S.1) (ar := S.2) hI (v := 0) (by decide)
            have y := y.toBu (S2 := (zu1 S.1 2 0, S.2)) (n2 := n) (Nat.le_refl n) st (fun k i _ => rfl) (fun k hk => (zu1_ne (fun q => hk (by omega)))) hb
            have hR := hR0.fr (st.fr (r := rg 3 u) (by show ¬ _ = _; unfold rg; omega))
            dsimp only [zCont, Option.toList, List.cons_append, List.nil_append]
            refine r_pop rfl 54 rfl (dd_X11_wish 27 _ _ _ rfl) ?_
            refine r_aload_0 55 rfl (dd_X11_wish 28 _ _ _ rfl) ?_
            refine r_iload_3 56 rfl (dd_X11_wish 29 _ _ _ rfl) ?_
            refine r_aload_2 57 rfl (dd_X11_wish 30 _ _ _ rfl) ?_
            refine r_callV2 (lvl := 14) (mc1 := 2) (ms1 := 4200) 5 94 hg rfl md_X11_give zc_X11 y.mn.1 wi_X11_give wv_X11_give (tb_4 149 _ rfl) (by decide) (by decide) rfl (Nat.le_of_ble_eq_true rfl) (Nat.le_of_ble_eq_true rfl) (Nat.le_of_ble_eq_true rfl) 60 rfl (dd_X11_wish 31 _ _ _ rfl) ?_
            refine c_X11_give hg hI y hV (by omega) (by omega) hR (fun o3 h3 hse3 hC3 st3 => ?_)
            dsimp only [zCont, Option.toList, List.cons_append, List.nil_append]
            refine r_iload_3 61 rfl (dd_X11_wish 32 _ _ _ rfl) ?_
            refine r_ireturn rfl rfl (dd_X11_wish 33 _ _ _ rfl) ?_
            have hze : ∀ (u2 : Nat) w, zplate (zu1 (zu1 S.1 2 0) 18 (S.1 18 + 1), zu2 (zu2 S.2 17 ((zplateV S) / 64).toNat (zset (S.2 17 ((zplateV S) / 64).toNat) ((zplateV S) % 64))) 19 (S.1 18).toNat (zpack (zplateV S) u (S.1 1))) u2 w = if u2 = u ∧ S.1 1 ≤ w then (zplateV S) else zplate S u2 w := zplate_new (S := S) (S2 := (zu1 (zu1 S.1 2 0) 18 (S.1 18 + 1), zu2 (zu2 S.2 17 ((zplateV S) / 64).toNat (zset (S.2 17 ((zplateV S) / 64).toNat) ((zplateV S) % 64))) 19 (S.1 18).toNat (zpack (zplateV S) u (S.1 1)))) (by omega) (by omega) (by omega) (show zu1 (zu1 S.1 2 0) 18 (S.1 18 + 1) 18 = S.1 18 + 1 from zu1_at) (by omega) (show zu2 (zu2 S.2 17 ((zplateV S) / 64).toNat (zset (S.2 17 ((zplateV S) / 64).toNat) ((zplateV S) % 64))) 19 (S.1 18).toNat (zpack (zplateV S) u (S.1 1)) 19 (S.1 18).toNat = zpack (zplateV S) u (S.1 1) from zu2_at) (fun i hi => (zu2_ne (fun q => hi q.2)).trans (zu2_ne (fun q => by omega)))
            have pl3 : PlRep o3 (rg 3 u) h3 (G 4 u) (zu1 (zu1 S.1 2 0) 18 (S.1 18 + 1), zu2 (zu2 S.2 17 ((zplateV S) / 64).toNat (zset (S.2 17 ((zplateV S) / 64).toNat) ((zplateV S) % 64))) 19 (S.1 18).toNat (zpack (zplateV S) u (S.1 1))) u (n + 1) := ⟨_, hC3, fun w => by
                have hr1 := hRp w
                have hr2 : (R w).1 ≤ S.1 1 := hRt w
                rw [hze u w]
                show (if S.1 1 ≤ w ∧ (R w).1 ≤ S.1 1 then (S.1 1, (zplateV S)) else R w).2 = _
                by_cases hq : S.1 1 ≤ w
                · rw [if_pos ⟨hq, hr2⟩, if_pos ⟨rfl, hq⟩]
                · rw [if_neg (fun q => hq q.1), if_neg (fun q => hq q.2)]; exact hr1,
              fun w => by show (if S.1 1 ≤ w ∧ (R w).1 ≤ S.1 1 then (S.1 1, (zplateV S)) else R w).1 ≤ S.1 1; have hr2 : (R w).1 ≤ S.1 1 := hRt w; split; exact Int.le_refl _; exact hr2⟩
            have st4 : zStep (fun q => q = 2 ∨ q = 3 ∨ q = rg 3 u) o h1 o3 h3 := st3.mono (fun _ q => Or.inr q)
            have z := y.toPl (S2 := (zu1 (zu1 S.1 2 0) 18 (S.1 18 + 1), zu2 (zu2 S.2 17 ((zplateV S) / 64).toNat (zset (S.2 17 ((zplateV S) / 64).toNat) ((zplateV S) % 64))) 19 (S.1 18).toNat (zpack (zplateV S) u (S.1 1)))) (n2 := n + 1) (Nat.le_succ n) (v := u) st4 (fun k i hk => ((zu2_ne (fun q => hk (by omega))).trans (zu2_ne (fun q => hk (by omega))))) (fun k hk => (zu1_ne (fun q => hk (by omega)))) (by show (u : Int) < S.1 4; omega) ((y.bu.fr (st3.fr (r := 2) (by show ¬ (_ = _ ∨ _ = _); unfold rg; omega))).cg rfl (fun _ => rfl)) (hse3.cg rfl (fun _ => rfl) (fun _ => rfl)) pl3 (fun u2 hu2 w => by rw [hze u2 w, if_neg (fun q => hu2 q.1)]; rfl)
            exact k0 u hu (by omega) (by assumption) hpo (by assumption) _ _ z.ex ((st.mono (fun q hq => by show q ≠ 0; rw [show q = _ from hq]; first | decide | (unfold rg; omega))).trans (st4.mono (fun q hq => by rcases hq with hq | hq | hq <;> (show _ ≠ 0; rw [hq]; first | decide | (unfold rg; omega)))))
          · dsimp only [zCont, Option.toList, List.cons_append, List.nil_append]
            refine r_ifne (by omega) 38 rfl 46 rfl (dd_X11_wish 19 _ _ _ rfl) (fun q => absurd q (by decide)) (fun _ => ?_)
            refine r_throw hg zt_ISE rfl (by decide) (Nat.le_of_ble_eq_true rfl) (Nat.le_of_ble_eq_true rfl) (Nat.le_of_ble_eq_true rfl) (pc3 := 41) (pc4 := 42) (pc7 := 45) rfl rfl rfl (dd_X11_wish 20 _ _ _ rfl) (dd_X11_wish 21 _ _ _ rfl) (dd_X11_wish 22 _ _ _ rfl) (dd_X11_wish 23 _ _ _ rfl) ?_
            first | exact k2 u hu (by omega) (by first | exact Or.inl (by assumption) | exact Or.inr (Or.inl (by assumption)) | exact Or.inr (Or.inr (by assumption))) | (exfalso; omega)
    · dsimp only [zCont, Option.toList, List.cons_append, List.nil_append]
      refine r_istore_3 14 rfl (by decide) rfl (dd_X11_wish 7 _ _ _ rfl) ?_
      refine r_aload_0 15 rfl (dd_X11_wish 8 _ _ _ rfl) ?_
      refine r_aload_2 16 rfl (dd_X11_wish 9 _ _ _ rfl) ?_
      refine r_callV1 (lvl := 14) (mc1 := 0) (ms1 := 0) 7 4294 hg rfl md_X11_isGoneToday zc_X11 y.mn.1 wi_X11_isGoneToday wv_X11_isGoneToday (tb_4 141 _ rfl) (by decide) (by decide) rfl (Nat.le_of_ble_eq_true rfl) (Nat.le_of_ble_eq_true rfl) (Nat.le_of_ble_eq_true rfl) 19 rfl (dd_X11_wish 10 _ _ _ rfl) ?_
      refine c_X11_isGoneToday hg hI y hV (fun hgo => ?_) (fun hgo => ?_)
      · dsimp only [zCont, Option.toList, List.cons_append, List.nil_append]
        refine r_ifne (by omega) 22 rfl 38 rfl (dd_X11_wish 11 _ _ _ rfl) (fun _ => ?_) (fun q => absurd q (by decide))
        refine r_throw hg zt_ISE rfl (by decide) (Nat.le_of_ble_eq_true rfl) (Nat.le_of_ble_eq_true rfl) (Nat.le_of_ble_eq_true rfl) (pc3 := 41) (pc4 := 42) (pc7 := 45) rfl rfl rfl (dd_X11_wish 20 _ _ _ rfl) (dd_X11_wish 21 _ _ _ rfl) (dd_X11_wish 22 _ _ _ rfl) (dd_X11_wish 23 _ _ _ rfl) ?_
        first | exact k2 u hu (by omega) (by first | exact Or.inl (by assumption) | exact Or.inr (Or.inl (by assumption)) | exact Or.inr (Or.inr (by assumption))) | (exfalso; omega)
      · dsimp only [zCont, Option.toList, List.cons_append, List.nil_append]
        refine r_ifne (by omega) 22 rfl 38 rfl (dd_X11_wish 11 _ _ _ rfl) (fun q => absurd q (by decide)) (fun _ => ?_)
        refine r_iload_3 23 rfl (dd_X11_wish 12 _ _ _ rfl) ?_
        refine r_iconst 24 rfl (dd_X11_wish 13 _ _ _ rfl) ?_
        refine r_if_icmpeq (by omega) (by omega) 27 rfl 38 rfl (dd_X11_wish 14 _ _ _ rfl) (fun _ => ?_) (fun q => absurd q (by decide))
        refine r_throw hg zt_ISE rfl (by decide) (Nat.le_of_ble_eq_true rfl) (Nat.le_of_ble_eq_true rfl) (Nat.le_of_ble_eq_true rfl) (pc3 := 41) (pc4 := 42) (pc7 := 45) rfl rfl rfl (dd_X11_wish 20 _ _ _ rfl) (dd_X11_wish 21 _ _ _ rfl) (dd_X11_wish 22 _ _ _ rfl) (dd_X11_wish 23 _ _ _ rfl) ?_
        first | exact k2 u hu (by omega) (by first | exact Or.inl (by assumption) | exact Or.inr (Or.inl (by assumption)) | exact Or.inr (Or.inr (by assumption))) | (exfalso; omega)
