theorem zvof_ne {S : zS} {s : Int} : ∀ k : Nat, zvof S s k = -1 → ∀ i, i < k → S.2 5 i ≠ s
  | 0, _, i, hi => absurd hi (by omega)
  | k + 1, h, i, hi => by
    unfold zvof at h
    by_cases hq : S.2 5 k = s
    · rw [if_pos hq] at h; omega
    · rw [if_neg hq] at h
      by_cases hk : i = k
      · subst hk; exact hq
      · exact zvof_ne k h i (by omega)
abbrev mX11_vehicle : zM := (RX11, cX11_vehicle, 4, (Option.some Jvm.ClassFile.FieldType.int), [], "vehicle", 17)
set_option maxRecDepth 20000 in
theorem c_X11_vehicle {g : zGT} {Q : zO → zH → Prop} {h : zH} (hg : zG g) {mi : Nat} (hm : zMi g mi) {o : Nat → Nat} {x : Nat} {S : zS} {n : Nat} {Vs Ps Ss Ts Fs Tn : List Nat} {A : Nat → Nat} {G : Nat → Nat → Nat} {Rc : Nat → Nat} (hI : MInv n S) (y : CRep g o h x S n Vs Ps Ss Ts Fs Tn A G Rc) {a b c : Int} (ha : zR a) (hb : zR b) (hc : zR c) (kE : ¬ (0 ≤ a ∧ a ≤ 9999 ∧ 0 ≤ b ∧ b ≤ S.1 1 ∧ 0 ≤ c ∧ c ≤ 3 ∧ zdigit a < 10) → Q (.inr "java/lang/IllegalArgumentException") h) (k2 : (0 ≤ a ∧ a ≤ 9999 ∧ 0 ≤ b ∧ b ≤ S.1 1 ∧ 0 ≤ c ∧ c ≤ 3 ∧ zdigit a < 10) → (zvof S a (S.1 4).toNat ≠ -1 ∨ S.1 4 = 12) → Q (.inr "java/lang/IllegalStateException") h) (k0 : (0 ≤ a ∧ a ≤ 9999 ∧ 0 ≤ b ∧ b ≤ S.1 1 ∧ 0 ≤ c ∧ c ≤ 3 ∧ zdigit a < 10) → ¬ (zvof S a (S.1 4).toNat ≠ -1 ∨ S.1 4 = 12) → ∀ o1 h1, CEx g o1 h1 x (zu1 S.1 4 (S.1 4 + 1), zu2 (zu2 (zu2 (zu2 S.2 5 (S.1 4).toNat a) 6 (S.1 4).toNat b) 7 (S.1 4).toNat c) 29 (S.1 4).toNat (b + 1080)) (n + 1) → zStep zOwn o h o1 h1 → Q (.inl (some (.int (zI (S.1 4))))) h1) : zC g (.code yX11_vehicle cX11_vehicle 4 (Option.some Jvm.ClassFile.FieldType.int)) yX11_vehicle 17 20 300 [.ref x, .int (zI a), .int (zI b), .int (zI c)] h Q := by
  refine zC_of (M := mX11_vehicle) (lv := [some (.ref x), some (.int (zI a)), some (.int (zI b)), some (.int (zI c))]) (by decide) rfl rfl (Nat.le_of_ble_eq_true rfl) rfl rfl ?_
  have e1 := hI.vehicles
  have e2 := hI.today
  have e3 := hI.people
  have e4 := hI.sightings
  have e5 := hI.fines
  have e6 := hI.calls
  have nv := y.nv
  have np := y.np
  have ns := y.ns
  have nf := y.nf
  have e9 := hI.signs
  refine r_iload_1 1 rfl (dd_X11_vehicle 0 _ _ _ rfl) ?_
  refine r_iconst 2 rfl (dd_X11_vehicle 1 _ _ _ rfl) ?_
  refine r_sipush (by decide) 5 rfl (dd_X11_vehicle 2 _ _ _ rfl) ?_
  refine r_callS3 (lvl := 10) (mc1 := 0) (ms1 := 0) 20 300 hg rfl md_X11_isWithin ws_X11_isWithin (tb_1 171 _ rfl) (by decide) (by decide) rfl (Nat.le_of_ble_eq_true rfl) (Nat.le_of_ble_eq_true rfl) (Nat.le_of_ble_eq_true rfl) 8 rfl (dd_X11_vehicle 3 _ _ _ rfl) ?_
  refine c_X11_isWithin hg (by omega) (by omega) (by omega) (fun hb1 => ?_) (fun hb1 => ?_)
  · dsimp only [zCont, Option.toList, List.cons_append, List.nil_append]
    refine r_ifeq (by omega) 11 rfl 39 rfl (dd_X11_vehicle 4 _ _ _ rfl) (fun q => absurd q (by decide)) (fun _ => ?_)
    refine r_iload_2 12 rfl (dd_X11_vehicle 5 _ _ _ rfl) ?_
    refine r_iconst 13 rfl (dd_X11_vehicle 6 _ _ _ rfl) ?_
    refine r_aload_0 14 rfl (dd_X11_vehicle 7 _ _ _ rfl) ?_
    refine r_geti hg zc_X11 0 (by decide) (fun _ _ _ => rfl) y.mn.2.2.1 y.mn.1 (Or.inl rfl) (tb_1 121 _ rfl) 17 rfl (dd_X11_vehicle 8 _ _ _ rfl) ?_
    refine r_callS3 (lvl := 10) (mc1 := 0) (ms1 := 0) 20 300 hg rfl md_X11_isWithin ws_X11_isWithin (tb_1 171 _ rfl) (by decide) (by decide) rfl (Nat.le_of_ble_eq_true rfl) (Nat.le_of_ble_eq_true rfl) (Nat.le_of_ble_eq_true rfl) 20 rfl (dd_X11_vehicle 9 _ _ _ rfl) ?_
    refine c_X11_isWithin hg (by omega) (by omega) (by omega) (fun hb2 => ?_) (fun hb2 => ?_)
    · dsimp only [zCont, Option.toList, List.cons_append, List.nil_append]
      refine r_ifeq (by omega) 23 rfl 39 rfl (dd_X11_vehicle 10 _ _ _ rfl) (fun q => absurd q (by decide)) (fun _ => ?_)
      refine r_iload_3 24 rfl (dd_X11_vehicle 11 _ _ _ rfl) ?_
      refine r_callS1 (lvl := 11) (mc1 := 0) (ms1 := 0) 20 300 hg rfl md_X11_isClass ws_X11_isClass (tb_1 174 _ rfl) (by decide) (by decide) rfl (Nat.le_of_ble_eq_true rfl) (Nat.le_of_ble_eq_true rfl) (Nat.le_of_ble_eq_true rfl) 27 rfl (dd_X11_vehicle 12 _ _ _ rfl) ?_
      refine c_X11_isClass hg (by omega) (fun hb3 => ?_) (fun hb3 => ?_)
      · dsimp only [zCont, Option.toList, List.cons_append, List.nil_append]
        refine r_ifeq (by omega) 30 rfl 39 rfl (dd_X11_vehicle 13 _ _ _ rfl) (fun q => absurd q (by decide)) (fun _ => ?_)
        have hzd := zdigit_range a
        refine r_iload_1 31 rfl (dd_X11_vehicle 14 _ _ _ rfl) ?_
        refine r_callS1 (lvl := 10) (mc1 := 0) (ms1 := 0) 20 300 hg rfl md_X11_checkDigit ws_X11_checkDigit (tb_1 177 _ rfl) (by decide) (by decide) rfl (Nat.le_of_ble_eq_true rfl) (Nat.le_of_ble_eq_true rfl) (Nat.le_of_ble_eq_true rfl) 34 rfl (dd_X11_vehicle 15 _ _ _ rfl) ?_
        refine c_X11_checkDigit hg (by omega) (by omega) ?_
        dsimp only [zCont, Option.toList, List.cons_append, List.nil_append]
        refine r_bipush (by decide) 36 rfl (dd_X11_vehicle 16 _ _ _ rfl) ?_
        refine r_if_icmpne (by omega) (by omega) 39 rfl 47 rfl (dd_X11_vehicle 17 _ _ _ rfl) (fun hc4 => ?_) (fun hc4 => ?_)
        · refine r_aload_0 48 rfl (dd_X11_vehicle 22 _ _ _ rfl) ?_
          refine r_iload_1 49 rfl (dd_X11_vehicle 23 _ _ _ rfl) ?_
          refine r_callV1 (lvl := 13) (mc1 := 0) (ms1 := 0) 20 300 hg rfl md_X11_vehicleOfSerial zc_X11 y.mn.1 wi_X11_vehicleOfSerial wv_X11_vehicleOfSerial (tb_2 4 _ rfl) (by decide) (by decide) rfl (Nat.le_of_ble_eq_true rfl) (Nat.le_of_ble_eq_true rfl) (Nat.le_of_ble_eq_true rfl) 52 rfl (dd_X11_vehicle 24 _ _ _ rfl) ?_
          refine c_X11_vehicleOfSerial hg hI y (by omega) ?_
          dsimp only [zCont, Option.toList, List.cons_append, List.nil_append]
          have hvr := zvof_range (S := S) (s := a) (S.1 4).toNat
          refine r_iconst 53 rfl (dd_X11_vehicle 25 _ _ _ rfl) ?_
          refine r_if_icmpne (by omega) (by omega) 56 rfl 68 rfl (dd_X11_vehicle 26 _ _ _ rfl) (fun hc5 => ?_) (fun hc5 => ?_)
          · refine r_throw hg zt_ISE rfl (by decide) (Nat.le_of_ble_eq_true rfl) (Nat.le_of_ble_eq_true rfl) (Nat.le_of_ble_eq_true rfl) (pc3 := 71) (pc4 := 72) (pc7 := 75) rfl rfl rfl (dd_X11_vehicle 32 _ _ _ rfl) (dd_X11_vehicle 33 _ _ _ rfl) (dd_X11_vehicle 34 _ _ _ rfl) (dd_X11_vehicle 35 _ _ _ rfl) ?_
            exact k2 (by omega) (by omega)
          · refine r_aload_0 57 rfl (dd_X11_vehicle 27 _ _ _ rfl) ?_
            refine r_getr hg zc_X11 3 (by decide) (fun _ _ _ => rfl) y.mn.2.2.2.2.2.2.1 y.mn.1 (Or.inl rfl) (tb_1 124 _ rfl) 60 rfl (dd_X11_vehicle 28 _ _ _ rfl) ?_
            refine r_callV0 (lvl := 10) (mc1 := 0) (ms1 := 0) 20 300 hg rfl md_Jx4a65c_size_8abf5 zc_Jx4a65c y.lv.1 wi_Jx4a65c_size_8abf5 wv_Jx4a65c_size_8abf5 (tb_2 8 _ rfl) (by decide) (by decide) rfl (Nat.le_of_ble_eq_true rfl) (Nat.le_of_ble_eq_true rfl) (Nat.le_of_ble_eq_true rfl) 63 rfl (dd_X11_vehicle 29 _ _ _ rfl) ?_
            refine c_Jx4a65c_size_8abf5 hg y.lv ?_
            dsimp only [zCont, Option.toList, List.cons_append, List.nil_append]
            refine r_bipush (by decide) 65 rfl (dd_X11_vehicle 30 _ _ _ rfl) ?_
            refine r_if_icmplt (by omega) (by omega) 68 rfl 76 rfl (dd_X11_vehicle 31 _ _ _ rfl) (fun hc6 => ?_) (fun hc6 => ?_)
            · refine r_aload_0 77 rfl (dd_X11_vehicle 36 _ _ _ rfl) ?_
              refine r_getr hg zc_X11 3 (by decide) (fun _ _ _ => rfl) y.mn.2.2.2.2.2.2.1 y.mn.1 (Or.inl rfl) (tb_1 124 _ rfl) 80 rfl (dd_X11_vehicle 37 _ _ _ rfl) ?_
              refine r_new 19 293 hg zc_X10 (tb_2 26 _ rfl) (tb_2 42 _ rfl) (tb_1 15 _ rfl) (Nat.le_of_ble_eq_true rfl) (Nat.le_of_ble_eq_true rfl) zd_X10 83 rfl (dd_X11_vehicle 38 _ _ _ rfl) (fun va hz_va => ?_)
              refine r_dup rfl 84 rfl (dd_X11_vehicle 39 _ _ _ rfl) ?_
              refine r_iload_1 85 rfl (dd_X11_vehicle 40 _ _ _ rfl) ?_
              refine r_iload_2 86 rfl (dd_X11_vehicle 41 _ _ _ rfl) ?_
              refine r_iload_3 87 rfl (dd_X11_vehicle 42 _ _ _ rfl) ?_
              refine r_callI3 (lvl := 14) (mc1 := 10) (ms1 := 38) 9 255 hg rfl md_X10_init wi_X10_init rfl rfl (tb_2 43 _ rfl) (by decide) (by decide) rfl (Nat.le_of_ble_eq_true rfl) (Nat.le_of_ble_eq_true rfl) (Nat.le_of_ble_eq_true rfl) 90 rfl (dd_X11_vehicle 43 _ _ _ rfl) ?_
              refine c_X10_init (o := zu1 o va (rg 0 Vs.length)) (v := Vs.length) hg zu1_at zu1_at (by omega) (fun o1 h1 pl ii hi te ka oa q0 q1 q2 q3 q4 q5 q6 qhi qte qpl qii st0 => ?_)
              have st1 := (step_nob (R := (fun q => q = rg 0 Vs.length ∨ q = rg 1 Vs.length ∨ q = rg 2 Vs.length ∨ q = rg 3 Vs.length ∨ q = rg 4 Vs.length)) (o := o) (r := rg 0 Vs.length) (k := 13) hz_va).trans st0
              have lv1 := y.lv.fr (st1.fr (r := 4) (by show ¬ (_ = _ ∨ _ = _ ∨ _ = _ ∨ _ = _ ∨ _ = _); unfold rg; omega))
              dsimp only [zCont, Option.toList, List.cons_append, List.nil_append]
              refine r_callV1 (lvl := 16) (mc1 := 1) (ms1 := 100) 8 155 hg rfl md_Jx4a65c_add_9ea2d zc_Jx4a65c lv1.1 wi_Jx4a65c_add_9ea2d wv_Jx4a65c_add_9ea2d (tb_2 147 _ rfl) (by decide) (by decide) rfl (Nat.le_of_ble_eq_true rfl) (Nat.le_of_ble_eq_true rfl) (Nat.le_of_ble_eq_true rfl) 93 rfl (dd_X11_vehicle 44 _ _ _ rfl) ?_
              refine c_Jx4a65c_add_9ea2d hg zc_X10 (tb_6 80 _ rfl) hm lv1 (by omega) (fun z hz => by obtain ⟨i, hi⟩ := List.getElem?_of_mem hz; exact st1.kd (y.vo i z hi).1 (by decide)) ka (fun o2 h2 hL st2 => ?_)
              dsimp only [zCont, Option.toList, List.cons_append, List.nil_append]
              refine r_pop rfl 94 rfl (dd_X11_vehicle 45 _ _ _ rfl) ?_
              have hv9 : (S.1 4).toNat = Vs.length := by omega
              obtain ⟨z1, z2, z3, z4, z5, z6⟩ := y.fv Vs.length (by omega) (by omega)
              have st : zStep (fun q => q = 4 ∨ q = rg 0 Vs.length ∨ q = rg 1 Vs.length ∨ q = rg 2 Vs.length ∨ q = rg 3 Vs.length ∨ q = rg 4 Vs.length) o h o2 h2 := (st1.mono (fun _ q => Or.inr q)).trans (st2.mono (fun _ q => Or.inl q))
              have e5v : (zu1 S.1 4 (S.1 4 + 1), zu2 (zu2 (zu2 (zu2 S.2 5 (S.1 4).toNat a) 6 (S.1 4).toNat b) 7 (S.1 4).toNat c) 29 (S.1 4).toNat (b + 1080)).2 5 Vs.length = a := by simp [zu2, hv9]
              have e6v : (zu1 S.1 4 (S.1 4 + 1), zu2 (zu2 (zu2 (zu2 S.2 5 (S.1 4).toNat a) 6 (S.1 4).toNat b) 7 (S.1 4).toNat c) 29 (S.1 4).toNat (b + 1080)).2 6 Vs.length = b := by simp [zu2, hv9]
              have e7v : (zu1 S.1 4 (S.1 4 + 1), zu2 (zu2 (zu2 (zu2 S.2 5 (S.1 4).toNat a) 6 (S.1 4).toNat b) 7 (S.1 4).toNat c) 29 (S.1 4).toNat (b + 1080)).2 7 Vs.length = c := by simp [zu2, hv9]
              have e29v : (zu1 S.1 4 (S.1 4 + 1), zu2 (zu2 (zu2 (zu2 S.2 5 (S.1 4).toNat a) 6 (S.1 4).toNat b) 7 (S.1 4).toNat c) 29 (S.1 4).toNat (b + 1080)).2 29 Vs.length = b + 1080 := by simp [zu2, hv9]
              have hno : ∀ u : Nat, (u : Int) < S.1 4 → S.2 5 u ≠ a := fun u h => zvof_ne (S.1 4).toNat (by omega) u (by omega)
              obtain ⟨G2, hG2⟩ : ∃ G2 : Nat → Nat → Nat, G2 = (fun k u => if u = Vs.length then (if k = 2 then hi else if k = 3 then te else if k = 4 then pl else ii) else G k u) := ⟨_, rfl⟩
              have g2 : G2 2 Vs.length = hi := by rw [hG2]; simp
              have g3 : G2 3 Vs.length = te := by rw [hG2]; simp
              have g4 : G2 4 Vs.length = pl := by rw [hG2]; simp
              have g5 : G2 5 Vs.length = ii := by rw [hG2]; simp
              have vo1 : VoRep o1 (rg 0 Vs.length) h1 va (zu1 S.1 4 (S.1 4 + 1), zu2 (zu2 (zu2 (zu2 S.2 5 (S.1 4).toNat a) 6 (S.1 4).toNat b) 7 (S.1 4).toNat c) 29 (S.1 4).toNat (b + 1080)) Vs.length G2 := ⟨ka, oa, q0.trans e5v.symm, q1.trans e6v.symm, q2.trans (by rw [g2]), q3.trans (by rw [g3]), q4.trans (by rw [g4]), q5.trans (by rw [g5]), q6.trans z2.symm⟩
              have y := y.addVe (S2 := (zu1 S.1 4 (S.1 4 + 1), zu2 (zu2 (zu2 (zu2 S.2 5 (S.1 4).toNat a) 6 (S.1 4).toNat b) 7 (S.1 4).toNat c) 29 (S.1 4).toNat (b + 1080))) (n2 := n + 1) (G2 := G2) (Nat.le_succ n) st (fun k i hk => ((zu2_ne (fun q => hk (by omega))).trans ((zu2_ne (fun q => hk (by omega))).trans ((zu2_ne (fun q => hk (by omega))).trans (zu2_ne (fun q => hk (by omega))))))) (fun k hk => (zu1_ne (fun q => hk (by omega)))) (by omega) hL (show zu1 S.1 4 (S.1 4 + 1) 4 = S.1 4 + 1 from zu1_at) (fun k i hi => (zu2_ne (fun q => by omega)).trans ((zu2_ne (fun q => by omega)).trans ((zu2_ne (fun q => by omega)).trans (zu2_ne (fun q => by omega))))) (fun k u hu => by rw [hG2]; exact if_neg hu) (vo1.fr (st2.fr (r := rg 0 Vs.length) (by show ¬ _ = _; unfold rg; omega))) (by rw [g2]; exact (qhi (zu1 S.1 4 (S.1 4 + 1), zu2 (zu2 (zu2 (zu2 S.2 5 (S.1 4).toNat a) 6 (S.1 4).toNat b) 7 (S.1 4).toNat c) 29 (S.1 4).toNat (b + 1080)) Vs.length e7v z1).fr (st2.fr (r := rg 1 Vs.length) (by show ¬ _ = _; unfold rg; omega))) (by rw [g3]; exact (qte (zu1 S.1 4 (S.1 4 + 1), zu2 (zu2 (zu2 (zu2 S.2 5 (S.1 4).toNat a) 6 (S.1 4).toNat b) 7 (S.1 4).toNat c) 29 (S.1 4).toNat (b + 1080)) Vs.length z3 e6v e29v z4).fr (st2.fr (r := rg 2 Vs.length) (by show ¬ _ = _; unfold rg; omega))) (by rw [g4]; exact ⟨_, (qpl.fr (st2.fr (r := rg 3 Vs.length) (by show ¬ _ = _; unfold rg; omega))).mono (by omega), fun w => (z6 w).symm.trans (zplate_cg (S := S) (S2 := (zu1 S.1 4 (S.1 4 + 1), zu2 (zu2 (zu2 (zu2 S.2 5 (S.1 4).toNat a) 6 (S.1 4).toNat b) 7 (S.1 4).toNat c) 29 (S.1 4).toNat (b + 1080))) (fun _ => rfl) rfl).symm, fun w => by show (-1 : Int) ≤ S.1 1; omega⟩) (by rw [g5]; exact ⟨_, (qii.fr (st2.fr (r := rg 4 Vs.length) (by show ¬ _ = _; unfold rg; omega))).mono (by omega), fun w h0 h2 => by rw [show zins (zu1 S.1 4 (S.1 4 + 1), zu2 (zu2 (zu2 (zu2 S.2 5 (S.1 4).toNat a) 6 (S.1 4).toNat b) 7 (S.1 4).toNat c) 29 (S.1 4).toNat (b + 1080)).2 Vs.length w = zins S.2 Vs.length w from rfl, z5 w h0 h2]; show (false = true) ↔ w ≤ (-1 : Int); constructor; (intro q; cases q); (intro q; omega), fun w => by show (-1 : Int) ≤ S.1 1; omega⟩) (fun u hu => by rw [e5v]; exact fun q => hno u hu q.symm)
              refine r_aload_0 95 rfl (dd_X11_vehicle 46 _ _ _ rfl) ?_
              refine r_getr hg zc_X11 3 (by decide) (fun _ _ _ => rfl) y.mn.2.2.2.2.2.2.1 y.mn.1 (Or.inl rfl) (tb_1 124 _ rfl) 98 rfl (dd_X11_vehicle 47 _ _ _ rfl) ?_
              refine r_callV0 (lvl := 10) (mc1 := 0) (ms1 := 0) 8 155 hg rfl md_Jx4a65c_size_8abf5 zc_Jx4a65c y.lv.1 wi_Jx4a65c_size_8abf5 wv_Jx4a65c_size_8abf5 (tb_2 8 _ rfl) (by decide) (by decide) rfl (Nat.le_of_ble_eq_true rfl) (Nat.le_of_ble_eq_true rfl) (Nat.le_of_ble_eq_true rfl) 101 rfl (dd_X11_vehicle 48 _ _ _ rfl) ?_
              refine c_Jx4a65c_size_8abf5 hg y.lv ?_
              dsimp only [zCont, Option.toList, List.cons_append, List.nil_append]
              refine r_iconst 102 rfl (dd_X11_vehicle 49 _ _ _ rfl) ?_
              refine r_isub 103 rfl (dd_X11_vehicle 50 _ _ _ rfl) ?_
              refine r_ireturn rfl rfl (dd_X11_vehicle 51 _ _ _ rfl) ?_
              have k := k0 (by omega) (by omega) _ _ y.ex (st.mono (fun q hq => by rcases hq with hq | hq | hq | hq | hq | hq <;> (show _ ≠ 0; rw [hq]; first | decide | (unfold rg; omega))))
              rw [show (((Vs ++ [va]).length : Nat) : Int) - 1 = S.1 4 by simp; omega]
              exact k
            · refine r_throw hg zt_ISE rfl (by decide) (Nat.le_of_ble_eq_true rfl) (Nat.le_of_ble_eq_true rfl) (Nat.le_of_ble_eq_true rfl) (pc3 := 71) (pc4 := 72) (pc7 := 75) rfl rfl rfl (dd_X11_vehicle 32 _ _ _ rfl) (dd_X11_vehicle 33 _ _ _ rfl) (dd_X11_vehicle 34 _ _ _ rfl) (dd_X11_vehicle 35 _ _ _ rfl) ?_
              exact k2 (by omega) (by omega)
        · refine r_throw hg zt_IAE rfl (by decide) (Nat.le_of_ble_eq_true rfl) (Nat.le_of_ble_eq_true rfl) (Nat.le_of_ble_eq_true rfl) (pc3 := 42) (pc4 := 43) (pc7 := 46) rfl rfl rfl (dd_X11_vehicle 18 _ _ _ rfl) (dd_X11_vehicle 19 _ _ _ rfl) (dd_X11_vehicle 20 _ _ _ rfl) (dd_X11_vehicle 21 _ _ _ rfl) ?_
          exact kE (by omega)
      · dsimp only [zCont, Option.toList, List.cons_append, List.nil_append]
        refine r_ifeq (by omega) 30 rfl 39 rfl (dd_X11_vehicle 13 _ _ _ rfl) (fun _ => ?_) (fun q => absurd q (by decide))
        refine r_throw hg zt_IAE rfl (by decide) (Nat.le_of_ble_eq_true rfl) (Nat.le_of_ble_eq_true rfl) (Nat.le_of_ble_eq_true rfl) (pc3 := 42) (pc4 := 43) (pc7 := 46) rfl rfl rfl (dd_X11_vehicle 18 _ _ _ rfl) (dd_X11_vehicle 19 _ _ _ rfl) (dd_X11_vehicle 20 _ _ _ rfl) (dd_X11_vehicle 21 _ _ _ rfl) ?_
        exact kE (by omega)
    · dsimp only [zCont, Option.toList, List.cons_append, List.nil_append]
      refine r_ifeq (by omega) 23 rfl 39 rfl (dd_X11_vehicle 10 _ _ _ rfl) (fun _ => ?_) (fun q => absurd q (by decide))
      refine r_throw hg zt_IAE rfl (by decide) (Nat.le_of_ble_eq_true rfl) (Nat.le_of_ble_eq_true rfl) (Nat.le_of_ble_eq_true rfl) (pc3 := 42) (pc4 := 43) (pc7 := 46) rfl rfl rfl (dd_X11_vehicle 18 _ _ _ rfl) (dd_X11_vehicle 19 _ _ _ rfl) (dd_X11_vehicle 20 _ _ _ rfl) (dd_X11_vehicle 21 _ _ _ rfl) ?_
      exact kE (by omega)
  · dsimp only [zCont, Option.toList, List.cons_append, List.nil_append]
    refine r_ifeq (by omega) 11 rfl 39 rfl (dd_X11_vehicle 4 _ _ _ rfl) (fun _ => ?_) (fun q => absurd q (by decide))
    refine r_throw hg zt_IAE rfl (by decide) (Nat.le_of_ble_eq_true rfl) (Nat.le_of_ble_eq_true rfl) (Nat.le_of_ble_eq_true rfl) (pc3 := 42) (pc4 := 43) (pc7 := 46) rfl rfl rfl (dd_X11_vehicle 18 _ _ _ rfl) (dd_X11_vehicle 19 _ _ _ rfl) (dd_X11_vehicle 20 _ _ _ rfl) (dd_X11_vehicle 21 _ _ _ rfl) ?_
    exact kE (by omega)

theorem MInv.sh {n : Nat} {S : zS} (x : MInv n S) (b a e : Nat) : MInv n (S.1, zsh S.2 b a e) := ⟨x.today, x.signs, x.vehicles, x.people, x.series, x.allotted, x.rates, x.sightings, x.fines, (fun i => by have e9 : zsh S.2 b a e 3 i = S.2 3 i := zsh_other (by decide); first | (show _ ≤ zsh S.2 b a e 3 i ∧ zsh S.2 b a e 3 i ≤ _; rw [e9]; exact x.buffer i) | (show _ ≤ zsh S.2 b a e 3 i ∧ zsh S.2 b a e 3 i < _; rw [e9]; exact x.buffer i) | (show zsh S.2 b a e 3 i = _ ∨ zsh S.2 b a e 3 i = _; rw [e9]; exact x.buffer i) | (show zQ (zsh S.2 b a e 3 i); rw [e9]; exact x.buffer i) | (show zsh S.2 b a e 3 i % _ < _; rw [e9]; exact x.buffer i)), (fun i => by have e9 : zsh S.2 b a e 5 i = S.2 5 i := zsh_other (by decide); first | (show _ ≤ zsh S.2 b a e 5 i ∧ zsh S.2 b a e 5 i ≤ _; rw [e9]; exact x.serial i) | (show _ ≤ zsh S.2 b a e 5 i ∧ zsh S.2 b a e 5 i < _; rw [e9]; exact x.serial i) | (show zsh S.2 b a e 5 i = _ ∨ zsh S.2 b a e 5 i = _; rw [e9]; exact x.serial i) | (show zQ (zsh S.2 b a e 5 i); rw [e9]; exact x.serial i) | (show zsh S.2 b a e 5 i % _ < _; rw [e9]; exact x.serial i)), (fun i => by have e9 : zsh S.2 b a e 6 i = S.2 6 i := zsh_other (by decide); first | (show _ ≤ zsh S.2 b a e 6 i ∧ zsh S.2 b a e 6 i ≤ _; rw [e9]; exact x.built i) | (show _ ≤ zsh S.2 b a e 6 i ∧ zsh S.2 b a e 6 i < _; rw [e9]; exact x.built i) | (show zsh S.2 b a e 6 i = _ ∨ zsh S.2 b a e 6 i = _; rw [e9]; exact x.built i) | (show zQ (zsh S.2 b a e 6 i); rw [e9]; exact x.built i) | (show zsh S.2 b a e 6 i % _ < _; rw [e9]; exact x.built i)), (fun i => by have e9 : zsh S.2 b a e 7 i = S.2 7 i := zsh_other (by decide); first | (show _ ≤ zsh S.2 b a e 7 i ∧ zsh S.2 b a e 7 i ≤ _; rw [e9]; exact x.ofClass i) | (show _ ≤ zsh S.2 b a e 7 i ∧ zsh S.2 b a e 7 i < _; rw [e9]; exact x.ofClass i) | (show zsh S.2 b a e 7 i = _ ∨ zsh S.2 b a e 7 i = _; rw [e9]; exact x.ofClass i) | (show zQ (zsh S.2 b a e 7 i); rw [e9]; exact x.ofClass i) | (show zsh S.2 b a e 7 i % _ < _; rw [e9]; exact x.ofClass i)), (fun i => by have e9 : zsh S.2 b a e 8 i = S.2 8 i := zsh_other (by decide); first | (show _ ≤ zsh S.2 b a e 8 i ∧ zsh S.2 b a e 8 i ≤ _; rw [e9]; exact x.events i) | (show _ ≤ zsh S.2 b a e 8 i ∧ zsh S.2 b a e 8 i < _; rw [e9]; exact x.events i) | (show zsh S.2 b a e 8 i = _ ∨ zsh S.2 b a e 8 i = _; rw [e9]; exact x.events i) | (show zQ (zsh S.2 b a e 8 i); rw [e9]; exact x.events i) | (show zsh S.2 b a e 8 i % _ < _; rw [e9]; exact x.events i)), (fun i => by show _ ≤ zsh S.2 b a e 9 i ∧ zsh S.2 b a e 9 i ≤ _; unfold zsh; split; exact x.kind _; exact x.kind _), (fun i => by show _ ≤ zsh S.2 b a e 10 i ∧ zsh S.2 b a e 10 i ≤ _; unfold zsh; split; exact x.about _; exact x.about _), (fun i => by show _ ≤ zsh S.2 b a e 11 i ∧ zsh S.2 b a e 11 i ≤ _; unfold zsh; split; exact x.day _; exact x.day _), (fun i => by have e9 : zsh S.2 b a e 13 i = S.2 13 i := zsh_other (by decide); first | (show _ ≤ zsh S.2 b a e 13 i ∧ zsh S.2 b a e 13 i ≤ _; rw [e9]; exact x.prot i) | (show _ ≤ zsh S.2 b a e 13 i ∧ zsh S.2 b a e 13 i < _; rw [e9]; exact x.prot i) | (show zsh S.2 b a e 13 i = _ ∨ zsh S.2 b a e 13 i = _; rw [e9]; exact x.prot i) | (show zQ (zsh S.2 b a e 13 i); rw [e9]; exact x.prot i) | (show zsh S.2 b a e 13 i % _ < _; rw [e9]; exact x.prot i)), (fun i => by have e9 : zsh S.2 b a e 14 i = S.2 14 i := zsh_other (by decide); first | (show _ ≤ zsh S.2 b a e 14 i ∧ zsh S.2 b a e 14 i ≤ _; rw [e9]; exact x.looked i) | (show _ ≤ zsh S.2 b a e 14 i ∧ zsh S.2 b a e 14 i < _; rw [e9]; exact x.looked i) | (show zsh S.2 b a e 14 i = _ ∨ zsh S.2 b a e 14 i = _; rw [e9]; exact x.looked i) | (show zQ (zsh S.2 b a e 14 i); rw [e9]; exact x.looked i) | (show zsh S.2 b a e 14 i % _ < _; rw [e9]; exact x.looked i)), (fun i => by have e9 : zsh S.2 b a e 15 i = S.2 15 i := zsh_other (by decide); first | (show _ ≤ zsh S.2 b a e 15 i ∧ zsh S.2 b a e 15 i ≤ _; rw [e9]; exact x.barred i) | (show _ ≤ zsh S.2 b a e 15 i ∧ zsh S.2 b a e 15 i < _; rw [e9]; exact x.barred i) | (show zsh S.2 b a e 15 i = _ ∨ zsh S.2 b a e 15 i = _; rw [e9]; exact x.barred i) | (show zQ (zsh S.2 b a e 15 i); rw [e9]; exact x.barred i) | (show zsh S.2 b a e 15 i % _ < _; rw [e9]; exact x.barred i)), (fun i => by have e9 : zsh S.2 b a e 17 i = S.2 17 i := zsh_other (by decide); first | (show _ ≤ zsh S.2 b a e 17 i ∧ zsh S.2 b a e 17 i ≤ _; rw [e9]; exact x.given i) | (show _ ≤ zsh S.2 b a e 17 i ∧ zsh S.2 b a e 17 i < _; rw [e9]; exact x.given i) | (show zsh S.2 b a e 17 i = _ ∨ zsh S.2 b a e 17 i = _; rw [e9]; exact x.given i) | (show zQ (zsh S.2 b a e 17 i); rw [e9]; exact x.given i) | (show zsh S.2 b a e 17 i % _ < _; rw [e9]; exact x.given i)), (fun i => by have e9 : zsh S.2 b a e 19 i = S.2 19 i := zsh_other (by decide); first | (show _ ≤ zsh S.2 b a e 19 i ∧ zsh S.2 b a e 19 i ≤ _; rw [e9]; exact x.plate i) | (show _ ≤ zsh S.2 b a e 19 i ∧ zsh S.2 b a e 19 i < _; rw [e9]; exact x.plate i) | (show zsh S.2 b a e 19 i = _ ∨ zsh S.2 b a e 19 i = _; rw [e9]; exact x.plate i) | (show zQ (zsh S.2 b a e 19 i); rw [e9]; exact x.plate i) | (show zsh S.2 b a e 19 i % _ < _; rw [e9]; exact x.plate i)), (fun i => by have e9 : zsh S.2 b a e 19 i = S.2 19 i := zsh_other (by decide); first | (show _ ≤ zsh S.2 b a e 19 i ∧ zsh S.2 b a e 19 i ≤ _; rw [e9]; exact x.plateP i) | (show _ ≤ zsh S.2 b a e 19 i ∧ zsh S.2 b a e 19 i < _; rw [e9]; exact x.plateP i) | (show zsh S.2 b a e 19 i = _ ∨ zsh S.2 b a e 19 i = _; rw [e9]; exact x.plateP i) | (show zQ (zsh S.2 b a e 19 i); rw [e9]; exact x.plateP i) | (show zsh S.2 b a e 19 i % _ < _; rw [e9]; exact x.plateP i)), (fun i => by have e9 : zsh S.2 b a e 21 i = S.2 21 i := zsh_other (by decide); first | (show _ ≤ zsh S.2 b a e 21 i ∧ zsh S.2 b a e 21 i ≤ _; rw [e9]; exact x.rateClass i) | (show _ ≤ zsh S.2 b a e 21 i ∧ zsh S.2 b a e 21 i < _; rw [e9]; exact x.rateClass i) | (show zsh S.2 b a e 21 i = _ ∨ zsh S.2 b a e 21 i = _; rw [e9]; exact x.rateClass i) | (show zQ (zsh S.2 b a e 21 i); rw [e9]; exact x.rateClass i) | (show zsh S.2 b a e 21 i % _ < _; rw [e9]; exact x.rateClass i)), (fun i => by have e9 : zsh S.2 b a e 22 i = S.2 22 i := zsh_other (by decide); first | (show _ ≤ zsh S.2 b a e 22 i ∧ zsh S.2 b a e 22 i ≤ _; rw [e9]; exact x.rateFrom i) | (show _ ≤ zsh S.2 b a e 22 i ∧ zsh S.2 b a e 22 i < _; rw [e9]; exact x.rateFrom i) | (show zsh S.2 b a e 22 i = _ ∨ zsh S.2 b a e 22 i = _; rw [e9]; exact x.rateFrom i) | (show zQ (zsh S.2 b a e 22 i); rw [e9]; exact x.rateFrom i) | (show zsh S.2 b a e 22 i % _ < _; rw [e9]; exact x.rateFrom i)), (fun i => by have e9 : zsh S.2 b a e 23 i = S.2 23 i := zsh_other (by decide); first | (show _ ≤ zsh S.2 b a e 23 i ∧ zsh S.2 b a e 23 i ≤ _; rw [e9]; exact x.rateIs i) | (show _ ≤ zsh S.2 b a e 23 i ∧ zsh S.2 b a e 23 i < _; rw [e9]; exact x.rateIs i) | (show zsh S.2 b a e 23 i = _ ∨ zsh S.2 b a e 23 i = _; rw [e9]; exact x.rateIs i) | (show zQ (zsh S.2 b a e 23 i); rw [e9]; exact x.rateIs i) | (show zsh S.2 b a e 23 i % _ < _; rw [e9]; exact x.rateIs i)), (fun i => by have e9 : zsh S.2 b a e 24 i = S.2 24 i := zsh_other (by decide); first | (show _ ≤ zsh S.2 b a e 24 i ∧ zsh S.2 b a e 24 i ≤ _; rw [e9]; exact x.paid i) | (show _ ≤ zsh S.2 b a e 24 i ∧ zsh S.2 b a e 24 i < _; rw [e9]; exact x.paid i) | (show zsh S.2 b a e 24 i = _ ∨ zsh S.2 b a e 24 i = _; rw [e9]; exact x.paid i) | (show zQ (zsh S.2 b a e 24 i); rw [e9]; exact x.paid i) | (show zsh S.2 b a e 24 i % _ < _; rw [e9]; exact x.paid i)), (fun i => by have e9 : zsh S.2 b a e 25 i = S.2 25 i := zsh_other (by decide); first | (show _ ≤ zsh S.2 b a e 25 i ∧ zsh S.2 b a e 25 i ≤ _; rw [e9]; exact x.tests i) | (show _ ≤ zsh S.2 b a e 25 i ∧ zsh S.2 b a e 25 i < _; rw [e9]; exact x.tests i) | (show zsh S.2 b a e 25 i = _ ∨ zsh S.2 b a e 25 i = _; rw [e9]; exact x.tests i) | (show zQ (zsh S.2 b a e 25 i); rw [e9]; exact x.tests i) | (show zsh S.2 b a e 25 i % _ < _; rw [e9]; exact x.tests i)), (fun i => by have e9 : zsh S.2 b a e 26 i = S.2 26 i := zsh_other (by decide); first | (show _ ≤ zsh S.2 b a e 26 i ∧ zsh S.2 b a e 26 i ≤ _; rw [e9]; exact x.testDay i) | (show _ ≤ zsh S.2 b a e 26 i ∧ zsh S.2 b a e 26 i < _; rw [e9]; exact x.testDay i) | (show zsh S.2 b a e 26 i = _ ∨ zsh S.2 b a e 26 i = _; rw [e9]; exact x.testDay i) | (show zQ (zsh S.2 b a e 26 i); rw [e9]; exact x.testDay i) | (show zsh S.2 b a e 26 i % _ < _; rw [e9]; exact x.testDay i)), (fun i => by have e9 : zsh S.2 b a e 27 i = S.2 27 i := zsh_other (by decide); first | (show _ ≤ zsh S.2 b a e 27 i ∧ zsh S.2 b a e 27 i ≤ _; rw [e9]; exact x.mileage i) | (show _ ≤ zsh S.2 b a e 27 i ∧ zsh S.2 b a e 27 i < _; rw [e9]; exact x.mileage i) | (show zsh S.2 b a e 27 i = _ ∨ zsh S.2 b a e 27 i = _; rw [e9]; exact x.mileage i) | (show zQ (zsh S.2 b a e 27 i); rw [e9]; exact x.mileage i) | (show zsh S.2 b a e 27 i % _ < _; rw [e9]; exact x.mileage i)), (fun i => by have e9 : zsh S.2 b a e 28 i = S.2 28 i := zsh_other (by decide); first | (show _ ≤ zsh S.2 b a e 28 i ∧ zsh S.2 b a e 28 i ≤ _; rw [e9]; exact x.back i) | (show _ ≤ zsh S.2 b a e 28 i ∧ zsh S.2 b a e 28 i < _; rw [e9]; exact x.back i) | (show zsh S.2 b a e 28 i = _ ∨ zsh S.2 b a e 28 i = _; rw [e9]; exact x.back i) | (show zQ (zsh S.2 b a e 28 i); rw [e9]; exact x.back i) | (show zsh S.2 b a e 28 i % _ < _; rw [e9]; exact x.back i)), (fun i => by have e9 : zsh S.2 b a e 29 i = S.2 29 i := zsh_other (by decide); first | (show _ ≤ zsh S.2 b a e 29 i ∧ zsh S.2 b a e 29 i ≤ _; rw [e9]; exact x.until i) | (show _ ≤ zsh S.2 b a e 29 i ∧ zsh S.2 b a e 29 i < _; rw [e9]; exact x.until i) | (show zsh S.2 b a e 29 i = _ ∨ zsh S.2 b a e 29 i = _; rw [e9]; exact x.until i) | (show zQ (zsh S.2 b a e 29 i); rw [e9]; exact x.until i) | (show zsh S.2 b a e 29 i % _ < _; rw [e9]; exact x.until i)), (fun i => by have e9 : zsh S.2 b a e 30 i = S.2 30 i := zsh_other (by decide); first | (show _ ≤ zsh S.2 b a e 30 i ∧ zsh S.2 b a e 30 i ≤ _; rw [e9]; exact x.insured i) | (show _ ≤ zsh S.2 b a e 30 i ∧ zsh S.2 b a e 30 i < _; rw [e9]; exact x.insured i) | (show zsh S.2 b a e 30 i = _ ∨ zsh S.2 b a e 30 i = _; rw [e9]; exact x.insured i) | (show zQ (zsh S.2 b a e 30 i); rw [e9]; exact x.insured i) | (show zsh S.2 b a e 30 i % _ < _; rw [e9]; exact x.insured i)), (fun i => by have e9 : zsh S.2 b a e 32 i = S.2 32 i := zsh_other (by decide); first | (show _ ≤ zsh S.2 b a e 32 i ∧ zsh S.2 b a e 32 i ≤ _; rw [e9]; exact x.seenSigns i) | (show _ ≤ zsh S.2 b a e 32 i ∧ zsh S.2 b a e 32 i < _; rw [e9]; exact x.seenSigns i) | (show zsh S.2 b a e 32 i = _ ∨ zsh S.2 b a e 32 i = _; rw [e9]; exact x.seenSigns i) | (show zQ (zsh S.2 b a e 32 i); rw [e9]; exact x.seenSigns i) | (show zsh S.2 b a e 32 i % _ < _; rw [e9]; exact x.seenSigns i)), (fun i => by have e9 : zsh S.2 b a e 33 i = S.2 33 i := zsh_other (by decide); first | (show _ ≤ zsh S.2 b a e 33 i ∧ zsh S.2 b a e 33 i ≤ _; rw [e9]; exact x.place i) | (show _ ≤ zsh S.2 b a e 33 i ∧ zsh S.2 b a e 33 i < _; rw [e9]; exact x.place i) | (show zsh S.2 b a e 33 i = _ ∨ zsh S.2 b a e 33 i = _; rw [e9]; exact x.place i) | (show zQ (zsh S.2 b a e 33 i); rw [e9]; exact x.place i) | (show zsh S.2 b a e 33 i % _ < _; rw [e9]; exact x.place i)), (fun i => by have e9 : zsh S.2 b a e 34 i = S.2 34 i := zsh_other (by decide); first | (show _ ≤ zsh S.2 b a e 34 i ∧ zsh S.2 b a e 34 i ≤ _; rw [e9]; exact x.sightDay i) | (show _ ≤ zsh S.2 b a e 34 i ∧ zsh S.2 b a e 34 i < _; rw [e9]; exact x.sightDay i) | (show zsh S.2 b a e 34 i = _ ∨ zsh S.2 b a e 34 i = _; rw [e9]; exact x.sightDay i) | (show zQ (zsh S.2 b a e 34 i); rw [e9]; exact x.sightDay i) | (show zsh S.2 b a e 34 i % _ < _; rw [e9]; exact x.sightDay i)), (fun i => by have e9 : zsh S.2 b a e 35 i = S.2 35 i := zsh_other (by decide); first | (show _ ≤ zsh S.2 b a e 35 i ∧ zsh S.2 b a e 35 i ≤ _; rw [e9]; exact x.minute i) | (show _ ≤ zsh S.2 b a e 35 i ∧ zsh S.2 b a e 35 i < _; rw [e9]; exact x.minute i) | (show zsh S.2 b a e 35 i = _ ∨ zsh S.2 b a e 35 i = _; rw [e9]; exact x.minute i) | (show zQ (zsh S.2 b a e 35 i); rw [e9]; exact x.minute i) | (show zsh S.2 b a e 35 i % _ < _; rw [e9]; exact x.minute i)), (fun i => by have e9 : zsh S.2 b a e 37 i = S.2 37 i := zsh_other (by decide); first | (show _ ≤ zsh S.2 b a e 37 i ∧ zsh S.2 b a e 37 i ≤ _; rw [e9]; exact x.fineSight i) | (show _ ≤ zsh S.2 b a e 37 i ∧ zsh S.2 b a e 37 i < _; rw [e9]; exact x.fineSight i) | (show zsh S.2 b a e 37 i = _ ∨ zsh S.2 b a e 37 i = _; rw [e9]; exact x.fineSight i) | (show zQ (zsh S.2 b a e 37 i); rw [e9]; exact x.fineSight i) | (show zsh S.2 b a e 37 i % _ < _; rw [e9]; exact x.fineSight i)), (fun i => by have e9 : zsh S.2 b a e 38 i = S.2 38 i := zsh_other (by decide); first | (show _ ≤ zsh S.2 b a e 38 i ∧ zsh S.2 b a e 38 i ≤ _; rw [e9]; exact x.amount i) | (show _ ≤ zsh S.2 b a e 38 i ∧ zsh S.2 b a e 38 i < _; rw [e9]; exact x.amount i) | (show zsh S.2 b a e 38 i = _ ∨ zsh S.2 b a e 38 i = _; rw [e9]; exact x.amount i) | (show zQ (zsh S.2 b a e 38 i); rw [e9]; exact x.amount i) | (show zsh S.2 b a e 38 i % _ < _; rw [e9]; exact x.amount i)), (fun i => by have e9 : zsh S.2 b a e 39 i = S.2 39 i := zsh_other (by decide); first | (show _ ≤ zsh S.2 b a e 39 i ∧ zsh S.2 b a e 39 i ≤ _; rw [e9]; exact x.since i) | (show _ ≤ zsh S.2 b a e 39 i ∧ zsh S.2 b a e 39 i < _; rw [e9]; exact x.since i) | (show zsh S.2 b a e 39 i = _ ∨ zsh S.2 b a e 39 i = _; rw [e9]; exact x.since i) | (show zQ (zsh S.2 b a e 39 i); rw [e9]; exact x.since i) | (show zsh S.2 b a e 39 i % _ < _; rw [e9]; exact x.since i)), (fun i => by have e9 : zsh S.2 b a e 40 i = S.2 40 i := zsh_other (by decide); first | (show _ ≤ zsh S.2 b a e 40 i ∧ zsh S.2 b a e 40 i ≤ _; rw [e9]; exact x.names i) | (show _ ≤ zsh S.2 b a e 40 i ∧ zsh S.2 b a e 40 i < _; rw [e9]; exact x.names i) | (show zsh S.2 b a e 40 i = _ ∨ zsh S.2 b a e 40 i = _; rw [e9]; exact x.names i) | (show zQ (zsh S.2 b a e 40 i); rw [e9]; exact x.names i) | (show zsh S.2 b a e 40 i % _ < _; rw [e9]; exact x.names i)), (fun i => by have e9 : zsh S.2 b a e 41 i = S.2 41 i := zsh_other (by decide); first | (show _ ≤ zsh S.2 b a e 41 i ∧ zsh S.2 b a e 41 i ≤ _; rw [e9]; exact x.named i) | (show _ ≤ zsh S.2 b a e 41 i ∧ zsh S.2 b a e 41 i < _; rw [e9]; exact x.named i) | (show zsh S.2 b a e 41 i = _ ∨ zsh S.2 b a e 41 i = _; rw [e9]; exact x.named i) | (show zQ (zsh S.2 b a e 41 i); rw [e9]; exact x.named i) | (show zsh S.2 b a e 41 i % _ < _; rw [e9]; exact x.named i)), x.calls⟩
theorem MInv.ins {n : Nat} {S : zS} (x : MInv n S) (v p : Nat) {K W w : Int} (h8 : S.2 8 v < 30) (hK : 0 ≤ K ∧ K ≤ 7) (hW : 0 ≤ W ∧ W ≤ 9) (hw : 0 ≤ w ∧ w ≤ 20000) : MInv n (zins2 S v p K W w) :=
  (((x.sh (30 * v) p (S.2 8 v).toNat).a9 (j := 30 * v + p) hK).a10 (j := 30 * v + p) hW).a11 (j := 30 * v + p) hw |>.a8 (j := v) (by have := x.events v; omega)
theorem zStep.same {R : Nat → Prop} {o o1 : Nat → Nat} {h h1 : zH} (x : zStep R o h o1 h1) (f : z_agree (fun _ => False) h h1) : ∀ r, zFr r o h o1 h1 := fun r b hb h0 => ⟨(x.2 b h0).1.trans hb, f b id h0⟩
abbrev mX11_tell : zM := (RX11, cX11_tell, 6, (Option.some Jvm.ClassFile.FieldType.int), [], "tell", 18)
set_option maxRecDepth 20000 in
theorem c_X11_tell {g : zGT} {Q : zO → zH → Prop} {h : zH} (hg : zG g) {mi : Nat} (hm : zMi g mi) {o : Nat → Nat} {x : Nat} {S : zS} {n : Nat} {Vs Ps Ss Ts Fs Tn : List Nat} {A : Nat → Nat} {G : Nat → Nat → Nat} {Rc : Nat → Nat} (hI : MInv n S) (y : CRep g o h x S n Vs Ps Ss Ts Fs Tn A G Rc) {v its what w : Int} (hn : n < 512) (hv : zR v) (hi9 : zR its) (ha9 : zR what) (hw : zR w) (kE : ¬ (0 ≤ v ∧ v < S.1 4 ∧ (0 ≤ its ∧ its ≤ 1 → 0 ≤ what ∧ what < S.1 12)) → Q (.inr "java/lang/IndexOutOfBoundsException") h) (k2 : ∀ u : Nat, v = u → (0 ≤ v ∧ v < S.1 4 ∧ (0 ≤ its ∧ its ≤ 1 → 0 ≤ what ∧ what < S.1 12)) → ¬ (0 ≤ its ∧ its ≤ 7 ∧ (its ≤ 1 ∨ its = 7 ∧ 0 ≤ what ∧ what ≤ 3 ∨ its ≠ 7 ∧ what = 0) ∧ S.2 6 u ≤ w ∧ w ≤ S.1 1) → Q (.inr "java/lang/IllegalArgumentException") h) (k3 : ∀ u : Nat, v = u → (0 ≤ v ∧ v < S.1 4 ∧ (0 ≤ its ∧ its ≤ 1 → 0 ≤ what ∧ what < S.1 12)) → (0 ≤ its ∧ its ≤ 7 ∧ (its ≤ 1 ∨ its = 7 ∧ 0 ≤ what ∧ what ≤ 3 ∨ its ≠ 7 ∧ what = 0) ∧ S.2 6 u ≤ w ∧ w ≤ S.1 1) → S.2 8 u = 30 → Q (.inr "java/lang/IllegalStateException") h) (k0 : ∀ u p : Nat, v = u → (0 ≤ v ∧ v < S.1 4 ∧ (0 ≤ its ∧ its ≤ 1 → 0 ≤ what ∧ what < S.1 12)) → (0 ≤ its ∧ its ≤ 7 ∧ (its ≤ 1 ∨ its = 7 ∧ 0 ≤ what ∧ what ≤ 3 ∨ its ≠ 7 ∧ what = 0) ∧ S.2 6 u ≤ w ∧ w ≤ S.1 1) → S.2 8 u ≠ 30 → p = (zpos S.2 (30 * u) w (S.2 8 u).toNat) → ∀ o1 h1, CEx g o1 h1 x (zins2 S u p its what w) (n + 1) → zStep zOwn o h o1 h1 → Q (.inl (some (.int (zI ((S.2 8 u).toNat - (p : Int)))))) h1) : zC g (.code yX11_tell cX11_tell 6 (Option.some Jvm.ClassFile.FieldType.int)) yX11_tell 18 12 200 [.ref x, .int (zI v), .int (zI its), .int (zI what), .int (zI w)] h Q := by
  refine zC_of (M := mX11_tell) (lv := [some (.ref x), some (.int (zI v)), some (.int (zI its)), some (.int (zI what)), some (.int (zI w)), none]) (by decide) rfl rfl (Nat.le_of_ble_eq_true rfl) rfl rfl ?_
  have e1 := hI.vehicles
  have e2 := hI.today
  have e3 := hI.people
  have e4 := hI.sightings
  have e5 := hI.fines
  have e6 := hI.calls
  have nv := y.nv
  have np := y.np
  have ns := y.ns
  have nf := y.nf
  have e9 := hI.signs
  refine r_aload_0 1 rfl (dd_X11_tell 0 _ _ _ rfl) ?_
  refine r_iload_1 2 rfl (dd_X11_tell 1 _ _ _ rfl) ?_
  refine r_callV1 (lvl := 13) (mc1 := 1) (ms1 := 6) 11 194 hg rfl md_X11_vehicleAt zc_X11 y.mn.1 wi_X11_vehicleAt wv_X11_vehicleAt (tb_3 29 _ rfl) (by decide) (by decide) rfl (Nat.le_of_ble_eq_true rfl) (Nat.le_of_ble_eq_true rfl) (Nat.le_of_ble_eq_true rfl) 5 rfl (dd_X11_tell 2 _ _ _ rfl) ?_
  refine c_X11_vehicleAt hg hI y (by omega) (fun hE => ?_) (fun u va hu hV hu4 => ?_)
  · dsimp only [zCont]
    exact kE (by omega)
  · dsimp only [zCont, Option.toList, List.cons_append, List.nil_append]
    refine r_astore_5 7 rfl (by decide) rfl (dd_X11_tell 3 _ _ _ rfl) ?_
    refine r_iload_2 8 rfl (dd_X11_tell 4 _ _ _ rfl) ?_
    refine r_ifeq (by omega) 11 rfl 16 rfl (dd_X11_tell 5 _ _ _ rfl) (fun hc1 => ?_) (fun hc1 => ?_)
    · refine r_aload_0 17 rfl (dd_X11_tell 9 _ _ _ rfl) ?_
      refine r_iload_3 18 rfl (dd_X11_tell 10 _ _ _ rfl) ?_
      refine r_callV1 (lvl := 13) (mc1 := 1) (ms1 := 6) 10 188 hg rfl md_X11_personAt zc_X11 y.mn.1 wi_X11_personAt wv_X11_personAt (tb_3 3 _ rfl) (by decide) (by decide) rfl (Nat.le_of_ble_eq_true rfl) (Nat.le_of_ble_eq_true rfl) (Nat.le_of_ble_eq_true rfl) 21 rfl (dd_X11_tell 11 _ _ _ rfl) ?_
      refine c_X11_personAt hg hI y (by omega) (fun hE => ?_) (fun p pa hp hP hp4 => ?_)
      · dsimp only [zCont]
        exact kE (by omega)
      · dsimp only [zCont, Option.toList, List.cons_append, List.nil_append]
        refine r_pop rfl 22 rfl (dd_X11_tell 12 _ _ _ rfl) ?_
        refine r_iload_2 23 rfl (dd_X11_tell 13 _ _ _ rfl) ?_
        refine r_iconst 24 rfl (dd_X11_tell 14 _ _ _ rfl) ?_
        refine r_bipush (by decide) 26 rfl (dd_X11_tell 15 _ _ _ rfl) ?_
        refine r_callS3 (lvl := 10) (mc1 := 0) (ms1 := 0) 10 188 hg rfl md_X11_isWithin ws_X11_isWithin (tb_1 171 _ rfl) (by decide) (by decide) rfl (Nat.le_of_ble_eq_true rfl) (Nat.le_of_ble_eq_true rfl) (Nat.le_of_ble_eq_true rfl) 29 rfl (dd_X11_tell 16 _ _ _ rfl) ?_
        refine c_X11_isWithin hg (by omega) (by omega) (by omega) (fun hb2 => ?_) (fun hb2 => ?_)
        · dsimp only [zCont, Option.toList, List.cons_append, List.nil_append]
          refine r_ifeq (by omega) 32 rfl 57 rfl (dd_X11_tell 17 _ _ _ rfl) (fun q => absurd q (by decide)) (fun _ => ?_)
          refine r_iload_2 33 rfl (dd_X11_tell 18 _ _ _ rfl) ?_
          refine r_iload_3 34 rfl (dd_X11_tell 19 _ _ _ rfl) ?_
          refine r_callS2 (lvl := 12) (mc1 := 0) (ms1 := 0) 10 188 hg rfl md_X11_fitsKind ws_X11_fitsKind (tb_3 33 _ rfl) (by decide) (by decide) rfl (Nat.le_of_ble_eq_true rfl) (Nat.le_of_ble_eq_true rfl) (Nat.le_of_ble_eq_true rfl) 37 rfl (dd_X11_tell 20 _ _ _ rfl) ?_
          refine c_X11_fitsKind hg (by omega) (by omega) (fun hb3 => ?_) (fun hb3 => ?_)
          · dsimp only [zCont, Option.toList, List.cons_append, List.nil_append]
            refine r_ifeq (by omega) 40 rfl 57 rfl (dd_X11_tell 21 _ _ _ rfl) (fun q => absurd q (by decide)) (fun _ => ?_)
            have hbu9 := hI.built u
            refine r_iload_4 42 rfl (dd_X11_tell 22 _ _ _ rfl) ?_
            refine r_aload_5 44 rfl (dd_X11_tell 23 _ _ _ rfl) ?_
            refine r_geti hg zc_X10 1 (by decide) (fun _ _ _ => rfl) (y.vo u va hV).2.2.2.1 (y.vo u va hV).1 (Or.inl rfl) (tb_2 121 _ rfl) 47 rfl (dd_X11_tell 24 _ _ _ rfl) ?_
            refine r_aload_0 48 rfl (dd_X11_tell 25 _ _ _ rfl) ?_
            refine r_geti hg zc_X11 0 (by decide) (fun _ _ _ => rfl) y.mn.2.2.1 y.mn.1 (Or.inl rfl) (tb_1 121 _ rfl) 51 rfl (dd_X11_tell 26 _ _ _ rfl) ?_
            refine r_callS3 (lvl := 10) (mc1 := 0) (ms1 := 0) 10 188 hg rfl md_X11_isWithin ws_X11_isWithin (tb_1 171 _ rfl) (by decide) (by decide) rfl (Nat.le_of_ble_eq_true rfl) (Nat.le_of_ble_eq_true rfl) (Nat.le_of_ble_eq_true rfl) 54 rfl (dd_X11_tell 27 _ _ _ rfl) ?_
            refine c_X11_isWithin hg (by omega) (by omega) (by omega) (fun hb4 => ?_) (fun hb4 => ?_)
            · dsimp only [zCont, Option.toList, List.cons_append, List.nil_append]
              refine r_ifne (by omega) 57 rfl 65 rfl (dd_X11_tell 28 _ _ _ rfl) (fun _ => ?_) (fun q => absurd q (by decide))
              have hul : u < Vs.length := by omega
              have hu12 : u < 12 := by omega
              obtain ⟨⟨t, l, L, B, hp⟩, hsd⟩ := id (y.hi u hul)
              obtain ⟨hp1, hp2, hp3, hp4, hp5, hp6, hp7, hp8, hp9, hp10, hp11, hp12⟩ := id hp
              have hbu := hI.built u
              refine r_aload_5 67 rfl (dd_X11_tell 33 _ _ _ rfl) ?_
              refine r_getr hg zc_X10 2 (by decide) (fun _ _ _ => rfl) (y.vo u va hV).2.2.2.2.1 (y.vo u va hV).1 (Or.inl rfl) (tb_2 123 _ rfl) 70 rfl (dd_X11_tell 34 _ _ _ rfl) ?_
              refine r_callV0 (lvl := 13) (mc1 := 0) (ms1 := 0) 10 188 hg rfl md_X4_size zc_X4 hp1 wi_X4_size wv_X4_size (tb_3 36 _ rfl) (by decide) (by decide) rfl (Nat.le_of_ble_eq_true rfl) (Nat.le_of_ble_eq_true rfl) (Nat.le_of_ble_eq_true rfl) 73 rfl (dd_X11_tell 35 _ _ _ rfl) ?_
              refine c_X4_size hg hp1 hp6 hp7 ?_
              dsimp only [zCont, Option.toList, List.cons_append, List.nil_append]
              refine r_bipush (by decide) 75 rfl (dd_X11_tell 36 _ _ _ rfl) ?_
              refine r_if_icmplt (by omega) (by omega) 78 rfl 86 rfl (dd_X11_tell 37 _ _ _ rfl) (fun hc5 => ?_) (fun hc5 => ?_)
              · refine r_aload_5 88 rfl (dd_X11_tell 42 _ _ _ rfl) ?_
                refine r_getr hg zc_X10 2 (by decide) (fun _ _ _ => rfl) (y.vo u va hV).2.2.2.2.1 (y.vo u va hV).1 (Or.inl rfl) (tb_2 123 _ rfl) 91 rfl (dd_X11_tell 43 _ _ _ rfl) ?_
                refine r_new 9 184 hg zc_X2 (tb_3 41 _ rfl) (tb_3 42 _ rfl) (tb_1 25 _ rfl) (Nat.le_of_ble_eq_true rfl) (Nat.le_of_ble_eq_true rfl) zd_X2 94 rfl (dd_X11_tell 44 _ _ _ rfl) (fun e hz_e => ?_)
                refine r_dup rfl 95 rfl (dd_X11_tell 45 _ _ _ rfl) ?_
                refine r_iload_2 96 rfl (dd_X11_tell 46 _ _ _ rfl) ?_
                refine r_iload_3 97 rfl (dd_X11_tell 47 _ _ _ rfl) ?_
                refine r_iload_4 99 rfl (dd_X11_tell 48 _ _ _ rfl) ?_
                refine r_callI3 (lvl := 11) (mc1 := 1) (ms1 := 5) 8 179 hg rfl md_X2_init wi_X2_init rfl rfl (tb_3 43 _ rfl) (by decide) (by decide) rfl (Nat.le_of_ble_eq_true rfl) (Nat.le_of_ble_eq_true rfl) (Nat.le_of_ble_eq_true rfl) 102 rfl (dd_X11_tell 49 _ _ _ rfl) ?_
                refine c_X2_init (o := zu1 (fun q => if kd_ h q = 0 then 0 else 1) e 0) (r := 0) hg zu1_at zu1_at (fun be o1 h1 hb0 f0 f1 f2 f3 kb ob st0 => ?_)
                have hbe : kd_ h be = 0 := by by_cases hq : be = e; (rw [hq]; exact hz_e); exact (zu1_ne hq).symm.trans hb0
                have hsame : z_agree (fun _ => False) h h1 := fun b _ h0 => by have hbe9 : b ≠ e := fun q => h0 (by rw [q]; exact hz_e); have h9 := st0.1 b (by show ¬ zu1 (fun q => if kd_ h q = 0 then 0 else 1) e 0 b = 0; rw [zu1_ne hbe9]; show ¬ (if kd_ h b = 0 then 0 else 1) = 0; rw [if_neg h0]; decide) (by rw [show kd_ (nob h e 5) b = kd_ h b from zu1_ne hbe9]; exact h0); exact ⟨h9.1.trans (zu1_ne hbe9), h9.2.1, fun j => (h9.2.2.1 j).trans (if_neg hbe9), fun j => (h9.2.2.2.1 j).trans (if_neg hbe9), fun j => (h9.2.2.2.2.1 j).trans (if_neg hbe9), h9.2.2.2.2.2⟩
                have ke : kd_ h1 e = 6 := st0.kd zu1_at (by decide)
                obtain ⟨oo, hoo⟩ : ∃ oo : Nat → Nat, oo = fun q => if kd_ h q = 0 then rg 1 u else o q := ⟨_, rfl⟩
                have oe : oo e = rg 1 u := by rw [hoo]; exact if_pos hz_e
                have ob : oo be = rg 1 u := by rw [hoo]; exact if_pos hbe
                have st1 : zStep (fun q => q = rg 1 u) o h oo h1 := ⟨hsame.mono fun _ q => q.elim, fun b h0 => ⟨by rw [hoo]; exact if_neg h0, (hsame b id h0).1⟩⟩
                have hpx := hp.fr (st1.same hsame (rg 1 u))
                have vo1 := (y.vo u va hV).fr (st1.same hsame (rg 0 u))
                dsimp only [zCont, Option.toList, List.cons_append, List.nil_append]
                refine r_callV1 (lvl := 17) (mc1 := 1) (ms1 := 100) 7 79 hg rfl md_X4_insert zc_X4 hpx.1 wi_X4_insert wv_X4_insert (tb_3 68 _ rfl) (by decide) (by decide) rfl (Nat.le_of_ble_eq_true rfl) (Nat.le_of_ble_eq_true rfl) (Nat.le_of_ble_eq_true rfl) 105 rfl (dd_X11_tell 50 _ _ _ rfl) ?_
                refine c_X4_insert hg hm (n2 := n + 1) (K := its) (W := what) (w := w) (S2 := (zins2 S u (zpos S.2 (30 * u) w (S.2 8 u).toNat) its what w)) hI ((hI.mono (n2 := n + 1) (by omega) (by omega)).ins u _ (by omega) (by omega) (by omega) (by omega)) hpx (by omega) (e := e) (be := be) ke oe f3 kb ob (fun d hd q => by obtain ⟨i, hi⟩ := List.getElem?_of_mem hd; have h9 := (hp10 i d hi).2.2.1; rw [q, hbe] at h9; cases h9) (fun q => by have h9 := hp5.1; rw [← q, hbe] at h9; cases h9) (fun hd => by obtain ⟨i, hi⟩ := List.getElem?_of_mem hd; have h9 := (hp10 i e hi).1.1; rw [hz_e] at h9; cases h9) f0 f1 f2 hw rfl (fun o2 h2 hx st2 => ?_)
                dsimp only [zCont, Option.toList, List.cons_append, List.nil_append]
                refine r_ireturn rfl rfl (dd_X11_tell 51 _ _ _ rfl) ?_
                have hle := zpos_le (ar := S.2) (b := 30 * u) (w := w) (S.2 8 u).toNat
                have hL9 : (S.2 8 u).toNat = L.length := by omega
                have k := k0 u _ hu (by omega) (by omega) (by omega) rfl
                rw [← hL9]
                generalize hpp : zpos S.2 (30 * u) w (S.2 8 u).toNat = p at *
                have st : zStep (fun q => q = rg 1 u) o h o2 h2 := st1.trans st2
                have z := y.toHi (S2 := (zins2 S u p its what w)) (n2 := n + 1) (Nat.le_succ n) (v := u) st (fun k i hk => zins2_else (fun q => hk (by omega)) (Or.inl (fun q => hk (by omega)))) (fun k _ => rfl) (by omega) (fun q hq => zins2_else (by decide) (Or.inr hq)) (fun k q i hq hi h8 => zins2_far hq hi (by omega) (by omega) h8) ⟨hx, by rw [← hpp]; exact zins2_sorted hsd (by omega)⟩ (fun j hj => by rw [zins2_8] at hj; rcases Nat.lt_trichotomy j p with q | q | q; (rw [zins2_lo (by decide) q]; exact y.dy u j (by omega) (by omega)); (rw [q, zins2_at.2.2]; omega); (obtain ⟨d, rfl⟩ : ∃ d, j = d + 1 := ⟨j - 1, by omega⟩; rw [zins2_hi (by omega) (by omega) (by omega)]; exact y.dy u d (by omega) (by omega))) (fun j hj h9 => by rw [zins2_8] at hj; rcases Nat.lt_trichotomy j p with q | q | q; (rw [zins2_lo (by decide) q] at h9; rw [zins2_lo (by decide) q]; exact y.kp u j (by omega) (by omega) h9); (rw [q, zins2_at.1] at h9; rw [q, zins2_at.2.1]; omega); (obtain ⟨d, rfl⟩ : ∃ d, j = d + 1 := ⟨j - 1, by omega⟩; rw [zins2_hi (by omega) (by omega) (by omega)] at h9; rw [zins2_hi (by omega) (by omega) (by omega)]; exact y.kp u d (by omega) (by omega) h9)) (fun q => (hI.events q).2)
                rw [show ((S.2 8 u).toNat : Int) - (p : Int) = S.2 8 u - (p : Int) by omega] at k
                exact k _ _ z.ex (st.mono (fun q hq => by show q ≠ 0; rw [show q = _ from hq]; first | decide | (unfold rg; omega)))
              · refine r_throw hg zt_ISE rfl (by decide) (Nat.le_of_ble_eq_true rfl) (Nat.le_of_ble_eq_true rfl) (Nat.le_of_ble_eq_true rfl) (pc3 := 81) (pc4 := 82) (pc7 := 85) rfl rfl rfl (dd_X11_tell 38 _ _ _ rfl) (dd_X11_tell 39 _ _ _ rfl) (dd_X11_tell 40 _ _ _ rfl) (dd_X11_tell 41 _ _ _ rfl) ?_
                exact k3 u hu (by omega) (by omega) (by omega)
            · dsimp only [zCont, Option.toList, List.cons_append, List.nil_append]
              refine r_ifne (by omega) 57 rfl 65 rfl (dd_X11_tell 28 _ _ _ rfl) (fun q => absurd q (by decide)) (fun _ => ?_)
              refine r_throw hg zt_IAE rfl (by decide) (Nat.le_of_ble_eq_true rfl) (Nat.le_of_ble_eq_true rfl) (Nat.le_of_ble_eq_true rfl) (pc3 := 60) (pc4 := 61) (pc7 := 64) rfl rfl rfl (dd_X11_tell 29 _ _ _ rfl) (dd_X11_tell 30 _ _ _ rfl) (dd_X11_tell 31 _ _ _ rfl) (dd_X11_tell 32 _ _ _ rfl) ?_
              exact k2 u hu (by omega) (by omega)
          · dsimp only [zCont, Option.toList, List.cons_append, List.nil_append]
            refine r_ifeq (by omega) 40 rfl 57 rfl (dd_X11_tell 21 _ _ _ rfl) (fun _ => ?_) (fun q => absurd q (by decide))
            refine r_throw hg zt_IAE rfl (by decide) (Nat.le_of_ble_eq_true rfl) (Nat.le_of_ble_eq_true rfl) (Nat.le_of_ble_eq_true rfl) (pc3 := 60) (pc4 := 61) (pc7 := 64) rfl rfl rfl (dd_X11_tell 29 _ _ _ rfl) (dd_X11_tell 30 _ _ _ rfl) (dd_X11_tell 31 _ _ _ rfl) (dd_X11_tell 32 _ _ _ rfl) ?_
            exact k2 u hu (by omega) (by omega)
        · dsimp only [zCont, Option.toList, List.cons_append, List.nil_append]
          refine r_ifeq (by omega) 32 rfl 57 rfl (dd_X11_tell 17 _ _ _ rfl) (fun _ => ?_) (fun q => absurd q (by decide))
          refine r_throw hg zt_IAE rfl (by decide) (Nat.le_of_ble_eq_true rfl) (Nat.le_of_ble_eq_true rfl) (Nat.le_of_ble_eq_true rfl) (pc3 := 60) (pc4 := 61) (pc7 := 64) rfl rfl rfl (dd_X11_tell 29 _ _ _ rfl) (dd_X11_tell 30 _ _ _ rfl) (dd_X11_tell 31 _ _ _ rfl) (dd_X11_tell 32 _ _ _ rfl) ?_
          exact k2 u hu (by omega) (by omega)
    · refine r_iload_2 12 rfl (dd_X11_tell 6 _ _ _ rfl) ?_
      refine r_iconst 13 rfl (dd_X11_tell 7 _ _ _ rfl) ?_
      refine r_if_icmpne (by omega) (by omega) 16 rfl 22 rfl (dd_X11_tell 8 _ _ _ rfl) (fun hc6 => ?_) (fun hc6 => ?_)
      · refine r_iload_2 23 rfl (dd_X11_tell 13 _ _ _ rfl) ?_
        refine r_iconst 24 rfl (dd_X11_tell 14 _ _ _ rfl) ?_
        refine r_bipush (by decide) 26 rfl (dd_X11_tell 15 _ _ _ rfl) ?_
        refine r_callS3 (lvl := 10) (mc1 := 0) (ms1 := 0) 11 194 hg rfl md_X11_isWithin ws_X11_isWithin (tb_1 171 _ rfl) (by decide) (by decide) rfl (Nat.le_of_ble_eq_true rfl) (Nat.le_of_ble_eq_true rfl) (Nat.le_of_ble_eq_true rfl) 29 rfl (dd_X11_tell 16 _ _ _ rfl) ?_
        refine c_X11_isWithin hg (by omega) (by omega) (by omega) (fun hb7 => ?_) (fun hb7 => ?_)
        · dsimp only [zCont, Option.toList, List.cons_append, List.nil_append]
          refine r_ifeq (by omega) 32 rfl 57 rfl (dd_X11_tell 17 _ _ _ rfl) (fun q => absurd q (by decide)) (fun _ => ?_)
          refine r_iload_2 33 rfl (dd_X11_tell 18 _ _ _ rfl) ?_
          refine r_iload_3 34 rfl (dd_X11_tell 19 _ _ _ rfl) ?_
          refine r_callS2 (lvl := 12) (mc1 := 0) (ms1 := 0) 11 194 hg rfl md_X11_fitsKind ws_X11_fitsKind (tb_3 33 _ rfl) (by decide) (by decide) rfl (Nat.le_of_ble_eq_true rfl) (Nat.le_of_ble_eq_true rfl) (Nat.le_of_ble_eq_true rfl) 37 rfl (dd_X11_tell 20 _ _ _ rfl) ?_
          refine c_X11_fitsKind hg (by omega) (by omega) (fun hb8 => ?_) (fun hb8 => ?_)
          · dsimp only [zCont, Option.toList, List.cons_append, List.nil_append]
            refine r_ifeq (by omega) 40 rfl 57 rfl (dd_X11_tell 21 _ _ _ rfl) (fun q => absurd q (by decide)) (fun _ => ?_)
            have hbu9 := hI.built u
            refine r_iload_4 42 rfl (dd_X11_tell 22 _ _ _ rfl) ?_
            refine r_aload_5 44 rfl (dd_X11_tell 23 _ _ _ rfl) ?_
            refine r_geti hg zc_X10 1 (by decide) (fun _ _ _ => rfl) (y.vo u va hV).2.2.2.1 (y.vo u va hV).1 (Or.inl rfl) (tb_2 121 _ rfl) 47 rfl (dd_X11_tell 24 _ _ _ rfl) ?_
            refine r_aload_0 48 rfl (dd_X11_tell 25 _ _ _ rfl) ?_
            refine r_geti hg zc_X11 0 (by decide) (fun _ _ _ => rfl) y.mn.2.2.1 y.mn.1 (Or.inl rfl) (tb_1 121 _ rfl) 51 rfl (dd_X11_tell 26 _ _ _ rfl) ?_
            refine r_callS3 (lvl := 10) (mc1 := 0) (ms1 := 0) 11 194 hg rfl md_X11_isWithin ws_X11_isWithin (tb_1 171 _ rfl) (by decide) (by decide) rfl (Nat.le_of_ble_eq_true rfl) (Nat.le_of_ble_eq_true rfl) (Nat.le_of_ble_eq_true rfl) 54 rfl (dd_X11_tell 27 _ _ _ rfl) ?_
            refine c_X11_isWithin hg (by omega) (by omega) (by omega) (fun hb9 => ?_) (fun hb9 => ?_)
            · dsimp only [zCont, Option.toList, List.cons_append, List.nil_append]
              refine r_ifne (by omega) 57 rfl 65 rfl (dd_X11_tell 28 _ _ _ rfl) (fun _ => ?_) (fun q => absurd q (by decide))
              have hul : u < Vs.length := by omega
              have hu12 : u < 12 := by omega
              obtain ⟨⟨t, l, L, B, hp⟩, hsd⟩ := id (y.hi u hul)
              obtain ⟨hp1, hp2, hp3, hp4, hp5, hp6, hp7, hp8, hp9, hp10, hp11, hp12⟩ := id hp
              have hbu := hI.built u
              refine r_aload_5 67 rfl (dd_X11_tell 33 _ _ _ rfl) ?_
              refine r_getr hg zc_X10 2 (by decide) (fun _ _ _ => rfl) (y.vo u va hV).2.2.2.2.1 (y.vo u va hV).1 (Or.inl rfl) (tb_2 123 _ rfl) 70 rfl (dd_X11_tell 34 _ _ _ rfl) ?_
              refine r_callV0 (lvl := 13) (mc1 := 0) (ms1 := 0) 11 194 hg rfl md_X4_size zc_X4 hp1 wi_X4_size wv_X4_size (tb_3 36 _ rfl) (by decide) (by decide) rfl (Nat.le_of_ble_eq_true rfl) (Nat.le_of_ble_eq_true rfl) (Nat.le_of_ble_eq_true rfl) 73 rfl (dd_X11_tell 35 _ _ _ rfl) ?_
              refine c_X4_size hg hp1 hp6 hp7 ?_
              dsimp only [zCont, Option.toList, List.cons_append, List.nil_append]
              refine r_bipush (by decide) 75 rfl (dd_X11_tell 36 _ _ _ rfl) ?_
              refine r_if_icmplt (by omega) (by omega) 78 rfl 86 rfl (dd_X11_tell 37 _ _ _ rfl) (fun hc10 => ?_) (fun hc10 => ?_)
              · refine r_aload_5 88 rfl (dd_X11_tell 42 _ _ _ rfl) ?_
                refine r_getr hg zc_X10 2 (by decide) (fun _ _ _ => rfl) (y.vo u va hV).2.2.2.2.1 (y.vo u va hV).1 (Or.inl rfl) (tb_2 123 _ rfl) 91 rfl (dd_X11_tell 43 _ _ _ rfl) ?_
                refine r_new 10 190 hg zc_X2 (tb_3 41 _ rfl) (tb_3 42 _ rfl) (tb_1 25 _ rfl) (Nat.le_of_ble_eq_true rfl) (Nat.le_of_ble_eq_true rfl) zd_X2 94 rfl (dd_X11_tell 44 _ _ _ rfl) (fun e hz_e => ?_)
                refine r_dup rfl 95 rfl (dd_X11_tell 45 _ _ _ rfl) ?_
                refine r_iload_2 96 rfl (dd_X11_tell 46 _ _ _ rfl) ?_
                refine r_iload_3 97 rfl (dd_X11_tell 47 _ _ _ rfl) ?_
                refine r_iload_4 99 rfl (dd_X11_tell 48 _ _ _ rfl) ?_
                refine r_callI3 (lvl := 11) (mc1 := 1) (ms1 := 5) 9 185 hg rfl md_X2_init wi_X2_init rfl rfl (tb_3 43 _ rfl) (by decide) (by decide) rfl (Nat.le_of_ble_eq_true rfl) (Nat.le_of_ble_eq_true rfl) (Nat.le_of_ble_eq_true rfl) 102 rfl (dd_X11_tell 49 _ _ _ rfl) ?_
                refine c_X2_init (o := zu1 (fun q => if kd_ h q = 0 then 0 else 1) e 0) (r := 0) hg zu1_at zu1_at (fun be o1 h1 hb0 f0 f1 f2 f3 kb ob st0 => ?_)
                have hbe : kd_ h be = 0 := by by_cases hq : be = e; (rw [hq]; exact hz_e); exact (zu1_ne hq).symm.trans hb0
                have hsame : z_agree (fun _ => False) h h1 := fun b _ h0 => by have hbe9 : b ≠ e := fun q => h0 (by rw [q]; exact hz_e); have h9 := st0.1 b (by show ¬ zu1 (fun q => if kd_ h q = 0 then 0 else 1) e 0 b = 0; rw [zu1_ne hbe9]; show ¬ (if kd_ h b = 0 then 0 else 1) = 0; rw [if_neg h0]; decide) (by rw [show kd_ (nob h e 5) b = kd_ h b from zu1_ne hbe9]; exact h0); exact ⟨h9.1.trans (zu1_ne hbe9), h9.2.1, fun j => (h9.2.2.1 j).trans (if_neg hbe9), fun j => (h9.2.2.2.1 j).trans (if_neg hbe9), fun j => (h9.2.2.2.2.1 j).trans (if_neg hbe9), h9.2.2.2.2.2⟩
                have ke : kd_ h1 e = 6 := st0.kd zu1_at (by decide)
                obtain ⟨oo, hoo⟩ : ∃ oo : Nat → Nat, oo = fun q => if kd_ h q = 0 then rg 1 u else o q := ⟨_, rfl⟩
                have oe : oo e = rg 1 u := by rw [hoo]; exact if_pos hz_e
                have ob : oo be = rg 1 u := by rw [hoo]; exact if_pos hbe
                have st1 : zStep (fun q => q = rg 1 u) o h oo h1 := ⟨hsame.mono fun _ q => q.elim, fun b h0 => ⟨by rw [hoo]; exact if_neg h0, (hsame b id h0).1⟩⟩
                have hpx := hp.fr (st1.same hsame (rg 1 u))
                have vo1 := (y.vo u va hV).fr (st1.same hsame (rg 0 u))
                dsimp only [zCont, Option.toList, List.cons_append, List.nil_append]
                refine r_callV1 (lvl := 17) (mc1 := 1) (ms1 := 100) 8 85 hg rfl md_X4_insert zc_X4 hpx.1 wi_X4_insert wv_X4_insert (tb_3 68 _ rfl) (by decide) (by decide) rfl (Nat.le_of_ble_eq_true rfl) (Nat.le_of_ble_eq_true rfl) (Nat.le_of_ble_eq_true rfl) 105 rfl (dd_X11_tell 50 _ _ _ rfl) ?_
                refine c_X4_insert hg hm (n2 := n + 1) (K := its) (W := what) (w := w) (S2 := (zins2 S u (zpos S.2 (30 * u) w (S.2 8 u).toNat) its what w)) hI ((hI.mono (n2 := n + 1) (by omega) (by omega)).ins u _ (by omega) (by omega) (by omega) (by omega)) hpx (by omega) (e := e) (be := be) ke oe f3 kb ob (fun d hd q => by obtain ⟨i, hi⟩ := List.getElem?_of_mem hd; have h9 := (hp10 i d hi).2.2.1; rw [q, hbe] at h9; cases h9) (fun q => by have h9 := hp5.1; rw [← q, hbe] at h9; cases h9) (fun hd => by obtain ⟨i, hi⟩ := List.getElem?_of_mem hd; have h9 := (hp10 i e hi).1.1; rw [hz_e] at h9; cases h9) f0 f1 f2 hw rfl (fun o2 h2 hx st2 => ?_)
                dsimp only [zCont, Option.toList, List.cons_append, List.nil_append]
                refine r_ireturn rfl rfl (dd_X11_tell 51 _ _ _ rfl) ?_
                have hle := zpos_le (ar := S.2) (b := 30 * u) (w := w) (S.2 8 u).toNat
                have hL9 : (S.2 8 u).toNat = L.length := by omega
                have k := k0 u _ hu (by omega) (by omega) (by omega) rfl
                rw [← hL9]
                generalize hpp : zpos S.2 (30 * u) w (S.2 8 u).toNat = p at *
                have st : zStep (fun q => q = rg 1 u) o h o2 h2 := st1.trans st2
                have z := y.toHi (S2 := (zins2 S u p its what w)) (n2 := n + 1) (Nat.le_succ n) (v := u) st (fun k i hk => zins2_else (fun q => hk (by omega)) (Or.inl (fun q => hk (by omega)))) (fun k _ => rfl) (by omega) (fun q hq => zins2_else (by decide) (Or.inr hq)) (fun k q i hq hi h8 => zins2_far hq hi (by omega) (by omega) h8) ⟨hx, by rw [← hpp]; exact zins2_sorted hsd (by omega)⟩ (fun j hj => by rw [zins2_8] at hj; rcases Nat.lt_trichotomy j p with q | q | q; (rw [zins2_lo (by decide) q]; exact y.dy u j (by omega) (by omega)); (rw [q, zins2_at.2.2]; omega); (obtain ⟨d, rfl⟩ : ∃ d, j = d + 1 := ⟨j - 1, by omega⟩; rw [zins2_hi (by omega) (by omega) (by omega)]; exact y.dy u d (by omega) (by omega))) (fun j hj h9 => by rw [zins2_8] at hj; rcases Nat.lt_trichotomy j p with q | q | q; (rw [zins2_lo (by decide) q] at h9; rw [zins2_lo (by decide) q]; exact y.kp u j (by omega) (by omega) h9); (rw [q, zins2_at.1] at h9; rw [q, zins2_at.2.1]; omega); (obtain ⟨d, rfl⟩ : ∃ d, j = d + 1 := ⟨j - 1, by omega⟩; rw [zins2_hi (by omega) (by omega) (by omega)] at h9; rw [zins2_hi (by omega) (by omega) (by omega)]; exact y.kp u d (by omega) (by omega) h9)) (fun q => (hI.events q).2)
                rw [show ((S.2 8 u).toNat : Int) - (p : Int) = S.2 8 u - (p : Int) by omega] at k
                exact k _ _ z.ex (st.mono (fun q hq => by show q ≠ 0; rw [show q = _ from hq]; first | decide | (unfold rg; omega)))
              · refine r_throw hg zt_ISE rfl (by decide) (Nat.le_of_ble_eq_true rfl) (Nat.le_of_ble_eq_true rfl) (Nat.le_of_ble_eq_true rfl) (pc3 := 81) (pc4 := 82) (pc7 := 85) rfl rfl rfl (dd_X11_tell 38 _ _ _ rfl) (dd_X11_tell 39 _ _ _ rfl) (dd_X11_tell 40 _ _ _ rfl) (dd_X11_tell 41 _ _ _ rfl) ?_
                exact k3 u hu (by omega) (by omega) (by omega)
            · dsimp only [zCont, Option.toList, List.cons_append, List.nil_append]
              refine r_ifne (by omega) 57 rfl 65 rfl (dd_X11_tell 28 _ _ _ rfl) (fun q => absurd q (by decide)) (fun _ => ?_)
              refine r_throw hg zt_IAE rfl (by decide) (Nat.le_of_ble_eq_true rfl) (Nat.le_of_ble_eq_true rfl) (Nat.le_of_ble_eq_true rfl) (pc3 := 60) (pc4 := 61) (pc7 := 64) rfl rfl rfl (dd_X11_tell 29 _ _ _ rfl) (dd_X11_tell 30 _ _ _ rfl) (dd_X11_tell 31 _ _ _ rfl) (dd_X11_tell 32 _ _ _ rfl) ?_
              exact k2 u hu (by omega) (by omega)
          · dsimp only [zCont, Option.toList, List.cons_append, List.nil_append]
            refine r_ifeq (by omega) 40 rfl 57 rfl (dd_X11_tell 21 _ _ _ rfl) (fun _ => ?_) (fun q => absurd q (by decide))
            refine r_throw hg zt_IAE rfl (by decide) (Nat.le_of_ble_eq_true rfl) (Nat.le_of_ble_eq_true rfl) (Nat.le_of_ble_eq_true rfl) (pc3 := 60) (pc4 := 61) (pc7 := 64) rfl rfl rfl (dd_X11_tell 29 _ _ _ rfl) (dd_X11_tell 30 _ _ _ rfl) (dd_X11_tell 31 _ _ _ rfl) (dd_X11_tell 32 _ _ _ rfl) ?_
            exact k2 u hu (by omega) (by omega)
        · dsimp only [zCont, Option.toList, List.cons_append, List.nil_append]
          refine r_ifeq (by omega) 32 rfl 57 rfl (dd_X11_tell 17 _ _ _ rfl) (fun _ => ?_) (fun q => absurd q (by decide))
          refine r_throw hg zt_IAE rfl (by decide) (Nat.le_of_ble_eq_true rfl) (Nat.le_of_ble_eq_true rfl) (Nat.le_of_ble_eq_true rfl) (pc3 := 60) (pc4 := 61) (pc7 := 64) rfl rfl rfl (dd_X11_tell 29 _ _ _ rfl) (dd_X11_tell 30 _ _ _ rfl) (dd_X11_tell 31 _ _ _ rfl) (dd_X11_tell 32 _ _ _ rfl) ?_
          exact k2 u hu (by omega) (by omega)
      · refine r_aload_0 17 rfl (dd_X11_tell 9 _ _ _ rfl) ?_
        refine r_iload_3 18 rfl (dd_X11_tell 10 _ _ _ rfl) ?_
        refine r_callV1 (lvl := 13) (mc1 := 1) (ms1 := 6) 10 188 hg rfl md_X11_personAt zc_X11 y.mn.1 wi_X11_personAt wv_X11_personAt (tb_3 3 _ rfl) (by decide) (by decide) rfl (Nat.le_of_ble_eq_true rfl) (Nat.le_of_ble_eq_true rfl) (Nat.le_of_ble_eq_true rfl) 21 rfl (dd_X11_tell 11 _ _ _ rfl) ?_
        refine c_X11_personAt hg hI y (by omega) (fun hE => ?_) (fun p pa hp hP hp4 => ?_)
        · dsimp only [zCont]
          exact kE (by omega)
        · dsimp only [zCont, Option.toList, List.cons_append, List.nil_append]
          refine r_pop rfl 22 rfl (dd_X11_tell 12 _ _ _ rfl) ?_
          refine r_iload_2 23 rfl (dd_X11_tell 13 _ _ _ rfl) ?_
          refine r_iconst 24 rfl (dd_X11_tell 14 _ _ _ rfl) ?_
          refine r_bipush (by decide) 26 rfl (dd_X11_tell 15 _ _ _ rfl) ?_
          refine r_callS3 (lvl := 10) (mc1 := 0) (ms1 := 0) 10 188 hg rfl md_X11_isWithin ws_X11_isWithin (tb_1 171 _ rfl) (by decide) (by decide) rfl (Nat.le_of_ble_eq_true rfl) (Nat.le_of_ble_eq_true rfl) (Nat.le_of_ble_eq_true rfl) 29 rfl (dd_X11_tell 16 _ _ _ rfl) ?_
          refine c_X11_isWithin hg (by omega) (by omega) (by omega) (fun hb11 => ?_) (fun hb11 => ?_)
          · dsimp only [zCont, Option.toList, List.cons_append, List.nil_append]
            refine r_ifeq (by omega) 32 rfl 57 rfl (dd_X11_tell 17 _ _ _ rfl) (fun q => absurd q (by decide)) (fun _ => ?_)
            refine r_iload_2 33 rfl (dd_X11_tell 18 _ _ _ rfl) ?_
            refine r_iload_3 34 rfl (dd_X11_tell 19 _ _ _ rfl) ?_
            refine r_callS2 (lvl := 12) (mc1 := 0) (ms1 := 0) 10 188 hg rfl md_X11_fitsKind ws_X11_fitsKind (tb_3 33 _ rfl) (by decide) (by decide) rfl (Nat.le_of_ble_eq_true rfl) (Nat.le_of_ble_eq_true rfl) (Nat.le_of_ble_eq_true rfl) 37 rfl (dd_X11_tell 20 _ _ _ rfl) ?_
            refine c_X11_fitsKind hg (by omega) (by omega) (fun hb12 => ?_) (fun hb12 => ?_)
            · dsimp only [zCont, Option.toList, List.cons_append, List.nil_append]
              refine r_ifeq (by omega) 40 rfl 57 rfl (dd_X11_tell 21 _ _ _ rfl) (fun q => absurd q (by decide)) (fun _ => ?_)
              have hbu9 := hI.built u
              refine r_iload_4 42 rfl (dd_X11_tell 22 _ _ _ rfl) ?_
              refine r_aload_5 44 rfl (dd_X11_tell 23 _ _ _ rfl) ?_
              refine r_geti hg zc_X10 1 (by decide) (fun _ _ _ => rfl) (y.vo u va hV).2.2.2.1 (y.vo u va hV).1 (Or.inl rfl) (tb_2 121 _ rfl) 47 rfl (dd_X11_tell 24 _ _ _ rfl) ?_
              refine r_aload_0 48 rfl (dd_X11_tell 25 _ _ _ rfl) ?_
              refine r_geti hg zc_X11 0 (by decide) (fun _ _ _ => rfl) y.mn.2.2.1 y.mn.1 (Or.inl rfl) (tb_1 121 _ rfl) 51 rfl (dd_X11_tell 26 _ _ _ rfl) ?_
              refine r_callS3 (lvl := 10) (mc1 := 0) (ms1 := 0) 10 188 hg rfl md_X11_isWithin ws_X11_isWithin (tb_1 171 _ rfl) (by decide) (by decide) rfl (Nat.le_of_ble_eq_true rfl) (Nat.le_of_ble_eq_true rfl) (Nat.le_of_ble_eq_true rfl) 54 rfl (dd_X11_tell 27 _ _ _ rfl) ?_
              refine c_X11_isWithin hg (by omega) (by omega) (by omega) (fun hb13 => ?_) (fun hb13 => ?_)
              · dsimp only [zCont, Option.toList, List.cons_append, List.nil_append]
                refine r_ifne (by omega) 57 rfl 65 rfl (dd_X11_tell 28 _ _ _ rfl) (fun _ => ?_) (fun q => absurd q (by decide))
                have hul : u < Vs.length := by omega
                have hu12 : u < 12 := by omega
                obtain ⟨⟨t, l, L, B, hp⟩, hsd⟩ := id (y.hi u hul)
                obtain ⟨hp1, hp2, hp3, hp4, hp5, hp6, hp7, hp8, hp9, hp10, hp11, hp12⟩ := id hp
                have hbu := hI.built u
                refine r_aload_5 67 rfl (dd_X11_tell 33 _ _ _ rfl) ?_
                refine r_getr hg zc_X10 2 (by decide) (fun _ _ _ => rfl) (y.vo u va hV).2.2.2.2.1 (y.vo u va hV).1 (Or.inl rfl) (tb_2 123 _ rfl) 70 rfl (dd_X11_tell 34 _ _ _ rfl) ?_
                refine r_callV0 (lvl := 13) (mc1 := 0) (ms1 := 0) 10 188 hg rfl md_X4_size zc_X4 hp1 wi_X4_size wv_X4_size (tb_3 36 _ rfl) (by decide) (by decide) rfl (Nat.le_of_ble_eq_true rfl) (Nat.le_of_ble_eq_true rfl) (Nat.le_of_ble_eq_true rfl) 73 rfl (dd_X11_tell 35 _ _ _ rfl) ?_
                refine c_X4_size hg hp1 hp6 hp7 ?_
                dsimp only [zCont, Option.toList, List.cons_append, List.nil_append]
                refine r_bipush (by decide) 75 rfl (dd_X11_tell 36 _ _ _ rfl) ?_
                refine r_if_icmplt (by omega) (by omega) 78 rfl 86 rfl (dd_X11_tell 37 _ _ _ rfl) (fun hc14 => ?_) (fun hc14 => ?_)
                · refine r_aload_5 88 rfl (dd_X11_tell 42 _ _ _ rfl) ?_
                  refine r_getr hg zc_X10 2 (by decide) (fun _ _ _ => rfl) (y.vo u va hV).2.2.2.2.1 (y.vo u va hV).1 (Or.inl rfl) (tb_2 123 _ rfl) 91 rfl (dd_X11_tell 43 _ _ _ rfl) ?_
                  refine r_new 9 184 hg zc_X2 (tb_3 41 _ rfl) (tb_3 42 _ rfl) (tb_1 25 _ rfl) (Nat.le_of_ble_eq_true rfl) (Nat.le_of_ble_eq_true rfl) zd_X2 94 rfl (dd_X11_tell 44 _ _ _ rfl) (fun e hz_e => ?_)
                  refine r_dup rfl 95 rfl (dd_X11_tell 45 _ _ _ rfl) ?_
                  refine r_iload_2 96 rfl (dd_X11_tell 46 _ _ _ rfl) ?_
                  refine r_iload_3 97 rfl (dd_X11_tell 47 _ _ _ rfl) ?_
                  refine r_iload_4 99 rfl (dd_X11_tell 48 _ _ _ rfl) ?_
                  refine r_callI3 (lvl := 11) (mc1 := 1) (ms1 := 5) 8 179 hg rfl md_X2_init wi_X2_init rfl rfl (tb_3 43 _ rfl) (by decide) (by decide) rfl (Nat.le_of_ble_eq_true rfl) (Nat.le_of_ble_eq_true rfl) (Nat.le_of_ble_eq_true rfl) 102 rfl (dd_X11_tell 49 _ _ _ rfl) ?_
                  refine c_X2_init (o := zu1 (fun q => if kd_ h q = 0 then 0 else 1) e 0) (r := 0) hg zu1_at zu1_at (fun be o1 h1 hb0 f0 f1 f2 f3 kb ob st0 => ?_)
                  have hbe : kd_ h be = 0 := by by_cases hq : be = e; (rw [hq]; exact hz_e); exact (zu1_ne hq).symm.trans hb0
                  have hsame : z_agree (fun _ => False) h h1 := fun b _ h0 => by have hbe9 : b ≠ e := fun q => h0 (by rw [q]; exact hz_e); have h9 := st0.1 b (by show ¬ zu1 (fun q => if kd_ h q = 0 then 0 else 1) e 0 b = 0; rw [zu1_ne hbe9]; show ¬ (if kd_ h b = 0 then 0 else 1) = 0; rw [if_neg h0]; decide) (by rw [show kd_ (nob h e 5) b = kd_ h b from zu1_ne hbe9]; exact h0); exact ⟨h9.1.trans (zu1_ne hbe9), h9.2.1, fun j => (h9.2.2.1 j).trans (if_neg hbe9), fun j => (h9.2.2.2.1 j).trans (if_neg hbe9), fun j => (h9.2.2.2.2.1 j).trans (if_neg hbe9), h9.2.2.2.2.2⟩
                  have ke : kd_ h1 e = 6 := st0.kd zu1_at (by decide)
                  obtain ⟨oo, hoo⟩ : ∃ oo : Nat → Nat, oo = fun q => if kd_ h q = 0 then rg 1 u else o q := ⟨_, rfl⟩
                  have oe : oo e = rg 1 u := by rw [hoo]; exact if_pos hz_e
                  have ob : oo be = rg 1 u := by rw [hoo]; exact if_pos hbe
                  have st1 : zStep (fun q => q = rg 1 u) o h oo h1 := ⟨hsame.mono fun _ q => q.elim, fun b h0 => ⟨by rw [hoo]; exact if_neg h0, (hsame b id h0).1⟩⟩
                  have hpx := hp.fr (st1.same hsame (rg 1 u))
                  have vo1 := (y.vo u va hV).fr (st1.same hsame (rg 0 u))
                  dsimp only [zCont, Option.toList, List.cons_append, List.nil_append]
                  refine r_callV1 (lvl := 17) (mc1 := 1) (ms1 := 100) 7 79 hg rfl md_X4_insert zc_X4 hpx.1 wi_X4_insert wv_X4_insert (tb_3 68 _ rfl) (by decide) (by decide) rfl (Nat.le_of_ble_eq_true rfl) (Nat.le_of_ble_eq_true rfl) (Nat.le_of_ble_eq_true rfl) 105 rfl (dd_X11_tell 50 _ _ _ rfl) ?_
                  refine c_X4_insert hg hm (n2 := n + 1) (K := its) (W := what) (w := w) (S2 := (zins2 S u (zpos S.2 (30 * u) w (S.2 8 u).toNat) its what w)) hI ((hI.mono (n2 := n + 1) (by omega) (by omega)).ins u _ (by omega) (by omega) (by omega) (by omega)) hpx (by omega) (e := e) (be := be) ke oe f3 kb ob (fun d hd q => by obtain ⟨i, hi⟩ := List.getElem?_of_mem hd; have h9 := (hp10 i d hi).2.2.1; rw [q, hbe] at h9; cases h9) (fun q => by have h9 := hp5.1; rw [← q, hbe] at h9; cases h9) (fun hd => by obtain ⟨i, hi⟩ := List.getElem?_of_mem hd; have h9 := (hp10 i e hi).1.1; rw [hz_e] at h9; cases h9) f0 f1 f2 hw rfl (fun o2 h2 hx st2 => ?_)
                  dsimp only [zCont, Option.toList, List.cons_append, List.nil_append]
                  refine r_ireturn rfl rfl (dd_X11_tell 51 _ _ _ rfl) ?_
                  have hle := zpos_le (ar := S.2) (b := 30 * u) (w := w) (S.2 8 u).toNat
                  have hL9 : (S.2 8 u).toNat = L.length := by omega
                  have k := k0 u _ hu (by omega) (by omega) (by omega) rfl
                  rw [← hL9]
                  generalize hpp : zpos S.2 (30 * u) w (S.2 8 u).toNat = p at *
                  have st : zStep (fun q => q = rg 1 u) o h o2 h2 := st1.trans st2
                  have z := y.toHi (S2 := (zins2 S u p its what w)) (n2 := n + 1) (Nat.le_succ n) (v := u) st (fun k i hk => zins2_else (fun q => hk (by omega)) (Or.inl (fun q => hk (by omega)))) (fun k _ => rfl) (by omega) (fun q hq => zins2_else (by decide) (Or.inr hq)) (fun k q i hq hi h8 => zins2_far hq hi (by omega) (by omega) h8) ⟨hx, by rw [← hpp]; exact zins2_sorted hsd (by omega)⟩ (fun j hj => by rw [zins2_8] at hj; rcases Nat.lt_trichotomy j p with q | q | q; (rw [zins2_lo (by decide) q]; exact y.dy u j (by omega) (by omega)); (rw [q, zins2_at.2.2]; omega); (obtain ⟨d, rfl⟩ : ∃ d, j = d + 1 := ⟨j - 1, by omega⟩; rw [zins2_hi (by omega) (by omega) (by omega)]; exact y.dy u d (by omega) (by omega))) (fun j hj h9 => by rw [zins2_8] at hj; rcases Nat.lt_trichotomy j p with q | q | q; (rw [zins2_lo (by decide) q] at h9; rw [zins2_lo (by decide) q]; exact y.kp u j (by omega) (by omega) h9); (rw [q, zins2_at.1] at h9; rw [q, zins2_at.2.1]; omega); (obtain ⟨d, rfl⟩ : ∃ d, j = d + 1 := ⟨j - 1, by omega⟩; rw [zins2_hi (by omega) (by omega) (by omega)] at h9; rw [zins2_hi (by omega) (by omega) (by omega)]; exact y.kp u d (by omega) (by omega) h9)) (fun q => (hI.events q).2)
                  rw [show ((S.2 8 u).toNat : Int) - (p : Int) = S.2 8 u - (p : Int) by omega] at k
                  exact k _ _ z.ex (st.mono (fun q hq => by show q ≠ 0; rw [show q = _ from hq]; first | decide | (unfold rg; omega)))
                · refine r_throw hg zt_ISE rfl (by decide) (Nat.le_of_ble_eq_true rfl) (Nat.le_of_ble_eq_true rfl) (Nat.le_of_ble_eq_true rfl) (pc3 := 81) (pc4 := 82) (pc7 := 85) rfl rfl rfl (dd_X11_tell 38 _ _ _ rfl) (dd_X11_tell 39 _ _ _ rfl) (dd_X11_tell 40 _ _ _ rfl) (dd_X11_tell 41 _ _ _ rfl) ?_
                  exact k3 u hu (by omega) (by omega) (by omega)
              · dsimp only [zCont, Option.toList, List.cons_append, List.nil_append]
                refine r_ifne (by omega) 57 rfl 65 rfl (dd_X11_tell 28 _ _ _ rfl) (fun q => absurd q (by decide)) (fun _ => ?_)
                refine r_throw hg zt_IAE rfl (by decide) (Nat.le_of_ble_eq_true rfl) (Nat.le_of_ble_eq_true rfl) (Nat.le_of_ble_eq_true rfl) (pc3 := 60) (pc4 := 61) (pc7 := 64) rfl rfl rfl (dd_X11_tell 29 _ _ _ rfl) (dd_X11_tell 30 _ _ _ rfl) (dd_X11_tell 31 _ _ _ rfl) (dd_X11_tell 32 _ _ _ rfl) ?_
                exact k2 u hu (by omega) (by omega)
            · dsimp only [zCont, Option.toList, List.cons_append, List.nil_append]
              refine r_ifeq (by omega) 40 rfl 57 rfl (dd_X11_tell 21 _ _ _ rfl) (fun _ => ?_) (fun q => absurd q (by decide))
              refine r_throw hg zt_IAE rfl (by decide) (Nat.le_of_ble_eq_true rfl) (Nat.le_of_ble_eq_true rfl) (Nat.le_of_ble_eq_true rfl) (pc3 := 60) (pc4 := 61) (pc7 := 64) rfl rfl rfl (dd_X11_tell 29 _ _ _ rfl) (dd_X11_tell 30 _ _ _ rfl) (dd_X11_tell 31 _ _ _ rfl) (dd_X11_tell 32 _ _ _ rfl) ?_
              exact k2 u hu (by omega) (by omega)
          · dsimp only [zCont, Option.toList, List.cons_append, List.nil_append]
            refine r_ifeq (by omega) 32 rfl 57 rfl (dd_X11_tell 17 _ _ _ rfl) (fun _ => ?_) (fun q => absurd q (by decide))
            refine r_throw hg zt_IAE rfl (by decide) (Nat.le_of_ble_eq_true rfl) (Nat.le_of_ble_eq_true rfl) (Nat.le_of_ble_eq_true rfl) (pc3 := 60) (pc4 := 61) (pc7 := 64) rfl rfl rfl (dd_X11_tell 29 _ _ _ rfl) (dd_X11_tell 30 _ _ _ rfl) (dd_X11_tell 31 _ _ _ rfl) (dd_X11_tell 32 _ _ _ rfl) ?_
            exact k2 u hu (by omega) (by omega)
