abbrev mX12_rateOn : zM := (RX12, cX12_rateOn, 6, (Option.some Jvm.ClassFile.FieldType.int), [], "rateOn", 10)
set_option maxRecDepth 20000 in
theorem c_X12_rateOn {g : zGT} {Q : zO → zH → Prop} {h : zH} (hg : zG g) {h0 : zH} {m : Nat} {A : Nat → Nat} {S : zS} {n : Nat} {t : Int} (hI : MInv n S) (hM : MI h0 m A S t h) {a w : Int} (ha : zR a) (hw : zR w) (k : Q (.inl (some (.int (zI (zrate S a w))))) h) : zC g (.code yX12_rateOn cX12_rateOn 6 (Option.some Jvm.ClassFile.FieldType.int)) yX12_rateOn 10 0 0 [.ref m, .int (zI a), .int (zI w)] h Q := by
  refine zC_of (M := mX12_rateOn) (lv := [some (.ref m), some (.int (zI a)), some (.int (zI w)), none, none, none]) (by decide) rfl rfl (Nat.le_of_ble_eq_true rfl) rfl rfl ?_
  have e1 := hI.rates
  refine r_iconst 1 rfl (dd_X12_rateOn 0 _ _ _ rfl) ?_
  refine r_istore_3 2 rfl (by decide) rfl (dd_X12_rateOn 1 _ _ _ rfl) ?_
  refine r_iconst 3 rfl (dd_X12_rateOn 2 _ _ _ rfl) ?_
  refine r_istore_4 5 rfl (by decide) rfl (dd_X12_rateOn 3 _ _ _ rfl) ?_
  refine r_iconst 6 rfl (dd_X12_rateOn 4 _ _ _ rfl) ?_
  refine r_istore_5 8 rfl (by decide) rfl (dd_X12_rateOn 5 _ _ _ rfl) ?_
  have L8 : ∀ (tt : Nat), ∀ (j : Nat) (b f1 f2 : Int), 1000 - j < tt → ((j : Int) ≤ S.1 20) → (b = j) → (f1 = (zro S.2 a w j).1) → (f2 = (zro S.2 a w j).2) → zX g mX12_rateOn 0 0 Q 8 [some (.ref m), some (.int (zI a)), some (.int (zI w)), some (.int (zI f1)), some (.int (zI f2)), some (.int (zI b))] [] h 0 0 := by
    intro tt8
    induction tt8 with
    | zero => intros; exfalso; omega
    | succ tt8 ih8 =>
      intro j b f1 f2 hlt8 hj hb hf1 hf2
      have e2 := hI.rateClass j
      have e3 := hI.rateFrom j
      have e4 := zro_range (c := a) (w := w) hI j
      refine r_iload_5 10 rfl (dd_X12_rateOn 6 _ _ _ rfl) ?_
      refine r_aload_0 11 rfl (dd_X12_rateOn 7 _ _ _ rfl) ?_
      refine m_get 20 hg hM (by unfold z_free; decide) rfl (by decide) (tb_6 76 _ rfl) 14 rfl (dd_X12_rateOn 8 _ _ _ rfl) ?_ (fun _ _ _ => rfl)
      refine r_if_icmpge (by omega) (by omega) 17 rfl 73 rfl (dd_X12_rateOn 9 _ _ _ rfl) (fun hc1 => ?_) (fun hc1 => ?_)
      · refine r_iload_4 75 rfl (dd_X12_rateOn 40 _ _ _ rfl) ?_
        refine r_ireturn rfl rfl (dd_X12_rateOn 41 _ _ _ rfl) ?_
        unfold zrate at k
        rw [show (S.1 20).toNat = j by omega, ← hf2] at k
        exact k
      · refine r_aload_0 18 rfl (dd_X12_rateOn 10 _ _ _ rfl) ?_
        refine m_arr 21 hg hM (by decide) (by decide) (tb_6 77 _ rfl) 21 rfl (dd_X12_rateOn 11 _ _ _ rfl) ?_ (fun _ _ _ => rfl)
        refine r_iload_5 23 rfl (dd_X12_rateOn 12 _ _ _ rfl) ?_
        refine m_iald 21 (j) (by omega) hg hM rfl (by omega) (z_lt (n2 := 40) rfl (by omega)) (by decide) 24 rfl (dd_X12_rateOn 13 _ _ _ rfl) ?_
        refine r_iload_1 25 rfl (dd_X12_rateOn 14 _ _ _ rfl) ?_
        refine r_if_icmpne (by omega) (by omega) 28 rfl 67 rfl (dd_X12_rateOn 15 _ _ _ rfl) (fun hc2 => ?_) (fun hc2 => ?_)
        · refine r_iinc_5 70 rfl (by decide) rfl (dd_X12_rateOn 38 _ _ _ rfl) ?_
          refine r_goto 8 rfl (dd_X12_rateOn 39 _ _ _ rfl) ?_
          exact r_sub _ (z_s1 (z_s1 (z_s1 (z_s1 (z_s1 (z_s1 z_sN)))))) (ih8 (j + 1) _ _ _ (by omega) (by omega) (by omega) (by unfold zro; first | (rw [if_pos (by omega)]) | (rw [if_neg (by omega)]; first | exact hf1 | exact hf2)) (by unfold zro; first | (rw [if_pos (by omega)]) | (rw [if_neg (by omega)]; first | exact hf1 | exact hf2)))
        · refine r_aload_0 29 rfl (dd_X12_rateOn 16 _ _ _ rfl) ?_
          refine m_arr 22 hg hM (by decide) (by decide) (tb_6 78 _ rfl) 32 rfl (dd_X12_rateOn 17 _ _ _ rfl) ?_ (fun _ _ _ => rfl)
          refine r_iload_5 34 rfl (dd_X12_rateOn 18 _ _ _ rfl) ?_
          refine m_iald 22 (j) (by omega) hg hM rfl (by omega) (z_lt (n2 := 40) rfl (by omega)) (by decide) 35 rfl (dd_X12_rateOn 19 _ _ _ rfl) ?_
          refine r_iload_2 36 rfl (dd_X12_rateOn 20 _ _ _ rfl) ?_
          refine r_if_icmpgt (by omega) (by omega) 39 rfl 67 rfl (dd_X12_rateOn 21 _ _ _ rfl) (fun hc3 => ?_) (fun hc3 => ?_)
          · refine r_iinc_5 70 rfl (by decide) rfl (dd_X12_rateOn 38 _ _ _ rfl) ?_
            refine r_goto 8 rfl (dd_X12_rateOn 39 _ _ _ rfl) ?_
            exact r_sub _ (z_s1 (z_s1 (z_s1 (z_s1 (z_s1 (z_s1 z_sN)))))) (ih8 (j + 1) _ _ _ (by omega) (by omega) (by omega) (by unfold zro; first | (rw [if_pos (by omega)]) | (rw [if_neg (by omega)]; first | exact hf1 | exact hf2)) (by unfold zro; first | (rw [if_pos (by omega)]) | (rw [if_neg (by omega)]; first | exact hf1 | exact hf2)))
          · refine r_aload_0 40 rfl (dd_X12_rateOn 22 _ _ _ rfl) ?_
            refine m_arr 22 hg hM (by decide) (by decide) (tb_6 78 _ rfl) 43 rfl (dd_X12_rateOn 23 _ _ _ rfl) ?_ (fun _ _ _ => rfl)
            refine r_iload_5 45 rfl (dd_X12_rateOn 24 _ _ _ rfl) ?_
            refine m_iald 22 (j) (by omega) hg hM rfl (by omega) (z_lt (n2 := 40) rfl (by omega)) (by decide) 46 rfl (dd_X12_rateOn 25 _ _ _ rfl) ?_
            refine r_iload_3 47 rfl (dd_X12_rateOn 26 _ _ _ rfl) ?_
            refine r_if_icmplt (by omega) (by omega) 50 rfl 67 rfl (dd_X12_rateOn 27 _ _ _ rfl) (fun hc4 => ?_) (fun hc4 => ?_)
            · refine r_iinc_5 70 rfl (by decide) rfl (dd_X12_rateOn 38 _ _ _ rfl) ?_
              refine r_goto 8 rfl (dd_X12_rateOn 39 _ _ _ rfl) ?_
              exact r_sub _ (z_s1 (z_s1 (z_s1 (z_s1 (z_s1 (z_s1 z_sN)))))) (ih8 (j + 1) _ _ _ (by omega) (by omega) (by omega) (by unfold zro; first | (rw [if_pos (by omega)]) | (rw [if_neg (by omega)]; first | exact hf1 | exact hf2)) (by unfold zro; first | (rw [if_pos (by omega)]) | (rw [if_neg (by omega)]; first | exact hf1 | exact hf2)))
            · refine r_aload_0 51 rfl (dd_X12_rateOn 28 _ _ _ rfl) ?_
              refine m_arr 22 hg hM (by decide) (by decide) (tb_6 78 _ rfl) 54 rfl (dd_X12_rateOn 29 _ _ _ rfl) ?_ (fun _ _ _ => rfl)
              refine r_iload_5 56 rfl (dd_X12_rateOn 30 _ _ _ rfl) ?_
              refine m_iald 22 (j) (by omega) hg hM rfl (by omega) (z_lt (n2 := 40) rfl (by omega)) (by decide) 57 rfl (dd_X12_rateOn 31 _ _ _ rfl) ?_
              refine r_istore_3 58 rfl (by decide) rfl (dd_X12_rateOn 32 _ _ _ rfl) ?_
              refine r_aload_0 59 rfl (dd_X12_rateOn 33 _ _ _ rfl) ?_
              refine m_arr 23 hg hM (by decide) (by decide) (tb_6 79 _ rfl) 62 rfl (dd_X12_rateOn 34 _ _ _ rfl) ?_ (fun _ _ _ => rfl)
              refine r_iload_5 64 rfl (dd_X12_rateOn 35 _ _ _ rfl) ?_
              refine m_iald 23 (j) (by omega) hg hM rfl (by omega) (z_lt (n2 := 40) rfl (by omega)) (by decide) 65 rfl (dd_X12_rateOn 36 _ _ _ rfl) ?_
              refine r_istore_4 67 rfl (by decide) rfl (dd_X12_rateOn 37 _ _ _ rfl) ?_
              refine r_iinc_5 70 rfl (by decide) rfl (dd_X12_rateOn 38 _ _ _ rfl) ?_
              refine r_goto 8 rfl (dd_X12_rateOn 39 _ _ _ rfl) ?_
              exact r_sub _ (z_s1 (z_s1 (z_s1 (z_s1 (z_s1 (z_s1 z_sN)))))) (ih8 (j + 1) _ _ _ (by omega) (by omega) (by omega) (by unfold zro; first | (rw [if_pos (by omega)]) | (rw [if_neg (by omega)]; first | exact hf1 | exact hf2)) (by unfold zro; first | (rw [if_pos (by omega)]) | (rw [if_neg (by omega)]; first | exact hf1 | exact hf2)))
  exact r_sub _ (z_s1 (z_s1 (z_s1 (z_s1 (z_s1 (z_s1 z_sN)))))) (L8 1000000 0 _ _ _ (by omega) (by omega) rfl rfl rfl)

abbrev mX12_owed : zM := (RX12, cX12_owed, 5, (Option.some Jvm.ClassFile.FieldType.long), [], "owed", 12)
set_option maxRecDepth 20000 in
theorem c_X12_owed {g : zGT} {Q : zO → zH → Prop} {h : zH} (hg : zG g) {h0 : zH} {m : Nat} {A : Nat → Nat} {S : zS} {n : Nat} {t : Int} (hI : MInv n S) (hM : MI h0 m A S t h) {v : Nat} (hv : v < 12) (k : ∀ h1, MI h0 m A S t h1 → Q (.inl (some (.long (zL (zowed S v))))) h1) : zC g (.code yX12_owed cX12_owed 5 (Option.some Jvm.ClassFile.FieldType.long)) yX12_owed 12 0 0 [.ref m, .int (zI v)] h Q := by
  refine zC_of (M := mX12_owed) (lv := [some (.ref m), some (.int (zI v)), none, none, none]) (by decide) rfl rfl (Nat.le_of_ble_eq_true rfl) rfl rfl ?_
  have e1 := hI.today
  have e2 := hI.paid v
  have e8 := hI.calls
  refine r_aload_0 1 rfl (dd_X12_owed 0 _ _ _ rfl) ?_
  refine m_arr 24 hg hM (by decide) (by decide) (tb_6 80 _ rfl) 4 rfl (dd_X12_owed 1 _ _ _ rfl) ?_ (fun _ _ _ => rfl)
  refine r_iload_1 5 rfl (dd_X12_owed 2 _ _ _ rfl) ?_
  refine m_lald 24 (v) (by omega) hg hM rfl (by omega) (z_lt (n2 := 12) rfl (by omega)) (by decide) 6 rfl (dd_X12_owed 3 _ _ _ rfl) ?_
  refine r_lneg 7 rfl (dd_X12_owed 4 _ _ _ rfl) ?_
  refine r_lstore_2 8 rfl (by decide) rfl (dd_X12_owed 5 _ _ _ rfl) ?_
  refine r_iconst 9 rfl (dd_X12_owed 6 _ _ _ rfl) ?_
  refine r_istore_4 11 rfl (by decide) rfl (dd_X12_owed 7 _ _ _ rfl) ?_
  have L11 : ∀ (tt : Nat), ∀ (j : Nat) (a s : Int) (h : zH), 1000 - j < tt → (a = 30 * (j : Int)) → (a ≤ S.1 1 + 30) → (s = zmon S v j - S.2 24 v) → (MI h0 m A S t h) → zX g mX12_owed 0 0 Q 11 [some (.ref m), some (.int (zI v)), some (.long (zL s)), none, some (.int (zI a))] [] h 0 0 := by
    intro tt11
    induction tt11 with
    | zero => intros; exfalso; omega
    | succ tt11 ih11 =>
      intro j a s h hlt11 ha hj hs hM
      subst ha
      have e3 := hI.ofClass v
      have e4 := zmon_range (v := v) hI j
      have e5 := hI.paid v
      have e8 := hI.calls
      have e7 := zlast_range (v := v) (w := 30 * (j : Int)) (its := 7) (wo := S.2 7 v) hI (by omega)
      refine r_iload_4 13 rfl (dd_X12_owed 8 _ _ _ rfl) ?_
      refine r_aload_0 14 rfl (dd_X12_owed 9 _ _ _ rfl) ?_
      refine m_get 1 hg hM (by unfold z_free; decide) rfl (by decide) (tb_6 57 _ rfl) 17 rfl (dd_X12_owed 10 _ _ _ rfl) ?_ (fun _ _ _ => rfl)
      refine r_if_icmpgt (by omega) (by omega) 20 rfl 66 rfl (dd_X12_owed 11 _ _ _ rfl) (fun hc1 => ?_) (fun hc1 => ?_)
      · refine r_lload_2 67 rfl (dd_X12_owed 38 _ _ _ rfl) ?_
        refine r_lreturn rfl (dd_X12_owed 39 _ _ _ rfl) ?_
        unfold zowed at k
        rw [show (S.1 1 / 30 + 1).toNat = j by omega, ← hs] at k
        exact k _ hM
      · refine r_lload_2 21 rfl (dd_X12_owed 12 _ _ _ rfl) ?_
        refine r_aload_0 22 rfl (dd_X12_owed 13 _ _ _ rfl) ?_
        refine r_iload_1 23 rfl (dd_X12_owed 14 _ _ _ rfl) ?_
        refine r_iload_4 25 rfl (dd_X12_owed 15 _ _ _ rfl) ?_
        refine r_callV2 (lvl := 11) (mc1 := 0) (ms1 := 0) 0 0 hg rfl md_X12_stateOn zc_X12 hM.kd wi_X12_stateOn wv_X12_stateOn (tb_7 16 _ rfl) (by decide) (by decide) rfl (Nat.le_of_ble_eq_true rfl) (by decide) (by decide) 28 rfl (dd_X12_owed 16 _ _ _ rfl) ?_
        refine c_X12_stateOn (v := v) hg hI hM (by omega) (by omega) (fun h2 hM => ?_)
        dsimp only [zCont, Option.toList, List.cons_append, List.nil_append]
        have hs9 := zstate_range S v (30 * (j : Int))
        refine r_iconst 29 rfl (dd_X12_owed 17 _ _ _ rfl) ?_
        refine r_if_icmpne (by omega) (by omega) 32 rfl 57 rfl (dd_X12_owed 18 _ _ _ rfl) (fun hc3 => ?_) (fun hc3 => ?_)
        · refine r_lconst0 58 rfl (dd_X12_owed 33 _ _ _ rfl) ?_
          refine r_ladd 59 rfl (dd_X12_owed 34 _ _ _ rfl) ?_
          refine r_lstore_2 60 rfl (by decide) rfl (dd_X12_owed 35 _ _ _ rfl) ?_
          refine r_iinc_4 63 rfl (by decide) rfl (dd_X12_owed 36 _ _ _ rfl) ?_
          refine r_goto 11 rfl (dd_X12_owed 37 _ _ _ rfl) ?_
          exact r_sub _ (z_s1 (z_s1 (z_s1 (z_s0 (z_s1 z_sN))))) (ih11 (j + 1) _ _ _ (by omega) (by omega) (by omega) (by unfold zmon ztax; first | (rw [if_pos (by omega)]; omega) | (rw [if_neg (by omega)]; omega)) hM)
        · refine r_aload_0 33 rfl (dd_X12_owed 19 _ _ _ rfl) ?_
          refine r_aload_0 34 rfl (dd_X12_owed 20 _ _ _ rfl) ?_
          refine r_iload_1 35 rfl (dd_X12_owed 21 _ _ _ rfl) ?_
          refine r_iload_4 37 rfl (dd_X12_owed 22 _ _ _ rfl) ?_
          refine r_bipush (by decide) 39 rfl (dd_X12_owed 23 _ _ _ rfl) ?_
          refine r_aload_0 40 rfl (dd_X12_owed 24 _ _ _ rfl) ?_
          refine m_arr 7 hg hM (by decide) (by decide) (tb_6 63 _ rfl) 43 rfl (dd_X12_owed 25 _ _ _ rfl) ?_ (fun _ _ _ => rfl)
          refine r_iload_1 44 rfl (dd_X12_owed 26 _ _ _ rfl) ?_
          refine m_iald 7 (v) (by omega) hg hM rfl (by omega) (z_lt (n2 := 12) rfl (by omega)) (by decide) 45 rfl (dd_X12_owed 27 _ _ _ rfl) ?_
          refine r_callV4 (lvl := 11) (mc1 := 0) (ms1 := 0) 0 0 hg rfl md_X12_latest zc_X12 hM.kd wi_X12_latest wv_X12_latest (tb_7 24 _ rfl) (by decide) (by decide) rfl (Nat.le_of_ble_eq_true rfl) (by decide) (by decide) 48 rfl (dd_X12_owed 28 _ _ _ rfl) ?_
          refine c_X12_latest (v := v) hg hI hM (by omega) (by omega) (by omega) ?_
          dsimp only [zCont, Option.toList, List.cons_append, List.nil_append]
          refine r_iload_4 50 rfl (dd_X12_owed 29 _ _ _ rfl) ?_
          refine r_callV2 (lvl := 10) (mc1 := 0) (ms1 := 0) 0 0 hg rfl md_X12_rateOn zc_X12 hM.kd wi_X12_rateOn wv_X12_rateOn (tb_7 86 _ rfl) (by decide) (by decide) rfl (Nat.le_of_ble_eq_true rfl) (by decide) (by decide) 53 rfl (dd_X12_owed 30 _ _ _ rfl) ?_
          refine c_X12_rateOn hg hI hM (by omega) (by omega) ?_
          dsimp only [zCont, Option.toList, List.cons_append, List.nil_append]
          have hr9 := zrate_range (c := zlast S v (30 * (j : Int)) 7 (S.2 7 v)) (w := 30 * (j : Int)) hI
          refine r_i2l (by omega) 54 rfl (dd_X12_owed 31 _ _ _ rfl) ?_
          refine r_goto 58 rfl (dd_X12_owed 32 _ _ _ rfl) ?_
          refine r_ladd 59 rfl (dd_X12_owed 34 _ _ _ rfl) ?_
          refine r_lstore_2 60 rfl (by decide) rfl (dd_X12_owed 35 _ _ _ rfl) ?_
          refine r_iinc_4 63 rfl (by decide) rfl (dd_X12_owed 36 _ _ _ rfl) ?_
          refine r_goto 11 rfl (dd_X12_owed 37 _ _ _ rfl) ?_
          exact r_sub _ (z_s1 (z_s1 (z_s1 (z_s0 (z_s1 z_sN))))) (ih11 (j + 1) _ _ _ (by omega) (by omega) (by omega) (by unfold zmon ztax; first | (rw [if_pos (by omega)]; omega) | (rw [if_neg (by omega)]; omega)) hM)
  exact r_sub _ (z_s1 (z_s1 (z_s1 (z_s0 (z_s1 z_sN))))) (L11 1000000 0 _ _ _ (by omega) (by omega) (by omega) (by unfold zmon; omega) hM)

abbrev mX12_owes : zM := (RX12, cX12_owes, 2, (Option.some Jvm.ClassFile.FieldType.long), [], "owes", 13)
set_option maxRecDepth 20000 in
theorem c_X12_owes {g : zGT} {Q : zO → zH → Prop} {h : zH} (hg : zG g) {h0 : zH} {m : Nat} {A : Nat → Nat} {S : zS} {n : Nat} {t : Int} (hI : MInv n S) (hM : MI h0 m A S t h) {v : Int} (hv : zR v) (k1 : ¬ (0 ≤ v ∧ v < S.1 4) → ∀ h1, MI h0 m A S 1 h1 → Q (.inl (some (.long (zL 0)))) h1) (k0 : ∀ u : Nat, v = u → v < S.1 4 → ∀ h1, MI h0 m A S 0 h1 → Q (.inl (some (.long (zL (zowed S u))))) h1) : zC g (.code yX12_owes cX12_owes 2 (Option.some Jvm.ClassFile.FieldType.long)) yX12_owes 13 0 0 [.ref m, .int (zI v)] h Q := by
  refine zC_of (M := mX12_owes) (lv := [some (.ref m), some (.int (zI v))]) (by decide) rfl rfl (Nat.le_of_ble_eq_true rfl) rfl rfl ?_
  have e1 := hI.vehicles
  refine r_aload_0 1 rfl (dd_X12_owes 0 _ _ _ rfl) ?_
  refine r_aload_0 2 rfl (dd_X12_owes 1 _ _ _ rfl) ?_
  refine r_iload_1 3 rfl (dd_X12_owes 2 _ _ _ rfl) ?_
  refine r_callV1 (lvl := 11) (mc1 := 0) (ms1 := 0) 0 0 hg rfl md_X12_isVehicle zc_X12 hM.kd wi_X12_isVehicle wv_X12_isVehicle (tb_7 0 _ rfl) (by decide) (by decide) rfl (Nat.le_of_ble_eq_true rfl) (by decide) (by decide) 6 rfl (dd_X12_owes 3 _ _ _ rfl) ?_
  refine c_X12_isVehicle hg hI hM (by omega) (fun hb1 => ?_) (fun hb1 => ?_)
  · obtain ⟨u, rfl⟩ := Int.eq_ofNat_of_zero_le hb1.1
    dsimp only [zCont, Option.toList, List.cons_append, List.nil_append]
    refine r_ifeq (by omega) 9 rfl 13 rfl (dd_X12_owes 4 _ _ _ rfl) (fun q => absurd q (by decide)) (fun _ => ?_)
    refine r_iconst 10 rfl (dd_X12_owes 5 _ _ _ rfl) ?_
    refine r_goto 14 rfl (dd_X12_owes 6 _ _ _ rfl) ?_
    refine r_callV1 (lvl := 10) (mc1 := 0) (ms1 := 0) 0 0 hg rfl md_X12_goesWell zc_X12 hM.kd wi_X12_goesWell wv_X12_goesWell (tb_6 197 _ rfl) (by decide) (by decide) rfl (Nat.le_of_ble_eq_true rfl) (by decide) (by decide) 17 rfl (dd_X12_owes 8 _ _ _ rfl) ?_
    refine c_X12_goesWell hg hM (by decide) (fun _ h2 hM => ?_) (fun q => absurd rfl q)
    dsimp only [zCont, Option.toList, List.cons_append, List.nil_append]
    refine r_ifeq (by omega) 20 rfl 28 rfl (dd_X12_owes 9 _ _ _ rfl) (fun q => absurd q (by decide)) (fun _ => ?_)
    refine r_aload_0 21 rfl (dd_X12_owes 10 _ _ _ rfl) ?_
    refine r_iload_1 22 rfl (dd_X12_owes 11 _ _ _ rfl) ?_
    refine r_callV1 (lvl := 12) (mc1 := 0) (ms1 := 0) 0 0 hg rfl md_X12_owed zc_X12 hM.kd wi_X12_owed wv_X12_owed (tb_7 82 _ rfl) (by decide) (by decide) rfl (Nat.le_of_ble_eq_true rfl) (by decide) (by decide) 25 rfl (dd_X12_owes 12 _ _ _ rfl) ?_
    refine c_X12_owed (v := u) hg hI hM (by omega) (fun h3 hM => ?_)
    dsimp only [zCont, Option.toList, List.cons_append, List.nil_append]
    refine r_goto 29 rfl (dd_X12_owes 13 _ _ _ rfl) ?_
    refine r_lreturn rfl (dd_X12_owes 15 _ _ _ rfl) ?_
    exact k0 u rfl (by omega) _ hM
  · dsimp only [zCont, Option.toList, List.cons_append, List.nil_append]
    refine r_ifeq (by omega) 9 rfl 13 rfl (dd_X12_owes 4 _ _ _ rfl) (fun _ => ?_) (fun q => absurd q (by decide))
    refine r_iconst 14 rfl (dd_X12_owes 7 _ _ _ rfl) ?_
    refine r_callV1 (lvl := 10) (mc1 := 0) (ms1 := 0) 0 0 hg rfl md_X12_goesWell zc_X12 hM.kd wi_X12_goesWell wv_X12_goesWell (tb_6 197 _ rfl) (by decide) (by decide) rfl (Nat.le_of_ble_eq_true rfl) (by decide) (by decide) 17 rfl (dd_X12_owes 8 _ _ _ rfl) ?_
    refine c_X12_goesWell hg hM (by decide) (fun q => absurd q (by decide)) (fun _ h4 hM => ?_)
    dsimp only [zCont, Option.toList, List.cons_append, List.nil_append]
    refine r_ifeq (by omega) 20 rfl 28 rfl (dd_X12_owes 9 _ _ _ rfl) (fun _ => ?_) (fun q => absurd q (by decide))
    refine r_lconst0 29 rfl (dd_X12_owes 14 _ _ _ rfl) ?_
    refine r_lreturn rfl (dd_X12_owes 15 _ _ _ rfl) ?_
    exact k1 (by omega) _ hM

abbrev mX12_pay : zM := (RX12, cX12_pay, 4, (Option.some Jvm.ClassFile.FieldType.long), [], "pay", 13)
set_option maxRecDepth 20000 in
theorem c_X12_pay {g : zGT} {Q : zO → zH → Prop} {h : zH} (hg : zG g) {h0 : zH} {m : Nat} {A : Nat → Nat} {S : zS} {n : Nat} {t : Int} (hI : MInv n S) (hM : MI h0 m A S t h) {v a : Int} (hn : n < 512) (hv : zR v) (ha : zR a) (k1 : ¬ (0 ≤ v ∧ v < S.1 4) → ∀ h1, MI h0 m A S 1 h1 → Q (.inl (some (.long (zL 0)))) h1) (k2 : ∀ u : Nat, v = u → v < S.1 4 → ¬ (1 ≤ a ∧ a ≤ 1000000) → ∀ h1, MI h0 m A S 2 h1 → Q (.inl (some (.long (zL 0)))) h1) (k0 : ∀ u : Nat, v = u → v < S.1 4 → (1 ≤ a ∧ a ≤ 1000000) → ∀ h1, MI h0 m A (S.1, zu2 S.2 24 u (S.2 24 u + a)) 0 h1 → Q (.inl (some (.long (zL (zowed (S.1, zu2 S.2 24 u (S.2 24 u + a)) u))))) h1) : zC g (.code yX12_pay cX12_pay 4 (Option.some Jvm.ClassFile.FieldType.long)) yX12_pay 13 0 0 [.ref m, .int (zI v), .int (zI a)] h Q := by
  refine zC_of (M := mX12_pay) (lv := [some (.ref m), some (.int (zI v)), some (.int (zI a)), none]) (by decide) rfl rfl (Nat.le_of_ble_eq_true rfl) rfl rfl ?_
  have e1 := hI.vehicles
  refine r_aload_0 1 rfl (dd_X12_pay 0 _ _ _ rfl) ?_
  refine r_iload_1 2 rfl (dd_X12_pay 1 _ _ _ rfl) ?_
  refine r_callV1 (lvl := 11) (mc1 := 0) (ms1 := 0) 0 0 hg rfl md_X12_isVehicle zc_X12 hM.kd wi_X12_isVehicle wv_X12_isVehicle (tb_7 0 _ rfl) (by decide) (by decide) rfl (Nat.le_of_ble_eq_true rfl) (by decide) (by decide) 5 rfl (dd_X12_pay 2 _ _ _ rfl) ?_
  refine c_X12_isVehicle hg hI hM (by omega) (fun hb1 => ?_) (fun hb1 => ?_)
  · obtain ⟨u, rfl⟩ := Int.eq_ofNat_of_zero_le hb1.1
    dsimp only [zCont, Option.toList, List.cons_append, List.nil_append]
    refine r_istore_3 6 rfl (by decide) rfl (dd_X12_pay 3 _ _ _ rfl) ?_
    refine r_aload_0 7 rfl (dd_X12_pay 4 _ _ _ rfl) ?_
    refine r_iload_3 8 rfl (dd_X12_pay 5 _ _ _ rfl) ?_
    refine r_ifne (by omega) 11 rfl 15 rfl (dd_X12_pay 6 _ _ _ rfl) (fun _ => ?_) (fun q => absurd q (by decide))
    refine r_iload_2 16 rfl (dd_X12_pay 9 _ _ _ rfl) ?_
    refine r_iconst 17 rfl (dd_X12_pay 10 _ _ _ rfl) ?_
    refine r_ldc hg (tb_7 81 _ rfl) 19 rfl (dd_X12_pay 11 _ _ _ rfl) ?_
    refine r_top 1000000 rfl ?_
    refine r_callS3 (lvl := 10) (mc1 := 0) (ms1 := 0) 0 0 hg rfl md_X12_in ws_X12_in (tb_6 209 _ rfl) (by decide) (by decide) rfl (Nat.le_of_ble_eq_true rfl) (by decide) (by decide) 22 rfl (dd_X12_pay 12 _ _ _ rfl) ?_
    refine c_X12_in hg (by omega) (by omega) (by omega) (fun hb2 => ?_) (fun hb2 => ?_)
    · dsimp only [zCont, Option.toList, List.cons_append, List.nil_append]
      refine r_ifeq (by omega) 25 rfl 29 rfl (dd_X12_pay 13 _ _ _ rfl) (fun q => absurd q (by decide)) (fun _ => ?_)
      refine r_iconst 26 rfl (dd_X12_pay 14 _ _ _ rfl) ?_
      refine r_goto 30 rfl (dd_X12_pay 15 _ _ _ rfl) ?_
      refine r_callV1 (lvl := 10) (mc1 := 0) (ms1 := 0) 0 0 hg rfl md_X12_goesWell zc_X12 hM.kd wi_X12_goesWell wv_X12_goesWell (tb_6 197 _ rfl) (by decide) (by decide) rfl (Nat.le_of_ble_eq_true rfl) (by decide) (by decide) 33 rfl (dd_X12_pay 17 _ _ _ rfl) ?_
      refine c_X12_goesWell hg hM (by decide) (fun _ h3 hM => ?_) (fun q => absurd rfl q)
      dsimp only [zCont, Option.toList, List.cons_append, List.nil_append]
      refine r_ifne (by omega) 36 rfl 38 rfl (dd_X12_pay 18 _ _ _ rfl) (fun _ => ?_) (fun q => absurd q (by decide))
      refine r_aload_0 39 rfl (dd_X12_pay 21 _ _ _ rfl) ?_
      refine m_arr 24 hg hM (by decide) (by decide) (tb_6 80 _ rfl) 42 rfl (dd_X12_pay 22 _ _ _ rfl) ?_ (fun _ _ _ => rfl)
      refine r_iload_1 43 rfl (dd_X12_pay 23 _ _ _ rfl) ?_
      refine r_dup2 rfl rfl 44 rfl (dd_X12_pay 24 _ _ _ rfl) ?_
      refine m_lald 24 (u) (by omega) hg hM rfl (by omega) (z_lt (n2 := 12) rfl (by omega)) (by decide) 45 rfl (dd_X12_pay 25 _ _ _ rfl) ?_
      refine r_iload_2 46 rfl (dd_X12_pay 26 _ _ _ rfl) ?_
      refine r_i2l (by omega) 47 rfl (dd_X12_pay 27 _ _ _ rfl) ?_
      refine r_ladd 48 rfl (dd_X12_pay 28 _ _ _ rfl) ?_
      refine m_last 24 (u) (by omega) hg hM rfl (by omega) (z_lt (n2 := 12) rfl (by omega)) (by decide) 49 rfl (dd_X12_pay 29 _ _ _ rfl) (fun h4 hM => ?_)
      have hI2 := (hI.mono (n2 := n + 1) (by omega) (by omega)).a24 (j := u) (v := S.2 24 u + a) (by have := hI.paid u; omega)
      refine r_aload_0 50 rfl (dd_X12_pay 30 _ _ _ rfl) ?_
      refine r_iload_1 51 rfl (dd_X12_pay 31 _ _ _ rfl) ?_
      refine r_callV1 (lvl := 12) (mc1 := 0) (ms1 := 0) 0 0 hg rfl md_X12_owed zc_X12 hM.kd wi_X12_owed wv_X12_owed (tb_7 82 _ rfl) (by decide) (by decide) rfl (Nat.le_of_ble_eq_true rfl) (by decide) (by decide) 54 rfl (dd_X12_pay 32 _ _ _ rfl) ?_
      refine c_X12_owed (v := u) hg hI2 hM (by omega) (fun h5 hM => ?_)
      dsimp only [zCont, Option.toList, List.cons_append, List.nil_append]
      refine r_lreturn rfl (dd_X12_pay 33 _ _ _ rfl) ?_
      exact k0 u rfl (by omega) (by omega) _ hM
    · dsimp only [zCont, Option.toList, List.cons_append, List.nil_append]
      refine r_ifeq (by omega) 25 rfl 29 rfl (dd_X12_pay 13 _ _ _ rfl) (fun _ => ?_) (fun q => absurd q (by decide))
      refine r_iconst 30 rfl (dd_X12_pay 16 _ _ _ rfl) ?_
      refine r_callV1 (lvl := 10) (mc1 := 0) (ms1 := 0) 0 0 hg rfl md_X12_goesWell zc_X12 hM.kd wi_X12_goesWell wv_X12_goesWell (tb_6 197 _ rfl) (by decide) (by decide) rfl (Nat.le_of_ble_eq_true rfl) (by decide) (by decide) 33 rfl (dd_X12_pay 17 _ _ _ rfl) ?_
      refine c_X12_goesWell hg hM (by decide) (fun q => absurd q (by decide)) (fun _ h6 hM => ?_)
      dsimp only [zCont, Option.toList, List.cons_append, List.nil_append]
      refine r_ifne (by omega) 36 rfl 38 rfl (dd_X12_pay 18 _ _ _ rfl) (fun q => absurd q (by decide)) (fun _ => ?_)
      refine r_lconst0 37 rfl (dd_X12_pay 19 _ _ _ rfl) ?_
      refine r_lreturn rfl (dd_X12_pay 20 _ _ _ rfl) ?_
      first | exact k1 (by omega) _ hM | exact k2 u rfl (by omega) (by omega) _ hM
  · dsimp only [zCont, Option.toList, List.cons_append, List.nil_append]
    refine r_istore_3 6 rfl (by decide) rfl (dd_X12_pay 3 _ _ _ rfl) ?_
    refine r_aload_0 7 rfl (dd_X12_pay 4 _ _ _ rfl) ?_
    refine r_iload_3 8 rfl (dd_X12_pay 5 _ _ _ rfl) ?_
    refine r_ifne (by omega) 11 rfl 15 rfl (dd_X12_pay 6 _ _ _ rfl) (fun q => absurd q (by decide)) (fun _ => ?_)
    refine r_iconst 12 rfl (dd_X12_pay 7 _ _ _ rfl) ?_
    refine r_goto 30 rfl (dd_X12_pay 8 _ _ _ rfl) ?_
    refine r_callV1 (lvl := 10) (mc1 := 0) (ms1 := 0) 0 0 hg rfl md_X12_goesWell zc_X12 hM.kd wi_X12_goesWell wv_X12_goesWell (tb_6 197 _ rfl) (by decide) (by decide) rfl (Nat.le_of_ble_eq_true rfl) (by decide) (by decide) 33 rfl (dd_X12_pay 17 _ _ _ rfl) ?_
    refine c_X12_goesWell hg hM (by decide) (fun q => absurd q (by decide)) (fun _ h7 hM => ?_)
    dsimp only [zCont, Option.toList, List.cons_append, List.nil_append]
    refine r_ifne (by omega) 36 rfl 38 rfl (dd_X12_pay 18 _ _ _ rfl) (fun q => absurd q (by decide)) (fun _ => ?_)
    refine r_lconst0 37 rfl (dd_X12_pay 19 _ _ _ rfl) ?_
    refine r_lreturn rfl (dd_X12_pay 20 _ _ _ rfl) ?_
    first | exact k1 (by omega) _ hM | exact k2 u rfl (by omega) (by omega) _ hM

abbrev mX12_isInsured : zM := (RX12, cX12_isInsured, 3, (Option.some Jvm.ClassFile.FieldType.boolean), [], "isInsured", 10)
set_option maxRecDepth 20000 in
theorem c_X12_isInsured {g : zGT} {Q : zO → zH → Prop} {h : zH} (hg : zG g) {h0 : zH} {m : Nat} {A : Nat → Nat} {S : zS} {t : Int} (hM : MI h0 m A S t h) {v : Nat} {w : Int} (hv : v < 12) (hw : 0 ≤ w ∧ w ≤ 20000) (k1 : zins S.2 v w = true → Q (.inl (some (.int (zI 1)))) h) (k0 : zins S.2 v w = false → Q (.inl (some (.int (zI 0)))) h) : zC g (.code yX12_isInsured cX12_isInsured 3 (Option.some Jvm.ClassFile.FieldType.boolean)) yX12_isInsured 10 0 0 [.ref m, .int (zI v), .int (zI w)] h Q := by
  refine zC_of (M := mX12_isInsured) (lv := [some (.ref m), some (.int (zI v)), some (.int (zI w))]) (by decide) rfl rfl (Nat.le_of_ble_eq_true rfl) rfl rfl ?_
  refine r_aload_0 1 rfl (dd_X12_isInsured 0 _ _ _ rfl) ?_
  refine m_arr 30 hg hM (by decide) (by decide) (tb_6 86 _ rfl) 4 rfl (dd_X12_isInsured 1 _ _ _ rfl) ?_ (fun _ _ _ => rfl)
  refine r_sipush (by decide) 7 rfl (dd_X12_isInsured 2 _ _ _ rfl) ?_
  refine r_iload_1 8 rfl (dd_X12_isInsured 3 _ _ _ rfl) ?_
  refine r_imul 9 rfl (dd_X12_isInsured 4 _ _ _ rfl) ?_
  refine r_iload_2 10 rfl (dd_X12_isInsured 5 _ _ _ rfl) ?_
  refine r_bipush (by decide) 12 rfl (dd_X12_isInsured 6 _ _ _ rfl) ?_
  refine r_idiv (by omega) (by omega) (by omega) (by omega) 13 rfl (dd_X12_isInsured 7 _ _ _ rfl) ?_
  refine r_iadd 14 rfl (dd_X12_isInsured 8 _ _ _ rfl) ?_
  refine m_lald 30 (313 * v + (w / 64).toNat) (by omega) hg hM rfl (by omega) (z_lt (n2 := 3756) rfl (by omega)) (by decide) 15 rfl (dd_X12_isInsured 9 _ _ _ rfl) ?_
  refine r_iload_2 16 rfl (dd_X12_isInsured 10 _ _ _ rfl) ?_
  refine r_bipush (by decide) 18 rfl (dd_X12_isInsured 11 _ _ _ rfl) ?_
  refine r_irem (by omega) (by omega) (by omega) (by omega) 19 rfl (dd_X12_isInsured 12 _ _ _ rfl) ?_
  refine r_lshr 20 rfl (dd_X12_isInsured 13 _ _ _ rfl) ?_
  refine r_lconst1 21 rfl (dd_X12_isInsured 14 _ _ _ rfl) ?_
  refine r_land 22 rfl (dd_X12_isInsured 15 _ _ _ rfl) ?_
  refine r_topl (if zbit (S.2 30 (313 * v + (w / 64).toNat)) (w % 64) = true then 1 else 0) (z_bit_shr (by omega) (by omega)) ?_
  by_cases hb : zbit (S.2 30 (313 * v + (w / 64).toNat)) (w % 64) = true
  · rw [if_pos hb]
    refine r_lconst1 23 rfl (dd_X12_isInsured 16 _ _ _ rfl) ?_
    refine r_lcmp (by decide) (by decide) 24 rfl (dd_X12_isInsured 17 _ _ _ rfl) (fun q => absurd q (by decide)) (fun _ => ?_) (fun q => absurd q (by decide))
    refine r_ifne (by omega) 27 rfl 31 rfl (dd_X12_isInsured 18 _ _ _ rfl) (fun q => absurd q (by decide)) (fun _ => ?_)
    refine r_iconst 28 rfl (dd_X12_isInsured 19 _ _ _ rfl) ?_
    refine r_goto 32 rfl (dd_X12_isInsured 20 _ _ _ rfl) ?_
    refine r_ireturn rfl rfl (dd_X12_isInsured 22 _ _ _ rfl) ?_
    exact k1 hb
  · rw [if_neg hb]
    refine r_lconst1 23 rfl (dd_X12_isInsured 16 _ _ _ rfl) ?_
    refine r_lcmp (by decide) (by decide) 24 rfl (dd_X12_isInsured 17 _ _ _ rfl) (fun _ => ?_) (fun q => absurd q (by decide)) (fun q => absurd q (by decide))
    refine r_ifne (by omega) 27 rfl 31 rfl (dd_X12_isInsured 18 _ _ _ rfl) (fun _ => ?_) (fun q => absurd q (by decide))
    refine r_iconst 32 rfl (dd_X12_isInsured 21 _ _ _ rfl) ?_
    refine r_ireturn rfl rfl (dd_X12_isInsured 22 _ _ _ rfl) ?_
    exact k0 (by unfold zins; simpa using hb)

abbrev mX12_insure : zM := (RX12, cX12_insure, 9, (Option.some Jvm.ClassFile.FieldType.boolean), [], "insure", 13)
set_option maxRecDepth 20000 in
theorem c_X12_insure {g : zGT} {Q : zO → zH → Prop} {h : zH} (hg : zG g) {h0 : zH} {m : Nat} {A : Nat → Nat} {S : zS} {n : Nat} {t : Int} (hI : MInv n S) (hM : MI h0 m A S t h) {v to : Int} (hv : zR v) (ht : zR to) (k1 : ¬ (0 ≤ v ∧ v < S.1 4) → ∀ h1, MI h0 m A S 1 h1 → Q (.inl (some (.int (zI 0)))) h1) (k2 : ∀ u : Nat, v = u → v < S.1 4 → ¬ (to = -1 ∨ S.1 1 ≤ to ∧ to ≤ 20000) → ∀ h1, MI h0 m A S 2 h1 → Q (.inl (some (.int (zI 0)))) h1) (k3 : ∀ u : Nat, v = u → v < S.1 4 → (to = -1 ∨ S.1 1 ≤ to ∧ to ≤ 20000) → zins S.2 u (S.1 1) = true → ∀ h1, MI h0 m A (S.1, zil S.2 u to (S.1 1) (20001 - S.1 1).toNat) 0 h1 → Q (.inl (some (.int (zI 1)))) h1) (k4 : ∀ u : Nat, v = u → v < S.1 4 → (to = -1 ∨ S.1 1 ≤ to ∧ to ≤ 20000) → zins S.2 u (S.1 1) = false → ∀ h1, MI h0 m A (S.1, zil S.2 u to (S.1 1) (20001 - S.1 1).toNat) 0 h1 → Q (.inl (some (.int (zI 0)))) h1) : zC g (.code yX12_insure cX12_insure 9 (Option.some Jvm.ClassFile.FieldType.boolean)) yX12_insure 13 0 0 [.ref m, .int (zI v), .int (zI to)] h Q := by
  refine zC_of (M := mX12_insure) (lv := [some (.ref m), some (.int (zI v)), some (.int (zI to)), none, none, none, none, none, none]) (by decide) rfl rfl (Nat.le_of_ble_eq_true rfl) rfl rfl ?_
  have e1 := hI.vehicles
  have e2 := hI.today
  refine r_aload_0 1 rfl (dd_X12_insure_0 0 _ _ _ rfl) ?_
  refine r_iload_1 2 rfl (dd_X12_insure_0 1 _ _ _ rfl) ?_
  refine r_callV1 (lvl := 11) (mc1 := 0) (ms1 := 0) 0 0 hg rfl md_X12_isVehicle zc_X12 hM.kd wi_X12_isVehicle wv_X12_isVehicle (tb_7 0 _ rfl) (by decide) (by decide) rfl (Nat.le_of_ble_eq_true rfl) (by decide) (by decide) 5 rfl (dd_X12_insure_0 2 _ _ _ rfl) ?_
  refine c_X12_isVehicle hg hI hM (by omega) (fun hb1 => ?_) (fun hb1 => ?_)
  · obtain ⟨u, rfl⟩ := Int.eq_ofNat_of_zero_le hb1.1
    dsimp only [zCont, Option.toList, List.cons_append, List.nil_append]
    refine r_istore_3 6 rfl (by decide) rfl (dd_X12_insure_0 3 _ _ _ rfl) ?_
    refine r_aload_0 7 rfl (dd_X12_insure_0 4 _ _ _ rfl) ?_
    refine r_iload_3 8 rfl (dd_X12_insure_0 5 _ _ _ rfl) ?_
    refine r_ifne (by omega) 11 rfl 15 rfl (dd_X12_insure_0 6 _ _ _ rfl) (fun _ => ?_) (fun q => absurd q (by decide))
    refine r_iload_2 16 rfl (dd_X12_insure_0 9 _ _ _ rfl) ?_
    refine r_iconst 17 rfl (dd_X12_insure_0 10 _ _ _ rfl) ?_
    refine r_if_icmpeq (by omega) (by omega) 20 rfl 34 rfl (dd_X12_insure_0 11 _ _ _ rfl) (fun hc2 => ?_) (fun hc2 => ?_)
    · refine r_iconst 35 rfl (dd_X12_insure_0 18 _ _ _ rfl) ?_
      refine r_goto 39 rfl (dd_X12_insure_0 19 _ _ _ rfl) ?_
      refine r_callV1 (lvl := 10) (mc1 := 0) (ms1 := 0) 0 0 hg rfl md_X12_goesWell zc_X12 hM.kd wi_X12_goesWell wv_X12_goesWell (tb_6 197 _ rfl) (by decide) (by decide) rfl (Nat.le_of_ble_eq_true rfl) (by decide) (by decide) 42 rfl (dd_X12_insure_0 21 _ _ _ rfl) ?_
      refine c_X12_goesWell hg hM (by decide) (fun _ h3 hM => ?_) (fun q => absurd rfl q)
      dsimp only [zCont, Option.toList, List.cons_append, List.nil_append]
      refine r_ifne (by omega) 45 rfl 47 rfl (dd_X12_insure_0 22 _ _ _ rfl) (fun _ => ?_) (fun q => absurd q (by decide))
      refine r_aload_0 48 rfl (dd_X12_insure_0 25 _ _ _ rfl) ?_
      refine r_iload_1 49 rfl (dd_X12_insure_0 26 _ _ _ rfl) ?_
      refine r_aload_0 50 rfl (dd_X12_insure_0 27 _ _ _ rfl) ?_
      refine m_get 1 hg hM (by unfold z_free; decide) rfl (by decide) (tb_6 57 _ rfl) 53 rfl (dd_X12_insure_0 28 _ _ _ rfl) ?_ (fun _ _ _ => rfl)
      refine r_callV2 (lvl := 10) (mc1 := 0) (ms1 := 0) 0 0 hg rfl md_X12_isInsured zc_X12 hM.kd wi_X12_isInsured wv_X12_isInsured (tb_7 103 _ rfl) (by decide) (by decide) rfl (Nat.le_of_ble_eq_true rfl) (by decide) (by decide) 56 rfl (dd_X12_insure_0 29 _ _ _ rfl) ?_
      refine c_X12_isInsured (v := u) hg hM (by omega) (by omega) (fun hi4 => ?_) (fun hi4 => ?_)
      · dsimp only [zCont, Option.toList, List.cons_append, List.nil_append]
        refine r_istore_4 58 rfl (by decide) rfl (dd_X12_insure_0 30 _ _ _ rfl) ?_
        refine r_aload_0 59 rfl (dd_X12_insure_0 31 _ _ _ rfl) ?_
        refine m_get 1 hg hM (by unfold z_free; decide) rfl (by decide) (tb_6 57 _ rfl) 62 rfl (dd_X12_insure_0 32 _ _ _ rfl) ?_ (fun _ _ _ => rfl)
        refine r_istore_5 64 rfl (by decide) rfl (dd_X12_insure_0 33 _ _ _ rfl) ?_
        have L64 : ∀ (tt : Nat), ∀ (j : Nat) (b : Int) (h : zH), 30000 - j < tt → (b = S.1 1 + j) → (b ≤ 20001) → (MI h0 m A (S.1, zil S.2 u to (S.1 1) j) 0 h) → zX g mX12_insure 0 0 Q 64 [some (.ref m), some (.int (zI (u : Int))), some (.int (zI to)), some (.int (zI 1)), some (.int (zI 1)), some (.int (zI b)), none, none, none] [] h 0 0 := by
          intro tt64
          induction tt64 with
          | zero => intros; exfalso; omega
          | succ tt64 ih64 =>
            intro j b h hlt64 hb hj hM
            subst hb
            refine r_iload_5 66 rfl (dd_X12_insure_0 34 _ _ _ rfl) ?_
            refine r_sipush (by decide) 69 rfl (dd_X12_insure_0 35 _ _ _ rfl) ?_
            refine r_if_icmpgt (by omega) (by omega) 72 rfl 140 rfl (dd_X12_insure_0 36 _ _ _ rfl) (fun hc5 => ?_) (fun hc5 => ?_)
            · refine r_iload_4 142 rfl (dd_X12_insure_1 15 _ _ _ rfl) ?_
              refine r_ireturn rfl rfl (dd_X12_insure_1 16 _ _ _ rfl) ?_
              first | exact k1 (by omega) _ hM | exact k2 u rfl (by omega) (by omega) _ hM | exact k3 u rfl (by omega) (by omega) (by assumption) _ (by rw [show (20001 - S.1 1).toNat = j by omega]; exact hM) | exact k4 u rfl (by omega) (by omega) (by assumption) _ (by rw [show (20001 - S.1 1).toNat = j by omega]; exact hM)
            · refine r_sipush (by decide) 75 rfl (dd_X12_insure_0 37 _ _ _ rfl) ?_
              refine r_iload_1 76 rfl (dd_X12_insure_0 38 _ _ _ rfl) ?_
              refine r_imul 77 rfl (dd_X12_insure_0 39 _ _ _ rfl) ?_
              refine r_iload_5 79 rfl (dd_X12_insure_0 40 _ _ _ rfl) ?_
              refine r_bipush (by decide) 81 rfl (dd_X12_insure_0 41 _ _ _ rfl) ?_
              refine r_idiv (by omega) (by omega) (by omega) (by omega) 82 rfl (dd_X12_insure_0 42 _ _ _ rfl) ?_
              refine r_iadd 83 rfl (dd_X12_insure_0 43 _ _ _ rfl) ?_
              refine r_istore_6 85 rfl (by decide) rfl (dd_X12_insure_0 44 _ _ _ rfl) ?_
              refine r_lconst1 86 rfl (dd_X12_insure_0 45 _ _ _ rfl) ?_
              refine r_iload_5 88 rfl (dd_X12_insure_0 46 _ _ _ rfl) ?_
              refine r_bipush (by decide) 90 rfl (dd_X12_insure_0 47 _ _ _ rfl) ?_
              refine r_irem (by omega) (by omega) (by omega) (by omega) 91 rfl (dd_X12_insure_0 48 _ _ _ rfl) ?_
              refine r_lshl 92 rfl (dd_X12_insure_0 49 _ _ _ rfl) ?_
              refine r_lstore_7 94 rfl (by decide) rfl (dd_X12_insure_0 50 _ _ _ rfl) ?_
              refine r_aload_0 95 rfl (dd_X12_insure_0 51 _ _ _ rfl) ?_
              refine m_arr 30 hg hM (by decide) (by decide) (tb_6 86 _ rfl) 98 rfl (dd_X12_insure_0 52 _ _ _ rfl) ?_ (fun _ _ _ => rfl)
              refine r_iload_6 100 rfl (dd_X12_insure_0 53 _ _ _ rfl) ?_
              refine r_iload_5 102 rfl (dd_X12_insure_0 54 _ _ _ rfl) ?_
              refine r_iload_2 103 rfl (dd_X12_insure_0 55 _ _ _ rfl) ?_
              refine r_if_icmpgt (by omega) (by omega) 106 rfl 119 rfl (dd_X12_insure_0 56 _ _ _ rfl) (fun hc6 => ?_) (fun hc6 => ?_)
              · refine r_aload_0 120 rfl (dd_X12_insure_1 4 _ _ _ rfl) ?_
                refine m_arr 30 hg hM (by decide) (by decide) (tb_6 86 _ rfl) 123 rfl (dd_X12_insure_1 5 _ _ _ rfl) ?_ (fun _ _ _ => rfl)
                refine r_iload_6 125 rfl (dd_X12_insure_1 6 _ _ _ rfl) ?_
                refine m_lald 30 (313 * u + ((S.1 1 + j) / 64).toNat) (by omega) hg hM rfl (by omega) (z_lt (n2 := 3756) rfl (by omega)) (by decide) 126 rfl (dd_X12_insure_1 7 _ _ _ rfl) ?_
                refine r_lload_7 128 rfl (dd_X12_insure_1 8 _ _ _ rfl) ?_
                refine r_ldc2 hg (tb_7 107 _ rfl) 131 rfl (dd_X12_insure_1 9 _ _ _ rfl) ?_
                refine r_topl (-1) rfl ?_
                refine r_lxor 132 rfl (dd_X12_insure_1 10 _ _ _ rfl) ?_
                refine r_land 133 rfl (dd_X12_insure_1 11 _ _ _ rfl) ?_
                first | refine r_topl _ (zclr_eq _ _) ?_ | skip
                refine m_last 30 (313 * u + ((S.1 1 + j) / 64).toNat) (by omega) hg hM rfl (by omega) (z_lt (n2 := 3756) rfl (by omega)) (by decide) 134 rfl (dd_X12_insure_1 12 _ _ _ rfl) (fun h7 hM => ?_)
                refine r_iinc_5 137 rfl (by decide) rfl (dd_X12_insure_1 13 _ _ _ rfl) ?_
                refine r_goto 64 rfl (dd_X12_insure_1 14 _ _ _ rfl) ?_
                exact r_sub _ (z_s1 (z_s1 (z_s1 (z_s1 (z_s1 (z_s1 (z_s0 (z_s0 (z_s0 z_sN))))))))) (ih64 (j + 1) _ _ (by omega) (by omega) (by omega) (by unfold zil; first | (rw [if_pos (by omega)]; exact hM) | (rw [if_neg (by omega)]; exact hM)))
              · refine r_aload_0 107 rfl (dd_X12_insure_0 57 _ _ _ rfl) ?_
                refine m_arr 30 hg hM (by decide) (by decide) (tb_6 86 _ rfl) 110 rfl (dd_X12_insure_0 58 _ _ _ rfl) ?_ (fun _ _ _ => rfl)
                refine r_iload_6 112 rfl (dd_X12_insure_0 59 _ _ _ rfl) ?_
                refine m_lald 30 (313 * u + ((S.1 1 + j) / 64).toNat) (by omega) hg hM rfl (by omega) (z_lt (n2 := 3756) rfl (by omega)) (by decide) 113 rfl (dd_X12_insure_1 0 _ _ _ rfl) ?_
                refine r_lload_7 115 rfl (dd_X12_insure_1 1 _ _ _ rfl) ?_
                refine r_lor 116 rfl (dd_X12_insure_1 2 _ _ _ rfl) ?_
                refine r_topl _ (zset_eq _ _) ?_
                refine r_goto 133 rfl (dd_X12_insure_1 3 _ _ _ rfl) ?_
                first | refine r_topl _ (zclr_eq _ _) ?_ | skip
                refine m_last 30 (313 * u + ((S.1 1 + j) / 64).toNat) (by omega) hg hM rfl (by omega) (z_lt (n2 := 3756) rfl (by omega)) (by decide) 134 rfl (dd_X12_insure_1 12 _ _ _ rfl) (fun h8 hM => ?_)
                refine r_iinc_5 137 rfl (by decide) rfl (dd_X12_insure_1 13 _ _ _ rfl) ?_
                refine r_goto 64 rfl (dd_X12_insure_1 14 _ _ _ rfl) ?_
                exact r_sub _ (z_s1 (z_s1 (z_s1 (z_s1 (z_s1 (z_s1 (z_s0 (z_s0 (z_s0 z_sN))))))))) (ih64 (j + 1) _ _ (by omega) (by omega) (by omega) (by unfold zil; first | (rw [if_pos (by omega)]; exact hM) | (rw [if_neg (by omega)]; exact hM)))
        exact r_sub _ (z_s1 (z_s1 (z_s1 (z_s1 (z_s1 (z_s1 (z_s0 (z_s0 (z_s0 z_sN))))))))) (L64 1000000 0 _ _ (by omega) (by omega) (by omega) hM)
      · dsimp only [zCont, Option.toList, List.cons_append, List.nil_append]
        refine r_istore_4 58 rfl (by decide) rfl (dd_X12_insure_0 30 _ _ _ rfl) ?_
        refine r_aload_0 59 rfl (dd_X12_insure_0 31 _ _ _ rfl) ?_
        refine m_get 1 hg hM (by unfold z_free; decide) rfl (by decide) (tb_6 57 _ rfl) 62 rfl (dd_X12_insure_0 32 _ _ _ rfl) ?_ (fun _ _ _ => rfl)
        refine r_istore_5 64 rfl (by decide) rfl (dd_X12_insure_0 33 _ _ _ rfl) ?_
        have L64 : ∀ (tt : Nat), ∀ (j : Nat) (b : Int) (h : zH), 30000 - j < tt → (b = S.1 1 + j) → (b ≤ 20001) → (MI h0 m A (S.1, zil S.2 u to (S.1 1) j) 0 h) → zX g mX12_insure 0 0 Q 64 [some (.ref m), some (.int (zI (u : Int))), some (.int (zI to)), some (.int (zI 1)), some (.int (zI 0)), some (.int (zI b)), none, none, none] [] h 0 0 := by
          intro tt64
          induction tt64 with
          | zero => intros; exfalso; omega
          | succ tt64 ih64 =>
            intro j b h hlt64 hb hj hM
            subst hb
            refine r_iload_5 66 rfl (dd_X12_insure_0 34 _ _ _ rfl) ?_
            refine r_sipush (by decide) 69 rfl (dd_X12_insure_0 35 _ _ _ rfl) ?_
            refine r_if_icmpgt (by omega) (by omega) 72 rfl 140 rfl (dd_X12_insure_0 36 _ _ _ rfl) (fun hc9 => ?_) (fun hc9 => ?_)
            · refine r_iload_4 142 rfl (dd_X12_insure_1 15 _ _ _ rfl) ?_
              refine r_ireturn rfl rfl (dd_X12_insure_1 16 _ _ _ rfl) ?_
              first | exact k1 (by omega) _ hM | exact k2 u rfl (by omega) (by omega) _ hM | exact k3 u rfl (by omega) (by omega) (by assumption) _ (by rw [show (20001 - S.1 1).toNat = j by omega]; exact hM) | exact k4 u rfl (by omega) (by omega) (by assumption) _ (by rw [show (20001 - S.1 1).toNat = j by omega]; exact hM)
            · refine r_sipush (by decide) 75 rfl (dd_X12_insure_0 37 _ _ _ rfl) ?_
              refine r_iload_1 76 rfl (dd_X12_insure_0 38 _ _ _ rfl) ?_
              refine r_imul 77 rfl (dd_X12_insure_0 39 _ _ _ rfl) ?_
              refine r_iload_5 79 rfl (dd_X12_insure_0 40 _ _ _ rfl) ?_
              refine r_bipush (by decide) 81 rfl (dd_X12_insure_0 41 _ _ _ rfl) ?_
              refine r_idiv (by omega) (by omega) (by omega) (by omega) 82 rfl (dd_X12_insure_0 42 _ _ _ rfl) ?_
              refine r_iadd 83 rfl (dd_X12_insure_0 43 _ _ _ rfl) ?_
              refine r_istore_6 85 rfl (by decide) rfl (dd_X12_insure_0 44 _ _ _ rfl) ?_
              refine r_lconst1 86 rfl (dd_X12_insure_0 45 _ _ _ rfl) ?_
              refine r_iload_5 88 rfl (dd_X12_insure_0 46 _ _ _ rfl) ?_
              refine r_bipush (by decide) 90 rfl (dd_X12_insure_0 47 _ _ _ rfl) ?_
              refine r_irem (by omega) (by omega) (by omega) (by omega) 91 rfl (dd_X12_insure_0 48 _ _ _ rfl) ?_
              refine r_lshl 92 rfl (dd_X12_insure_0 49 _ _ _ rfl) ?_
              refine r_lstore_7 94 rfl (by decide) rfl (dd_X12_insure_0 50 _ _ _ rfl) ?_
              refine r_aload_0 95 rfl (dd_X12_insure_0 51 _ _ _ rfl) ?_
              refine m_arr 30 hg hM (by decide) (by decide) (tb_6 86 _ rfl) 98 rfl (dd_X12_insure_0 52 _ _ _ rfl) ?_ (fun _ _ _ => rfl)
              refine r_iload_6 100 rfl (dd_X12_insure_0 53 _ _ _ rfl) ?_
              refine r_iload_5 102 rfl (dd_X12_insure_0 54 _ _ _ rfl) ?_
              refine r_iload_2 103 rfl (dd_X12_insure_0 55 _ _ _ rfl) ?_
              refine r_if_icmpgt (by omega) (by omega) 106 rfl 119 rfl (dd_X12_insure_0 56 _ _ _ rfl) (fun hc10 => ?_) (fun hc10 => ?_)
              · refine r_aload_0 120 rfl (dd_X12_insure_1 4 _ _ _ rfl) ?_
                refine m_arr 30 hg hM (by decide) (by decide) (tb_6 86 _ rfl) 123 rfl (dd_X12_insure_1 5 _ _ _ rfl) ?_ (fun _ _ _ => rfl)
                refine r_iload_6 125 rfl (dd_X12_insure_1 6 _ _ _ rfl) ?_
                refine m_lald 30 (313 * u + ((S.1 1 + j) / 64).toNat) (by omega) hg hM rfl (by omega) (z_lt (n2 := 3756) rfl (by omega)) (by decide) 126 rfl (dd_X12_insure_1 7 _ _ _ rfl) ?_
                refine r_lload_7 128 rfl (dd_X12_insure_1 8 _ _ _ rfl) ?_
                refine r_ldc2 hg (tb_7 107 _ rfl) 131 rfl (dd_X12_insure_1 9 _ _ _ rfl) ?_
                refine r_topl (-1) rfl ?_
                refine r_lxor 132 rfl (dd_X12_insure_1 10 _ _ _ rfl) ?_
                refine r_land 133 rfl (dd_X12_insure_1 11 _ _ _ rfl) ?_
                first | refine r_topl _ (zclr_eq _ _) ?_ | skip
                refine m_last 30 (313 * u + ((S.1 1 + j) / 64).toNat) (by omega) hg hM rfl (by omega) (z_lt (n2 := 3756) rfl (by omega)) (by decide) 134 rfl (dd_X12_insure_1 12 _ _ _ rfl) (fun h11 hM => ?_)
                refine r_iinc_5 137 rfl (by decide) rfl (dd_X12_insure_1 13 _ _ _ rfl) ?_
                refine r_goto 64 rfl (dd_X12_insure_1 14 _ _ _ rfl) ?_
                exact r_sub _ (z_s1 (z_s1 (z_s1 (z_s1 (z_s1 (z_s1 (z_s0 (z_s0 (z_s0 z_sN))))))))) (ih64 (j + 1) _ _ (by omega) (by omega) (by omega) (by unfold zil; first | (rw [if_pos (by omega)]; exact hM) | (rw [if_neg (by omega)]; exact hM)))
              · refine r_aload_0 107 rfl (dd_X12_insure_0 57 _ _ _ rfl) ?_
                refine m_arr 30 hg hM (by decide) (by decide) (tb_6 86 _ rfl) 110 rfl (dd_X12_insure_0 58 _ _ _ rfl) ?_ (fun _ _ _ => rfl)
                refine r_iload_6 112 rfl (dd_X12_insure_0 59 _ _ _ rfl) ?_
                refine m_lald 30 (313 * u + ((S.1 1 + j) / 64).toNat) (by omega) hg hM rfl (by omega) (z_lt (n2 := 3756) rfl (by omega)) (by decide) 113 rfl (dd_X12_insure_1 0 _ _ _ rfl) ?_
                refine r_lload_7 115 rfl (dd_X12_insure_1 1 _ _ _ rfl) ?_
                refine r_lor 116 rfl (dd_X12_insure_1 2 _ _ _ rfl) ?_
                refine r_topl _ (zset_eq _ _) ?_
                refine r_goto 133 rfl (dd_X12_insure_1 3 _ _ _ rfl) ?_
                first | refine r_topl _ (zclr_eq _ _) ?_ | skip
                refine m_last 30 (313 * u + ((S.1 1 + j) / 64).toNat) (by omega) hg hM rfl (by omega) (z_lt (n2 := 3756) rfl (by omega)) (by decide) 134 rfl (dd_X12_insure_1 12 _ _ _ rfl) (fun h12 hM => ?_)
                refine r_iinc_5 137 rfl (by decide) rfl (dd_X12_insure_1 13 _ _ _ rfl) ?_
                refine r_goto 64 rfl (dd_X12_insure_1 14 _ _ _ rfl) ?_
                exact r_sub _ (z_s1 (z_s1 (z_s1 (z_s1 (z_s1 (z_s1 (z_s0 (z_s0 (z_s0 z_sN))))))))) (ih64 (j + 1) _ _ (by omega) (by omega) (by omega) (by unfold zil; first | (rw [if_pos (by omega)]; exact hM) | (rw [if_neg (by omega)]; exact hM)))
        exact r_sub _ (z_s1 (z_s1 (z_s1 (z_s1 (z_s1 (z_s1 (z_s0 (z_s0 (z_s0 z_sN))))))))) (L64 1000000 0 _ _ (by omega) (by omega) (by omega) hM)
    · refine r_iload_2 21 rfl (dd_X12_insure_0 12 _ _ _ rfl) ?_
      refine r_aload_0 22 rfl (dd_X12_insure_0 13 _ _ _ rfl) ?_
      refine m_get 1 hg hM (by unfold z_free; decide) rfl (by decide) (tb_6 57 _ rfl) 25 rfl (dd_X12_insure_0 14 _ _ _ rfl) ?_ (fun _ _ _ => rfl)
      refine r_sipush (by decide) 28 rfl (dd_X12_insure_0 15 _ _ _ rfl) ?_
      refine r_callS3 (lvl := 10) (mc1 := 0) (ms1 := 0) 0 0 hg rfl md_X12_in ws_X12_in (tb_6 209 _ rfl) (by decide) (by decide) rfl (Nat.le_of_ble_eq_true rfl) (by decide) (by decide) 31 rfl (dd_X12_insure_0 16 _ _ _ rfl) ?_
      refine c_X12_in hg (by omega) (by omega) (by omega) (fun hb13 => ?_) (fun hb13 => ?_)
      · dsimp only [zCont, Option.toList, List.cons_append, List.nil_append]
        refine r_ifeq (by omega) 34 rfl 38 rfl (dd_X12_insure_0 17 _ _ _ rfl) (fun q => absurd q (by decide)) (fun _ => ?_)
        refine r_iconst 35 rfl (dd_X12_insure_0 18 _ _ _ rfl) ?_
        refine r_goto 39 rfl (dd_X12_insure_0 19 _ _ _ rfl) ?_
        refine r_callV1 (lvl := 10) (mc1 := 0) (ms1 := 0) 0 0 hg rfl md_X12_goesWell zc_X12 hM.kd wi_X12_goesWell wv_X12_goesWell (tb_6 197 _ rfl) (by decide) (by decide) rfl (Nat.le_of_ble_eq_true rfl) (by decide) (by decide) 42 rfl (dd_X12_insure_0 21 _ _ _ rfl) ?_
        refine c_X12_goesWell hg hM (by decide) (fun _ h14 hM => ?_) (fun q => absurd rfl q)
        dsimp only [zCont, Option.toList, List.cons_append, List.nil_append]
        refine r_ifne (by omega) 45 rfl 47 rfl (dd_X12_insure_0 22 _ _ _ rfl) (fun _ => ?_) (fun q => absurd q (by decide))
        refine r_aload_0 48 rfl (dd_X12_insure_0 25 _ _ _ rfl) ?_
        refine r_iload_1 49 rfl (dd_X12_insure_0 26 _ _ _ rfl) ?_
        refine r_aload_0 50 rfl (dd_X12_insure_0 27 _ _ _ rfl) ?_
        refine m_get 1 hg hM (by unfold z_free; decide) rfl (by decide) (tb_6 57 _ rfl) 53 rfl (dd_X12_insure_0 28 _ _ _ rfl) ?_ (fun _ _ _ => rfl)
        refine r_callV2 (lvl := 10) (mc1 := 0) (ms1 := 0) 0 0 hg rfl md_X12_isInsured zc_X12 hM.kd wi_X12_isInsured wv_X12_isInsured (tb_7 103 _ rfl) (by decide) (by decide) rfl (Nat.le_of_ble_eq_true rfl) (by decide) (by decide) 56 rfl (dd_X12_insure_0 29 _ _ _ rfl) ?_
        refine c_X12_isInsured (v := u) hg hM (by omega) (by omega) (fun hi15 => ?_) (fun hi15 => ?_)
        · dsimp only [zCont, Option.toList, List.cons_append, List.nil_append]
          refine r_istore_4 58 rfl (by decide) rfl (dd_X12_insure_0 30 _ _ _ rfl) ?_
          refine r_aload_0 59 rfl (dd_X12_insure_0 31 _ _ _ rfl) ?_
          refine m_get 1 hg hM (by unfold z_free; decide) rfl (by decide) (tb_6 57 _ rfl) 62 rfl (dd_X12_insure_0 32 _ _ _ rfl) ?_ (fun _ _ _ => rfl)
          refine r_istore_5 64 rfl (by decide) rfl (dd_X12_insure_0 33 _ _ _ rfl) ?_
          have L64 : ∀ (tt : Nat), ∀ (j : Nat) (b : Int) (h : zH), 30000 - j < tt → (b = S.1 1 + j) → (b ≤ 20001) → (MI h0 m A (S.1, zil S.2 u to (S.1 1) j) 0 h) → zX g mX12_insure 0 0 Q 64 [some (.ref m), some (.int (zI (u : Int))), some (.int (zI to)), some (.int (zI 1)), some (.int (zI 1)), some (.int (zI b)), none, none, none] [] h 0 0 := by
            intro tt64
            induction tt64 with
            | zero => intros; exfalso; omega
            | succ tt64 ih64 =>
              intro j b h hlt64 hb hj hM
              subst hb
              refine r_iload_5 66 rfl (dd_X12_insure_0 34 _ _ _ rfl) ?_
              refine r_sipush (by decide) 69 rfl (dd_X12_insure_0 35 _ _ _ rfl) ?_
              refine r_if_icmpgt (by omega) (by omega) 72 rfl 140 rfl (dd_X12_insure_0 36 _ _ _ rfl) (fun hc16 => ?_) (fun hc16 => ?_)
              · refine r_iload_4 142 rfl (dd_X12_insure_1 15 _ _ _ rfl) ?_
                refine r_ireturn rfl rfl (dd_X12_insure_1 16 _ _ _ rfl) ?_
                first | exact k1 (by omega) _ hM | exact k2 u rfl (by omega) (by omega) _ hM | exact k3 u rfl (by omega) (by omega) (by assumption) _ (by rw [show (20001 - S.1 1).toNat = j by omega]; exact hM) | exact k4 u rfl (by omega) (by omega) (by assumption) _ (by rw [show (20001 - S.1 1).toNat = j by omega]; exact hM)
              · refine r_sipush (by decide) 75 rfl (dd_X12_insure_0 37 _ _ _ rfl) ?_
                refine r_iload_1 76 rfl (dd_X12_insure_0 38 _ _ _ rfl) ?_
                refine r_imul 77 rfl (dd_X12_insure_0 39 _ _ _ rfl) ?_
                refine r_iload_5 79 rfl (dd_X12_insure_0 40 _ _ _ rfl) ?_
                refine r_bipush (by decide) 81 rfl (dd_X12_insure_0 41 _ _ _ rfl) ?_
                refine r_idiv (by omega) (by omega) (by omega) (by omega) 82 rfl (dd_X12_insure_0 42 _ _ _ rfl) ?_
                refine r_iadd 83 rfl (dd_X12_insure_0 43 _ _ _ rfl) ?_
                refine r_istore_6 85 rfl (by decide) rfl (dd_X12_insure_0 44 _ _ _ rfl) ?_
                refine r_lconst1 86 rfl (dd_X12_insure_0 45 _ _ _ rfl) ?_
                refine r_iload_5 88 rfl (dd_X12_insure_0 46 _ _ _ rfl) ?_
                refine r_bipush (by decide) 90 rfl (dd_X12_insure_0 47 _ _ _ rfl) ?_
                refine r_irem (by omega) (by omega) (by omega) (by omega) 91 rfl (dd_X12_insure_0 48 _ _ _ rfl) ?_
                refine r_lshl 92 rfl (dd_X12_insure_0 49 _ _ _ rfl) ?_
                refine r_lstore_7 94 rfl (by decide) rfl (dd_X12_insure_0 50 _ _ _ rfl) ?_
                refine r_aload_0 95 rfl (dd_X12_insure_0 51 _ _ _ rfl) ?_
                refine m_arr 30 hg hM (by decide) (by decide) (tb_6 86 _ rfl) 98 rfl (dd_X12_insure_0 52 _ _ _ rfl) ?_ (fun _ _ _ => rfl)
                refine r_iload_6 100 rfl (dd_X12_insure_0 53 _ _ _ rfl) ?_
                refine r_iload_5 102 rfl (dd_X12_insure_0 54 _ _ _ rfl) ?_
                refine r_iload_2 103 rfl (dd_X12_insure_0 55 _ _ _ rfl) ?_
                refine r_if_icmpgt (by omega) (by omega) 106 rfl 119 rfl (dd_X12_insure_0 56 _ _ _ rfl) (fun hc17 => ?_) (fun hc17 => ?_)
                · refine r_aload_0 120 rfl (dd_X12_insure_1 4 _ _ _ rfl) ?_
                  refine m_arr 30 hg hM (by decide) (by decide) (tb_6 86 _ rfl) 123 rfl (dd_X12_insure_1 5 _ _ _ rfl) ?_ (fun _ _ _ => rfl)
                  refine r_iload_6 125 rfl (dd_X12_insure_1 6 _ _ _ rfl) ?_
                  refine m_lald 30 (313 * u + ((S.1 1 + j) / 64).toNat) (by omega) hg hM rfl (by omega) (z_lt (n2 := 3756) rfl (by omega)) (by decide) 126 rfl (dd_X12_insure_1 7 _ _ _ rfl) ?_
                  refine r_lload_7 128 rfl (dd_X12_insure_1 8 _ _ _ rfl) ?_
                  refine r_ldc2 hg (tb_7 107 _ rfl) 131 rfl (dd_X12_insure_1 9 _ _ _ rfl) ?_
                  refine r_topl (-1) rfl ?_
                  refine r_lxor 132 rfl (dd_X12_insure_1 10 _ _ _ rfl) ?_
                  refine r_land 133 rfl (dd_X12_insure_1 11 _ _ _ rfl) ?_
                  first | refine r_topl _ (zclr_eq _ _) ?_ | skip
                  refine m_last 30 (313 * u + ((S.1 1 + j) / 64).toNat) (by omega) hg hM rfl (by omega) (z_lt (n2 := 3756) rfl (by omega)) (by decide) 134 rfl (dd_X12_insure_1 12 _ _ _ rfl) (fun h18 hM => ?_)
                  refine r_iinc_5 137 rfl (by decide) rfl (dd_X12_insure_1 13 _ _ _ rfl) ?_
                  refine r_goto 64 rfl (dd_X12_insure_1 14 _ _ _ rfl) ?_
                  exact r_sub _ (z_s1 (z_s1 (z_s1 (z_s1 (z_s1 (z_s1 (z_s0 (z_s0 (z_s0 z_sN))))))))) (ih64 (j + 1) _ _ (by omega) (by omega) (by omega) (by unfold zil; first | (rw [if_pos (by omega)]; exact hM) | (rw [if_neg (by omega)]; exact hM)))
                · refine r_aload_0 107 rfl (dd_X12_insure_0 57 _ _ _ rfl) ?_
                  refine m_arr 30 hg hM (by decide) (by decide) (tb_6 86 _ rfl) 110 rfl (dd_X12_insure_0 58 _ _ _ rfl) ?_ (fun _ _ _ => rfl)
                  refine r_iload_6 112 rfl (dd_X12_insure_0 59 _ _ _ rfl) ?_
                  refine m_lald 30 (313 * u + ((S.1 1 + j) / 64).toNat) (by omega) hg hM rfl (by omega) (z_lt (n2 := 3756) rfl (by omega)) (by decide) 113 rfl (dd_X12_insure_1 0 _ _ _ rfl) ?_
                  refine r_lload_7 115 rfl (dd_X12_insure_1 1 _ _ _ rfl) ?_
                  refine r_lor 116 rfl (dd_X12_insure_1 2 _ _ _ rfl) ?_
                  refine r_topl _ (zset_eq _ _) ?_
                  refine r_goto 133 rfl (dd_X12_insure_1 3 _ _ _ rfl) ?_
                  first | refine r_topl _ (zclr_eq _ _) ?_ | skip
                  refine m_last 30 (313 * u + ((S.1 1 + j) / 64).toNat) (by omega) hg hM rfl (by omega) (z_lt (n2 := 3756) rfl (by omega)) (by decide) 134 rfl (dd_X12_insure_1 12 _ _ _ rfl) (fun h19 hM => ?_)
                  refine r_iinc_5 137 rfl (by decide) rfl (dd_X12_insure_1 13 _ _ _ rfl) ?_
                  refine r_goto 64 rfl (dd_X12_insure_1 14 _ _ _ rfl) ?_
                  exact r_sub _ (z_s1 (z_s1 (z_s1 (z_s1 (z_s1 (z_s1 (z_s0 (z_s0 (z_s0 z_sN))))))))) (ih64 (j + 1) _ _ (by omega) (by omega) (by omega) (by unfold zil; first | (rw [if_pos (by omega)]; exact hM) | (rw [if_neg (by omega)]; exact hM)))
          exact r_sub _ (z_s1 (z_s1 (z_s1 (z_s1 (z_s1 (z_s1 (z_s0 (z_s0 (z_s0 z_sN))))))))) (L64 1000000 0 _ _ (by omega) (by omega) (by omega) hM)
        · dsimp only [zCont, Option.toList, List.cons_append, List.nil_append]
          refine r_istore_4 58 rfl (by decide) rfl (dd_X12_insure_0 30 _ _ _ rfl) ?_
          refine r_aload_0 59 rfl (dd_X12_insure_0 31 _ _ _ rfl) ?_
          refine m_get 1 hg hM (by unfold z_free; decide) rfl (by decide) (tb_6 57 _ rfl) 62 rfl (dd_X12_insure_0 32 _ _ _ rfl) ?_ (fun _ _ _ => rfl)
          refine r_istore_5 64 rfl (by decide) rfl (dd_X12_insure_0 33 _ _ _ rfl) ?_
          have L64 : ∀ (tt : Nat), ∀ (j : Nat) (b : Int) (h : zH), 30000 - j < tt → (b = S.1 1 + j) → (b ≤ 20001) → (MI h0 m A (S.1, zil S.2 u to (S.1 1) j) 0 h) → zX g mX12_insure 0 0 Q 64 [some (.ref m), some (.int (zI (u : Int))), some (.int (zI to)), some (.int (zI 1)), some (.int (zI 0)), some (.int (zI b)), none, none, none] [] h 0 0 := by
            intro tt64
            induction tt64 with
            | zero => intros; exfalso; omega
            | succ tt64 ih64 =>
              intro j b h hlt64 hb hj hM
              subst hb
              refine r_iload_5 66 rfl (dd_X12_insure_0 34 _ _ _ rfl) ?_
              refine r_sipush (by decide) 69 rfl (dd_X12_insure_0 35 _ _ _ rfl) ?_
              refine r_if_icmpgt (by omega) (by omega) 72 rfl 140 rfl (dd_X12_insure_0 36 _ _ _ rfl) (fun hc20 => ?_) (fun hc20 => ?_)
              · refine r_iload_4 142 rfl (dd_X12_insure_1 15 _ _ _ rfl) ?_
                refine r_ireturn rfl rfl (dd_X12_insure_1 16 _ _ _ rfl) ?_
                first | exact k1 (by omega) _ hM | exact k2 u rfl (by omega) (by omega) _ hM | exact k3 u rfl (by omega) (by omega) (by assumption) _ (by rw [show (20001 - S.1 1).toNat = j by omega]; exact hM) | exact k4 u rfl (by omega) (by omega) (by assumption) _ (by rw [show (20001 - S.1 1).toNat = j by omega]; exact hM)
              · refine r_sipush (by decide) 75 rfl (dd_X12_insure_0 37 _ _ _ rfl) ?_
                refine r_iload_1 76 rfl (dd_X12_insure_0 38 _ _ _ rfl) ?_
                refine r_imul 77 rfl (dd_X12_insure_0 39 _ _ _ rfl) ?_
                refine r_iload_5 79 rfl (dd_X12_insure_0 40 _ _ _ rfl) ?_
                refine r_bipush (by decide) 81 rfl (dd_X12_insure_0 41 _ _ _ rfl) ?_
                refine r_idiv (by omega) (by omega) (by omega) (by omega) 82 rfl (dd_X12_insure_0 42 _ _ _ rfl) ?_
                refine r_iadd 83 rfl (dd_X12_insure_0 43 _ _ _ rfl) ?_
                refine r_istore_6 85 rfl (by decide) rfl (dd_X12_insure_0 44 _ _ _ rfl) ?_
                refine r_lconst1 86 rfl (dd_X12_insure_0 45 _ _ _ rfl) ?_
                refine r_iload_5 88 rfl (dd_X12_insure_0 46 _ _ _ rfl) ?_
                refine r_bipush (by decide) 90 rfl (dd_X12_insure_0 47 _ _ _ rfl) ?_
                refine r_irem (by omega) (by omega) (by omega) (by omega) 91 rfl (dd_X12_insure_0 48 _ _ _ rfl) ?_
                refine r_lshl 92 rfl (dd_X12_insure_0 49 _ _ _ rfl) ?_
                refine r_lstore_7 94 rfl (by decide) rfl (dd_X12_insure_0 50 _ _ _ rfl) ?_
                refine r_aload_0 95 rfl (dd_X12_insure_0 51 _ _ _ rfl) ?_
                refine m_arr 30 hg hM (by decide) (by decide) (tb_6 86 _ rfl) 98 rfl (dd_X12_insure_0 52 _ _ _ rfl) ?_ (fun _ _ _ => rfl)
                refine r_iload_6 100 rfl (dd_X12_insure_0 53 _ _ _ rfl) ?_
                refine r_iload_5 102 rfl (dd_X12_insure_0 54 _ _ _ rfl) ?_
                refine r_iload_2 103 rfl (dd_X12_insure_0 55 _ _ _ rfl) ?_
                refine r_if_icmpgt (by omega) (by omega) 106 rfl 119 rfl (dd_X12_insure_0 56 _ _ _ rfl) (fun hc21 => ?_) (fun hc21 => ?_)
                · refine r_aload_0 120 rfl (dd_X12_insure_1 4 _ _ _ rfl) ?_
                  refine m_arr 30 hg hM (by decide) (by decide) (tb_6 86 _ rfl) 123 rfl (dd_X12_insure_1 5 _ _ _ rfl) ?_ (fun _ _ _ => rfl)
                  refine r_iload_6 125 rfl (dd_X12_insure_1 6 _ _ _ rfl) ?_
                  refine m_lald 30 (313 * u + ((S.1 1 + j) / 64).toNat) (by omega) hg hM rfl (by omega) (z_lt (n2 := 3756) rfl (by omega)) (by decide) 126 rfl (dd_X12_insure_1 7 _ _ _ rfl) ?_
                  refine r_lload_7 128 rfl (dd_X12_insure_1 8 _ _ _ rfl) ?_
                  refine r_ldc2 hg (tb_7 107 _ rfl) 131 rfl (dd_X12_insure_1 9 _ _ _ rfl) ?_
                  refine r_topl (-1) rfl ?_
                  refine r_lxor 132 rfl (dd_X12_insure_1 10 _ _ _ rfl) ?_
                  refine r_land 133 rfl (dd_X12_insure_1 11 _ _ _ rfl) ?_
                  first | refine r_topl _ (zclr_eq _ _) ?_ | skip
                  refine m_last 30 (313 * u + ((S.1 1 + j) / 64).toNat) (by omega) hg hM rfl (by omega) (z_lt (n2 := 3756) rfl (by omega)) (by decide) 134 rfl (dd_X12_insure_1 12 _ _ _ rfl) (fun h22 hM => ?_)
                  refine r_iinc_5 137 rfl (by decide) rfl (dd_X12_insure_1 13 _ _ _ rfl) ?_
                  refine r_goto 64 rfl (dd_X12_insure_1 14 _ _ _ rfl) ?_
                  exact r_sub _ (z_s1 (z_s1 (z_s1 (z_s1 (z_s1 (z_s1 (z_s0 (z_s0 (z_s0 z_sN))))))))) (ih64 (j + 1) _ _ (by omega) (by omega) (by omega) (by unfold zil; first | (rw [if_pos (by omega)]; exact hM) | (rw [if_neg (by omega)]; exact hM)))
                · refine r_aload_0 107 rfl (dd_X12_insure_0 57 _ _ _ rfl) ?_
                  refine m_arr 30 hg hM (by decide) (by decide) (tb_6 86 _ rfl) 110 rfl (dd_X12_insure_0 58 _ _ _ rfl) ?_ (fun _ _ _ => rfl)
                  refine r_iload_6 112 rfl (dd_X12_insure_0 59 _ _ _ rfl) ?_
                  refine m_lald 30 (313 * u + ((S.1 1 + j) / 64).toNat) (by omega) hg hM rfl (by omega) (z_lt (n2 := 3756) rfl (by omega)) (by decide) 113 rfl (dd_X12_insure_1 0 _ _ _ rfl) ?_
                  refine r_lload_7 115 rfl (dd_X12_insure_1 1 _ _ _ rfl) ?_
                  refine r_lor 116 rfl (dd_X12_insure_1 2 _ _ _ rfl) ?_
                  refine r_topl _ (zset_eq _ _) ?_
                  refine r_goto 133 rfl (dd_X12_insure_1 3 _ _ _ rfl) ?_
                  first | refine r_topl _ (zclr_eq _ _) ?_ | skip
                  refine m_last 30 (313 * u + ((S.1 1 + j) / 64).toNat) (by omega) hg hM rfl (by omega) (z_lt (n2 := 3756) rfl (by omega)) (by decide) 134 rfl (dd_X12_insure_1 12 _ _ _ rfl) (fun h23 hM => ?_)
                  refine r_iinc_5 137 rfl (by decide) rfl (dd_X12_insure_1 13 _ _ _ rfl) ?_
                  refine r_goto 64 rfl (dd_X12_insure_1 14 _ _ _ rfl) ?_
                  exact r_sub _ (z_s1 (z_s1 (z_s1 (z_s1 (z_s1 (z_s1 (z_s0 (z_s0 (z_s0 z_sN))))))))) (ih64 (j + 1) _ _ (by omega) (by omega) (by omega) (by unfold zil; first | (rw [if_pos (by omega)]; exact hM) | (rw [if_neg (by omega)]; exact hM)))
          exact r_sub _ (z_s1 (z_s1 (z_s1 (z_s1 (z_s1 (z_s1 (z_s0 (z_s0 (z_s0 z_sN))))))))) (L64 1000000 0 _ _ (by omega) (by omega) (by omega) hM)
      · dsimp only [zCont, Option.toList, List.cons_append, List.nil_append]
        refine r_ifeq (by omega) 34 rfl 38 rfl (dd_X12_insure_0 17 _ _ _ rfl) (fun _ => ?_) (fun q => absurd q (by decide))
        refine r_iconst 39 rfl (dd_X12_insure_0 20 _ _ _ rfl) ?_
        refine r_callV1 (lvl := 10) (mc1 := 0) (ms1 := 0) 0 0 hg rfl md_X12_goesWell zc_X12 hM.kd wi_X12_goesWell wv_X12_goesWell (tb_6 197 _ rfl) (by decide) (by decide) rfl (Nat.le_of_ble_eq_true rfl) (by decide) (by decide) 42 rfl (dd_X12_insure_0 21 _ _ _ rfl) ?_
        refine c_X12_goesWell hg hM (by decide) (fun q => absurd q (by decide)) (fun _ h24 hM => ?_)
        dsimp only [zCont, Option.toList, List.cons_append, List.nil_append]
        refine r_ifne (by omega) 45 rfl 47 rfl (dd_X12_insure_0 22 _ _ _ rfl) (fun q => absurd q (by decide)) (fun _ => ?_)
        refine r_iconst 46 rfl (dd_X12_insure_0 23 _ _ _ rfl) ?_
        refine r_ireturn rfl rfl (dd_X12_insure_0 24 _ _ _ rfl) ?_
        first | exact k1 (by omega) _ hM | exact k2 u rfl (by omega) (by omega) _ hM | exact k3 u rfl (by omega) (by omega) (by assumption) _ (by rw [show (20001 - S.1 1).toNat = j by omega]; exact hM) | exact k4 u rfl (by omega) (by omega) (by assumption) _ (by rw [show (20001 - S.1 1).toNat = j by omega]; exact hM)
  · dsimp only [zCont, Option.toList, List.cons_append, List.nil_append]
    refine r_istore_3 6 rfl (by decide) rfl (dd_X12_insure_0 3 _ _ _ rfl) ?_
    refine r_aload_0 7 rfl (dd_X12_insure_0 4 _ _ _ rfl) ?_
    refine r_iload_3 8 rfl (dd_X12_insure_0 5 _ _ _ rfl) ?_
    refine r_ifne (by omega) 11 rfl 15 rfl (dd_X12_insure_0 6 _ _ _ rfl) (fun q => absurd q (by decide)) (fun _ => ?_)
    refine r_iconst 12 rfl (dd_X12_insure_0 7 _ _ _ rfl) ?_
    refine r_goto 39 rfl (dd_X12_insure_0 8 _ _ _ rfl) ?_
    refine r_callV1 (lvl := 10) (mc1 := 0) (ms1 := 0) 0 0 hg rfl md_X12_goesWell zc_X12 hM.kd wi_X12_goesWell wv_X12_goesWell (tb_6 197 _ rfl) (by decide) (by decide) rfl (Nat.le_of_ble_eq_true rfl) (by decide) (by decide) 42 rfl (dd_X12_insure_0 21 _ _ _ rfl) ?_
    refine c_X12_goesWell hg hM (by decide) (fun q => absurd q (by decide)) (fun _ h25 hM => ?_)
    dsimp only [zCont, Option.toList, List.cons_append, List.nil_append]
    refine r_ifne (by omega) 45 rfl 47 rfl (dd_X12_insure_0 22 _ _ _ rfl) (fun q => absurd q (by decide)) (fun _ => ?_)
    refine r_iconst 46 rfl (dd_X12_insure_0 23 _ _ _ rfl) ?_
    refine r_ireturn rfl rfl (dd_X12_insure_0 24 _ _ _ rfl) ?_
    first | exact k1 (by omega) _ hM | exact k2 u rfl (by omega) (by omega) _ hM | exact k3 u rfl (by omega) (by omega) (by assumption) _ (by rw [show (20001 - S.1 1).toNat = j by omega]; exact hM) | exact k4 u rfl (by omega) (by omega) (by assumption) _ (by rw [show (20001 - S.1 1).toNat = j by omega]; exact hM)

abbrev mX12_agrees : zM := (RX12, cX12_agrees, 5, (Option.some Jvm.ClassFile.FieldType.boolean), [], "agrees", 11)
set_option maxRecDepth 20000 in
theorem c_X12_agrees {g : zGT} {Q : zO → zH → Prop} {h : zH} (hg : zG g) {h0 : zH} {m : Nat} {A : Nat → Nat} {S : zS} {n : Nat} {t : Int} (hI : MInv n S) (hM : MI h0 m A S t h) {s : Nat} {p : Int} (hs : s < 40) (hp : -1 ≤ p ∧ p < 67600) (k1 : zagr S.2 s p → Q (.inl (some (.int (zI 1)))) h) (k0 : ¬ zagr S.2 s p → Q (.inl (some (.int (zI 0)))) h) : zC g (.code yX12_agrees cX12_agrees 5 (Option.some Jvm.ClassFile.FieldType.boolean)) yX12_agrees 11 0 0 [.ref m, .int (zI s), .int (zI p)] h Q := by
  refine zC_of (M := mX12_agrees) (lv := [some (.ref m), some (.int (zI s)), some (.int (zI p)), none, none]) (by decide) rfl rfl (Nat.le_of_ble_eq_true rfl) rfl rfl ?_
  refine r_iload_2 1 rfl (dd_X12_agrees 0 _ _ _ rfl) ?_
  refine r_iconst 2 rfl (dd_X12_agrees 1 _ _ _ rfl) ?_
  refine r_if_icmpeq (by omega) (by omega) 5 rfl 9 rfl (dd_X12_agrees 2 _ _ _ rfl) (fun hc1 => ?_) (fun hc1 => ?_)
  · refine r_iconst 10 rfl (dd_X12_agrees 5 _ _ _ rfl) ?_
    refine r_istore_3 11 rfl (by decide) rfl (dd_X12_agrees 6 _ _ _ rfl) ?_
    refine r_iconst 12 rfl (dd_X12_agrees 7 _ _ _ rfl) ?_
    refine r_istore_4 14 rfl (by decide) rfl (dd_X12_agrees 8 _ _ _ rfl) ?_
    have L14 : ∀ (tt : Nat), ∀ (j : Nat) (b d : Int), 10 - j < tt → (b = j) → (j ≤ 4) → (0 ≤ d ∧ d ≤ 1) → (d = 1 → p ≠ -1 ∧ ∀ i, i < j → zok S.2 s p i) → (d = 0 → ¬ zagr S.2 s p) → zX g mX12_agrees 0 0 Q 14 [some (.ref m), some (.int (zI s)), some (.int (zI p)), some (.int (zI d)), some (.int (zI b))] [] h 0 0 := by
      intro tt14
      induction tt14 with
      | zero => intros; exfalso; omega
      | succ tt14 ih14 =>
        intro j b d hlt14 hb hj hd01 hd1 hd0
        subst hb
        have e2 := hI.seenSigns (4 * s + j)
        refine r_iload_4 16 rfl (dd_X12_agrees 9 _ _ _ rfl) ?_
        refine r_iconst 17 rfl (dd_X12_agrees 10 _ _ _ rfl) ?_
        refine r_if_icmpge (by omega) (by omega) 20 rfl 72 rfl (dd_X12_agrees 11 _ _ _ rfl) (fun hc2 => ?_) (fun hc2 => ?_)
        · refine r_iload_3 73 rfl (dd_X12_agrees 42 _ _ _ rfl) ?_
          refine r_ireturn rfl (by rcases (show d = 0 ∨ d = 1 by omega) with q | q <;> rw [q] <;> rfl) (dd_X12_agrees 43 _ _ _ rfl) ?_
          rcases (show d = 0 ∨ d = 1 by omega) with rfl | rfl
          · exact k0 (hd0 rfl)
          · exact k1 (zagr_yes (hd1 rfl).1 (by have := (hd1 rfl).2; intro i hi; exact this i (by omega)))
        · refine r_iload_3 21 rfl (dd_X12_agrees 12 _ _ _ rfl) ?_
          refine r_ifeq (by omega) 24 rfl 72 rfl (dd_X12_agrees 13 _ _ _ rfl) (fun hc3 => ?_) (fun hc3 => ?_)
          · refine r_iload_3 73 rfl (dd_X12_agrees 42 _ _ _ rfl) ?_
            refine r_ireturn rfl (by rcases (show d = 0 ∨ d = 1 by omega) with q | q <;> rw [q] <;> rfl) (dd_X12_agrees 43 _ _ _ rfl) ?_
            rcases (show d = 0 ∨ d = 1 by omega) with rfl | rfl
            · exact k0 (hd0 rfl)
            · exact k1 (zagr_yes (hd1 rfl).1 (by have := (hd1 rfl).2; intro i hi; exact this i (by omega)))
          · have hj3 : j < 4 := by omega
            have hp9 := (hd1 (by omega)).1
            have hs9 := zsign_range (p := p) (q := (j : Int)) (by omega) (by omega)
            refine r_aload_0 25 rfl (dd_X12_agrees 14 _ _ _ rfl) ?_
            refine m_arr 32 hg hM (by decide) (by decide) (tb_6 88 _ rfl) 28 rfl (dd_X12_agrees 15 _ _ _ rfl) ?_ (fun _ _ _ => rfl)
            refine r_iconst 29 rfl (dd_X12_agrees 16 _ _ _ rfl) ?_
            refine r_iload_1 30 rfl (dd_X12_agrees 17 _ _ _ rfl) ?_
            refine r_imul 31 rfl (dd_X12_agrees 18 _ _ _ rfl) ?_
            refine r_iload_4 33 rfl (dd_X12_agrees 19 _ _ _ rfl) ?_
            refine r_iadd 34 rfl (dd_X12_agrees 20 _ _ _ rfl) ?_
            refine m_cald 32 (4 * s + j) (by omega) hg hM rfl (by omega) (z_lt (n2 := 160) rfl (by omega)) (by decide) 35 rfl (dd_X12_agrees 21 _ _ _ rfl) ?_
            refine r_bipush (by decide) 37 rfl (dd_X12_agrees 22 _ _ _ rfl) ?_
            refine r_if_icmpeq (by omega) (by omega) 40 rfl 60 rfl (dd_X12_agrees 23 _ _ _ rfl) (fun hc4 => ?_) (fun hc4 => ?_)
            · refine r_iconst 61 rfl (dd_X12_agrees 36 _ _ _ rfl) ?_
              refine r_goto 65 rfl (dd_X12_agrees 37 _ _ _ rfl) ?_
              refine r_istore_3 66 rfl (by decide) rfl (dd_X12_agrees 39 _ _ _ rfl) ?_
              refine r_iinc_4 69 rfl (by decide) rfl (dd_X12_agrees 40 _ _ _ rfl) ?_
              refine r_goto 14 rfl (dd_X12_agrees 41 _ _ _ rfl) ?_
              exact r_sub _ (z_s1 (z_s1 (z_s1 (z_s1 (z_s1 z_sN))))) (ih14 (j + 1) _ _ (by omega) (by omega) (by omega) (by omega) (by first | exact fun q => absurd q (by decide) | exact fun _ => ⟨(hd1 (by omega)).1, lt_s (hd1 (by omega)).2 (by first | exact Or.inl (by assumption) | exact Or.inr (by assumption))⟩) (by first | exact fun q => absurd q (by decide) | exact fun _ q => zagr_no hj3 q (by assumption) (by assumption)))
            · refine r_aload_0 41 rfl (dd_X12_agrees 24 _ _ _ rfl) ?_
              refine m_arr 32 hg hM (by decide) (by decide) (tb_6 88 _ rfl) 44 rfl (dd_X12_agrees 25 _ _ _ rfl) ?_ (fun _ _ _ => rfl)
              refine r_iconst 45 rfl (dd_X12_agrees 26 _ _ _ rfl) ?_
              refine r_iload_1 46 rfl (dd_X12_agrees 27 _ _ _ rfl) ?_
              refine r_imul 47 rfl (dd_X12_agrees 28 _ _ _ rfl) ?_
              refine r_iload_4 49 rfl (dd_X12_agrees 29 _ _ _ rfl) ?_
              refine r_iadd 50 rfl (dd_X12_agrees 30 _ _ _ rfl) ?_
              refine m_cald 32 (4 * s + j) (by omega) hg hM rfl (by omega) (z_lt (n2 := 160) rfl (by omega)) (by decide) 51 rfl (dd_X12_agrees 31 _ _ _ rfl) ?_
              refine r_iload_2 52 rfl (dd_X12_agrees 32 _ _ _ rfl) ?_
              refine r_iload_4 54 rfl (dd_X12_agrees 33 _ _ _ rfl) ?_
              refine r_callS2 (lvl := 10) (mc1 := 0) (ms1 := 0) 0 0 hg rfl md_X12_signOf ws_X12_signOf (tb_7 69 _ rfl) (by decide) (by decide) rfl (Nat.le_of_ble_eq_true rfl) (by decide) (by decide) 57 rfl (dd_X12_agrees 34 _ _ _ rfl) ?_
              refine c_X12_signOf hg (by omega) (by omega) ?_
              dsimp only [zCont, Option.toList, List.cons_append, List.nil_append]
              refine r_if_icmpne (by omega) (by omega) 60 rfl 64 rfl (dd_X12_agrees 35 _ _ _ rfl) (fun hc5 => ?_) (fun hc5 => ?_)
              · refine r_iconst 65 rfl (dd_X12_agrees 38 _ _ _ rfl) ?_
                refine r_istore_3 66 rfl (by decide) rfl (dd_X12_agrees 39 _ _ _ rfl) ?_
                refine r_iinc_4 69 rfl (by decide) rfl (dd_X12_agrees 40 _ _ _ rfl) ?_
                refine r_goto 14 rfl (dd_X12_agrees 41 _ _ _ rfl) ?_
                exact r_sub _ (z_s1 (z_s1 (z_s1 (z_s1 (z_s1 z_sN))))) (ih14 (j + 1) _ _ (by omega) (by omega) (by omega) (by omega) (by first | exact fun q => absurd q (by decide) | exact fun _ => ⟨(hd1 (by omega)).1, lt_s (hd1 (by omega)).2 (by first | exact Or.inl (by assumption) | exact Or.inr (by assumption))⟩) (by first | exact fun q => absurd q (by decide) | exact fun _ q => zagr_no hj3 q (by assumption) (by assumption)))
              · refine r_iconst 61 rfl (dd_X12_agrees 36 _ _ _ rfl) ?_
                refine r_goto 65 rfl (dd_X12_agrees 37 _ _ _ rfl) ?_
                refine r_istore_3 66 rfl (by decide) rfl (dd_X12_agrees 39 _ _ _ rfl) ?_
                refine r_iinc_4 69 rfl (by decide) rfl (dd_X12_agrees 40 _ _ _ rfl) ?_
                refine r_goto 14 rfl (dd_X12_agrees 41 _ _ _ rfl) ?_
                exact r_sub _ (z_s1 (z_s1 (z_s1 (z_s1 (z_s1 z_sN))))) (ih14 (j + 1) _ _ (by omega) (by omega) (by omega) (by omega) (by first | exact fun q => absurd q (by decide) | exact fun _ => ⟨(hd1 (by omega)).1, lt_s (hd1 (by omega)).2 (by first | exact Or.inl (by assumption) | exact Or.inr (by assumption))⟩) (by first | exact fun q => absurd q (by decide) | exact fun _ q => zagr_no hj3 q (by assumption) (by assumption)))
    exact r_sub _ (z_s1 (z_s1 (z_s1 (z_s1 (z_s1 z_sN))))) (L14 1000000 0 _ _ (by omega) (by omega) (by omega) (by omega) (by first | exact fun _ => ⟨by omega, lt_0⟩ | exact fun q => absurd q (by decide)) (by first | exact fun q => absurd q (by decide) | exact fun _ q => q.1 (by omega)))
  · refine r_iconst 6 rfl (dd_X12_agrees 3 _ _ _ rfl) ?_
    refine r_goto 10 rfl (dd_X12_agrees 4 _ _ _ rfl) ?_
    refine r_istore_3 11 rfl (by decide) rfl (dd_X12_agrees 6 _ _ _ rfl) ?_
    refine r_iconst 12 rfl (dd_X12_agrees 7 _ _ _ rfl) ?_
    refine r_istore_4 14 rfl (by decide) rfl (dd_X12_agrees 8 _ _ _ rfl) ?_
    have L14 : ∀ (tt : Nat), ∀ (j : Nat) (b d : Int), 10 - j < tt → (b = j) → (j ≤ 4) → (0 ≤ d ∧ d ≤ 1) → (d = 1 → p ≠ -1 ∧ ∀ i, i < j → zok S.2 s p i) → (d = 0 → ¬ zagr S.2 s p) → zX g mX12_agrees 0 0 Q 14 [some (.ref m), some (.int (zI s)), some (.int (zI p)), some (.int (zI d)), some (.int (zI b))] [] h 0 0 := by
      intro tt14
      induction tt14 with
      | zero => intros; exfalso; omega
      | succ tt14 ih14 =>
        intro j b d hlt14 hb hj hd01 hd1 hd0
        subst hb
        have e2 := hI.seenSigns (4 * s + j)
        refine r_iload_4 16 rfl (dd_X12_agrees 9 _ _ _ rfl) ?_
        refine r_iconst 17 rfl (dd_X12_agrees 10 _ _ _ rfl) ?_
        refine r_if_icmpge (by omega) (by omega) 20 rfl 72 rfl (dd_X12_agrees 11 _ _ _ rfl) (fun hc6 => ?_) (fun hc6 => ?_)
        · refine r_iload_3 73 rfl (dd_X12_agrees 42 _ _ _ rfl) ?_
          refine r_ireturn rfl (by rcases (show d = 0 ∨ d = 1 by omega) with q | q <;> rw [q] <;> rfl) (dd_X12_agrees 43 _ _ _ rfl) ?_
          rcases (show d = 0 ∨ d = 1 by omega) with rfl | rfl
          · exact k0 (hd0 rfl)
          · exact k1 (zagr_yes (hd1 rfl).1 (by have := (hd1 rfl).2; intro i hi; exact this i (by omega)))
        · refine r_iload_3 21 rfl (dd_X12_agrees 12 _ _ _ rfl) ?_
          refine r_ifeq (by omega) 24 rfl 72 rfl (dd_X12_agrees 13 _ _ _ rfl) (fun hc7 => ?_) (fun hc7 => ?_)
          · refine r_iload_3 73 rfl (dd_X12_agrees 42 _ _ _ rfl) ?_
            refine r_ireturn rfl (by rcases (show d = 0 ∨ d = 1 by omega) with q | q <;> rw [q] <;> rfl) (dd_X12_agrees 43 _ _ _ rfl) ?_
            rcases (show d = 0 ∨ d = 1 by omega) with rfl | rfl
            · exact k0 (hd0 rfl)
            · exact k1 (zagr_yes (hd1 rfl).1 (by have := (hd1 rfl).2; intro i hi; exact this i (by omega)))
          · have hj3 : j < 4 := by omega
            have hp9 := (hd1 (by omega)).1
            have hs9 := zsign_range (p := p) (q := (j : Int)) (by omega) (by omega)
            refine r_aload_0 25 rfl (dd_X12_agrees 14 _ _ _ rfl) ?_
            refine m_arr 32 hg hM (by decide) (by decide) (tb_6 88 _ rfl) 28 rfl (dd_X12_agrees 15 _ _ _ rfl) ?_ (fun _ _ _ => rfl)
            refine r_iconst 29 rfl (dd_X12_agrees 16 _ _ _ rfl) ?_
            refine r_iload_1 30 rfl (dd_X12_agrees 17 _ _ _ rfl) ?_
            refine r_imul 31 rfl (dd_X12_agrees 18 _ _ _ rfl) ?_
            refine r_iload_4 33 rfl (dd_X12_agrees 19 _ _ _ rfl) ?_
            refine r_iadd 34 rfl (dd_X12_agrees 20 _ _ _ rfl) ?_
            refine m_cald 32 (4 * s + j) (by omega) hg hM rfl (by omega) (z_lt (n2 := 160) rfl (by omega)) (by decide) 35 rfl (dd_X12_agrees 21 _ _ _ rfl) ?_
            refine r_bipush (by decide) 37 rfl (dd_X12_agrees 22 _ _ _ rfl) ?_
            refine r_if_icmpeq (by omega) (by omega) 40 rfl 60 rfl (dd_X12_agrees 23 _ _ _ rfl) (fun hc8 => ?_) (fun hc8 => ?_)
            · refine r_iconst 61 rfl (dd_X12_agrees 36 _ _ _ rfl) ?_
              refine r_goto 65 rfl (dd_X12_agrees 37 _ _ _ rfl) ?_
              refine r_istore_3 66 rfl (by decide) rfl (dd_X12_agrees 39 _ _ _ rfl) ?_
              refine r_iinc_4 69 rfl (by decide) rfl (dd_X12_agrees 40 _ _ _ rfl) ?_
              refine r_goto 14 rfl (dd_X12_agrees 41 _ _ _ rfl) ?_
              exact r_sub _ (z_s1 (z_s1 (z_s1 (z_s1 (z_s1 z_sN))))) (ih14 (j + 1) _ _ (by omega) (by omega) (by omega) (by omega) (by first | exact fun q => absurd q (by decide) | exact fun _ => ⟨(hd1 (by omega)).1, lt_s (hd1 (by omega)).2 (by first | exact Or.inl (by assumption) | exact Or.inr (by assumption))⟩) (by first | exact fun q => absurd q (by decide) | exact fun _ q => zagr_no hj3 q (by assumption) (by assumption)))
            · refine r_aload_0 41 rfl (dd_X12_agrees 24 _ _ _ rfl) ?_
              refine m_arr 32 hg hM (by decide) (by decide) (tb_6 88 _ rfl) 44 rfl (dd_X12_agrees 25 _ _ _ rfl) ?_ (fun _ _ _ => rfl)
              refine r_iconst 45 rfl (dd_X12_agrees 26 _ _ _ rfl) ?_
              refine r_iload_1 46 rfl (dd_X12_agrees 27 _ _ _ rfl) ?_
              refine r_imul 47 rfl (dd_X12_agrees 28 _ _ _ rfl) ?_
              refine r_iload_4 49 rfl (dd_X12_agrees 29 _ _ _ rfl) ?_
              refine r_iadd 50 rfl (dd_X12_agrees 30 _ _ _ rfl) ?_
              refine m_cald 32 (4 * s + j) (by omega) hg hM rfl (by omega) (z_lt (n2 := 160) rfl (by omega)) (by decide) 51 rfl (dd_X12_agrees 31 _ _ _ rfl) ?_
              refine r_iload_2 52 rfl (dd_X12_agrees 32 _ _ _ rfl) ?_
              refine r_iload_4 54 rfl (dd_X12_agrees 33 _ _ _ rfl) ?_
              refine r_callS2 (lvl := 10) (mc1 := 0) (ms1 := 0) 0 0 hg rfl md_X12_signOf ws_X12_signOf (tb_7 69 _ rfl) (by decide) (by decide) rfl (Nat.le_of_ble_eq_true rfl) (by decide) (by decide) 57 rfl (dd_X12_agrees 34 _ _ _ rfl) ?_
              refine c_X12_signOf hg (by omega) (by omega) ?_
              dsimp only [zCont, Option.toList, List.cons_append, List.nil_append]
              refine r_if_icmpne (by omega) (by omega) 60 rfl 64 rfl (dd_X12_agrees 35 _ _ _ rfl) (fun hc9 => ?_) (fun hc9 => ?_)
              · refine r_iconst 65 rfl (dd_X12_agrees 38 _ _ _ rfl) ?_
                refine r_istore_3 66 rfl (by decide) rfl (dd_X12_agrees 39 _ _ _ rfl) ?_
                refine r_iinc_4 69 rfl (by decide) rfl (dd_X12_agrees 40 _ _ _ rfl) ?_
                refine r_goto 14 rfl (dd_X12_agrees 41 _ _ _ rfl) ?_
                exact r_sub _ (z_s1 (z_s1 (z_s1 (z_s1 (z_s1 z_sN))))) (ih14 (j + 1) _ _ (by omega) (by omega) (by omega) (by omega) (by first | exact fun q => absurd q (by decide) | exact fun _ => ⟨(hd1 (by omega)).1, lt_s (hd1 (by omega)).2 (by first | exact Or.inl (by assumption) | exact Or.inr (by assumption))⟩) (by first | exact fun q => absurd q (by decide) | exact fun _ q => zagr_no hj3 q (by assumption) (by assumption)))
              · refine r_iconst 61 rfl (dd_X12_agrees 36 _ _ _ rfl) ?_
                refine r_goto 65 rfl (dd_X12_agrees 37 _ _ _ rfl) ?_
                refine r_istore_3 66 rfl (by decide) rfl (dd_X12_agrees 39 _ _ _ rfl) ?_
                refine r_iinc_4 69 rfl (by decide) rfl (dd_X12_agrees 40 _ _ _ rfl) ?_
                refine r_goto 14 rfl (dd_X12_agrees 41 _ _ _ rfl) ?_
                exact r_sub _ (z_s1 (z_s1 (z_s1 (z_s1 (z_s1 z_sN))))) (ih14 (j + 1) _ _ (by omega) (by omega) (by omega) (by omega) (by first | exact fun q => absurd q (by decide) | exact fun _ => ⟨(hd1 (by omega)).1, lt_s (hd1 (by omega)).2 (by first | exact Or.inl (by assumption) | exact Or.inr (by assumption))⟩) (by first | exact fun q => absurd q (by decide) | exact fun _ q => zagr_no hj3 q (by assumption) (by assumption)))
    exact r_sub _ (z_s1 (z_s1 (z_s1 (z_s1 (z_s1 z_sN))))) (L14 1000000 0 _ _ (by omega) (by omega) (by omega) (by omega) (by first | exact fun _ => ⟨by omega, lt_0⟩ | exact fun q => absurd q (by decide)) (by first | exact fun q => absurd q (by decide) | exact fun _ q => q.1 (by omega)))
