abbrev mX12_isFree : zM := (RX12, cX12_isFree, 2, (Option.some Jvm.ClassFile.FieldType.boolean), [], "isFree", 10)
set_option maxRecDepth 20000 in
theorem c_X12_isFree {g : zGT} {Q : zO → zH → Prop} {h : zH} (hg : zG g) {h0 : zH} {m : Nat} {A : Nat → Nat} {S : zS} {n : Nat} {t : Int} (hI : MInv n S) (hM : MI h0 m A S t h) {p : Int} (hp : 0 ≤ p ∧ p < 67600) (k1 : zfree S.2 p → Q (.inl (some (.int (zI 1)))) h) (k0 : ¬ zfree S.2 p → Q (.inl (some (.int (zI 0)))) h) : zC g (.code yX12_isFree cX12_isFree 2 (Option.some Jvm.ClassFile.FieldType.boolean)) yX12_isFree 10 0 0 [.ref m, .int (zI p)] h Q := by
  refine zC_of (M := mX12_isFree) (lv := [some (.ref m), some (.int (zI p))]) (by decide) rfl rfl (Nat.le_of_ble_eq_true rfl) rfl rfl ?_
  have e1 := hI.barred (p / 100).toNat
  refine r_aload_0 1 rfl (dd_X12_isFree 0 _ _ _ rfl) ?_
  refine m_arr 17 hg hM (by decide) (by decide) (tb_6 73 _ rfl) 4 rfl (dd_X12_isFree 1 _ _ _ rfl) ?_ (fun _ _ _ => rfl)
  refine r_iload_1 5 rfl (dd_X12_isFree 2 _ _ _ rfl) ?_
  refine r_bipush (by decide) 7 rfl (dd_X12_isFree 3 _ _ _ rfl) ?_
  refine r_idiv (by omega) (by omega) (by omega) (by omega) 8 rfl (dd_X12_isFree 4 _ _ _ rfl) ?_
  refine m_lald 17 _ rfl hg hM rfl (by omega) (z_lt (n2 := 1057) rfl (by omega)) (by decide) 9 rfl (dd_X12_isFree 5 _ _ _ rfl) ?_
  refine r_iload_1 10 rfl (dd_X12_isFree 6 _ _ _ rfl) ?_
  refine r_bipush (by decide) 12 rfl (dd_X12_isFree 7 _ _ _ rfl) ?_
  refine r_irem (by omega) (by omega) (by omega) (by omega) 13 rfl (dd_X12_isFree 8 _ _ _ rfl) ?_
  refine r_lshr 14 rfl (dd_X12_isFree 9 _ _ _ rfl) ?_
  refine r_lconst1 15 rfl (dd_X12_isFree 10 _ _ _ rfl) ?_
  refine r_land 16 rfl (dd_X12_isFree 11 _ _ _ rfl) ?_
  refine r_topl (if zbit (S.2 17 (p / 64).toNat) (p % 64) = true then 1 else 0) (z_bit_shr (by omega) (by omega)) ?_
  by_cases hb : zbit (S.2 17 (p / 64).toNat) (p % 64) = true
  · rw [if_pos hb]
    refine r_lconst0 17 rfl (dd_X12_isFree 12 _ _ _ rfl) ?_
    refine r_lcmp (by decide) (by decide) 18 rfl (dd_X12_isFree 13 _ _ _ rfl) (fun q => absurd q (by decide)) (fun q => absurd q (by decide)) (fun _ => ?_)
    refine r_ifne (by omega) 21 rfl 37 rfl (dd_X12_isFree 14 _ _ _ rfl) (fun _ => ?_) (fun q => absurd q (by decide))
    refine r_iconst 38 rfl (dd_X12_isFree 24 _ _ _ rfl) ?_
    refine r_ireturn rfl rfl (dd_X12_isFree 25 _ _ _ rfl) ?_
    exact k0 (fun q => by first | (rw [q.1] at hb; cases hb) | exact absurd q.2 (by omega))
  · rw [if_neg hb]
    refine r_lconst0 17 rfl (dd_X12_isFree 12 _ _ _ rfl) ?_
    refine r_lcmp (by decide) (by decide) 18 rfl (dd_X12_isFree 13 _ _ _ rfl) (fun q => absurd q (by decide)) (fun _ => ?_) (fun q => absurd q (by decide))
    refine r_ifne (by omega) 21 rfl 37 rfl (dd_X12_isFree 14 _ _ _ rfl) (fun q => absurd q (by decide)) (fun _ => ?_)
    refine r_aload_0 22 rfl (dd_X12_isFree 15 _ _ _ rfl) ?_
    refine m_arr 15 hg hM (by decide) (by decide) (tb_6 71 _ rfl) 25 rfl (dd_X12_isFree 16 _ _ _ rfl) ?_ (fun _ _ _ => rfl)
    refine r_iload_1 26 rfl (dd_X12_isFree 17 _ _ _ rfl) ?_
    refine r_bipush (by decide) 28 rfl (dd_X12_isFree 18 _ _ _ rfl) ?_
    refine r_idiv (by omega) (by omega) (by omega) (by omega) 29 rfl (dd_X12_isFree 19 _ _ _ rfl) ?_
    refine m_zald 15 _ rfl hg hM rfl (by omega) (z_lt (n2 := 676) rfl (by omega)) (by decide) 30 rfl (dd_X12_isFree 20 _ _ _ rfl) ?_
    refine r_ifne (by omega) 33 rfl 37 rfl (dd_X12_isFree 21 _ _ _ rfl) (fun hc1 => ?_) (fun hc1 => ?_)
    · refine r_iconst 38 rfl (dd_X12_isFree 24 _ _ _ rfl) ?_
      refine r_ireturn rfl rfl (dd_X12_isFree 25 _ _ _ rfl) ?_
      exact k0 (fun q => by first | (rw [q.1] at hb; cases hb) | exact absurd q.2 (by omega))
    · refine r_iconst 34 rfl (dd_X12_isFree 22 _ _ _ rfl) ?_
      refine r_goto 38 rfl (dd_X12_isFree 23 _ _ _ rfl) ?_
      refine r_ireturn rfl rfl (dd_X12_isFree 25 _ _ _ rfl) ?_
      exact k1 ⟨by simpa using hb, by omega⟩

abbrev mX12_give : zM := (RX12, cX12_give, 3, (Option.some Jvm.ClassFile.FieldType.int), [], "give", 10)
set_option maxRecDepth 20000 in
theorem c_X12_give {g : zGT} {Q : zO → zH → Prop} {h : zH} (hg : zG g) {h0 : zH} {m : Nat} {A : Nat → Nat} {sc : Nat → Int} {ar : Nat → Nat → Int} {t : Int} (hM : MI h0 m A (sc, ar) t h) {v p c d : Int} (hv : 0 ≤ v ∧ v < 12) (hp : 0 ≤ p ∧ p < 67600) (hc : sc 18 = c) (hd : sc 1 = d) (hc2 : 0 ≤ c ∧ c < 67600) (hd2 : 0 ≤ d ∧ d ≤ 20000) (k : ∀ h1, MI h0 m A (zu1 sc 18 (c + 1), zu2 (zu2 ar 17 (p / 64).toNat (zset (ar 17 (p / 64).toNat) (p % 64))) 19 c.toNat (zpack p v d)) t h1 → Q (.inl (some (.int (zI p)))) h1) : zC g (.code yX12_give cX12_give 3 (Option.some Jvm.ClassFile.FieldType.int)) yX12_give 10 0 0 [.ref m, .int (zI v), .int (zI p)] h Q := by
  refine zC_of (M := mX12_give) (lv := [some (.ref m), some (.int (zI v)), some (.int (zI p))]) (by decide) rfl rfl (Nat.le_of_ble_eq_true rfl) rfl rfl ?_
  refine r_aload_0 1 rfl (dd_X12_give 0 _ _ _ rfl) ?_
  refine m_arr 17 hg hM (by decide) (by decide) (tb_6 73 _ rfl) 4 rfl (dd_X12_give 1 _ _ _ rfl) ?_ (fun _ _ _ => rfl)
  refine r_iload_2 5 rfl (dd_X12_give 2 _ _ _ rfl) ?_
  refine r_bipush (by decide) 7 rfl (dd_X12_give 3 _ _ _ rfl) ?_
  refine r_idiv (by omega) (by omega) (by omega) (by omega) 8 rfl (dd_X12_give 4 _ _ _ rfl) ?_
  refine r_dup2 rfl rfl 9 rfl (dd_X12_give 5 _ _ _ rfl) ?_
  refine m_lald 17 _ rfl hg hM rfl (by omega) (z_lt (n2 := 1057) rfl (by omega)) (by decide) 10 rfl (dd_X12_give 6 _ _ _ rfl) ?_
  try simp (decide := true) only [zu2, false_and, and_false, and_true, true_and, and_self, if_true, if_false, reduceIte]
  refine r_lconst1 11 rfl (dd_X12_give 7 _ _ _ rfl) ?_
  refine r_iload_2 12 rfl (dd_X12_give 8 _ _ _ rfl) ?_
  refine r_bipush (by decide) 14 rfl (dd_X12_give 9 _ _ _ rfl) ?_
  refine r_irem (by omega) (by omega) (by omega) (by omega) 15 rfl (dd_X12_give 10 _ _ _ rfl) ?_
  refine r_lshl 16 rfl (dd_X12_give 11 _ _ _ rfl) ?_
  refine r_lor 17 rfl (dd_X12_give 12 _ _ _ rfl) ?_
  refine r_topl _ (zset_eq _ _) ?_
  refine m_last 17 _ rfl hg hM rfl (by omega) (z_lt (n2 := 1057) rfl (by omega)) (by decide) 18 rfl (dd_X12_give 13 _ _ _ rfl) (fun h1 hM => ?_)
  refine r_aload_0 19 rfl (dd_X12_give 14 _ _ _ rfl) ?_
  refine m_arr 19 hg hM (by decide) (by decide) (tb_6 75 _ rfl) 22 rfl (dd_X12_give 15 _ _ _ rfl) ?_ (fun _ _ _ => rfl)
  refine r_aload_0 23 rfl (dd_X12_give 16 _ _ _ rfl) ?_
  refine m_get 18 hg hM (by unfold z_free; decide) rfl (by decide) (tb_6 74 _ rfl) 26 rfl (dd_X12_give 17 _ _ _ rfl) ?_ (fun _ _ _ => rfl)
  try simp (decide := true) only [zu1, if_true, if_false, reduceIte]
  refine r_iload_2 27 rfl (dd_X12_give 18 _ _ _ rfl) ?_
  refine r_i2l (by omega) 28 rfl (dd_X12_give 19 _ _ _ rfl) ?_
  refine r_iload_1 29 rfl (dd_X12_give 20 _ _ _ rfl) ?_
  refine r_i2l (by omega) 30 rfl (dd_X12_give 21 _ _ _ rfl) ?_
  refine r_bipush (by decide) 32 rfl (dd_X12_give 22 _ _ _ rfl) ?_
  refine r_lshl 33 rfl (dd_X12_give 23 _ _ _ rfl) ?_
  refine r_lor 34 rfl (dd_X12_give 24 _ _ _ rfl) ?_
  refine r_aload_0 35 rfl (dd_X12_give 25 _ _ _ rfl) ?_
  refine m_get 1 hg hM (by unfold z_free; decide) rfl (by decide) (tb_6 57 _ rfl) 38 rfl (dd_X12_give 26 _ _ _ rfl) ?_ (fun _ _ _ => rfl)
  try simp (decide := true) only [zu1, if_true, if_false, reduceIte]
  refine r_i2l (by omega) 39 rfl (dd_X12_give 27 _ _ _ rfl) ?_
  refine r_bipush (by decide) 41 rfl (dd_X12_give 28 _ _ _ rfl) ?_
  refine r_lshl 42 rfl (dd_X12_give 29 _ _ _ rfl) ?_
  refine r_lor 43 rfl (dd_X12_give 30 _ _ _ rfl) ?_
  refine r_topl _ (zpack_eq (by omega) (by omega) (by omega)) ?_
  refine m_last 19 _ rfl hg hM rfl (by omega) (z_lt (n2 := 67600) rfl (by omega)) (by decide) 44 rfl (dd_X12_give 31 _ _ _ rfl) (fun h2 hM => ?_)
  refine r_aload_0 45 rfl (dd_X12_give 32 _ _ _ rfl) ?_
  refine r_dup rfl 46 rfl (dd_X12_give 33 _ _ _ rfl) ?_
  refine m_get 18 hg hM (by unfold z_free; decide) rfl (by decide) (tb_6 74 _ rfl) 49 rfl (dd_X12_give 34 _ _ _ rfl) ?_ (fun _ _ _ => rfl)
  try simp (decide := true) only [zu1, if_true, if_false, reduceIte]
  refine r_iconst 50 rfl (dd_X12_give 35 _ _ _ rfl) ?_
  refine r_iadd 51 rfl (dd_X12_give 36 _ _ _ rfl) ?_
  refine m_put 18 hg hM rfl (by decide) (by decide) rfl (fun _ _ _ => rfl) rfl rfl (tb_6 74 _ rfl) 54 rfl (dd_X12_give 37 _ _ _ rfl) (fun h4 hM => ?_)
  refine r_iload_2 55 rfl (dd_X12_give 38 _ _ _ rfl) ?_
  refine r_ireturn rfl rfl (dd_X12_give 39 _ _ _ rfl) ?_
  subst hc hd
  exact k _ hM

abbrev mX12_allot : zM := (RX12, cX12_allot, 4, (Option.some Jvm.ClassFile.FieldType.int), [], "allot", 13)
set_option maxRecDepth 20000 in
theorem c_X12_allot {g : zGT} {Q : zO → zH → Prop} {h : zH} (hg : zG g) {h0 : zH} {m : Nat} {A : Nat → Nat} {S : zS} {n : Nat} {t : Int} (hI : MInv n S) (hM : MI h0 m A S t h) {v : Int} (hv : zR v) (k1 : ¬ (0 ≤ v ∧ v < S.1 4) → ∀ h1, MI h0 m A S 1 h1 → Q (.inl (some (.int (zI 0)))) h1) (k2 : ∀ u : Nat, v = u → v < S.1 4 → (zstate S u (S.1 1) = 4 ∨ znext S = 67600) → ∀ h1, MI h0 m A S 2 h1 → Q (.inl (some (.int (zI 0)))) h1) (k0 : ∀ u : Nat, v = u → v < S.1 4 → zstate S u (S.1 1) ≠ 4 → znext S < 67600 → ∀ h1, MI h0 m A (zu1 (zu1 S.1 16 (znext S)) 18 (S.1 18 + 1), zu2 (zu2 S.2 17 ((znext S) / 64).toNat (zset (S.2 17 ((znext S) / 64).toNat) ((znext S) % 64))) 19 (S.1 18).toNat (zpack (znext S) u (S.1 1))) 0 h1 → Q (.inl (some (.int (zI (znext S))))) h1) : zC g (.code yX12_allot cX12_allot 4 (Option.some Jvm.ClassFile.FieldType.int)) yX12_allot 13 0 0 [.ref m, .int (zI v)] h Q := by
  refine zC_of (M := mX12_allot) (lv := [some (.ref m), some (.int (zI v)), none, none]) (by decide) rfl rfl (Nat.le_of_ble_eq_true rfl) rfl rfl ?_
  have e1 := hI.vehicles
  have e2 := hI.today
  have e3 := hI.series
  have e4 := hI.allotted
  have e5 := hI.calls
  refine r_aload_0 1 rfl (dd_X12_allot 0 _ _ _ rfl) ?_
  refine r_iload_1 2 rfl (dd_X12_allot 1 _ _ _ rfl) ?_
  refine r_callV1 (lvl := 11) (mc1 := 0) (ms1 := 0) 0 0 hg rfl md_X12_isVehicle zc_X12 hM.kd wi_X12_isVehicle wv_X12_isVehicle (tb_7 0 _ rfl) (by decide) (by decide) rfl (Nat.le_of_ble_eq_true rfl) (by decide) (by decide) 5 rfl (dd_X12_allot 2 _ _ _ rfl) ?_
  refine c_X12_isVehicle hg hI hM (by omega) (fun hb1 => ?_) (fun hb1 => ?_)
  · obtain ⟨u, rfl⟩ := Int.eq_ofNat_of_zero_le hb1.1
    dsimp only [zCont, Option.toList, List.cons_append, List.nil_append]
    refine r_istore_2 6 rfl (by decide) rfl (dd_X12_allot 3 _ _ _ rfl) ?_
    refine r_aload_0 7 rfl (dd_X12_allot 4 _ _ _ rfl) ?_
    refine m_get 16 hg hM (by unfold z_free; decide) rfl (by decide) (tb_6 72 _ rfl) 10 rfl (dd_X12_allot 5 _ _ _ rfl) ?_ (fun _ _ _ => rfl)
    try simp (decide := true) only [zu1, if_true, if_false, reduceIte]
    refine r_iconst 11 rfl (dd_X12_allot 6 _ _ _ rfl) ?_
    refine r_iadd 12 rfl (dd_X12_allot 7 _ _ _ rfl) ?_
    refine r_istore_3 13 rfl (by decide) rfl (dd_X12_allot 8 _ _ _ rfl) ?_
    have L13 : ∀ (tt : Nat), ∀ (j : Nat) (a : Int), 67600 - j < tt → (a = S.1 16 + 1 + j) → (a ≤ 67600) → (∀ i, i < j → (fun i : Nat => !zfreeB S.2 (S.1 16 + 1 + i)) i = true) → zX g mX12_allot 0 0 Q 13 [some (.ref m), some (.int (zI (u : Int))), some (.int (zI 1)), some (.int (zI a))] [] h 0 0 := by
      intro tt13
      induction tt13 with
      | zero => intros; exfalso; omega
      | succ tt13 ih13 =>
        intro j a hlt13 ha hj hall
        refine r_iload_3 14 rfl (dd_X12_allot 9 _ _ _ rfl) ?_
        refine r_ldc hg (tb_6 55 _ rfl) 16 rfl (dd_X12_allot 10 _ _ _ rfl) ?_
        refine r_top 67600 rfl ?_
        refine r_if_icmpge (by omega) (by omega) 19 rfl 33 rfl (dd_X12_allot 11 _ _ _ rfl) (fun hc2 => ?_) (fun hc2 => ?_)
        · have hz : znext S = a := znext_eq hI ha hj hall (by first | exact fun q => absurd q (by omega) | exact fun _ => by assumption)
          refine r_aload_0 34 rfl (dd_X12_allot 18 _ _ _ rfl) ?_
          refine r_iload_2 35 rfl (dd_X12_allot 19 _ _ _ rfl) ?_
          refine r_ifne (by omega) 38 rfl 42 rfl (dd_X12_allot 20 _ _ _ rfl) (fun _ => ?_) (fun q => absurd q (by decide))
          refine r_aload_0 43 rfl (dd_X12_allot 23 _ _ _ rfl) ?_
          refine r_iload_1 44 rfl (dd_X12_allot 24 _ _ _ rfl) ?_
          refine r_aload_0 45 rfl (dd_X12_allot 25 _ _ _ rfl) ?_
          refine m_get 1 hg hM (by unfold z_free; decide) rfl (by decide) (tb_6 57 _ rfl) 48 rfl (dd_X12_allot 26 _ _ _ rfl) ?_ (fun _ _ _ => rfl)
          try simp (decide := true) only [zu1, if_true, if_false, reduceIte]
          refine r_callV2 (lvl := 11) (mc1 := 0) (ms1 := 0) 0 0 hg rfl md_X12_stateOn zc_X12 hM.kd wi_X12_stateOn wv_X12_stateOn (tb_7 16 _ rfl) (by decide) (by decide) rfl (Nat.le_of_ble_eq_true rfl) (by decide) (by decide) 51 rfl (dd_X12_allot 27 _ _ _ rfl) ?_
          refine c_X12_stateOn (v := u) hg hI hM (by omega) (by omega) (fun h3 hM => ?_)
          dsimp only [zCont, Option.toList, List.cons_append, List.nil_append]
          have hs9 := zstate_range S u (S.1 1)
          refine r_iconst 52 rfl (dd_X12_allot 28 _ _ _ rfl) ?_
          refine r_if_icmpeq (by omega) (by omega) 55 rfl 61 rfl (dd_X12_allot 29 _ _ _ rfl) (fun hc4 => ?_) (fun hc4 => ?_)
          · refine r_iconst 62 rfl (dd_X12_allot 33 _ _ _ rfl) ?_
            refine r_goto 66 rfl (dd_X12_allot 34 _ _ _ rfl) ?_
            refine r_callV1 (lvl := 10) (mc1 := 0) (ms1 := 0) 0 0 hg rfl md_X12_goesWell zc_X12 hM.kd wi_X12_goesWell wv_X12_goesWell (tb_6 197 _ rfl) (by decide) (by decide) rfl (Nat.le_of_ble_eq_true rfl) (by decide) (by decide) 69 rfl (dd_X12_allot 36 _ _ _ rfl) ?_
            refine c_X12_goesWell hg hM (by decide) (fun q => absurd q (by decide)) (fun _ h5 hM => ?_)
            dsimp only [zCont, Option.toList, List.cons_append, List.nil_append]
            refine r_ifne (by omega) 72 rfl 74 rfl (dd_X12_allot 37 _ _ _ rfl) (fun q => absurd q (by decide)) (fun _ => ?_)
            refine r_iconst 73 rfl (dd_X12_allot 38 _ _ _ rfl) ?_
            refine r_ireturn rfl rfl (dd_X12_allot 39 _ _ _ rfl) ?_
            first | exact k1 (by omega) _ hM | exact k2 u rfl (by omega) (by first | exact Or.inl (by omega) | exact Or.inr (by omega)) _ hM
          · refine r_iload_3 56 rfl (dd_X12_allot 30 _ _ _ rfl) ?_
            refine r_ldc hg (tb_6 55 _ rfl) 58 rfl (dd_X12_allot 31 _ _ _ rfl) ?_
            refine r_top 67600 rfl ?_
            refine r_if_icmpne (by omega) (by omega) 61 rfl 65 rfl (dd_X12_allot 32 _ _ _ rfl) (fun hc6 => ?_) (fun hc6 => ?_)
            · refine r_iconst 66 rfl (dd_X12_allot 35 _ _ _ rfl) ?_
              refine r_callV1 (lvl := 10) (mc1 := 0) (ms1 := 0) 0 0 hg rfl md_X12_goesWell zc_X12 hM.kd wi_X12_goesWell wv_X12_goesWell (tb_6 197 _ rfl) (by decide) (by decide) rfl (Nat.le_of_ble_eq_true rfl) (by decide) (by decide) 69 rfl (dd_X12_allot 36 _ _ _ rfl) ?_
              refine c_X12_goesWell hg hM (by decide) (fun _ h7 hM => ?_) (fun q => absurd rfl q)
              dsimp only [zCont, Option.toList, List.cons_append, List.nil_append]
              refine r_ifne (by omega) 72 rfl 74 rfl (dd_X12_allot 37 _ _ _ rfl) (fun _ => ?_) (fun q => absurd q (by decide))
              refine r_aload_0 75 rfl (dd_X12_allot 40 _ _ _ rfl) ?_
              refine r_iload_3 76 rfl (dd_X12_allot 41 _ _ _ rfl) ?_
              refine m_put 16 hg hM rfl (by decide) (by decide) rfl (fun _ _ _ => rfl) rfl rfl (tb_6 72 _ rfl) 79 rfl (dd_X12_allot 42 _ _ _ rfl) (fun h9 hM => ?_)
              refine r_aload_0 80 rfl (dd_X12_allot 43 _ _ _ rfl) ?_
              refine r_iload_1 81 rfl (dd_X12_allot 44 _ _ _ rfl) ?_
              refine r_iload_3 82 rfl (dd_X12_allot 45 _ _ _ rfl) ?_
              refine r_callV2 (lvl := 10) (mc1 := 0) (ms1 := 0) 0 0 hg rfl md_X12_give zc_X12 hM.kd wi_X12_give wv_X12_give (tb_7 47 _ rfl) (by decide) (by decide) rfl (Nat.le_of_ble_eq_true rfl) (by decide) (by decide) 85 rfl (dd_X12_allot 46 _ _ _ rfl) ?_
              refine c_X12_give hg hM (by omega) (by omega) (zu1_ne (by decide)) (zu1_ne (by decide)) (by omega) (by omega) (fun h10 hM => ?_)
              dsimp only [zCont, Option.toList, List.cons_append, List.nil_append]
              refine r_ireturn rfl rfl (dd_X12_allot 47 _ _ _ rfl) ?_
              have k := k0 u rfl (by omega) (by omega) (by omega) _ (by rw [hz]; exact hM)
              rw [hz] at k
              exact k
            · refine r_iconst 62 rfl (dd_X12_allot 33 _ _ _ rfl) ?_
              refine r_goto 66 rfl (dd_X12_allot 34 _ _ _ rfl) ?_
              refine r_callV1 (lvl := 10) (mc1 := 0) (ms1 := 0) 0 0 hg rfl md_X12_goesWell zc_X12 hM.kd wi_X12_goesWell wv_X12_goesWell (tb_6 197 _ rfl) (by decide) (by decide) rfl (Nat.le_of_ble_eq_true rfl) (by decide) (by decide) 69 rfl (dd_X12_allot 36 _ _ _ rfl) ?_
              refine c_X12_goesWell hg hM (by decide) (fun q => absurd q (by decide)) (fun _ h11 hM => ?_)
              dsimp only [zCont, Option.toList, List.cons_append, List.nil_append]
              refine r_ifne (by omega) 72 rfl 74 rfl (dd_X12_allot 37 _ _ _ rfl) (fun q => absurd q (by decide)) (fun _ => ?_)
              refine r_iconst 73 rfl (dd_X12_allot 38 _ _ _ rfl) ?_
              refine r_ireturn rfl rfl (dd_X12_allot 39 _ _ _ rfl) ?_
              first | exact k1 (by omega) _ hM | exact k2 u rfl (by omega) (by first | exact Or.inl (by omega) | exact Or.inr (by omega)) _ hM
        · refine r_aload_0 20 rfl (dd_X12_allot 12 _ _ _ rfl) ?_
          refine r_iload_3 21 rfl (dd_X12_allot 13 _ _ _ rfl) ?_
          refine r_callV1 (lvl := 10) (mc1 := 0) (ms1 := 0) 0 0 hg rfl md_X12_isFree zc_X12 hM.kd wi_X12_isFree wv_X12_isFree (tb_7 43 _ rfl) (by decide) (by decide) rfl (Nat.le_of_ble_eq_true rfl) (by decide) (by decide) 24 rfl (dd_X12_allot 14 _ _ _ rfl) ?_
          refine c_X12_isFree hg hI hM (by omega) (fun hb12 => ?_) (fun hb12 => ?_)
          · dsimp only [zCont, Option.toList, List.cons_append, List.nil_append]
            refine r_ifne (by omega) 27 rfl 33 rfl (dd_X12_allot 15 _ _ _ rfl) (fun _ => ?_) (fun q => absurd q (by decide))
            have hz : znext S = a := znext_eq hI ha hj hall (by first | exact fun q => absurd q (by omega) | exact fun _ => by assumption)
            refine r_aload_0 34 rfl (dd_X12_allot 18 _ _ _ rfl) ?_
            refine r_iload_2 35 rfl (dd_X12_allot 19 _ _ _ rfl) ?_
            refine r_ifne (by omega) 38 rfl 42 rfl (dd_X12_allot 20 _ _ _ rfl) (fun _ => ?_) (fun q => absurd q (by decide))
            refine r_aload_0 43 rfl (dd_X12_allot 23 _ _ _ rfl) ?_
            refine r_iload_1 44 rfl (dd_X12_allot 24 _ _ _ rfl) ?_
            refine r_aload_0 45 rfl (dd_X12_allot 25 _ _ _ rfl) ?_
            refine m_get 1 hg hM (by unfold z_free; decide) rfl (by decide) (tb_6 57 _ rfl) 48 rfl (dd_X12_allot 26 _ _ _ rfl) ?_ (fun _ _ _ => rfl)
            try simp (decide := true) only [zu1, if_true, if_false, reduceIte]
            refine r_callV2 (lvl := 11) (mc1 := 0) (ms1 := 0) 0 0 hg rfl md_X12_stateOn zc_X12 hM.kd wi_X12_stateOn wv_X12_stateOn (tb_7 16 _ rfl) (by decide) (by decide) rfl (Nat.le_of_ble_eq_true rfl) (by decide) (by decide) 51 rfl (dd_X12_allot 27 _ _ _ rfl) ?_
            refine c_X12_stateOn (v := u) hg hI hM (by omega) (by omega) (fun h13 hM => ?_)
            dsimp only [zCont, Option.toList, List.cons_append, List.nil_append]
            have hs9 := zstate_range S u (S.1 1)
            refine r_iconst 52 rfl (dd_X12_allot 28 _ _ _ rfl) ?_
            refine r_if_icmpeq (by omega) (by omega) 55 rfl 61 rfl (dd_X12_allot 29 _ _ _ rfl) (fun hc14 => ?_) (fun hc14 => ?_)
            · refine r_iconst 62 rfl (dd_X12_allot 33 _ _ _ rfl) ?_
              refine r_goto 66 rfl (dd_X12_allot 34 _ _ _ rfl) ?_
              refine r_callV1 (lvl := 10) (mc1 := 0) (ms1 := 0) 0 0 hg rfl md_X12_goesWell zc_X12 hM.kd wi_X12_goesWell wv_X12_goesWell (tb_6 197 _ rfl) (by decide) (by decide) rfl (Nat.le_of_ble_eq_true rfl) (by decide) (by decide) 69 rfl (dd_X12_allot 36 _ _ _ rfl) ?_
              refine c_X12_goesWell hg hM (by decide) (fun q => absurd q (by decide)) (fun _ h15 hM => ?_)
              dsimp only [zCont, Option.toList, List.cons_append, List.nil_append]
              refine r_ifne (by omega) 72 rfl 74 rfl (dd_X12_allot 37 _ _ _ rfl) (fun q => absurd q (by decide)) (fun _ => ?_)
              refine r_iconst 73 rfl (dd_X12_allot 38 _ _ _ rfl) ?_
              refine r_ireturn rfl rfl (dd_X12_allot 39 _ _ _ rfl) ?_
              first | exact k1 (by omega) _ hM | exact k2 u rfl (by omega) (by first | exact Or.inl (by omega) | exact Or.inr (by omega)) _ hM
            · refine r_iload_3 56 rfl (dd_X12_allot 30 _ _ _ rfl) ?_
              refine r_ldc hg (tb_6 55 _ rfl) 58 rfl (dd_X12_allot 31 _ _ _ rfl) ?_
              refine r_top 67600 rfl ?_
              refine r_if_icmpne (by omega) (by omega) 61 rfl 65 rfl (dd_X12_allot 32 _ _ _ rfl) (fun hc16 => ?_) (fun hc16 => ?_)
              · refine r_iconst 66 rfl (dd_X12_allot 35 _ _ _ rfl) ?_
                refine r_callV1 (lvl := 10) (mc1 := 0) (ms1 := 0) 0 0 hg rfl md_X12_goesWell zc_X12 hM.kd wi_X12_goesWell wv_X12_goesWell (tb_6 197 _ rfl) (by decide) (by decide) rfl (Nat.le_of_ble_eq_true rfl) (by decide) (by decide) 69 rfl (dd_X12_allot 36 _ _ _ rfl) ?_
                refine c_X12_goesWell hg hM (by decide) (fun _ h17 hM => ?_) (fun q => absurd rfl q)
                dsimp only [zCont, Option.toList, List.cons_append, List.nil_append]
                refine r_ifne (by omega) 72 rfl 74 rfl (dd_X12_allot 37 _ _ _ rfl) (fun _ => ?_) (fun q => absurd q (by decide))
                refine r_aload_0 75 rfl (dd_X12_allot 40 _ _ _ rfl) ?_
                refine r_iload_3 76 rfl (dd_X12_allot 41 _ _ _ rfl) ?_
                refine m_put 16 hg hM rfl (by decide) (by decide) rfl (fun _ _ _ => rfl) rfl rfl (tb_6 72 _ rfl) 79 rfl (dd_X12_allot 42 _ _ _ rfl) (fun h19 hM => ?_)
                refine r_aload_0 80 rfl (dd_X12_allot 43 _ _ _ rfl) ?_
                refine r_iload_1 81 rfl (dd_X12_allot 44 _ _ _ rfl) ?_
                refine r_iload_3 82 rfl (dd_X12_allot 45 _ _ _ rfl) ?_
                refine r_callV2 (lvl := 10) (mc1 := 0) (ms1 := 0) 0 0 hg rfl md_X12_give zc_X12 hM.kd wi_X12_give wv_X12_give (tb_7 47 _ rfl) (by decide) (by decide) rfl (Nat.le_of_ble_eq_true rfl) (by decide) (by decide) 85 rfl (dd_X12_allot 46 _ _ _ rfl) ?_
                refine c_X12_give hg hM (by omega) (by omega) (zu1_ne (by decide)) (zu1_ne (by decide)) (by omega) (by omega) (fun h20 hM => ?_)
                dsimp only [zCont, Option.toList, List.cons_append, List.nil_append]
                refine r_ireturn rfl rfl (dd_X12_allot 47 _ _ _ rfl) ?_
                have k := k0 u rfl (by omega) (by omega) (by omega) _ (by rw [hz]; exact hM)
                rw [hz] at k
                exact k
              · refine r_iconst 62 rfl (dd_X12_allot 33 _ _ _ rfl) ?_
                refine r_goto 66 rfl (dd_X12_allot 34 _ _ _ rfl) ?_
                refine r_callV1 (lvl := 10) (mc1 := 0) (ms1 := 0) 0 0 hg rfl md_X12_goesWell zc_X12 hM.kd wi_X12_goesWell wv_X12_goesWell (tb_6 197 _ rfl) (by decide) (by decide) rfl (Nat.le_of_ble_eq_true rfl) (by decide) (by decide) 69 rfl (dd_X12_allot 36 _ _ _ rfl) ?_
                refine c_X12_goesWell hg hM (by decide) (fun q => absurd q (by decide)) (fun _ h21 hM => ?_)
                dsimp only [zCont, Option.toList, List.cons_append, List.nil_append]
                refine r_ifne (by omega) 72 rfl 74 rfl (dd_X12_allot 37 _ _ _ rfl) (fun q => absurd q (by decide)) (fun _ => ?_)
                refine r_iconst 73 rfl (dd_X12_allot 38 _ _ _ rfl) ?_
                refine r_ireturn rfl rfl (dd_X12_allot 39 _ _ _ rfl) ?_
                first | exact k1 (by omega) _ hM | exact k2 u rfl (by omega) (by first | exact Or.inl (by omega) | exact Or.inr (by omega)) _ hM
          · dsimp only [zCont, Option.toList, List.cons_append, List.nil_append]
            refine r_ifne (by omega) 27 rfl 33 rfl (dd_X12_allot 15 _ _ _ rfl) (fun q => absurd q (by decide)) (fun _ => ?_)
            refine r_iinc_3 30 rfl (by decide) rfl (dd_X12_allot 16 _ _ _ rfl) ?_
            refine r_goto 13 rfl (dd_X12_allot 17 _ _ _ rfl) ?_
            exact r_sub _ (z_s1 (z_s1 (z_s1 (z_s1 z_sN)))) (ih13 (j + 1) _ (by omega) (by omega) (by omega) (lt_s hall (by show (!zfreeB S.2 (S.1 16 + 1 + (j : Int))) = true; rw [← ha]; have := (not_congr (zfreeB_iff (ar := S.2) (p := a))).mpr (by assumption); simpa using this)))
    exact r_sub _ (z_s1 (z_s1 (z_s1 (z_s1 z_sN)))) (L13 1000000 0 _ (by omega) (by omega) (by omega) lt_0)
  · dsimp only [zCont, Option.toList, List.cons_append, List.nil_append]
    refine r_istore_2 6 rfl (by decide) rfl (dd_X12_allot 3 _ _ _ rfl) ?_
    refine r_aload_0 7 rfl (dd_X12_allot 4 _ _ _ rfl) ?_
    refine m_get 16 hg hM (by unfold z_free; decide) rfl (by decide) (tb_6 72 _ rfl) 10 rfl (dd_X12_allot 5 _ _ _ rfl) ?_ (fun _ _ _ => rfl)
    try simp (decide := true) only [zu1, if_true, if_false, reduceIte]
    refine r_iconst 11 rfl (dd_X12_allot 6 _ _ _ rfl) ?_
    refine r_iadd 12 rfl (dd_X12_allot 7 _ _ _ rfl) ?_
    refine r_istore_3 13 rfl (by decide) rfl (dd_X12_allot 8 _ _ _ rfl) ?_
    have L13 : ∀ (tt : Nat), ∀ (j : Nat) (a : Int), 67600 - j < tt → (a = S.1 16 + 1 + j) → (a ≤ 67600) → (∀ i, i < j → (fun i : Nat => !zfreeB S.2 (S.1 16 + 1 + i)) i = true) → zX g mX12_allot 0 0 Q 13 [some (.ref m), some (.int (zI v)), some (.int (zI 0)), some (.int (zI a))] [] h 0 0 := by
      intro tt13
      induction tt13 with
      | zero => intros; exfalso; omega
      | succ tt13 ih13 =>
        intro j a hlt13 ha hj hall
        refine r_iload_3 14 rfl (dd_X12_allot 9 _ _ _ rfl) ?_
        refine r_ldc hg (tb_6 55 _ rfl) 16 rfl (dd_X12_allot 10 _ _ _ rfl) ?_
        refine r_top 67600 rfl ?_
        refine r_if_icmpge (by omega) (by omega) 19 rfl 33 rfl (dd_X12_allot 11 _ _ _ rfl) (fun hc22 => ?_) (fun hc22 => ?_)
        · have hz : znext S = a := znext_eq hI ha hj hall (by first | exact fun q => absurd q (by omega) | exact fun _ => by assumption)
          refine r_aload_0 34 rfl (dd_X12_allot 18 _ _ _ rfl) ?_
          refine r_iload_2 35 rfl (dd_X12_allot 19 _ _ _ rfl) ?_
          refine r_ifne (by omega) 38 rfl 42 rfl (dd_X12_allot 20 _ _ _ rfl) (fun q => absurd q (by decide)) (fun _ => ?_)
          refine r_iconst 39 rfl (dd_X12_allot 21 _ _ _ rfl) ?_
          refine r_goto 66 rfl (dd_X12_allot 22 _ _ _ rfl) ?_
          refine r_callV1 (lvl := 10) (mc1 := 0) (ms1 := 0) 0 0 hg rfl md_X12_goesWell zc_X12 hM.kd wi_X12_goesWell wv_X12_goesWell (tb_6 197 _ rfl) (by decide) (by decide) rfl (Nat.le_of_ble_eq_true rfl) (by decide) (by decide) 69 rfl (dd_X12_allot 36 _ _ _ rfl) ?_
          refine c_X12_goesWell hg hM (by decide) (fun q => absurd q (by decide)) (fun _ h23 hM => ?_)
          dsimp only [zCont, Option.toList, List.cons_append, List.nil_append]
          refine r_ifne (by omega) 72 rfl 74 rfl (dd_X12_allot 37 _ _ _ rfl) (fun q => absurd q (by decide)) (fun _ => ?_)
          refine r_iconst 73 rfl (dd_X12_allot 38 _ _ _ rfl) ?_
          refine r_ireturn rfl rfl (dd_X12_allot 39 _ _ _ rfl) ?_
          first | exact k1 (by omega) _ hM | exact k2 u rfl (by omega) (by first | exact Or.inl (by omega) | exact Or.inr (by omega)) _ hM
        · refine r_aload_0 20 rfl (dd_X12_allot 12 _ _ _ rfl) ?_
          refine r_iload_3 21 rfl (dd_X12_allot 13 _ _ _ rfl) ?_
          refine r_callV1 (lvl := 10) (mc1 := 0) (ms1 := 0) 0 0 hg rfl md_X12_isFree zc_X12 hM.kd wi_X12_isFree wv_X12_isFree (tb_7 43 _ rfl) (by decide) (by decide) rfl (Nat.le_of_ble_eq_true rfl) (by decide) (by decide) 24 rfl (dd_X12_allot 14 _ _ _ rfl) ?_
          refine c_X12_isFree hg hI hM (by omega) (fun hb24 => ?_) (fun hb24 => ?_)
          · dsimp only [zCont, Option.toList, List.cons_append, List.nil_append]
            refine r_ifne (by omega) 27 rfl 33 rfl (dd_X12_allot 15 _ _ _ rfl) (fun _ => ?_) (fun q => absurd q (by decide))
            have hz : znext S = a := znext_eq hI ha hj hall (by first | exact fun q => absurd q (by omega) | exact fun _ => by assumption)
            refine r_aload_0 34 rfl (dd_X12_allot 18 _ _ _ rfl) ?_
            refine r_iload_2 35 rfl (dd_X12_allot 19 _ _ _ rfl) ?_
            refine r_ifne (by omega) 38 rfl 42 rfl (dd_X12_allot 20 _ _ _ rfl) (fun q => absurd q (by decide)) (fun _ => ?_)
            refine r_iconst 39 rfl (dd_X12_allot 21 _ _ _ rfl) ?_
            refine r_goto 66 rfl (dd_X12_allot 22 _ _ _ rfl) ?_
            refine r_callV1 (lvl := 10) (mc1 := 0) (ms1 := 0) 0 0 hg rfl md_X12_goesWell zc_X12 hM.kd wi_X12_goesWell wv_X12_goesWell (tb_6 197 _ rfl) (by decide) (by decide) rfl (Nat.le_of_ble_eq_true rfl) (by decide) (by decide) 69 rfl (dd_X12_allot 36 _ _ _ rfl) ?_
            refine c_X12_goesWell hg hM (by decide) (fun q => absurd q (by decide)) (fun _ h25 hM => ?_)
            dsimp only [zCont, Option.toList, List.cons_append, List.nil_append]
            refine r_ifne (by omega) 72 rfl 74 rfl (dd_X12_allot 37 _ _ _ rfl) (fun q => absurd q (by decide)) (fun _ => ?_)
            refine r_iconst 73 rfl (dd_X12_allot 38 _ _ _ rfl) ?_
            refine r_ireturn rfl rfl (dd_X12_allot 39 _ _ _ rfl) ?_
            first | exact k1 (by omega) _ hM | exact k2 u rfl (by omega) (by first | exact Or.inl (by omega) | exact Or.inr (by omega)) _ hM
          · dsimp only [zCont, Option.toList, List.cons_append, List.nil_append]
            refine r_ifne (by omega) 27 rfl 33 rfl (dd_X12_allot 15 _ _ _ rfl) (fun q => absurd q (by decide)) (fun _ => ?_)
            refine r_iinc_3 30 rfl (by decide) rfl (dd_X12_allot 16 _ _ _ rfl) ?_
            refine r_goto 13 rfl (dd_X12_allot 17 _ _ _ rfl) ?_
            exact r_sub _ (z_s1 (z_s1 (z_s1 (z_s1 z_sN)))) (ih13 (j + 1) _ (by omega) (by omega) (by omega) (lt_s hall (by show (!zfreeB S.2 (S.1 16 + 1 + (j : Int))) = true; rw [← ha]; have := (not_congr (zfreeB_iff (ar := S.2) (p := a))).mpr (by assumption); simpa using this)))
    exact r_sub _ (z_s1 (z_s1 (z_s1 (z_s1 z_sN)))) (L13 1000000 0 _ (by omega) (by omega) (by omega) lt_0)

abbrev mX12_plateIn : zM := (RX12, cX12_plateIn, 2, (Option.some Jvm.ClassFile.FieldType.int), [], "plateIn", 12)
set_option maxRecDepth 20000 in
theorem c_X12_plateIn {g : zGT} {Q : zO → zH → Prop} {h : zH} (hg : zG g) {h0 : zH} {m : Nat} {A : Nat → Nat} {S : zS} {n : Nat} {t : Int} (hI : MInv n S) (hM : MI h0 m A S t h) (k1 : zplateOK S → Q (.inl (some (.int (zI (zplateV S))))) h) (k0 : ¬ zplateOK S → Q (.inl (some (.int (zI (-1))))) h) : zC g (.code yX12_plateIn cX12_plateIn 2 (Option.some Jvm.ClassFile.FieldType.int)) yX12_plateIn 12 0 0 [.ref m] h Q := by
  refine zC_of (M := mX12_plateIn) (lv := [some (.ref m), none]) (by decide) rfl rfl (Nat.le_of_ble_eq_true rfl) rfl rfl ?_
  have e9 := hI.signs
  have e0 := hI.buffer 0
  have e1 := hI.buffer 1
  have e2 := hI.buffer 2
  have e3 := hI.buffer 3
  refine r_aload_0 1 rfl (dd_X12_plateIn_0 0 _ _ _ rfl) ?_
  refine m_get 2 hg hM (by unfold z_free; decide) rfl (by decide) (tb_6 58 _ rfl) 4 rfl (dd_X12_plateIn_0 1 _ _ _ rfl) ?_ (fun _ _ _ => rfl)
  refine r_iconst 5 rfl (dd_X12_plateIn_0 2 _ _ _ rfl) ?_
  refine r_if_icmpne (by omega) (by omega) 8 rfl 68 rfl (dd_X12_plateIn_0 3 _ _ _ rfl) (fun hc1 => ?_) (fun hc1 => ?_)
  · refine r_iconst 69 rfl (dd_X12_plateIn_0 34 _ _ _ rfl) ?_
    refine r_istore_1 70 rfl (by decide) rfl (dd_X12_plateIn_0 35 _ _ _ rfl) ?_
    refine r_iload_1 71 rfl (dd_X12_plateIn_0 36 _ _ _ rfl) ?_
    refine r_ifeq (by omega) 74 rfl 125 rfl (dd_X12_plateIn_0 37 _ _ _ rfl) (fun _ => ?_) (fun q => absurd q (by decide))
    refine r_iconst 126 rfl (dd_X12_plateIn_1 12 _ _ _ rfl) ?_
    refine r_ireturn rfl rfl (dd_X12_plateIn_1 13 _ _ _ rfl) ?_
    exact k0 (fun q => by unfold zplateOK at q; omega)
  · refine r_aload_0 9 rfl (dd_X12_plateIn_0 4 _ _ _ rfl) ?_
    refine m_arr 3 hg hM (by decide) (by decide) (tb_6 59 _ rfl) 12 rfl (dd_X12_plateIn_0 5 _ _ _ rfl) ?_ (fun _ _ _ => rfl)
    refine r_iconst 13 rfl (dd_X12_plateIn_0 6 _ _ _ rfl) ?_
    refine m_cald 3 (0) (by omega) hg hM rfl (by omega) (z_lt (n2 := 8) rfl (by omega)) (by decide) 14 rfl (dd_X12_plateIn_0 7 _ _ _ rfl) ?_
    refine r_callS1 (lvl := 11) (mc1 := 0) (ms1 := 0) 0 0 hg rfl md_X12_isLetter ws_X12_isLetter (tb_7 36 _ rfl) (by decide) (by decide) rfl (Nat.le_of_ble_eq_true rfl) (by decide) (by decide) 17 rfl (dd_X12_plateIn_0 8 _ _ _ rfl) ?_
    refine c_X12_isLetter hg (by omega) (fun hb2 => ?_) (fun hb2 => ?_)
    · dsimp only [zCont, Option.toList, List.cons_append, List.nil_append]
      refine r_ifeq (by omega) 20 rfl 68 rfl (dd_X12_plateIn_0 9 _ _ _ rfl) (fun q => absurd q (by decide)) (fun _ => ?_)
      refine r_aload_0 21 rfl (dd_X12_plateIn_0 10 _ _ _ rfl) ?_
      refine m_arr 3 hg hM (by decide) (by decide) (tb_6 59 _ rfl) 24 rfl (dd_X12_plateIn_0 11 _ _ _ rfl) ?_ (fun _ _ _ => rfl)
      refine r_iconst 25 rfl (dd_X12_plateIn_0 12 _ _ _ rfl) ?_
      refine m_cald 3 (1) (by omega) hg hM rfl (by omega) (z_lt (n2 := 8) rfl (by omega)) (by decide) 26 rfl (dd_X12_plateIn_0 13 _ _ _ rfl) ?_
      refine r_callS1 (lvl := 11) (mc1 := 0) (ms1 := 0) 0 0 hg rfl md_X12_isLetter ws_X12_isLetter (tb_7 36 _ rfl) (by decide) (by decide) rfl (Nat.le_of_ble_eq_true rfl) (by decide) (by decide) 29 rfl (dd_X12_plateIn_0 14 _ _ _ rfl) ?_
      refine c_X12_isLetter hg (by omega) (fun hb3 => ?_) (fun hb3 => ?_)
      · dsimp only [zCont, Option.toList, List.cons_append, List.nil_append]
        refine r_ifeq (by omega) 32 rfl 68 rfl (dd_X12_plateIn_0 15 _ _ _ rfl) (fun q => absurd q (by decide)) (fun _ => ?_)
        refine r_aload_0 33 rfl (dd_X12_plateIn_0 16 _ _ _ rfl) ?_
        refine m_arr 3 hg hM (by decide) (by decide) (tb_6 59 _ rfl) 36 rfl (dd_X12_plateIn_0 17 _ _ _ rfl) ?_ (fun _ _ _ => rfl)
        refine r_iconst 37 rfl (dd_X12_plateIn_0 18 _ _ _ rfl) ?_
        refine m_cald 3 (2) (by omega) hg hM rfl (by omega) (z_lt (n2 := 8) rfl (by omega)) (by decide) 38 rfl (dd_X12_plateIn_0 19 _ _ _ rfl) ?_
        refine r_bipush (by decide) 40 rfl (dd_X12_plateIn_0 20 _ _ _ rfl) ?_
        refine r_bipush (by decide) 42 rfl (dd_X12_plateIn_0 21 _ _ _ rfl) ?_
        refine r_callS3 (lvl := 10) (mc1 := 0) (ms1 := 0) 0 0 hg rfl md_X12_in ws_X12_in (tb_6 209 _ rfl) (by decide) (by decide) rfl (Nat.le_of_ble_eq_true rfl) (by decide) (by decide) 45 rfl (dd_X12_plateIn_0 22 _ _ _ rfl) ?_
        refine c_X12_in hg (by omega) (by omega) (by omega) (fun hb4 => ?_) (fun hb4 => ?_)
        · dsimp only [zCont, Option.toList, List.cons_append, List.nil_append]
          refine r_ifeq (by omega) 48 rfl 68 rfl (dd_X12_plateIn_0 23 _ _ _ rfl) (fun q => absurd q (by decide)) (fun _ => ?_)
          refine r_aload_0 49 rfl (dd_X12_plateIn_0 24 _ _ _ rfl) ?_
          refine m_arr 3 hg hM (by decide) (by decide) (tb_6 59 _ rfl) 52 rfl (dd_X12_plateIn_0 25 _ _ _ rfl) ?_ (fun _ _ _ => rfl)
          refine r_iconst 53 rfl (dd_X12_plateIn_0 26 _ _ _ rfl) ?_
          refine m_cald 3 (3) (by omega) hg hM rfl (by omega) (z_lt (n2 := 8) rfl (by omega)) (by decide) 54 rfl (dd_X12_plateIn_0 27 _ _ _ rfl) ?_
          refine r_bipush (by decide) 56 rfl (dd_X12_plateIn_0 28 _ _ _ rfl) ?_
          refine r_bipush (by decide) 58 rfl (dd_X12_plateIn_0 29 _ _ _ rfl) ?_
          refine r_callS3 (lvl := 10) (mc1 := 0) (ms1 := 0) 0 0 hg rfl md_X12_in ws_X12_in (tb_6 209 _ rfl) (by decide) (by decide) rfl (Nat.le_of_ble_eq_true rfl) (by decide) (by decide) 61 rfl (dd_X12_plateIn_0 30 _ _ _ rfl) ?_
          refine c_X12_in hg (by omega) (by omega) (by omega) (fun hb5 => ?_) (fun hb5 => ?_)
          · dsimp only [zCont, Option.toList, List.cons_append, List.nil_append]
            refine r_ifeq (by omega) 64 rfl 68 rfl (dd_X12_plateIn_0 31 _ _ _ rfl) (fun q => absurd q (by decide)) (fun _ => ?_)
            refine r_iconst 65 rfl (dd_X12_plateIn_0 32 _ _ _ rfl) ?_
            refine r_goto 69 rfl (dd_X12_plateIn_0 33 _ _ _ rfl) ?_
            refine r_istore_1 70 rfl (by decide) rfl (dd_X12_plateIn_0 35 _ _ _ rfl) ?_
            refine r_iload_1 71 rfl (dd_X12_plateIn_0 36 _ _ _ rfl) ?_
            refine r_ifeq (by omega) 74 rfl 125 rfl (dd_X12_plateIn_0 37 _ _ _ rfl) (fun q => absurd q (by decide)) (fun _ => ?_)
            refine r_bipush (by decide) 76 rfl (dd_X12_plateIn_0 38 _ _ _ rfl) ?_
            refine r_bipush (by decide) 78 rfl (dd_X12_plateIn_0 39 _ _ _ rfl) ?_
            refine r_aload_0 79 rfl (dd_X12_plateIn_0 40 _ _ _ rfl) ?_
            refine m_arr 3 hg hM (by decide) (by decide) (tb_6 59 _ rfl) 82 rfl (dd_X12_plateIn_0 41 _ _ _ rfl) ?_ (fun _ _ _ => rfl)
            refine r_iconst 83 rfl (dd_X12_plateIn_0 42 _ _ _ rfl) ?_
            refine m_cald 3 (0) (by omega) hg hM rfl (by omega) (z_lt (n2 := 8) rfl (by omega)) (by decide) 84 rfl (dd_X12_plateIn_0 43 _ _ _ rfl) ?_
            refine r_bipush (by decide) 86 rfl (dd_X12_plateIn_0 44 _ _ _ rfl) ?_
            refine r_isub 87 rfl (dd_X12_plateIn_0 45 _ _ _ rfl) ?_
            refine r_imul 88 rfl (dd_X12_plateIn_0 46 _ _ _ rfl) ?_
            refine r_aload_0 89 rfl (dd_X12_plateIn_0 47 _ _ _ rfl) ?_
            refine m_arr 3 hg hM (by decide) (by decide) (tb_6 59 _ rfl) 92 rfl (dd_X12_plateIn_0 48 _ _ _ rfl) ?_ (fun _ _ _ => rfl)
            refine r_iconst 93 rfl (dd_X12_plateIn_0 49 _ _ _ rfl) ?_
            refine m_cald 3 (1) (by omega) hg hM rfl (by omega) (z_lt (n2 := 8) rfl (by omega)) (by decide) 94 rfl (dd_X12_plateIn_0 50 _ _ _ rfl) ?_
            refine r_iadd 95 rfl (dd_X12_plateIn_0 51 _ _ _ rfl) ?_
            refine r_bipush (by decide) 97 rfl (dd_X12_plateIn_0 52 _ _ _ rfl) ?_
            refine r_isub 98 rfl (dd_X12_plateIn_0 53 _ _ _ rfl) ?_
            refine r_imul 99 rfl (dd_X12_plateIn_0 54 _ _ _ rfl) ?_
            refine r_bipush (by decide) 101 rfl (dd_X12_plateIn_0 55 _ _ _ rfl) ?_
            refine r_aload_0 102 rfl (dd_X12_plateIn_0 56 _ _ _ rfl) ?_
            refine m_arr 3 hg hM (by decide) (by decide) (tb_6 59 _ rfl) 105 rfl (dd_X12_plateIn_0 57 _ _ _ rfl) ?_ (fun _ _ _ => rfl)
            refine r_iconst 106 rfl (dd_X12_plateIn_0 58 _ _ _ rfl) ?_
            refine m_cald 3 (2) (by omega) hg hM rfl (by omega) (z_lt (n2 := 8) rfl (by omega)) (by decide) 107 rfl (dd_X12_plateIn_0 59 _ _ _ rfl) ?_
            refine r_bipush (by decide) 109 rfl (dd_X12_plateIn_1 0 _ _ _ rfl) ?_
            refine r_isub 110 rfl (dd_X12_plateIn_1 1 _ _ _ rfl) ?_
            refine r_imul 111 rfl (dd_X12_plateIn_1 2 _ _ _ rfl) ?_
            refine r_iadd 112 rfl (dd_X12_plateIn_1 3 _ _ _ rfl) ?_
            refine r_aload_0 113 rfl (dd_X12_plateIn_1 4 _ _ _ rfl) ?_
            refine m_arr 3 hg hM (by decide) (by decide) (tb_6 59 _ rfl) 116 rfl (dd_X12_plateIn_1 5 _ _ _ rfl) ?_ (fun _ _ _ => rfl)
            refine r_iconst 117 rfl (dd_X12_plateIn_1 6 _ _ _ rfl) ?_
            refine m_cald 3 (3) (by omega) hg hM rfl (by omega) (z_lt (n2 := 8) rfl (by omega)) (by decide) 118 rfl (dd_X12_plateIn_1 7 _ _ _ rfl) ?_
            refine r_iadd 119 rfl (dd_X12_plateIn_1 8 _ _ _ rfl) ?_
            refine r_bipush (by decide) 121 rfl (dd_X12_plateIn_1 9 _ _ _ rfl) ?_
            refine r_isub 122 rfl (dd_X12_plateIn_1 10 _ _ _ rfl) ?_
            refine r_goto 126 rfl (dd_X12_plateIn_1 11 _ _ _ rfl) ?_
            refine r_ireturn rfl rfl (dd_X12_plateIn_1 13 _ _ _ rfl) ?_
            exact k1 (by unfold zplateOK; omega)
          · dsimp only [zCont, Option.toList, List.cons_append, List.nil_append]
            refine r_ifeq (by omega) 64 rfl 68 rfl (dd_X12_plateIn_0 31 _ _ _ rfl) (fun _ => ?_) (fun q => absurd q (by decide))
            refine r_iconst 69 rfl (dd_X12_plateIn_0 34 _ _ _ rfl) ?_
            refine r_istore_1 70 rfl (by decide) rfl (dd_X12_plateIn_0 35 _ _ _ rfl) ?_
            refine r_iload_1 71 rfl (dd_X12_plateIn_0 36 _ _ _ rfl) ?_
            refine r_ifeq (by omega) 74 rfl 125 rfl (dd_X12_plateIn_0 37 _ _ _ rfl) (fun _ => ?_) (fun q => absurd q (by decide))
            refine r_iconst 126 rfl (dd_X12_plateIn_1 12 _ _ _ rfl) ?_
            refine r_ireturn rfl rfl (dd_X12_plateIn_1 13 _ _ _ rfl) ?_
            exact k0 (fun q => by unfold zplateOK at q; omega)
        · dsimp only [zCont, Option.toList, List.cons_append, List.nil_append]
          refine r_ifeq (by omega) 48 rfl 68 rfl (dd_X12_plateIn_0 23 _ _ _ rfl) (fun _ => ?_) (fun q => absurd q (by decide))
          refine r_iconst 69 rfl (dd_X12_plateIn_0 34 _ _ _ rfl) ?_
          refine r_istore_1 70 rfl (by decide) rfl (dd_X12_plateIn_0 35 _ _ _ rfl) ?_
          refine r_iload_1 71 rfl (dd_X12_plateIn_0 36 _ _ _ rfl) ?_
          refine r_ifeq (by omega) 74 rfl 125 rfl (dd_X12_plateIn_0 37 _ _ _ rfl) (fun _ => ?_) (fun q => absurd q (by decide))
          refine r_iconst 126 rfl (dd_X12_plateIn_1 12 _ _ _ rfl) ?_
          refine r_ireturn rfl rfl (dd_X12_plateIn_1 13 _ _ _ rfl) ?_
          exact k0 (fun q => by unfold zplateOK at q; omega)
      · dsimp only [zCont, Option.toList, List.cons_append, List.nil_append]
        refine r_ifeq (by omega) 32 rfl 68 rfl (dd_X12_plateIn_0 15 _ _ _ rfl) (fun _ => ?_) (fun q => absurd q (by decide))
        refine r_iconst 69 rfl (dd_X12_plateIn_0 34 _ _ _ rfl) ?_
        refine r_istore_1 70 rfl (by decide) rfl (dd_X12_plateIn_0 35 _ _ _ rfl) ?_
        refine r_iload_1 71 rfl (dd_X12_plateIn_0 36 _ _ _ rfl) ?_
        refine r_ifeq (by omega) 74 rfl 125 rfl (dd_X12_plateIn_0 37 _ _ _ rfl) (fun _ => ?_) (fun q => absurd q (by decide))
        refine r_iconst 126 rfl (dd_X12_plateIn_1 12 _ _ _ rfl) ?_
        refine r_ireturn rfl rfl (dd_X12_plateIn_1 13 _ _ _ rfl) ?_
        exact k0 (fun q => by unfold zplateOK at q; omega)
    · dsimp only [zCont, Option.toList, List.cons_append, List.nil_append]
      refine r_ifeq (by omega) 20 rfl 68 rfl (dd_X12_plateIn_0 9 _ _ _ rfl) (fun _ => ?_) (fun q => absurd q (by decide))
      refine r_iconst 69 rfl (dd_X12_plateIn_0 34 _ _ _ rfl) ?_
      refine r_istore_1 70 rfl (by decide) rfl (dd_X12_plateIn_0 35 _ _ _ rfl) ?_
      refine r_iload_1 71 rfl (dd_X12_plateIn_0 36 _ _ _ rfl) ?_
      refine r_ifeq (by omega) 74 rfl 125 rfl (dd_X12_plateIn_0 37 _ _ _ rfl) (fun _ => ?_) (fun q => absurd q (by decide))
      refine r_iconst 126 rfl (dd_X12_plateIn_1 12 _ _ _ rfl) ?_
      refine r_ireturn rfl rfl (dd_X12_plateIn_1 13 _ _ _ rfl) ?_
      exact k0 (fun q => by unfold zplateOK at q; omega)

abbrev mX12_wish : zM := (RX12, cX12_wish, 4, (Option.some Jvm.ClassFile.FieldType.int), [], "wish", 13)
set_option maxRecDepth 20000 in
theorem c_X12_wish {g : zGT} {Q : zO → zH → Prop} {h : zH} (hg : zG g) {h0 : zH} {m : Nat} {A : Nat → Nat} {S : zS} {n : Nat} {t : Int} (hI : MInv n S) (hM : MI h0 m A S t h) {v : Int} (hv : zR v) (k1 : ¬ (0 ≤ v ∧ v < S.1 4) → ∀ h1, MI h0 m A S 1 h1 → Q (.inl (some (.int (zI 0)))) h1) (k2 : ∀ u : Nat, v = u → v < S.1 4 → (zstate S u (S.1 1) = 4 ∨ ¬ zplateOK S ∨ ¬ zfree S.2 (zplateV S)) → ∀ h1, MI h0 m A S 2 h1 → Q (.inl (some (.int (zI 0)))) h1) (k0 : ∀ u : Nat, v = u → v < S.1 4 → zstate S u (S.1 1) ≠ 4 → zplateOK S → zfree S.2 (zplateV S) → ∀ h1, MI h0 m A (zu1 (zu1 S.1 2 0) 18 (S.1 18 + 1), zu2 (zu2 S.2 17 ((zplateV S) / 64).toNat (zset (S.2 17 ((zplateV S) / 64).toNat) ((zplateV S) % 64))) 19 (S.1 18).toNat (zpack (zplateV S) u (S.1 1))) 0 h1 → Q (.inl (some (.int (zI (zplateV S))))) h1) : zC g (.code yX12_wish cX12_wish 4 (Option.some Jvm.ClassFile.FieldType.int)) yX12_wish 13 0 0 [.ref m, .int (zI v)] h Q := by
  refine zC_of (M := mX12_wish) (lv := [some (.ref m), some (.int (zI v)), none, none]) (by decide) rfl rfl (Nat.le_of_ble_eq_true rfl) rfl rfl ?_
  have e1 := hI.vehicles
  have e2 := hI.today
  have e3 := hI.series
  have e4 := hI.allotted
  have e5 := hI.calls
  refine r_aload_0 1 rfl (dd_X12_wish 0 _ _ _ rfl) ?_
  refine r_iload_1 2 rfl (dd_X12_wish 1 _ _ _ rfl) ?_
  refine r_callV1 (lvl := 11) (mc1 := 0) (ms1 := 0) 0 0 hg rfl md_X12_isVehicle zc_X12 hM.kd wi_X12_isVehicle wv_X12_isVehicle (tb_7 0 _ rfl) (by decide) (by decide) rfl (Nat.le_of_ble_eq_true rfl) (by decide) (by decide) 5 rfl (dd_X12_wish 2 _ _ _ rfl) ?_
  refine c_X12_isVehicle hg hI hM (by omega) (fun hb1 => ?_) (fun hb1 => ?_)
  · obtain ⟨u, rfl⟩ := Int.eq_ofNat_of_zero_le hb1.1
    dsimp only [zCont, Option.toList, List.cons_append, List.nil_append]
    refine r_istore_2 6 rfl (by decide) rfl (dd_X12_wish 3 _ _ _ rfl) ?_
    refine r_aload_0 7 rfl (dd_X12_wish 4 _ _ _ rfl) ?_
    refine r_callV0 (lvl := 12) (mc1 := 0) (ms1 := 0) 0 0 hg rfl md_X12_plateIn zc_X12 hM.kd wi_X12_plateIn wv_X12_plateIn (tb_7 55 _ rfl) (by decide) (by decide) rfl (Nat.le_of_ble_eq_true rfl) (by decide) (by decide) 10 rfl (dd_X12_wish 5 _ _ _ rfl) ?_
    refine c_X12_plateIn hg hI hM (fun hq2 => ?_) (fun hq2 => ?_)
    · have hq := hq2
      unfold zplateOK at hq
      have hv9 : 0 ≤ zplateV S ∧ zplateV S < 67600 := by unfold zplateV; omega
      dsimp only [zCont, Option.toList, List.cons_append, List.nil_append]
      refine r_istore_3 11 rfl (by decide) rfl (dd_X12_wish 6 _ _ _ rfl) ?_
      refine r_aload_0 12 rfl (dd_X12_wish 7 _ _ _ rfl) ?_
      refine r_iload_2 13 rfl (dd_X12_wish 8 _ _ _ rfl) ?_
      refine r_ifne (by omega) 16 rfl 20 rfl (dd_X12_wish 9 _ _ _ rfl) (fun _ => ?_) (fun q => absurd q (by decide))
      refine r_aload_0 21 rfl (dd_X12_wish 12 _ _ _ rfl) ?_
      refine r_iload_1 22 rfl (dd_X12_wish 13 _ _ _ rfl) ?_
      refine r_aload_0 23 rfl (dd_X12_wish 14 _ _ _ rfl) ?_
      refine m_get 1 hg hM (by unfold z_free; decide) rfl (by decide) (tb_6 57 _ rfl) 26 rfl (dd_X12_wish 15 _ _ _ rfl) ?_ (fun _ _ _ => rfl)
      try simp (decide := true) only [zu1, if_true, if_false, reduceIte]
      refine r_callV2 (lvl := 11) (mc1 := 0) (ms1 := 0) 0 0 hg rfl md_X12_stateOn zc_X12 hM.kd wi_X12_stateOn wv_X12_stateOn (tb_7 16 _ rfl) (by decide) (by decide) rfl (Nat.le_of_ble_eq_true rfl) (by decide) (by decide) 29 rfl (dd_X12_wish 16 _ _ _ rfl) ?_
      refine c_X12_stateOn (v := u) hg hI hM (by omega) (by omega) (fun h3 hM => ?_)
      dsimp only [zCont, Option.toList, List.cons_append, List.nil_append]
      have hs9 := zstate_range S u (S.1 1)
      refine r_iconst 30 rfl (dd_X12_wish 17 _ _ _ rfl) ?_
      refine r_if_icmpeq (by omega) (by omega) 33 rfl 46 rfl (dd_X12_wish 18 _ _ _ rfl) (fun hc4 => ?_) (fun hc4 => ?_)
      · refine r_iconst 47 rfl (dd_X12_wish 26 _ _ _ rfl) ?_
        refine r_goto 51 rfl (dd_X12_wish 27 _ _ _ rfl) ?_
        refine r_callV1 (lvl := 10) (mc1 := 0) (ms1 := 0) 0 0 hg rfl md_X12_goesWell zc_X12 hM.kd wi_X12_goesWell wv_X12_goesWell (tb_6 197 _ rfl) (by decide) (by decide) rfl (Nat.le_of_ble_eq_true rfl) (by decide) (by decide) 54 rfl (dd_X12_wish 29 _ _ _ rfl) ?_
        refine c_X12_goesWell hg hM (by decide) (fun q => absurd q (by decide)) (fun _ h5 hM => ?_)
        dsimp only [zCont, Option.toList, List.cons_append, List.nil_append]
        refine r_ifne (by omega) 57 rfl 59 rfl (dd_X12_wish 30 _ _ _ rfl) (fun q => absurd q (by decide)) (fun _ => ?_)
        refine r_iconst 58 rfl (dd_X12_wish 31 _ _ _ rfl) ?_
        refine r_ireturn rfl rfl (dd_X12_wish 32 _ _ _ rfl) ?_
        first | exact k1 (by omega) _ hM | exact k2 u rfl (by omega) (by first | exact Or.inl (by omega) | exact Or.inr (Or.inl hq) | exact Or.inr (Or.inr (by assumption))) _ hM
      · refine r_iload_3 34 rfl (dd_X12_wish 19 _ _ _ rfl) ?_
        refine r_iconst 35 rfl (dd_X12_wish 20 _ _ _ rfl) ?_
        refine r_if_icmpeq (by omega) (by omega) 38 rfl 46 rfl (dd_X12_wish 21 _ _ _ rfl) (fun hc6 => ?_) (fun hc6 => ?_)
        · refine r_iconst 47 rfl (dd_X12_wish 26 _ _ _ rfl) ?_
          refine r_goto 51 rfl (dd_X12_wish 27 _ _ _ rfl) ?_
          refine r_callV1 (lvl := 10) (mc1 := 0) (ms1 := 0) 0 0 hg rfl md_X12_goesWell zc_X12 hM.kd wi_X12_goesWell wv_X12_goesWell (tb_6 197 _ rfl) (by decide) (by decide) rfl (Nat.le_of_ble_eq_true rfl) (by decide) (by decide) 54 rfl (dd_X12_wish 29 _ _ _ rfl) ?_
          refine c_X12_goesWell hg hM (by decide) (fun q => absurd q (by decide)) (fun _ h7 hM => ?_)
          dsimp only [zCont, Option.toList, List.cons_append, List.nil_append]
          refine r_ifne (by omega) 57 rfl 59 rfl (dd_X12_wish 30 _ _ _ rfl) (fun q => absurd q (by decide)) (fun _ => ?_)
          refine r_iconst 58 rfl (dd_X12_wish 31 _ _ _ rfl) ?_
          refine r_ireturn rfl rfl (dd_X12_wish 32 _ _ _ rfl) ?_
          first | exact k1 (by omega) _ hM | exact k2 u rfl (by omega) (by first | exact Or.inl (by omega) | exact Or.inr (Or.inl hq) | exact Or.inr (Or.inr (by assumption))) _ hM
        · refine r_aload_0 39 rfl (dd_X12_wish 22 _ _ _ rfl) ?_
          refine r_iload_3 40 rfl (dd_X12_wish 23 _ _ _ rfl) ?_
          refine r_callV1 (lvl := 10) (mc1 := 0) (ms1 := 0) 0 0 hg rfl md_X12_isFree zc_X12 hM.kd wi_X12_isFree wv_X12_isFree (tb_7 43 _ rfl) (by decide) (by decide) rfl (Nat.le_of_ble_eq_true rfl) (by decide) (by decide) 43 rfl (dd_X12_wish 24 _ _ _ rfl) ?_
          refine c_X12_isFree hg hI hM (by omega) (fun hb8 => ?_) (fun hb8 => ?_)
          · dsimp only [zCont, Option.toList, List.cons_append, List.nil_append]
            refine r_ifne (by omega) 46 rfl 50 rfl (dd_X12_wish 25 _ _ _ rfl) (fun _ => ?_) (fun q => absurd q (by decide))
            refine r_iconst 51 rfl (dd_X12_wish 28 _ _ _ rfl) ?_
            refine r_callV1 (lvl := 10) (mc1 := 0) (ms1 := 0) 0 0 hg rfl md_X12_goesWell zc_X12 hM.kd wi_X12_goesWell wv_X12_goesWell (tb_6 197 _ rfl) (by decide) (by decide) rfl (Nat.le_of_ble_eq_true rfl) (by decide) (by decide) 54 rfl (dd_X12_wish 29 _ _ _ rfl) ?_
            refine c_X12_goesWell hg hM (by decide) (fun _ h9 hM => ?_) (fun q => absurd rfl q)
            dsimp only [zCont, Option.toList, List.cons_append, List.nil_append]
            refine r_ifne (by omega) 57 rfl 59 rfl (dd_X12_wish 30 _ _ _ rfl) (fun _ => ?_) (fun q => absurd q (by decide))
            refine r_aload_0 60 rfl (dd_X12_wish 33 _ _ _ rfl) ?_
            refine r_iconst 61 rfl (dd_X12_wish 34 _ _ _ rfl) ?_
            refine m_put 2 hg hM rfl (by decide) (by decide) rfl (fun _ _ _ => rfl) rfl rfl (tb_6 58 _ rfl) 64 rfl (dd_X12_wish 35 _ _ _ rfl) (fun h11 hM => ?_)
            refine r_aload_0 65 rfl (dd_X12_wish 36 _ _ _ rfl) ?_
            refine r_iload_1 66 rfl (dd_X12_wish 37 _ _ _ rfl) ?_
            refine r_iload_3 67 rfl (dd_X12_wish 38 _ _ _ rfl) ?_
            refine r_callV2 (lvl := 10) (mc1 := 0) (ms1 := 0) 0 0 hg rfl md_X12_give zc_X12 hM.kd wi_X12_give wv_X12_give (tb_7 47 _ rfl) (by decide) (by decide) rfl (Nat.le_of_ble_eq_true rfl) (by decide) (by decide) 70 rfl (dd_X12_wish 39 _ _ _ rfl) ?_
            refine c_X12_give hg hM (by omega) (by omega) (zu1_ne (by decide)) (zu1_ne (by decide)) (by omega) (by omega) (fun h12 hM => ?_)
            dsimp only [zCont, Option.toList, List.cons_append, List.nil_append]
            refine r_ireturn rfl rfl (dd_X12_wish 40 _ _ _ rfl) ?_
            exact k0 u rfl (by omega) (by omega) hq (by assumption) _ hM
          · dsimp only [zCont, Option.toList, List.cons_append, List.nil_append]
            refine r_ifne (by omega) 46 rfl 50 rfl (dd_X12_wish 25 _ _ _ rfl) (fun q => absurd q (by decide)) (fun _ => ?_)
            refine r_iconst 47 rfl (dd_X12_wish 26 _ _ _ rfl) ?_
            refine r_goto 51 rfl (dd_X12_wish 27 _ _ _ rfl) ?_
            refine r_callV1 (lvl := 10) (mc1 := 0) (ms1 := 0) 0 0 hg rfl md_X12_goesWell zc_X12 hM.kd wi_X12_goesWell wv_X12_goesWell (tb_6 197 _ rfl) (by decide) (by decide) rfl (Nat.le_of_ble_eq_true rfl) (by decide) (by decide) 54 rfl (dd_X12_wish 29 _ _ _ rfl) ?_
            refine c_X12_goesWell hg hM (by decide) (fun q => absurd q (by decide)) (fun _ h13 hM => ?_)
            dsimp only [zCont, Option.toList, List.cons_append, List.nil_append]
            refine r_ifne (by omega) 57 rfl 59 rfl (dd_X12_wish 30 _ _ _ rfl) (fun q => absurd q (by decide)) (fun _ => ?_)
            refine r_iconst 58 rfl (dd_X12_wish 31 _ _ _ rfl) ?_
            refine r_ireturn rfl rfl (dd_X12_wish 32 _ _ _ rfl) ?_
            first | exact k1 (by omega) _ hM | exact k2 u rfl (by omega) (by first | exact Or.inl (by omega) | exact Or.inr (Or.inl hq) | exact Or.inr (Or.inr (by assumption))) _ hM
    · have hq := hq2
      dsimp only [zCont, Option.toList, List.cons_append, List.nil_append]
      refine r_istore_3 11 rfl (by decide) rfl (dd_X12_wish 6 _ _ _ rfl) ?_
      refine r_aload_0 12 rfl (dd_X12_wish 7 _ _ _ rfl) ?_
      refine r_iload_2 13 rfl (dd_X12_wish 8 _ _ _ rfl) ?_
      refine r_ifne (by omega) 16 rfl 20 rfl (dd_X12_wish 9 _ _ _ rfl) (fun _ => ?_) (fun q => absurd q (by decide))
      refine r_aload_0 21 rfl (dd_X12_wish 12 _ _ _ rfl) ?_
      refine r_iload_1 22 rfl (dd_X12_wish 13 _ _ _ rfl) ?_
      refine r_aload_0 23 rfl (dd_X12_wish 14 _ _ _ rfl) ?_
      refine m_get 1 hg hM (by unfold z_free; decide) rfl (by decide) (tb_6 57 _ rfl) 26 rfl (dd_X12_wish 15 _ _ _ rfl) ?_ (fun _ _ _ => rfl)
      try simp (decide := true) only [zu1, if_true, if_false, reduceIte]
      refine r_callV2 (lvl := 11) (mc1 := 0) (ms1 := 0) 0 0 hg rfl md_X12_stateOn zc_X12 hM.kd wi_X12_stateOn wv_X12_stateOn (tb_7 16 _ rfl) (by decide) (by decide) rfl (Nat.le_of_ble_eq_true rfl) (by decide) (by decide) 29 rfl (dd_X12_wish 16 _ _ _ rfl) ?_
      refine c_X12_stateOn (v := u) hg hI hM (by omega) (by omega) (fun h14 hM => ?_)
      dsimp only [zCont, Option.toList, List.cons_append, List.nil_append]
      have hs9 := zstate_range S u (S.1 1)
      refine r_iconst 30 rfl (dd_X12_wish 17 _ _ _ rfl) ?_
      refine r_if_icmpeq (by omega) (by omega) 33 rfl 46 rfl (dd_X12_wish 18 _ _ _ rfl) (fun hc15 => ?_) (fun hc15 => ?_)
      · refine r_iconst 47 rfl (dd_X12_wish 26 _ _ _ rfl) ?_
        refine r_goto 51 rfl (dd_X12_wish 27 _ _ _ rfl) ?_
        refine r_callV1 (lvl := 10) (mc1 := 0) (ms1 := 0) 0 0 hg rfl md_X12_goesWell zc_X12 hM.kd wi_X12_goesWell wv_X12_goesWell (tb_6 197 _ rfl) (by decide) (by decide) rfl (Nat.le_of_ble_eq_true rfl) (by decide) (by decide) 54 rfl (dd_X12_wish 29 _ _ _ rfl) ?_
        refine c_X12_goesWell hg hM (by decide) (fun q => absurd q (by decide)) (fun _ h16 hM => ?_)
        dsimp only [zCont, Option.toList, List.cons_append, List.nil_append]
        refine r_ifne (by omega) 57 rfl 59 rfl (dd_X12_wish 30 _ _ _ rfl) (fun q => absurd q (by decide)) (fun _ => ?_)
        refine r_iconst 58 rfl (dd_X12_wish 31 _ _ _ rfl) ?_
        refine r_ireturn rfl rfl (dd_X12_wish 32 _ _ _ rfl) ?_
        first | exact k1 (by omega) _ hM | exact k2 u rfl (by omega) (by first | exact Or.inl (by omega) | exact Or.inr (Or.inl hq) | exact Or.inr (Or.inr (by assumption))) _ hM
      · refine r_iload_3 34 rfl (dd_X12_wish 19 _ _ _ rfl) ?_
        refine r_iconst 35 rfl (dd_X12_wish 20 _ _ _ rfl) ?_
        refine r_if_icmpeq (by omega) (by omega) 38 rfl 46 rfl (dd_X12_wish 21 _ _ _ rfl) (fun _ => ?_) (fun q => absurd q (by decide))
        refine r_iconst 47 rfl (dd_X12_wish 26 _ _ _ rfl) ?_
        refine r_goto 51 rfl (dd_X12_wish 27 _ _ _ rfl) ?_
        refine r_callV1 (lvl := 10) (mc1 := 0) (ms1 := 0) 0 0 hg rfl md_X12_goesWell zc_X12 hM.kd wi_X12_goesWell wv_X12_goesWell (tb_6 197 _ rfl) (by decide) (by decide) rfl (Nat.le_of_ble_eq_true rfl) (by decide) (by decide) 54 rfl (dd_X12_wish 29 _ _ _ rfl) ?_
        refine c_X12_goesWell hg hM (by decide) (fun q => absurd q (by decide)) (fun _ h17 hM => ?_)
        dsimp only [zCont, Option.toList, List.cons_append, List.nil_append]
        refine r_ifne (by omega) 57 rfl 59 rfl (dd_X12_wish 30 _ _ _ rfl) (fun q => absurd q (by decide)) (fun _ => ?_)
        refine r_iconst 58 rfl (dd_X12_wish 31 _ _ _ rfl) ?_
        refine r_ireturn rfl rfl (dd_X12_wish 32 _ _ _ rfl) ?_
        first | exact k1 (by omega) _ hM | exact k2 u rfl (by omega) (by first | exact Or.inl (by omega) | exact Or.inr (Or.inl hq) | exact Or.inr (Or.inr (by assumption))) _ hM
  · dsimp only [zCont, Option.toList, List.cons_append, List.nil_append]
    refine r_istore_2 6 rfl (by decide) rfl (dd_X12_wish 3 _ _ _ rfl) ?_
    refine r_aload_0 7 rfl (dd_X12_wish 4 _ _ _ rfl) ?_
    refine r_callV0 (lvl := 12) (mc1 := 0) (ms1 := 0) 0 0 hg rfl md_X12_plateIn zc_X12 hM.kd wi_X12_plateIn wv_X12_plateIn (tb_7 55 _ rfl) (by decide) (by decide) rfl (Nat.le_of_ble_eq_true rfl) (by decide) (by decide) 10 rfl (dd_X12_wish 5 _ _ _ rfl) ?_
    refine c_X12_plateIn hg hI hM (fun hq18 => ?_) (fun hq18 => ?_)
    · have hq := hq18
      unfold zplateOK at hq
      have hv9 : 0 ≤ zplateV S ∧ zplateV S < 67600 := by unfold zplateV; omega
      dsimp only [zCont, Option.toList, List.cons_append, List.nil_append]
      refine r_istore_3 11 rfl (by decide) rfl (dd_X12_wish 6 _ _ _ rfl) ?_
      refine r_aload_0 12 rfl (dd_X12_wish 7 _ _ _ rfl) ?_
      refine r_iload_2 13 rfl (dd_X12_wish 8 _ _ _ rfl) ?_
      refine r_ifne (by omega) 16 rfl 20 rfl (dd_X12_wish 9 _ _ _ rfl) (fun q => absurd q (by decide)) (fun _ => ?_)
      refine r_iconst 17 rfl (dd_X12_wish 10 _ _ _ rfl) ?_
      refine r_goto 51 rfl (dd_X12_wish 11 _ _ _ rfl) ?_
      refine r_callV1 (lvl := 10) (mc1 := 0) (ms1 := 0) 0 0 hg rfl md_X12_goesWell zc_X12 hM.kd wi_X12_goesWell wv_X12_goesWell (tb_6 197 _ rfl) (by decide) (by decide) rfl (Nat.le_of_ble_eq_true rfl) (by decide) (by decide) 54 rfl (dd_X12_wish 29 _ _ _ rfl) ?_
      refine c_X12_goesWell hg hM (by decide) (fun q => absurd q (by decide)) (fun _ h19 hM => ?_)
      dsimp only [zCont, Option.toList, List.cons_append, List.nil_append]
      refine r_ifne (by omega) 57 rfl 59 rfl (dd_X12_wish 30 _ _ _ rfl) (fun q => absurd q (by decide)) (fun _ => ?_)
      refine r_iconst 58 rfl (dd_X12_wish 31 _ _ _ rfl) ?_
      refine r_ireturn rfl rfl (dd_X12_wish 32 _ _ _ rfl) ?_
      first | exact k1 (by omega) _ hM | exact k2 u rfl (by omega) (by first | exact Or.inl (by omega) | exact Or.inr (Or.inl hq) | exact Or.inr (Or.inr (by assumption))) _ hM
    · have hq := hq18
      dsimp only [zCont, Option.toList, List.cons_append, List.nil_append]
      refine r_istore_3 11 rfl (by decide) rfl (dd_X12_wish 6 _ _ _ rfl) ?_
      refine r_aload_0 12 rfl (dd_X12_wish 7 _ _ _ rfl) ?_
      refine r_iload_2 13 rfl (dd_X12_wish 8 _ _ _ rfl) ?_
      refine r_ifne (by omega) 16 rfl 20 rfl (dd_X12_wish 9 _ _ _ rfl) (fun q => absurd q (by decide)) (fun _ => ?_)
      refine r_iconst 17 rfl (dd_X12_wish 10 _ _ _ rfl) ?_
      refine r_goto 51 rfl (dd_X12_wish 11 _ _ _ rfl) ?_
      refine r_callV1 (lvl := 10) (mc1 := 0) (ms1 := 0) 0 0 hg rfl md_X12_goesWell zc_X12 hM.kd wi_X12_goesWell wv_X12_goesWell (tb_6 197 _ rfl) (by decide) (by decide) rfl (Nat.le_of_ble_eq_true rfl) (by decide) (by decide) 54 rfl (dd_X12_wish 29 _ _ _ rfl) ?_
      refine c_X12_goesWell hg hM (by decide) (fun q => absurd q (by decide)) (fun _ h20 hM => ?_)
      dsimp only [zCont, Option.toList, List.cons_append, List.nil_append]
      refine r_ifne (by omega) 57 rfl 59 rfl (dd_X12_wish 30 _ _ _ rfl) (fun q => absurd q (by decide)) (fun _ => ?_)
      refine r_iconst 58 rfl (dd_X12_wish 31 _ _ _ rfl) ?_
      refine r_ireturn rfl rfl (dd_X12_wish 32 _ _ _ rfl) ?_
      first | exact k1 (by omega) _ hM | exact k2 u rfl (by omega) (by first | exact Or.inl (by omega) | exact Or.inr (Or.inl hq) | exact Or.inr (Or.inr (by assumption))) _ hM

abbrev mX12_plateOn : zM := (RX12, cX12_plateOn, 6, (Option.some Jvm.ClassFile.FieldType.int), [], "plateOn", 10)
set_option maxRecDepth 20000 in
theorem c_X12_plateOn {g : zGT} {Q : zO → zH → Prop} {h : zH} (hg : zG g) {h0 : zH} {m : Nat} {A : Nat → Nat} {S : zS} {n : Nat} {t : Int} (hI : MInv n S) (hM : MI h0 m A S t h) {v w : Int} (hv : zR v) (hw : zR w) (k : Q (.inl (some (.int (zI (zplate S v w))))) h) : zC g (.code yX12_plateOn cX12_plateOn 6 (Option.some Jvm.ClassFile.FieldType.int)) yX12_plateOn 10 0 0 [.ref m, .int (zI v), .int (zI w)] h Q := by
  refine zC_of (M := mX12_plateOn) (lv := [some (.ref m), some (.int (zI v)), some (.int (zI w)), none, none, none]) (by decide) rfl rfl (Nat.le_of_ble_eq_true rfl) rfl rfl ?_
  have e1 := hI.allotted
  have e5 := hI.calls
  refine r_iconst 1 rfl (dd_X12_plateOn 0 _ _ _ rfl) ?_
  refine r_istore_3 2 rfl (by decide) rfl (dd_X12_plateOn 1 _ _ _ rfl) ?_
  refine r_iconst 3 rfl (dd_X12_plateOn 2 _ _ _ rfl) ?_
  refine r_istore_4 5 rfl (by decide) rfl (dd_X12_plateOn 3 _ _ _ rfl) ?_
  have L5 : ∀ (tt : Nat), ∀ (j : Nat) (f b : Int), 1000 - j < tt → ((j : Int) ≤ S.1 18) → (f = zpo S.2 v w j) → (b = j) → zX g mX12_plateOn 0 0 Q 5 [some (.ref m), some (.int (zI v)), some (.int (zI w)), some (.int (zI f)), some (.int (zI b)), none] [] h 0 0 := by
    intro tt5
    induction tt5 with
    | zero => intros; exfalso; omega
    | succ tt5 ih5 =>
      intro j f b hlt5 hj hf hb
      have e2 := hI.plate j
      refine r_iload_4 7 rfl (dd_X12_plateOn 4 _ _ _ rfl) ?_
      refine r_aload_0 8 rfl (dd_X12_plateOn 5 _ _ _ rfl) ?_
      refine m_get 18 hg hM (by unfold z_free; decide) rfl (by decide) (tb_6 74 _ rfl) 11 rfl (dd_X12_plateOn 6 _ _ _ rfl) ?_ (fun _ _ _ => rfl)
      refine r_if_icmpge (by omega) (by omega) 14 rfl 85 rfl (dd_X12_plateOn 7 _ _ _ rfl) (fun hc1 => ?_) (fun hc1 => ?_)
      · refine r_iload_3 86 rfl (dd_X12_plateOn 48 _ _ _ rfl) ?_
        refine r_ireturn rfl rfl (dd_X12_plateOn 49 _ _ _ rfl) ?_
        unfold zplate at k
        rw [show (S.1 18).toNat = j by omega, ← hf] at k
        exact k
      · refine r_aload_0 15 rfl (dd_X12_plateOn 8 _ _ _ rfl) ?_
        refine m_arr 19 hg hM (by decide) (by decide) (tb_6 75 _ rfl) 18 rfl (dd_X12_plateOn 9 _ _ _ rfl) ?_ (fun _ _ _ => rfl)
        refine r_iload_4 20 rfl (dd_X12_plateOn 10 _ _ _ rfl) ?_
        refine m_lald 19 (j) (by omega) hg hM rfl (by omega) (z_lt (n2 := 67600) rfl (by omega)) (by decide) 21 rfl (dd_X12_plateOn 11 _ _ _ rfl) ?_
        refine r_bipush (by decide) 23 rfl (dd_X12_plateOn 12 _ _ _ rfl) ?_
        refine r_lshr 24 rfl (dd_X12_plateOn 13 _ _ _ rfl) ?_
        refine r_ldc2 hg (tb_7 67 _ rfl) 27 rfl (dd_X12_plateOn 14 _ _ _ rfl) ?_
        refine r_topl (15) rfl ?_
        refine r_land 28 rfl (dd_X12_plateOn 15 _ _ _ rfl) ?_
        refine r_topl _ (zpk_v (hI.plate j)) ?_
        refine r_iload_1 29 rfl (dd_X12_plateOn 16 _ _ _ rfl) ?_
        refine r_i2l (by omega) 30 rfl (dd_X12_plateOn 17 _ _ _ rfl) ?_
        refine r_lcmp (by omega) (by omega) 31 rfl (dd_X12_plateOn 18 _ _ _ rfl) (fun hc2 => ?_) (fun hc2 => ?_) (fun hc2 => ?_)
        · refine r_ifne (by omega) 34 rfl 54 rfl (dd_X12_plateOn 19 _ _ _ rfl) (fun _ => ?_) (fun q => absurd q (by decide))
          refine r_iconst 55 rfl (dd_X12_plateOn 32 _ _ _ rfl) ?_
          refine r_istore_5 57 rfl (by decide) rfl (dd_X12_plateOn 33 _ _ _ rfl) ?_
          refine r_iload_5 59 rfl (dd_X12_plateOn 34 _ _ _ rfl) ?_
          refine r_ifeq (by omega) 62 rfl 77 rfl (dd_X12_plateOn 35 _ _ _ rfl) (fun _ => ?_) (fun q => absurd q (by decide))
          refine r_iload_3 78 rfl (dd_X12_plateOn 44 _ _ _ rfl) ?_
          refine r_istore_3 79 rfl (by decide) rfl (dd_X12_plateOn 45 _ _ _ rfl) ?_
          refine r_iinc_4 82 rfl (by decide) rfl (dd_X12_plateOn 46 _ _ _ rfl) ?_
          refine r_goto 5 rfl (dd_X12_plateOn 47 _ _ _ rfl) ?_
          exact r_sub _ (z_s1 (z_s1 (z_s1 (z_s1 (z_s1 (z_s0 z_sN)))))) (ih5 (j + 1) _ _ (by omega) (by omega) (by unfold zpo; first | rw [if_pos (by omega)] | (rw [if_neg (by omega)]; exact hf)) (by omega))
        · refine r_ifne (by omega) 34 rfl 54 rfl (dd_X12_plateOn 19 _ _ _ rfl) (fun q => absurd q (by decide)) (fun _ => ?_)
          refine r_aload_0 35 rfl (dd_X12_plateOn 20 _ _ _ rfl) ?_
          refine m_arr 19 hg hM (by decide) (by decide) (tb_6 75 _ rfl) 38 rfl (dd_X12_plateOn 21 _ _ _ rfl) ?_ (fun _ _ _ => rfl)
          refine r_iload_4 40 rfl (dd_X12_plateOn 22 _ _ _ rfl) ?_
          refine m_lald 19 (j) (by omega) hg hM rfl (by omega) (z_lt (n2 := 67600) rfl (by omega)) (by decide) 41 rfl (dd_X12_plateOn 23 _ _ _ rfl) ?_
          refine r_bipush (by decide) 43 rfl (dd_X12_plateOn 24 _ _ _ rfl) ?_
          refine r_lshr 44 rfl (dd_X12_plateOn 25 _ _ _ rfl) ?_
          refine r_topl _ (zpk_d (hI.plate j)) ?_
          refine r_iload_2 45 rfl (dd_X12_plateOn 26 _ _ _ rfl) ?_
          refine r_i2l (by omega) 46 rfl (dd_X12_plateOn 27 _ _ _ rfl) ?_
          refine r_lcmp (by omega) (by omega) 47 rfl (dd_X12_plateOn 28 _ _ _ rfl) (fun hc3 => ?_) (fun hc3 => ?_) (fun hc3 => ?_)
          · refine r_ifgt (by omega) 50 rfl 54 rfl (dd_X12_plateOn 29 _ _ _ rfl) (fun q => absurd q (by decide)) (fun _ => ?_)
            refine r_iconst 51 rfl (dd_X12_plateOn 30 _ _ _ rfl) ?_
            refine r_goto 55 rfl (dd_X12_plateOn 31 _ _ _ rfl) ?_
            refine r_istore_5 57 rfl (by decide) rfl (dd_X12_plateOn 33 _ _ _ rfl) ?_
            refine r_iload_5 59 rfl (dd_X12_plateOn 34 _ _ _ rfl) ?_
            refine r_ifeq (by omega) 62 rfl 77 rfl (dd_X12_plateOn 35 _ _ _ rfl) (fun q => absurd q (by decide)) (fun _ => ?_)
            refine r_aload_0 63 rfl (dd_X12_plateOn 36 _ _ _ rfl) ?_
            refine m_arr 19 hg hM (by decide) (by decide) (tb_6 75 _ rfl) 66 rfl (dd_X12_plateOn 37 _ _ _ rfl) ?_ (fun _ _ _ => rfl)
            refine r_iload_4 68 rfl (dd_X12_plateOn 38 _ _ _ rfl) ?_
            refine m_lald 19 (j) (by omega) hg hM rfl (by omega) (z_lt (n2 := 67600) rfl (by omega)) (by decide) 69 rfl (dd_X12_plateOn 39 _ _ _ rfl) ?_
            refine r_ldc2 hg (tb_7 68 _ rfl) 72 rfl (dd_X12_plateOn 40 _ _ _ rfl) ?_
            refine r_topl (131071) rfl ?_
            refine r_land 73 rfl (dd_X12_plateOn 41 _ _ _ rfl) ?_
            refine r_topl _ (zpk_p (hI.plate j)) ?_
            refine r_l2iz (by omega) 74 rfl (dd_X12_plateOn 42 _ _ _ rfl) ?_
            refine r_goto 78 rfl (dd_X12_plateOn 43 _ _ _ rfl) ?_
            refine r_istore_3 79 rfl (by decide) rfl (dd_X12_plateOn 45 _ _ _ rfl) ?_
            refine r_iinc_4 82 rfl (by decide) rfl (dd_X12_plateOn 46 _ _ _ rfl) ?_
            refine r_goto 5 rfl (dd_X12_plateOn 47 _ _ _ rfl) ?_
            exact r_sub _ (z_s1 (z_s1 (z_s1 (z_s1 (z_s1 (z_s0 z_sN)))))) (ih5 (j + 1) _ _ (by omega) (by omega) (by unfold zpo; first | rw [if_pos (by omega)] | (rw [if_neg (by omega)]; exact hf)) (by omega))
          · refine r_ifgt (by omega) 50 rfl 54 rfl (dd_X12_plateOn 29 _ _ _ rfl) (fun q => absurd q (by decide)) (fun _ => ?_)
            refine r_iconst 51 rfl (dd_X12_plateOn 30 _ _ _ rfl) ?_
            refine r_goto 55 rfl (dd_X12_plateOn 31 _ _ _ rfl) ?_
            refine r_istore_5 57 rfl (by decide) rfl (dd_X12_plateOn 33 _ _ _ rfl) ?_
            refine r_iload_5 59 rfl (dd_X12_plateOn 34 _ _ _ rfl) ?_
            refine r_ifeq (by omega) 62 rfl 77 rfl (dd_X12_plateOn 35 _ _ _ rfl) (fun q => absurd q (by decide)) (fun _ => ?_)
            refine r_aload_0 63 rfl (dd_X12_plateOn 36 _ _ _ rfl) ?_
            refine m_arr 19 hg hM (by decide) (by decide) (tb_6 75 _ rfl) 66 rfl (dd_X12_plateOn 37 _ _ _ rfl) ?_ (fun _ _ _ => rfl)
            refine r_iload_4 68 rfl (dd_X12_plateOn 38 _ _ _ rfl) ?_
            refine m_lald 19 (j) (by omega) hg hM rfl (by omega) (z_lt (n2 := 67600) rfl (by omega)) (by decide) 69 rfl (dd_X12_plateOn 39 _ _ _ rfl) ?_
            refine r_ldc2 hg (tb_7 68 _ rfl) 72 rfl (dd_X12_plateOn 40 _ _ _ rfl) ?_
            refine r_topl (131071) rfl ?_
            refine r_land 73 rfl (dd_X12_plateOn 41 _ _ _ rfl) ?_
            refine r_topl _ (zpk_p (hI.plate j)) ?_
            refine r_l2iz (by omega) 74 rfl (dd_X12_plateOn 42 _ _ _ rfl) ?_
            refine r_goto 78 rfl (dd_X12_plateOn 43 _ _ _ rfl) ?_
            refine r_istore_3 79 rfl (by decide) rfl (dd_X12_plateOn 45 _ _ _ rfl) ?_
            refine r_iinc_4 82 rfl (by decide) rfl (dd_X12_plateOn 46 _ _ _ rfl) ?_
            refine r_goto 5 rfl (dd_X12_plateOn 47 _ _ _ rfl) ?_
            exact r_sub _ (z_s1 (z_s1 (z_s1 (z_s1 (z_s1 (z_s0 z_sN)))))) (ih5 (j + 1) _ _ (by omega) (by omega) (by unfold zpo; first | rw [if_pos (by omega)] | (rw [if_neg (by omega)]; exact hf)) (by omega))
          · refine r_ifgt (by omega) 50 rfl 54 rfl (dd_X12_plateOn 29 _ _ _ rfl) (fun _ => ?_) (fun q => absurd q (by decide))
            refine r_iconst 55 rfl (dd_X12_plateOn 32 _ _ _ rfl) ?_
            refine r_istore_5 57 rfl (by decide) rfl (dd_X12_plateOn 33 _ _ _ rfl) ?_
            refine r_iload_5 59 rfl (dd_X12_plateOn 34 _ _ _ rfl) ?_
            refine r_ifeq (by omega) 62 rfl 77 rfl (dd_X12_plateOn 35 _ _ _ rfl) (fun _ => ?_) (fun q => absurd q (by decide))
            refine r_iload_3 78 rfl (dd_X12_plateOn 44 _ _ _ rfl) ?_
            refine r_istore_3 79 rfl (by decide) rfl (dd_X12_plateOn 45 _ _ _ rfl) ?_
            refine r_iinc_4 82 rfl (by decide) rfl (dd_X12_plateOn 46 _ _ _ rfl) ?_
            refine r_goto 5 rfl (dd_X12_plateOn 47 _ _ _ rfl) ?_
            exact r_sub _ (z_s1 (z_s1 (z_s1 (z_s1 (z_s1 (z_s0 z_sN)))))) (ih5 (j + 1) _ _ (by omega) (by omega) (by unfold zpo; first | rw [if_pos (by omega)] | (rw [if_neg (by omega)]; exact hf)) (by omega))
        · refine r_ifne (by omega) 34 rfl 54 rfl (dd_X12_plateOn 19 _ _ _ rfl) (fun _ => ?_) (fun q => absurd q (by decide))
          refine r_iconst 55 rfl (dd_X12_plateOn 32 _ _ _ rfl) ?_
          refine r_istore_5 57 rfl (by decide) rfl (dd_X12_plateOn 33 _ _ _ rfl) ?_
          refine r_iload_5 59 rfl (dd_X12_plateOn 34 _ _ _ rfl) ?_
          refine r_ifeq (by omega) 62 rfl 77 rfl (dd_X12_plateOn 35 _ _ _ rfl) (fun _ => ?_) (fun q => absurd q (by decide))
          refine r_iload_3 78 rfl (dd_X12_plateOn 44 _ _ _ rfl) ?_
          refine r_istore_3 79 rfl (by decide) rfl (dd_X12_plateOn 45 _ _ _ rfl) ?_
          refine r_iinc_4 82 rfl (by decide) rfl (dd_X12_plateOn 46 _ _ _ rfl) ?_
          refine r_goto 5 rfl (dd_X12_plateOn 47 _ _ _ rfl) ?_
          exact r_sub _ (z_s1 (z_s1 (z_s1 (z_s1 (z_s1 (z_s0 z_sN)))))) (ih5 (j + 1) _ _ (by omega) (by omega) (by unfold zpo; first | rw [if_pos (by omega)] | (rw [if_neg (by omega)]; exact hf)) (by omega))
  exact r_sub _ (z_s1 (z_s1 (z_s1 (z_s1 (z_s1 (z_s0 z_sN)))))) (L5 1000000 0 _ _ (by omega) (by omega) rfl rfl)

abbrev mX12_plate : zM := (RX12, cX12_plate, 6, (Option.some Jvm.ClassFile.FieldType.char), [], "plate", 12)
set_option maxRecDepth 20000 in
theorem c_X12_plate {g : zGT} {Q : zO → zH → Prop} {h : zH} (hg : zG g) {h0 : zH} {m : Nat} {A : Nat → Nat} {S : zS} {n : Nat} {t : Int} (hI : MInv n S) (hM : MI h0 m A S t h) {v w q : Int} (hv : zR v) (hw : zR w) (hq : zR q) (k1 : ¬ (0 ≤ v ∧ v < S.1 4 ∧ 0 ≤ q ∧ q ≤ 3) → ∀ h1, MI h0 m A S 1 h1 → Q (.inl (some (.int (zI 0)))) h1) (k2 : (0 ≤ v ∧ v < S.1 4 ∧ 0 ≤ q ∧ q ≤ 3) → ¬ (0 ≤ w ∧ w ≤ S.1 1) → ∀ h1, MI h0 m A S 2 h1 → Q (.inl (some (.int (zI 0)))) h1) (k0 : (0 ≤ v ∧ v < S.1 4 ∧ 0 ≤ q ∧ q ≤ 3) → (0 ≤ w ∧ w ≤ S.1 1) → ∀ h1, MI h0 m A S 0 h1 → Q (.inl (some (.int (zI (if zplate S v w = -1 then 0 else zsign (zplate S v w) q))))) h1) : zC g (.code yX12_plate cX12_plate 6 (Option.some Jvm.ClassFile.FieldType.char)) yX12_plate 12 0 0 [.ref m, .int (zI v), .int (zI w), .int (zI q)] h Q := by
  refine zC_of (M := mX12_plate) (lv := [some (.ref m), some (.int (zI v)), some (.int (zI w)), some (.int (zI q)), none, none]) (by decide) rfl rfl (Nat.le_of_ble_eq_true rfl) rfl rfl ?_
  have e1 := hI.vehicles
  have e2 := hI.today
  have e3 := zpo_range (v := v) (w := w) hI.plate (S.1 18).toNat
  have e4 : zplate S v w = zpo S.2 v w (S.1 18).toNat := rfl
  have e5 : zplate S v w < 67600 := zplate_lt hI
  refine r_aload_0 1 rfl (dd_X12_plate 0 _ _ _ rfl) ?_
  refine r_iload_1 2 rfl (dd_X12_plate 1 _ _ _ rfl) ?_
  refine r_callV1 (lvl := 11) (mc1 := 0) (ms1 := 0) 0 0 hg rfl md_X12_isVehicle zc_X12 hM.kd wi_X12_isVehicle wv_X12_isVehicle (tb_7 0 _ rfl) (by decide) (by decide) rfl (Nat.le_of_ble_eq_true rfl) (by decide) (by decide) 5 rfl (dd_X12_plate 2 _ _ _ rfl) ?_
  refine c_X12_isVehicle hg hI hM (by omega) (fun hb1 => ?_) (fun hb1 => ?_)
  · dsimp only [zCont, Option.toList, List.cons_append, List.nil_append]
    refine r_ifeq (by omega) 8 rfl 21 rfl (dd_X12_plate 3 _ _ _ rfl) (fun q => absurd q (by decide)) (fun _ => ?_)
    refine r_iload_3 9 rfl (dd_X12_plate 4 _ _ _ rfl) ?_
    refine r_iconst 10 rfl (dd_X12_plate 5 _ _ _ rfl) ?_
    refine r_iconst 11 rfl (dd_X12_plate 6 _ _ _ rfl) ?_
    refine r_callS3 (lvl := 10) (mc1 := 0) (ms1 := 0) 0 0 hg rfl md_X12_in ws_X12_in (tb_6 209 _ rfl) (by decide) (by decide) rfl (Nat.le_of_ble_eq_true rfl) (by decide) (by decide) 14 rfl (dd_X12_plate 7 _ _ _ rfl) ?_
    refine c_X12_in hg (by omega) (by omega) (by omega) (fun hb2 => ?_) (fun hb2 => ?_)
    · dsimp only [zCont, Option.toList, List.cons_append, List.nil_append]
      refine r_ifeq (by omega) 17 rfl 21 rfl (dd_X12_plate 8 _ _ _ rfl) (fun q => absurd q (by decide)) (fun _ => ?_)
      refine r_iconst 18 rfl (dd_X12_plate 9 _ _ _ rfl) ?_
      refine r_goto 22 rfl (dd_X12_plate 10 _ _ _ rfl) ?_
      refine r_istore_4 24 rfl (by decide) rfl (dd_X12_plate 12 _ _ _ rfl) ?_
      refine r_aload_0 25 rfl (dd_X12_plate 13 _ _ _ rfl) ?_
      refine r_iload_4 27 rfl (dd_X12_plate 14 _ _ _ rfl) ?_
      refine r_ifne (by omega) 30 rfl 34 rfl (dd_X12_plate 15 _ _ _ rfl) (fun _ => ?_) (fun q => absurd q (by decide))
      refine r_iload_2 35 rfl (dd_X12_plate 18 _ _ _ rfl) ?_
      refine r_iconst 36 rfl (dd_X12_plate 19 _ _ _ rfl) ?_
      refine r_aload_0 37 rfl (dd_X12_plate 20 _ _ _ rfl) ?_
      refine m_get 1 hg hM (by unfold z_free; decide) rfl (by decide) (tb_6 57 _ rfl) 40 rfl (dd_X12_plate 21 _ _ _ rfl) ?_ (fun _ _ _ => rfl)
      refine r_callS3 (lvl := 10) (mc1 := 0) (ms1 := 0) 0 0 hg rfl md_X12_in ws_X12_in (tb_6 209 _ rfl) (by decide) (by decide) rfl (Nat.le_of_ble_eq_true rfl) (by decide) (by decide) 43 rfl (dd_X12_plate 22 _ _ _ rfl) ?_
      refine c_X12_in hg (by omega) (by omega) (by omega) (fun hb3 => ?_) (fun hb3 => ?_)
      · dsimp only [zCont, Option.toList, List.cons_append, List.nil_append]
        refine r_ifeq (by omega) 46 rfl 50 rfl (dd_X12_plate 23 _ _ _ rfl) (fun q => absurd q (by decide)) (fun _ => ?_)
        refine r_iconst 47 rfl (dd_X12_plate 24 _ _ _ rfl) ?_
        refine r_goto 51 rfl (dd_X12_plate 25 _ _ _ rfl) ?_
        refine r_callV1 (lvl := 10) (mc1 := 0) (ms1 := 0) 0 0 hg rfl md_X12_goesWell zc_X12 hM.kd wi_X12_goesWell wv_X12_goesWell (tb_6 197 _ rfl) (by decide) (by decide) rfl (Nat.le_of_ble_eq_true rfl) (by decide) (by decide) 54 rfl (dd_X12_plate 27 _ _ _ rfl) ?_
        refine c_X12_goesWell hg hM (by decide) (fun _ h4 hM => ?_) (fun q => absurd rfl q)
        dsimp only [zCont, Option.toList, List.cons_append, List.nil_append]
        refine r_ifne (by omega) 57 rfl 59 rfl (dd_X12_plate 28 _ _ _ rfl) (fun _ => ?_) (fun q => absurd q (by decide))
        refine r_aload_0 60 rfl (dd_X12_plate 31 _ _ _ rfl) ?_
        refine r_iload_1 61 rfl (dd_X12_plate 32 _ _ _ rfl) ?_
        refine r_iload_2 62 rfl (dd_X12_plate 33 _ _ _ rfl) ?_
        refine r_callV2 (lvl := 10) (mc1 := 0) (ms1 := 0) 0 0 hg rfl md_X12_plateOn zc_X12 hM.kd wi_X12_plateOn wv_X12_plateOn (tb_7 63 _ rfl) (by decide) (by decide) rfl (Nat.le_of_ble_eq_true rfl) (by decide) (by decide) 65 rfl (dd_X12_plate 34 _ _ _ rfl) ?_
        refine c_X12_plateOn hg hI hM (by omega) (by omega) ?_
        dsimp only [zCont, Option.toList, List.cons_append, List.nil_append]
        refine r_istore_5 67 rfl (by decide) rfl (dd_X12_plate 35 _ _ _ rfl) ?_
        refine r_iload_5 69 rfl (dd_X12_plate 36 _ _ _ rfl) ?_
        refine r_iconst 70 rfl (dd_X12_plate 37 _ _ _ rfl) ?_
        refine r_if_icmpne (by omega) (by omega) 73 rfl 77 rfl (dd_X12_plate 38 _ _ _ rfl) (fun hc5 => ?_) (fun hc5 => ?_)
        · refine r_iload_5 79 rfl (dd_X12_plate 41 _ _ _ rfl) ?_
          refine r_iload_3 80 rfl (dd_X12_plate 42 _ _ _ rfl) ?_
          refine r_callS2 (lvl := 10) (mc1 := 0) (ms1 := 0) 0 0 hg rfl md_X12_signOf ws_X12_signOf (tb_7 69 _ rfl) (by decide) (by decide) rfl (Nat.le_of_ble_eq_true rfl) (by decide) (by decide) 83 rfl (dd_X12_plate 43 _ _ _ rfl) ?_
          refine c_X12_signOf hg (by omega) (by omega) ?_
          dsimp only [zCont, Option.toList, List.cons_append, List.nil_append]
          refine r_ireturn rfl (zsign_nar (by omega) (by omega)) (dd_X12_plate 44 _ _ _ rfl) ?_
          have k := k0 (by omega) (by omega) _ hM
          rw [if_neg (by omega)] at k
          exact k
        · refine r_iconst 74 rfl (dd_X12_plate 39 _ _ _ rfl) ?_
          refine r_goto 83 rfl (dd_X12_plate 40 _ _ _ rfl) ?_
          refine r_ireturn rfl rfl (dd_X12_plate 44 _ _ _ rfl) ?_
          first | exact k1 (by omega) _ hM | exact k2 (by omega) (by omega) _ hM | (have k := k0 (by omega) (by omega) _ hM; rw [if_pos (by omega)] at k; exact k)
      · dsimp only [zCont, Option.toList, List.cons_append, List.nil_append]
        refine r_ifeq (by omega) 46 rfl 50 rfl (dd_X12_plate 23 _ _ _ rfl) (fun _ => ?_) (fun q => absurd q (by decide))
        refine r_iconst 51 rfl (dd_X12_plate 26 _ _ _ rfl) ?_
        refine r_callV1 (lvl := 10) (mc1 := 0) (ms1 := 0) 0 0 hg rfl md_X12_goesWell zc_X12 hM.kd wi_X12_goesWell wv_X12_goesWell (tb_6 197 _ rfl) (by decide) (by decide) rfl (Nat.le_of_ble_eq_true rfl) (by decide) (by decide) 54 rfl (dd_X12_plate 27 _ _ _ rfl) ?_
        refine c_X12_goesWell hg hM (by decide) (fun q => absurd q (by decide)) (fun _ h6 hM => ?_)
        dsimp only [zCont, Option.toList, List.cons_append, List.nil_append]
        refine r_ifne (by omega) 57 rfl 59 rfl (dd_X12_plate 28 _ _ _ rfl) (fun q => absurd q (by decide)) (fun _ => ?_)
        refine r_iconst 58 rfl (dd_X12_plate 29 _ _ _ rfl) ?_
        refine r_ireturn rfl rfl (dd_X12_plate 30 _ _ _ rfl) ?_
        first | exact k1 (by omega) _ hM | exact k2 (by omega) (by omega) _ hM | (have k := k0 (by omega) (by omega) _ hM; rw [if_pos (by omega)] at k; exact k)
    · dsimp only [zCont, Option.toList, List.cons_append, List.nil_append]
      refine r_ifeq (by omega) 17 rfl 21 rfl (dd_X12_plate 8 _ _ _ rfl) (fun _ => ?_) (fun q => absurd q (by decide))
      refine r_iconst 22 rfl (dd_X12_plate 11 _ _ _ rfl) ?_
      refine r_istore_4 24 rfl (by decide) rfl (dd_X12_plate 12 _ _ _ rfl) ?_
      refine r_aload_0 25 rfl (dd_X12_plate 13 _ _ _ rfl) ?_
      refine r_iload_4 27 rfl (dd_X12_plate 14 _ _ _ rfl) ?_
      refine r_ifne (by omega) 30 rfl 34 rfl (dd_X12_plate 15 _ _ _ rfl) (fun q => absurd q (by decide)) (fun _ => ?_)
      refine r_iconst 31 rfl (dd_X12_plate 16 _ _ _ rfl) ?_
      refine r_goto 51 rfl (dd_X12_plate 17 _ _ _ rfl) ?_
      refine r_callV1 (lvl := 10) (mc1 := 0) (ms1 := 0) 0 0 hg rfl md_X12_goesWell zc_X12 hM.kd wi_X12_goesWell wv_X12_goesWell (tb_6 197 _ rfl) (by decide) (by decide) rfl (Nat.le_of_ble_eq_true rfl) (by decide) (by decide) 54 rfl (dd_X12_plate 27 _ _ _ rfl) ?_
      refine c_X12_goesWell hg hM (by decide) (fun q => absurd q (by decide)) (fun _ h7 hM => ?_)
      dsimp only [zCont, Option.toList, List.cons_append, List.nil_append]
      refine r_ifne (by omega) 57 rfl 59 rfl (dd_X12_plate 28 _ _ _ rfl) (fun q => absurd q (by decide)) (fun _ => ?_)
      refine r_iconst 58 rfl (dd_X12_plate 29 _ _ _ rfl) ?_
      refine r_ireturn rfl rfl (dd_X12_plate 30 _ _ _ rfl) ?_
      first | exact k1 (by omega) _ hM | exact k2 (by omega) (by omega) _ hM | (have k := k0 (by omega) (by omega) _ hM; rw [if_pos (by omega)] at k; exact k)
  · dsimp only [zCont, Option.toList, List.cons_append, List.nil_append]
    refine r_ifeq (by omega) 8 rfl 21 rfl (dd_X12_plate 3 _ _ _ rfl) (fun _ => ?_) (fun q => absurd q (by decide))
    refine r_iconst 22 rfl (dd_X12_plate 11 _ _ _ rfl) ?_
    refine r_istore_4 24 rfl (by decide) rfl (dd_X12_plate 12 _ _ _ rfl) ?_
    refine r_aload_0 25 rfl (dd_X12_plate 13 _ _ _ rfl) ?_
    refine r_iload_4 27 rfl (dd_X12_plate 14 _ _ _ rfl) ?_
    refine r_ifne (by omega) 30 rfl 34 rfl (dd_X12_plate 15 _ _ _ rfl) (fun q => absurd q (by decide)) (fun _ => ?_)
    refine r_iconst 31 rfl (dd_X12_plate 16 _ _ _ rfl) ?_
    refine r_goto 51 rfl (dd_X12_plate 17 _ _ _ rfl) ?_
    refine r_callV1 (lvl := 10) (mc1 := 0) (ms1 := 0) 0 0 hg rfl md_X12_goesWell zc_X12 hM.kd wi_X12_goesWell wv_X12_goesWell (tb_6 197 _ rfl) (by decide) (by decide) rfl (Nat.le_of_ble_eq_true rfl) (by decide) (by decide) 54 rfl (dd_X12_plate 27 _ _ _ rfl) ?_
    refine c_X12_goesWell hg hM (by decide) (fun q => absurd q (by decide)) (fun _ h8 hM => ?_)
    dsimp only [zCont, Option.toList, List.cons_append, List.nil_append]
    refine r_ifne (by omega) 57 rfl 59 rfl (dd_X12_plate 28 _ _ _ rfl) (fun q => absurd q (by decide)) (fun _ => ?_)
    refine r_iconst 58 rfl (dd_X12_plate 29 _ _ _ rfl) ?_
    refine r_ireturn rfl rfl (dd_X12_plate 30 _ _ _ rfl) ?_
    first | exact k1 (by omega) _ hM | exact k2 (by omega) (by omega) _ hM | (have k := k0 (by omega) (by omega) _ hM; rw [if_pos (by omega)] at k; exact k)
