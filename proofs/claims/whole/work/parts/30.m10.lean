abbrev mX12_word : zM := (RX12, cX12_word, 9, (Option.some Jvm.ClassFile.FieldType.long), [], "word", 10)
set_option maxRecDepth 20000 in
theorem c_X12_word {g : zGT} {Q : zO → zH → Prop} {h : zH} (hg : zG g) {a b c d e f q : Int} (ha : 97 ≤ a ∧ a ≤ 122) (hb : 97 ≤ b ∧ b ≤ 122) (hc : 97 ≤ c ∧ c ≤ 122) (hd : 97 ≤ d ∧ d ≤ 122) (he : 97 ≤ e ∧ e ≤ 122) (hf : 97 ≤ f ∧ f ≤ 122) (hq : 97 ≤ q ∧ q ≤ 122) (k : Q (.inl (some (.long ((((((zL (a - 97) ||| (zL (b - 97) <<< ((zI 5).toInt64 &&& 63))) ||| (zL (c - 97) <<< ((zI 10).toInt64 &&& 63))) ||| (zL (d - 97) <<< ((zI 15).toInt64 &&& 63))) ||| (zL (e - 97) <<< ((zI 20).toInt64 &&& 63))) ||| (zL (f - 97) <<< ((zI 25).toInt64 &&& 63))) ||| (zL (q - 97) <<< ((zI 30).toInt64 &&& 63)))))) h) : zC g (.code yX12_word cX12_word 9 (Option.some Jvm.ClassFile.FieldType.long)) yX12_word 10 0 0 [.int (zI a), .int (zI b), .int (zI c), .int (zI d), .int (zI e), .int (zI f), .int (zI q)] h Q := by
  refine zC_of (M := mX12_word) (lv := [some (.int (zI a)), some (.int (zI b)), some (.int (zI c)), some (.int (zI d)), some (.int (zI e)), some (.int (zI f)), some (.int (zI q)), none, none]) (by decide) rfl rfl (Nat.le_of_ble_eq_true rfl) rfl rfl ?_
  refine r_iload_0 1 rfl (dd_X12_word 0 _ _ _ rfl) ?_
  refine r_bipush (by decide) 3 rfl (dd_X12_word 1 _ _ _ rfl) ?_
  refine r_isub 4 rfl (dd_X12_word 2 _ _ _ rfl) ?_
  refine r_i2l (by omega) 5 rfl (dd_X12_word 3 _ _ _ rfl) ?_
  refine r_iload_1 6 rfl (dd_X12_word 4 _ _ _ rfl) ?_
  refine r_bipush (by decide) 8 rfl (dd_X12_word 5 _ _ _ rfl) ?_
  refine r_isub 9 rfl (dd_X12_word 6 _ _ _ rfl) ?_
  refine r_i2l (by omega) 10 rfl (dd_X12_word 7 _ _ _ rfl) ?_
  refine r_iconst 11 rfl (dd_X12_word 8 _ _ _ rfl) ?_
  refine r_lshl 12 rfl (dd_X12_word 9 _ _ _ rfl) ?_
  refine r_lor 13 rfl (dd_X12_word 10 _ _ _ rfl) ?_
  refine r_iload_2 14 rfl (dd_X12_word 11 _ _ _ rfl) ?_
  refine r_bipush (by decide) 16 rfl (dd_X12_word 12 _ _ _ rfl) ?_
  refine r_isub 17 rfl (dd_X12_word 13 _ _ _ rfl) ?_
  refine r_i2l (by omega) 18 rfl (dd_X12_word 14 _ _ _ rfl) ?_
  refine r_bipush (by decide) 20 rfl (dd_X12_word 15 _ _ _ rfl) ?_
  refine r_lshl 21 rfl (dd_X12_word 16 _ _ _ rfl) ?_
  refine r_lor 22 rfl (dd_X12_word 17 _ _ _ rfl) ?_
  refine r_iload_3 23 rfl (dd_X12_word 18 _ _ _ rfl) ?_
  refine r_bipush (by decide) 25 rfl (dd_X12_word 19 _ _ _ rfl) ?_
  refine r_isub 26 rfl (dd_X12_word 20 _ _ _ rfl) ?_
  refine r_i2l (by omega) 27 rfl (dd_X12_word 21 _ _ _ rfl) ?_
  refine r_bipush (by decide) 29 rfl (dd_X12_word 22 _ _ _ rfl) ?_
  refine r_lshl 30 rfl (dd_X12_word 23 _ _ _ rfl) ?_
  refine r_lor 31 rfl (dd_X12_word 24 _ _ _ rfl) ?_
  refine r_lstore_7 33 rfl (by decide) rfl (dd_X12_word 25 _ _ _ rfl) ?_
  refine r_lload_7 35 rfl (dd_X12_word 26 _ _ _ rfl) ?_
  refine r_iload_4 37 rfl (dd_X12_word 27 _ _ _ rfl) ?_
  refine r_bipush (by decide) 39 rfl (dd_X12_word 28 _ _ _ rfl) ?_
  refine r_isub 40 rfl (dd_X12_word 29 _ _ _ rfl) ?_
  refine r_i2l (by omega) 41 rfl (dd_X12_word 30 _ _ _ rfl) ?_
  refine r_bipush (by decide) 43 rfl (dd_X12_word 31 _ _ _ rfl) ?_
  refine r_lshl 44 rfl (dd_X12_word 32 _ _ _ rfl) ?_
  refine r_lor 45 rfl (dd_X12_word 33 _ _ _ rfl) ?_
  refine r_iload_5 47 rfl (dd_X12_word 34 _ _ _ rfl) ?_
  refine r_bipush (by decide) 49 rfl (dd_X12_word 35 _ _ _ rfl) ?_
  refine r_isub 50 rfl (dd_X12_word 36 _ _ _ rfl) ?_
  refine r_i2l (by omega) 51 rfl (dd_X12_word 37 _ _ _ rfl) ?_
  refine r_bipush (by decide) 53 rfl (dd_X12_word 38 _ _ _ rfl) ?_
  refine r_lshl 54 rfl (dd_X12_word 39 _ _ _ rfl) ?_
  refine r_lor 55 rfl (dd_X12_word 40 _ _ _ rfl) ?_
  refine r_iload_6 57 rfl (dd_X12_word 41 _ _ _ rfl) ?_
  refine r_bipush (by decide) 59 rfl (dd_X12_word 42 _ _ _ rfl) ?_
  refine r_isub 60 rfl (dd_X12_word 43 _ _ _ rfl) ?_
  refine r_i2l (by omega) 61 rfl (dd_X12_word 44 _ _ _ rfl) ?_
  refine r_bipush (by decide) 63 rfl (dd_X12_word 45 _ _ _ rfl) ?_
  refine r_lshl 64 rfl (dd_X12_word 46 _ _ _ rfl) ?_
  refine r_lor 65 rfl (dd_X12_word 47 _ _ _ rfl) ?_
  refine r_lreturn rfl (dd_X12_word 48 _ _ _ rfl) ?_
  exact k

abbrev mX12_look : zM := (RX12, cX12_look, 8, (Option.some Jvm.ClassFile.FieldType.int), [], "look", 13)
set_option maxRecDepth 20000 in
theorem c_X12_look {g : zGT} {Q : zO → zH → Prop} {h : zH} (hg : zG g) {h0 : zH} {m : Nat} {A : Nat → Nat} {S : zS} {n : Nat} {t : Int} (hI : MInv n S) (hM : MI h0 m A S t h) {v : Int} (hv : zR v) (k1 : ¬ (0 ≤ v ∧ v < S.1 4) → ∀ h1, MI h0 m A S 1 h1 → Q (.inl (some (.int (zI 0)))) h1) (k2 : ∀ u : Nat, v = u → v < S.1 4 → ¬ ((zwordOK S 136588751 6 ∨ zwordOK S 18406328744 7 ∧ zstate S u (S.1 1) = 1 ∨ zwordOK S 18403950946 7 ∧ (zstate S u (S.1 1) = 2 ∨ zstate S u (S.1 1) = 0)) ∧ (zlast S u (S.1 1) 0 (-1)) ≠ -1 ∧ (S.2 13 (zlast S u (S.1 1) 0 (-1)).toNat = 0 ∨ zwordOK S 136588751 6)) → ∀ h1, MI h0 m A (zu1 S.1 2 0, S.2) 0 h1 → Q (.inl (some (.int (zI (-1))))) h1) (k0 : ∀ u : Nat, v = u → v < S.1 4 → ((zwordOK S 136588751 6 ∨ zwordOK S 18406328744 7 ∧ zstate S u (S.1 1) = 1 ∨ zwordOK S 18403950946 7 ∧ (zstate S u (S.1 1) = 2 ∨ zstate S u (S.1 1) = 0)) ∧ (zlast S u (S.1 1) 0 (-1)) ≠ -1 ∧ (S.2 13 (zlast S u (S.1 1) 0 (-1)).toNat = 0 ∨ zwordOK S 136588751 6)) → ∀ h1, MI h0 m A (zu1 S.1 2 0, zu2 S.2 14 (zlast S u (S.1 1) 0 (-1)).toNat (S.2 14 (zlast S u (S.1 1) 0 (-1)).toNat + 1)) 0 h1 → Q (.inl (some (.int (zI (zlast S u (S.1 1) 0 (-1)))))) h1) : zC g (.code yX12_look cX12_look 8 (Option.some Jvm.ClassFile.FieldType.int)) yX12_look 13 0 0 [.ref m, .int (zI v)] h Q := by
  refine zC_of (M := mX12_look) (lv := [some (.ref m), some (.int (zI v)), none, none, none, none, none, none]) (by decide) rfl rfl (Nat.le_of_ble_eq_true rfl) rfl rfl ?_
  have e1 := hI.vehicles
  have e2 := hI.today
  refine r_aload_0 1 rfl (dd_X12_look_0 0 _ _ _ rfl) ?_
  refine r_aload_0 2 rfl (dd_X12_look_0 1 _ _ _ rfl) ?_
  refine r_iload_1 3 rfl (dd_X12_look_0 2 _ _ _ rfl) ?_
  refine r_callV1 (lvl := 11) (mc1 := 0) (ms1 := 0) 0 0 hg rfl md_X12_isVehicle zc_X12 hM.kd wi_X12_isVehicle wv_X12_isVehicle (tb_7 0 _ rfl) (by decide) (by decide) rfl (Nat.le_of_ble_eq_true rfl) (by decide) (by decide) 6 rfl (dd_X12_look_0 3 _ _ _ rfl) ?_
  refine c_X12_isVehicle hg hI hM (by omega) (fun hb1 => ?_) (fun hb1 => ?_)
  · obtain ⟨u, rfl⟩ := Int.eq_ofNat_of_zero_le hb1.1
    dsimp only [zCont, Option.toList, List.cons_append, List.nil_append]
    refine r_ifeq (by omega) 9 rfl 13 rfl (dd_X12_look_0 4 _ _ _ rfl) (fun q => absurd q (by decide)) (fun _ => ?_)
    refine r_iconst 10 rfl (dd_X12_look_0 5 _ _ _ rfl) ?_
    refine r_goto 14 rfl (dd_X12_look_0 6 _ _ _ rfl) ?_
    refine r_callV1 (lvl := 10) (mc1 := 0) (ms1 := 0) 0 0 hg rfl md_X12_goesWell zc_X12 hM.kd wi_X12_goesWell wv_X12_goesWell (tb_6 197 _ rfl) (by decide) (by decide) rfl (Nat.le_of_ble_eq_true rfl) (by decide) (by decide) 17 rfl (dd_X12_look_0 8 _ _ _ rfl) ?_
    refine c_X12_goesWell hg hM (by decide) (fun _ h2 hM => ?_) (fun q => absurd rfl q)
    dsimp only [zCont, Option.toList, List.cons_append, List.nil_append]
    refine r_ifne (by omega) 20 rfl 22 rfl (dd_X12_look_0 9 _ _ _ rfl) (fun _ => ?_) (fun q => absurd q (by decide))
    refine r_aload_0 23 rfl (dd_X12_look_0 12 _ _ _ rfl) ?_
    refine r_bipush (by decide) 25 rfl (dd_X12_look_0 13 _ _ _ rfl) ?_
    refine r_bipush (by decide) 27 rfl (dd_X12_look_0 14 _ _ _ rfl) ?_
    refine r_bipush (by decide) 29 rfl (dd_X12_look_0 15 _ _ _ rfl) ?_
    refine r_bipush (by decide) 31 rfl (dd_X12_look_0 16 _ _ _ rfl) ?_
    refine r_bipush (by decide) 33 rfl (dd_X12_look_0 17 _ _ _ rfl) ?_
    refine r_bipush (by decide) 35 rfl (dd_X12_look_0 18 _ _ _ rfl) ?_
    refine r_bipush (by decide) 37 rfl (dd_X12_look_0 19 _ _ _ rfl) ?_
    refine r_callS7 (lvl := 10) (mc1 := 0) (ms1 := 0) 0 0 hg rfl md_X12_word ws_X12_word (tb_7 180 _ rfl) (by decide) (by decide) rfl (Nat.le_of_ble_eq_true rfl) (by decide) (by decide) 40 rfl (dd_X12_look_0 20 _ _ _ rfl) ?_
    refine c_X12_word hg (by decide) (by decide) (by decide) (by decide) (by decide) (by decide) (by decide) ?_
    dsimp only [zCont, Option.toList, List.cons_append, List.nil_append]
    refine r_topl (136588751) (by decide +kernel) ?_
    refine r_bipush (by decide) 42 rfl (dd_X12_look_0 21 _ _ _ rfl) ?_
    refine r_callV2 (lvl := 10) (mc1 := 0) (ms1 := 0) 0 0 hg rfl md_X12_isWord zc_X12 hM.kd wi_X12_isWord wv_X12_isWord (tb_7 183 _ rfl) (by decide) (by decide) rfl (Nat.le_of_ble_eq_true rfl) (by decide) (by decide) 45 rfl (dd_X12_look_0 22 _ _ _ rfl) ?_
    refine c_X12_isWord (W := 136588751) (mn := 6) hg hI hM (by decide) (by decide) (fun hp => ?_) (fun hp => ?_)
    · dsimp only [zCont, Option.toList, List.cons_append, List.nil_append]
      refine r_istore_2 46 rfl (by decide) rfl (dd_X12_look_0 23 _ _ _ rfl) ?_
      refine r_aload_0 47 rfl (dd_X12_look_0 24 _ _ _ rfl) ?_
      refine r_bipush (by decide) 49 rfl (dd_X12_look_0 25 _ _ _ rfl) ?_
      refine r_bipush (by decide) 51 rfl (dd_X12_look_0 26 _ _ _ rfl) ?_
      refine r_bipush (by decide) 53 rfl (dd_X12_look_0 27 _ _ _ rfl) ?_
      refine r_bipush (by decide) 55 rfl (dd_X12_look_0 28 _ _ _ rfl) ?_
      refine r_bipush (by decide) 57 rfl (dd_X12_look_0 29 _ _ _ rfl) ?_
      refine r_bipush (by decide) 59 rfl (dd_X12_look_0 30 _ _ _ rfl) ?_
      refine r_bipush (by decide) 61 rfl (dd_X12_look_0 31 _ _ _ rfl) ?_
      refine r_callS7 (lvl := 10) (mc1 := 0) (ms1 := 0) 0 0 hg rfl md_X12_word ws_X12_word (tb_7 180 _ rfl) (by decide) (by decide) rfl (Nat.le_of_ble_eq_true rfl) (by decide) (by decide) 64 rfl (dd_X12_look_0 32 _ _ _ rfl) ?_
      refine c_X12_word hg (by decide) (by decide) (by decide) (by decide) (by decide) (by decide) (by decide) ?_
      dsimp only [zCont, Option.toList, List.cons_append, List.nil_append]
      refine r_topl (18406328744) (by decide +kernel) ?_
      refine r_bipush (by decide) 66 rfl (dd_X12_look_0 33 _ _ _ rfl) ?_
      refine r_callV2 (lvl := 10) (mc1 := 0) (ms1 := 0) 0 0 hg rfl md_X12_isWord zc_X12 hM.kd wi_X12_isWord wv_X12_isWord (tb_7 183 _ rfl) (by decide) (by decide) rfl (Nat.le_of_ble_eq_true rfl) (by decide) (by decide) 69 rfl (dd_X12_look_0 34 _ _ _ rfl) ?_
      refine c_X12_isWord (W := 18406328744) (mn := 7) hg hI hM (by decide) (by decide) (fun hn => ?_) (fun hn => ?_)
      · dsimp only [zCont, Option.toList, List.cons_append, List.nil_append]
        refine r_istore_3 70 rfl (by decide) rfl (dd_X12_look_0 35 _ _ _ rfl) ?_
        refine r_aload_0 71 rfl (dd_X12_look_0 36 _ _ _ rfl) ?_
        refine r_bipush (by decide) 73 rfl (dd_X12_look_0 37 _ _ _ rfl) ?_
        refine r_bipush (by decide) 75 rfl (dd_X12_look_0 38 _ _ _ rfl) ?_
        refine r_bipush (by decide) 77 rfl (dd_X12_look_0 39 _ _ _ rfl) ?_
        refine r_bipush (by decide) 79 rfl (dd_X12_look_0 40 _ _ _ rfl) ?_
        refine r_bipush (by decide) 81 rfl (dd_X12_look_0 41 _ _ _ rfl) ?_
        refine r_bipush (by decide) 83 rfl (dd_X12_look_0 42 _ _ _ rfl) ?_
        refine r_bipush (by decide) 85 rfl (dd_X12_look_0 43 _ _ _ rfl) ?_
        refine r_callS7 (lvl := 10) (mc1 := 0) (ms1 := 0) 0 0 hg rfl md_X12_word ws_X12_word (tb_7 180 _ rfl) (by decide) (by decide) rfl (Nat.le_of_ble_eq_true rfl) (by decide) (by decide) 88 rfl (dd_X12_look_0 44 _ _ _ rfl) ?_
        refine c_X12_word hg (by decide) (by decide) (by decide) (by decide) (by decide) (by decide) (by decide) ?_
        dsimp only [zCont, Option.toList, List.cons_append, List.nil_append]
        refine r_topl (18403950946) (by decide +kernel) ?_
        refine r_bipush (by decide) 90 rfl (dd_X12_look_0 45 _ _ _ rfl) ?_
        refine r_callV2 (lvl := 10) (mc1 := 0) (ms1 := 0) 0 0 hg rfl md_X12_isWord zc_X12 hM.kd wi_X12_isWord wv_X12_isWord (tb_7 183 _ rfl) (by decide) (by decide) rfl (Nat.le_of_ble_eq_true rfl) (by decide) (by decide) 93 rfl (dd_X12_look_0 46 _ _ _ rfl) ?_
        refine c_X12_isWord (W := 18403950946) (mn := 7) hg hI hM (by decide) (by decide) (fun hl => ?_) (fun hl => ?_)
        · dsimp only [zCont, Option.toList, List.cons_append, List.nil_append]
          refine r_istore_4 95 rfl (by decide) rfl (dd_X12_look_0 47 _ _ _ rfl) ?_
          refine r_aload_0 96 rfl (dd_X12_look_0 48 _ _ _ rfl) ?_
          refine r_iconst 97 rfl (dd_X12_look_0 49 _ _ _ rfl) ?_
          refine m_put 2 hg hM rfl (by decide) (by decide) rfl (fun _ _ _ => rfl) rfl rfl (tb_6 58 _ rfl) 100 rfl (dd_X12_look_0 50 _ _ _ rfl) (fun h4 hM => ?_)
          have hI2 : MInv n (zu1 S.1 2 0, S.2) := MInv.s2 (sc := S.1) (ar := S.2) hI (by decide)
          have hs9 := zstate_range S u (S.1 1)
          have hk9 := zlast_range (v := u) (w := S.1 1) (its := 0) (wo := -1) hI (by decide)
          refine r_aload_0 101 rfl (dd_X12_look_0 51 _ _ _ rfl) ?_
          refine r_iload_1 102 rfl (dd_X12_look_0 52 _ _ _ rfl) ?_
          refine r_aload_0 103 rfl (dd_X12_look_0 53 _ _ _ rfl) ?_
          refine m_get 1 hg hM (by unfold z_free; decide) rfl (by decide) (tb_6 57 _ rfl) 106 rfl (dd_X12_look_0 54 _ _ _ rfl) ?_ (fun _ _ _ => rfl)
          try simp (decide := true) only [zu1, if_true, if_false, reduceIte]
          refine r_callV2 (lvl := 11) (mc1 := 0) (ms1 := 0) 0 0 hg rfl md_X12_stateOn zc_X12 hM.kd wi_X12_stateOn wv_X12_stateOn (tb_7 16 _ rfl) (by decide) (by decide) rfl (Nat.le_of_ble_eq_true rfl) (by decide) (by decide) 109 rfl (dd_X12_look_0 55 _ _ _ rfl) ?_
          refine c_X12_stateOn (v := u) hg hI2 hM (by omega) (by omega) (fun h5 hM => ?_)
          dsimp only [zCont, Option.toList, List.cons_append, List.nil_append]
          rw [show zstate (zu1 S.1 2 0, S.2) u (S.1 1) = zstate S u (S.1 1) from zstate_ar (S := S) (S2 := (zu1 S.1 2 0, S.2)) rfl]
          refine r_istore_5 111 rfl (by decide) rfl (dd_X12_look_0 56 _ _ _ rfl) ?_
          refine r_aload_0 112 rfl (dd_X12_look_0 57 _ _ _ rfl) ?_
          refine r_iload_1 113 rfl (dd_X12_look_0 58 _ _ _ rfl) ?_
          refine r_aload_0 114 rfl (dd_X12_look_0 59 _ _ _ rfl) ?_
          refine m_get 1 hg hM (by unfold z_free; decide) rfl (by decide) (tb_6 57 _ rfl) 117 rfl (dd_X12_look_1 0 _ _ _ rfl) ?_ (fun _ _ _ => rfl)
          try simp (decide := true) only [zu1, if_true, if_false, reduceIte]
          refine r_iconst 118 rfl (dd_X12_look_1 1 _ _ _ rfl) ?_
          refine r_iconst 119 rfl (dd_X12_look_1 2 _ _ _ rfl) ?_
          refine r_callV4 (lvl := 11) (mc1 := 0) (ms1 := 0) 0 0 hg rfl md_X12_latest zc_X12 hM.kd wi_X12_latest wv_X12_latest (tb_7 24 _ rfl) (by decide) (by decide) rfl (Nat.le_of_ble_eq_true rfl) (by decide) (by decide) 122 rfl (dd_X12_look_1 3 _ _ _ rfl) ?_
          refine c_X12_latestI (v := u) hg hI2 hM (by omega) (by omega) (by omega) (by omega) ?_
          dsimp only [zCont, Option.toList, List.cons_append, List.nil_append]
          rw [show zlast (zu1 S.1 2 0, S.2) u (S.1 1) 0 (-1) = zlast S u (S.1 1) 0 (-1) from zlast_ar (S := S) (S2 := (zu1 S.1 2 0, S.2)) rfl]
          refine r_istore_6 124 rfl (by decide) rfl (dd_X12_look_1 4 _ _ _ rfl) ?_
          refine r_iload_2 125 rfl (dd_X12_look_1 5 _ _ _ rfl) ?_
          refine r_ifne (by omega) 128 rfl 154 rfl (dd_X12_look_1 6 _ _ _ rfl) (fun _ => ?_) (fun q => absurd q (by decide))
          refine r_iconst 155 rfl (dd_X12_look_1 19 _ _ _ rfl) ?_
          refine r_goto 159 rfl (dd_X12_look_1 20 _ _ _ rfl) ?_
          refine r_istore_7 161 rfl (by decide) rfl (dd_X12_look_1 22 _ _ _ rfl) ?_
          refine r_iload_7 163 rfl (dd_X12_look_1 23 _ _ _ rfl) ?_
          refine r_ifeq (by omega) 166 rfl 186 rfl (dd_X12_look_1 24 _ _ _ rfl) (fun q => absurd q (by decide)) (fun _ => ?_)
          refine r_iload_6 168 rfl (dd_X12_look_1 25 _ _ _ rfl) ?_
          refine r_iconst 169 rfl (dd_X12_look_1 26 _ _ _ rfl) ?_
          refine r_if_icmpeq (by omega) (by omega) 172 rfl 186 rfl (dd_X12_look_1 27 _ _ _ rfl) (fun hc6 => ?_) (fun hc6 => ?_)
          · refine r_iconst 187 rfl (dd_X12_look_1 35 _ _ _ rfl) ?_
            refine r_ireturn rfl rfl (dd_X12_look_1 36 _ _ _ rfl) ?_
            exact k2 u rfl (by omega) (fun q => by rcases q with ⟨q1, q2, q3⟩; rcases q1 with q1 | ⟨q1, q4⟩ | ⟨q1, q4⟩ <;> first | exact hp q1 | exact hn q1 | exact hl q1 | omega | (rcases q3 with q3 | q3 <;> first | omega | exact hp q3)) _ hM
          · have hpr := hI.prot (zlast S u (S.1 1) 0 (-1)).toNat
            refine r_aload_0 173 rfl (dd_X12_look_1 28 _ _ _ rfl) ?_
            refine m_arr 13 hg hM (by decide) (by decide) (tb_6 69 _ rfl) 176 rfl (dd_X12_look_1 29 _ _ _ rfl) ?_ (fun _ _ _ => rfl)
            refine r_iload_6 178 rfl (dd_X12_look_1 30 _ _ _ rfl) ?_
            refine m_zald 13 ((zlast S u (S.1 1) 0 (-1)).toNat) (by omega) hg hM rfl (by omega) (z_lt (n2 := 10) rfl (by omega)) (by decide) 179 rfl (dd_X12_look_1 31 _ _ _ rfl) ?_
            try simp (decide := true) only [zu2, false_and, and_false, and_true, true_and, and_self, if_true, if_false, reduceIte]
            refine r_ifeq (by omega) 182 rfl 188 rfl (dd_X12_look_1 32 _ _ _ rfl) (fun hc7 => ?_) (fun hc7 => ?_)
            · refine r_aload_0 189 rfl (dd_X12_look_1 37 _ _ _ rfl) ?_
              refine m_arr 14 hg hM (by decide) (by decide) (tb_6 70 _ rfl) 192 rfl (dd_X12_look_1 38 _ _ _ rfl) ?_ (fun _ _ _ => rfl)
              refine r_iload_6 194 rfl (dd_X12_look_1 39 _ _ _ rfl) ?_
              refine r_dup2 rfl rfl 195 rfl (dd_X12_look_1 40 _ _ _ rfl) ?_
              refine m_iald 14 ((zlast S u (S.1 1) 0 (-1)).toNat) (by omega) hg hM rfl (by omega) (z_lt (n2 := 10) rfl (by omega)) (by decide) 196 rfl (dd_X12_look_1 41 _ _ _ rfl) ?_
              try simp (decide := true) only [zu2, false_and, and_false, and_true, true_and, and_self, if_true, if_false, reduceIte]
              refine r_iconst 197 rfl (dd_X12_look_1 42 _ _ _ rfl) ?_
              refine r_iadd 198 rfl (dd_X12_look_1 43 _ _ _ rfl) ?_
              refine m_iast 14 ((zlast S u (S.1 1) 0 (-1)).toNat) (by omega) hg hM rfl (by omega) (z_lt (n2 := 10) rfl (by omega)) (by decide) 199 rfl (dd_X12_look_1 44 _ _ _ rfl) (fun h8 hM => ?_)
              refine r_iload_6 201 rfl (dd_X12_look_1 45 _ _ _ rfl) ?_
              refine r_ireturn rfl rfl (dd_X12_look_1 46 _ _ _ rfl) ?_
              exact k0 u rfl (by omega) ⟨by first | exact Or.inl hp | exact Or.inr (Or.inl ⟨hn, by omega⟩) | exact Or.inr (Or.inr ⟨hl, by omega⟩), by omega, by first | exact Or.inl (by omega) | exact Or.inr hp⟩ _ hM
            · refine r_iload_2 183 rfl (dd_X12_look_1 33 _ _ _ rfl) ?_
              refine r_ifne (by omega) 186 rfl 188 rfl (dd_X12_look_1 34 _ _ _ rfl) (fun _ => ?_) (fun q => absurd q (by decide))
              refine r_aload_0 189 rfl (dd_X12_look_1 37 _ _ _ rfl) ?_
              refine m_arr 14 hg hM (by decide) (by decide) (tb_6 70 _ rfl) 192 rfl (dd_X12_look_1 38 _ _ _ rfl) ?_ (fun _ _ _ => rfl)
              refine r_iload_6 194 rfl (dd_X12_look_1 39 _ _ _ rfl) ?_
              refine r_dup2 rfl rfl 195 rfl (dd_X12_look_1 40 _ _ _ rfl) ?_
              refine m_iald 14 ((zlast S u (S.1 1) 0 (-1)).toNat) (by omega) hg hM rfl (by omega) (z_lt (n2 := 10) rfl (by omega)) (by decide) 196 rfl (dd_X12_look_1 41 _ _ _ rfl) ?_
              try simp (decide := true) only [zu2, false_and, and_false, and_true, true_and, and_self, if_true, if_false, reduceIte]
              refine r_iconst 197 rfl (dd_X12_look_1 42 _ _ _ rfl) ?_
              refine r_iadd 198 rfl (dd_X12_look_1 43 _ _ _ rfl) ?_
              refine m_iast 14 ((zlast S u (S.1 1) 0 (-1)).toNat) (by omega) hg hM rfl (by omega) (z_lt (n2 := 10) rfl (by omega)) (by decide) 199 rfl (dd_X12_look_1 44 _ _ _ rfl) (fun h9 hM => ?_)
              refine r_iload_6 201 rfl (dd_X12_look_1 45 _ _ _ rfl) ?_
              refine r_ireturn rfl rfl (dd_X12_look_1 46 _ _ _ rfl) ?_
              exact k0 u rfl (by omega) ⟨by first | exact Or.inl hp | exact Or.inr (Or.inl ⟨hn, by omega⟩) | exact Or.inr (Or.inr ⟨hl, by omega⟩), by omega, by first | exact Or.inl (by omega) | exact Or.inr hp⟩ _ hM
        · dsimp only [zCont, Option.toList, List.cons_append, List.nil_append]
          refine r_istore_4 95 rfl (by decide) rfl (dd_X12_look_0 47 _ _ _ rfl) ?_
          refine r_aload_0 96 rfl (dd_X12_look_0 48 _ _ _ rfl) ?_
          refine r_iconst 97 rfl (dd_X12_look_0 49 _ _ _ rfl) ?_
          refine m_put 2 hg hM rfl (by decide) (by decide) rfl (fun _ _ _ => rfl) rfl rfl (tb_6 58 _ rfl) 100 rfl (dd_X12_look_0 50 _ _ _ rfl) (fun h11 hM => ?_)
          have hI2 : MInv n (zu1 S.1 2 0, S.2) := MInv.s2 (sc := S.1) (ar := S.2) hI (by decide)
          have hs9 := zstate_range S u (S.1 1)
          have hk9 := zlast_range (v := u) (w := S.1 1) (its := 0) (wo := -1) hI (by decide)
          refine r_aload_0 101 rfl (dd_X12_look_0 51 _ _ _ rfl) ?_
          refine r_iload_1 102 rfl (dd_X12_look_0 52 _ _ _ rfl) ?_
          refine r_aload_0 103 rfl (dd_X12_look_0 53 _ _ _ rfl) ?_
          refine m_get 1 hg hM (by unfold z_free; decide) rfl (by decide) (tb_6 57 _ rfl) 106 rfl (dd_X12_look_0 54 _ _ _ rfl) ?_ (fun _ _ _ => rfl)
          try simp (decide := true) only [zu1, if_true, if_false, reduceIte]
          refine r_callV2 (lvl := 11) (mc1 := 0) (ms1 := 0) 0 0 hg rfl md_X12_stateOn zc_X12 hM.kd wi_X12_stateOn wv_X12_stateOn (tb_7 16 _ rfl) (by decide) (by decide) rfl (Nat.le_of_ble_eq_true rfl) (by decide) (by decide) 109 rfl (dd_X12_look_0 55 _ _ _ rfl) ?_
          refine c_X12_stateOn (v := u) hg hI2 hM (by omega) (by omega) (fun h12 hM => ?_)
          dsimp only [zCont, Option.toList, List.cons_append, List.nil_append]
          rw [show zstate (zu1 S.1 2 0, S.2) u (S.1 1) = zstate S u (S.1 1) from zstate_ar (S := S) (S2 := (zu1 S.1 2 0, S.2)) rfl]
          refine r_istore_5 111 rfl (by decide) rfl (dd_X12_look_0 56 _ _ _ rfl) ?_
          refine r_aload_0 112 rfl (dd_X12_look_0 57 _ _ _ rfl) ?_
          refine r_iload_1 113 rfl (dd_X12_look_0 58 _ _ _ rfl) ?_
          refine r_aload_0 114 rfl (dd_X12_look_0 59 _ _ _ rfl) ?_
          refine m_get 1 hg hM (by unfold z_free; decide) rfl (by decide) (tb_6 57 _ rfl) 117 rfl (dd_X12_look_1 0 _ _ _ rfl) ?_ (fun _ _ _ => rfl)
          try simp (decide := true) only [zu1, if_true, if_false, reduceIte]
          refine r_iconst 118 rfl (dd_X12_look_1 1 _ _ _ rfl) ?_
          refine r_iconst 119 rfl (dd_X12_look_1 2 _ _ _ rfl) ?_
          refine r_callV4 (lvl := 11) (mc1 := 0) (ms1 := 0) 0 0 hg rfl md_X12_latest zc_X12 hM.kd wi_X12_latest wv_X12_latest (tb_7 24 _ rfl) (by decide) (by decide) rfl (Nat.le_of_ble_eq_true rfl) (by decide) (by decide) 122 rfl (dd_X12_look_1 3 _ _ _ rfl) ?_
          refine c_X12_latestI (v := u) hg hI2 hM (by omega) (by omega) (by omega) (by omega) ?_
          dsimp only [zCont, Option.toList, List.cons_append, List.nil_append]
          rw [show zlast (zu1 S.1 2 0, S.2) u (S.1 1) 0 (-1) = zlast S u (S.1 1) 0 (-1) from zlast_ar (S := S) (S2 := (zu1 S.1 2 0, S.2)) rfl]
          refine r_istore_6 124 rfl (by decide) rfl (dd_X12_look_1 4 _ _ _ rfl) ?_
          refine r_iload_2 125 rfl (dd_X12_look_1 5 _ _ _ rfl) ?_
          refine r_ifne (by omega) 128 rfl 154 rfl (dd_X12_look_1 6 _ _ _ rfl) (fun _ => ?_) (fun q => absurd q (by decide))
          refine r_iconst 155 rfl (dd_X12_look_1 19 _ _ _ rfl) ?_
          refine r_goto 159 rfl (dd_X12_look_1 20 _ _ _ rfl) ?_
          refine r_istore_7 161 rfl (by decide) rfl (dd_X12_look_1 22 _ _ _ rfl) ?_
          refine r_iload_7 163 rfl (dd_X12_look_1 23 _ _ _ rfl) ?_
          refine r_ifeq (by omega) 166 rfl 186 rfl (dd_X12_look_1 24 _ _ _ rfl) (fun q => absurd q (by decide)) (fun _ => ?_)
          refine r_iload_6 168 rfl (dd_X12_look_1 25 _ _ _ rfl) ?_
          refine r_iconst 169 rfl (dd_X12_look_1 26 _ _ _ rfl) ?_
          refine r_if_icmpeq (by omega) (by omega) 172 rfl 186 rfl (dd_X12_look_1 27 _ _ _ rfl) (fun hc13 => ?_) (fun hc13 => ?_)
          · refine r_iconst 187 rfl (dd_X12_look_1 35 _ _ _ rfl) ?_
            refine r_ireturn rfl rfl (dd_X12_look_1 36 _ _ _ rfl) ?_
            exact k2 u rfl (by omega) (fun q => by rcases q with ⟨q1, q2, q3⟩; rcases q1 with q1 | ⟨q1, q4⟩ | ⟨q1, q4⟩ <;> first | exact hp q1 | exact hn q1 | exact hl q1 | omega | (rcases q3 with q3 | q3 <;> first | omega | exact hp q3)) _ hM
          · have hpr := hI.prot (zlast S u (S.1 1) 0 (-1)).toNat
            refine r_aload_0 173 rfl (dd_X12_look_1 28 _ _ _ rfl) ?_
            refine m_arr 13 hg hM (by decide) (by decide) (tb_6 69 _ rfl) 176 rfl (dd_X12_look_1 29 _ _ _ rfl) ?_ (fun _ _ _ => rfl)
            refine r_iload_6 178 rfl (dd_X12_look_1 30 _ _ _ rfl) ?_
            refine m_zald 13 ((zlast S u (S.1 1) 0 (-1)).toNat) (by omega) hg hM rfl (by omega) (z_lt (n2 := 10) rfl (by omega)) (by decide) 179 rfl (dd_X12_look_1 31 _ _ _ rfl) ?_
            try simp (decide := true) only [zu2, false_and, and_false, and_true, true_and, and_self, if_true, if_false, reduceIte]
            refine r_ifeq (by omega) 182 rfl 188 rfl (dd_X12_look_1 32 _ _ _ rfl) (fun hc14 => ?_) (fun hc14 => ?_)
            · refine r_aload_0 189 rfl (dd_X12_look_1 37 _ _ _ rfl) ?_
              refine m_arr 14 hg hM (by decide) (by decide) (tb_6 70 _ rfl) 192 rfl (dd_X12_look_1 38 _ _ _ rfl) ?_ (fun _ _ _ => rfl)
              refine r_iload_6 194 rfl (dd_X12_look_1 39 _ _ _ rfl) ?_
              refine r_dup2 rfl rfl 195 rfl (dd_X12_look_1 40 _ _ _ rfl) ?_
              refine m_iald 14 ((zlast S u (S.1 1) 0 (-1)).toNat) (by omega) hg hM rfl (by omega) (z_lt (n2 := 10) rfl (by omega)) (by decide) 196 rfl (dd_X12_look_1 41 _ _ _ rfl) ?_
              try simp (decide := true) only [zu2, false_and, and_false, and_true, true_and, and_self, if_true, if_false, reduceIte]
              refine r_iconst 197 rfl (dd_X12_look_1 42 _ _ _ rfl) ?_
              refine r_iadd 198 rfl (dd_X12_look_1 43 _ _ _ rfl) ?_
              refine m_iast 14 ((zlast S u (S.1 1) 0 (-1)).toNat) (by omega) hg hM rfl (by omega) (z_lt (n2 := 10) rfl (by omega)) (by decide) 199 rfl (dd_X12_look_1 44 _ _ _ rfl) (fun h15 hM => ?_)
              refine r_iload_6 201 rfl (dd_X12_look_1 45 _ _ _ rfl) ?_
              refine r_ireturn rfl rfl (dd_X12_look_1 46 _ _ _ rfl) ?_
              exact k0 u rfl (by omega) ⟨by first | exact Or.inl hp | exact Or.inr (Or.inl ⟨hn, by omega⟩) | exact Or.inr (Or.inr ⟨hl, by omega⟩), by omega, by first | exact Or.inl (by omega) | exact Or.inr hp⟩ _ hM
            · refine r_iload_2 183 rfl (dd_X12_look_1 33 _ _ _ rfl) ?_
              refine r_ifne (by omega) 186 rfl 188 rfl (dd_X12_look_1 34 _ _ _ rfl) (fun _ => ?_) (fun q => absurd q (by decide))
              refine r_aload_0 189 rfl (dd_X12_look_1 37 _ _ _ rfl) ?_
              refine m_arr 14 hg hM (by decide) (by decide) (tb_6 70 _ rfl) 192 rfl (dd_X12_look_1 38 _ _ _ rfl) ?_ (fun _ _ _ => rfl)
              refine r_iload_6 194 rfl (dd_X12_look_1 39 _ _ _ rfl) ?_
              refine r_dup2 rfl rfl 195 rfl (dd_X12_look_1 40 _ _ _ rfl) ?_
              refine m_iald 14 ((zlast S u (S.1 1) 0 (-1)).toNat) (by omega) hg hM rfl (by omega) (z_lt (n2 := 10) rfl (by omega)) (by decide) 196 rfl (dd_X12_look_1 41 _ _ _ rfl) ?_
              try simp (decide := true) only [zu2, false_and, and_false, and_true, true_and, and_self, if_true, if_false, reduceIte]
              refine r_iconst 197 rfl (dd_X12_look_1 42 _ _ _ rfl) ?_
              refine r_iadd 198 rfl (dd_X12_look_1 43 _ _ _ rfl) ?_
              refine m_iast 14 ((zlast S u (S.1 1) 0 (-1)).toNat) (by omega) hg hM rfl (by omega) (z_lt (n2 := 10) rfl (by omega)) (by decide) 199 rfl (dd_X12_look_1 44 _ _ _ rfl) (fun h16 hM => ?_)
              refine r_iload_6 201 rfl (dd_X12_look_1 45 _ _ _ rfl) ?_
              refine r_ireturn rfl rfl (dd_X12_look_1 46 _ _ _ rfl) ?_
              exact k0 u rfl (by omega) ⟨by first | exact Or.inl hp | exact Or.inr (Or.inl ⟨hn, by omega⟩) | exact Or.inr (Or.inr ⟨hl, by omega⟩), by omega, by first | exact Or.inl (by omega) | exact Or.inr hp⟩ _ hM
      · dsimp only [zCont, Option.toList, List.cons_append, List.nil_append]
        refine r_istore_3 70 rfl (by decide) rfl (dd_X12_look_0 35 _ _ _ rfl) ?_
        refine r_aload_0 71 rfl (dd_X12_look_0 36 _ _ _ rfl) ?_
        refine r_bipush (by decide) 73 rfl (dd_X12_look_0 37 _ _ _ rfl) ?_
        refine r_bipush (by decide) 75 rfl (dd_X12_look_0 38 _ _ _ rfl) ?_
        refine r_bipush (by decide) 77 rfl (dd_X12_look_0 39 _ _ _ rfl) ?_
        refine r_bipush (by decide) 79 rfl (dd_X12_look_0 40 _ _ _ rfl) ?_
        refine r_bipush (by decide) 81 rfl (dd_X12_look_0 41 _ _ _ rfl) ?_
        refine r_bipush (by decide) 83 rfl (dd_X12_look_0 42 _ _ _ rfl) ?_
        refine r_bipush (by decide) 85 rfl (dd_X12_look_0 43 _ _ _ rfl) ?_
        refine r_callS7 (lvl := 10) (mc1 := 0) (ms1 := 0) 0 0 hg rfl md_X12_word ws_X12_word (tb_7 180 _ rfl) (by decide) (by decide) rfl (Nat.le_of_ble_eq_true rfl) (by decide) (by decide) 88 rfl (dd_X12_look_0 44 _ _ _ rfl) ?_
        refine c_X12_word hg (by decide) (by decide) (by decide) (by decide) (by decide) (by decide) (by decide) ?_
        dsimp only [zCont, Option.toList, List.cons_append, List.nil_append]
        refine r_topl (18403950946) (by decide +kernel) ?_
        refine r_bipush (by decide) 90 rfl (dd_X12_look_0 45 _ _ _ rfl) ?_
        refine r_callV2 (lvl := 10) (mc1 := 0) (ms1 := 0) 0 0 hg rfl md_X12_isWord zc_X12 hM.kd wi_X12_isWord wv_X12_isWord (tb_7 183 _ rfl) (by decide) (by decide) rfl (Nat.le_of_ble_eq_true rfl) (by decide) (by decide) 93 rfl (dd_X12_look_0 46 _ _ _ rfl) ?_
        refine c_X12_isWord (W := 18403950946) (mn := 7) hg hI hM (by decide) (by decide) (fun hl => ?_) (fun hl => ?_)
        · dsimp only [zCont, Option.toList, List.cons_append, List.nil_append]
          refine r_istore_4 95 rfl (by decide) rfl (dd_X12_look_0 47 _ _ _ rfl) ?_
          refine r_aload_0 96 rfl (dd_X12_look_0 48 _ _ _ rfl) ?_
          refine r_iconst 97 rfl (dd_X12_look_0 49 _ _ _ rfl) ?_
          refine m_put 2 hg hM rfl (by decide) (by decide) rfl (fun _ _ _ => rfl) rfl rfl (tb_6 58 _ rfl) 100 rfl (dd_X12_look_0 50 _ _ _ rfl) (fun h18 hM => ?_)
          have hI2 : MInv n (zu1 S.1 2 0, S.2) := MInv.s2 (sc := S.1) (ar := S.2) hI (by decide)
          have hs9 := zstate_range S u (S.1 1)
          have hk9 := zlast_range (v := u) (w := S.1 1) (its := 0) (wo := -1) hI (by decide)
          refine r_aload_0 101 rfl (dd_X12_look_0 51 _ _ _ rfl) ?_
          refine r_iload_1 102 rfl (dd_X12_look_0 52 _ _ _ rfl) ?_
          refine r_aload_0 103 rfl (dd_X12_look_0 53 _ _ _ rfl) ?_
          refine m_get 1 hg hM (by unfold z_free; decide) rfl (by decide) (tb_6 57 _ rfl) 106 rfl (dd_X12_look_0 54 _ _ _ rfl) ?_ (fun _ _ _ => rfl)
          try simp (decide := true) only [zu1, if_true, if_false, reduceIte]
          refine r_callV2 (lvl := 11) (mc1 := 0) (ms1 := 0) 0 0 hg rfl md_X12_stateOn zc_X12 hM.kd wi_X12_stateOn wv_X12_stateOn (tb_7 16 _ rfl) (by decide) (by decide) rfl (Nat.le_of_ble_eq_true rfl) (by decide) (by decide) 109 rfl (dd_X12_look_0 55 _ _ _ rfl) ?_
          refine c_X12_stateOn (v := u) hg hI2 hM (by omega) (by omega) (fun h19 hM => ?_)
          dsimp only [zCont, Option.toList, List.cons_append, List.nil_append]
          rw [show zstate (zu1 S.1 2 0, S.2) u (S.1 1) = zstate S u (S.1 1) from zstate_ar (S := S) (S2 := (zu1 S.1 2 0, S.2)) rfl]
          refine r_istore_5 111 rfl (by decide) rfl (dd_X12_look_0 56 _ _ _ rfl) ?_
          refine r_aload_0 112 rfl (dd_X12_look_0 57 _ _ _ rfl) ?_
          refine r_iload_1 113 rfl (dd_X12_look_0 58 _ _ _ rfl) ?_
          refine r_aload_0 114 rfl (dd_X12_look_0 59 _ _ _ rfl) ?_
          refine m_get 1 hg hM (by unfold z_free; decide) rfl (by decide) (tb_6 57 _ rfl) 117 rfl (dd_X12_look_1 0 _ _ _ rfl) ?_ (fun _ _ _ => rfl)
          try simp (decide := true) only [zu1, if_true, if_false, reduceIte]
          refine r_iconst 118 rfl (dd_X12_look_1 1 _ _ _ rfl) ?_
          refine r_iconst 119 rfl (dd_X12_look_1 2 _ _ _ rfl) ?_
          refine r_callV4 (lvl := 11) (mc1 := 0) (ms1 := 0) 0 0 hg rfl md_X12_latest zc_X12 hM.kd wi_X12_latest wv_X12_latest (tb_7 24 _ rfl) (by decide) (by decide) rfl (Nat.le_of_ble_eq_true rfl) (by decide) (by decide) 122 rfl (dd_X12_look_1 3 _ _ _ rfl) ?_
          refine c_X12_latestI (v := u) hg hI2 hM (by omega) (by omega) (by omega) (by omega) ?_
          dsimp only [zCont, Option.toList, List.cons_append, List.nil_append]
          rw [show zlast (zu1 S.1 2 0, S.2) u (S.1 1) 0 (-1) = zlast S u (S.1 1) 0 (-1) from zlast_ar (S := S) (S2 := (zu1 S.1 2 0, S.2)) rfl]
          refine r_istore_6 124 rfl (by decide) rfl (dd_X12_look_1 4 _ _ _ rfl) ?_
          refine r_iload_2 125 rfl (dd_X12_look_1 5 _ _ _ rfl) ?_
          refine r_ifne (by omega) 128 rfl 154 rfl (dd_X12_look_1 6 _ _ _ rfl) (fun _ => ?_) (fun q => absurd q (by decide))
          refine r_iconst 155 rfl (dd_X12_look_1 19 _ _ _ rfl) ?_
          refine r_goto 159 rfl (dd_X12_look_1 20 _ _ _ rfl) ?_
          refine r_istore_7 161 rfl (by decide) rfl (dd_X12_look_1 22 _ _ _ rfl) ?_
          refine r_iload_7 163 rfl (dd_X12_look_1 23 _ _ _ rfl) ?_
          refine r_ifeq (by omega) 166 rfl 186 rfl (dd_X12_look_1 24 _ _ _ rfl) (fun q => absurd q (by decide)) (fun _ => ?_)
          refine r_iload_6 168 rfl (dd_X12_look_1 25 _ _ _ rfl) ?_
          refine r_iconst 169 rfl (dd_X12_look_1 26 _ _ _ rfl) ?_
          refine r_if_icmpeq (by omega) (by omega) 172 rfl 186 rfl (dd_X12_look_1 27 _ _ _ rfl) (fun hc20 => ?_) (fun hc20 => ?_)
          · refine r_iconst 187 rfl (dd_X12_look_1 35 _ _ _ rfl) ?_
            refine r_ireturn rfl rfl (dd_X12_look_1 36 _ _ _ rfl) ?_
            exact k2 u rfl (by omega) (fun q => by rcases q with ⟨q1, q2, q3⟩; rcases q1 with q1 | ⟨q1, q4⟩ | ⟨q1, q4⟩ <;> first | exact hp q1 | exact hn q1 | exact hl q1 | omega | (rcases q3 with q3 | q3 <;> first | omega | exact hp q3)) _ hM
          · have hpr := hI.prot (zlast S u (S.1 1) 0 (-1)).toNat
            refine r_aload_0 173 rfl (dd_X12_look_1 28 _ _ _ rfl) ?_
            refine m_arr 13 hg hM (by decide) (by decide) (tb_6 69 _ rfl) 176 rfl (dd_X12_look_1 29 _ _ _ rfl) ?_ (fun _ _ _ => rfl)
            refine r_iload_6 178 rfl (dd_X12_look_1 30 _ _ _ rfl) ?_
            refine m_zald 13 ((zlast S u (S.1 1) 0 (-1)).toNat) (by omega) hg hM rfl (by omega) (z_lt (n2 := 10) rfl (by omega)) (by decide) 179 rfl (dd_X12_look_1 31 _ _ _ rfl) ?_
            try simp (decide := true) only [zu2, false_and, and_false, and_true, true_and, and_self, if_true, if_false, reduceIte]
            refine r_ifeq (by omega) 182 rfl 188 rfl (dd_X12_look_1 32 _ _ _ rfl) (fun hc21 => ?_) (fun hc21 => ?_)
            · refine r_aload_0 189 rfl (dd_X12_look_1 37 _ _ _ rfl) ?_
              refine m_arr 14 hg hM (by decide) (by decide) (tb_6 70 _ rfl) 192 rfl (dd_X12_look_1 38 _ _ _ rfl) ?_ (fun _ _ _ => rfl)
              refine r_iload_6 194 rfl (dd_X12_look_1 39 _ _ _ rfl) ?_
              refine r_dup2 rfl rfl 195 rfl (dd_X12_look_1 40 _ _ _ rfl) ?_
              refine m_iald 14 ((zlast S u (S.1 1) 0 (-1)).toNat) (by omega) hg hM rfl (by omega) (z_lt (n2 := 10) rfl (by omega)) (by decide) 196 rfl (dd_X12_look_1 41 _ _ _ rfl) ?_
              try simp (decide := true) only [zu2, false_and, and_false, and_true, true_and, and_self, if_true, if_false, reduceIte]
              refine r_iconst 197 rfl (dd_X12_look_1 42 _ _ _ rfl) ?_
              refine r_iadd 198 rfl (dd_X12_look_1 43 _ _ _ rfl) ?_
              refine m_iast 14 ((zlast S u (S.1 1) 0 (-1)).toNat) (by omega) hg hM rfl (by omega) (z_lt (n2 := 10) rfl (by omega)) (by decide) 199 rfl (dd_X12_look_1 44 _ _ _ rfl) (fun h22 hM => ?_)
              refine r_iload_6 201 rfl (dd_X12_look_1 45 _ _ _ rfl) ?_
              refine r_ireturn rfl rfl (dd_X12_look_1 46 _ _ _ rfl) ?_
              exact k0 u rfl (by omega) ⟨by first | exact Or.inl hp | exact Or.inr (Or.inl ⟨hn, by omega⟩) | exact Or.inr (Or.inr ⟨hl, by omega⟩), by omega, by first | exact Or.inl (by omega) | exact Or.inr hp⟩ _ hM
            · refine r_iload_2 183 rfl (dd_X12_look_1 33 _ _ _ rfl) ?_
              refine r_ifne (by omega) 186 rfl 188 rfl (dd_X12_look_1 34 _ _ _ rfl) (fun _ => ?_) (fun q => absurd q (by decide))
              refine r_aload_0 189 rfl (dd_X12_look_1 37 _ _ _ rfl) ?_
              refine m_arr 14 hg hM (by decide) (by decide) (tb_6 70 _ rfl) 192 rfl (dd_X12_look_1 38 _ _ _ rfl) ?_ (fun _ _ _ => rfl)
              refine r_iload_6 194 rfl (dd_X12_look_1 39 _ _ _ rfl) ?_
              refine r_dup2 rfl rfl 195 rfl (dd_X12_look_1 40 _ _ _ rfl) ?_
              refine m_iald 14 ((zlast S u (S.1 1) 0 (-1)).toNat) (by omega) hg hM rfl (by omega) (z_lt (n2 := 10) rfl (by omega)) (by decide) 196 rfl (dd_X12_look_1 41 _ _ _ rfl) ?_
              try simp (decide := true) only [zu2, false_and, and_false, and_true, true_and, and_self, if_true, if_false, reduceIte]
              refine r_iconst 197 rfl (dd_X12_look_1 42 _ _ _ rfl) ?_
              refine r_iadd 198 rfl (dd_X12_look_1 43 _ _ _ rfl) ?_
              refine m_iast 14 ((zlast S u (S.1 1) 0 (-1)).toNat) (by omega) hg hM rfl (by omega) (z_lt (n2 := 10) rfl (by omega)) (by decide) 199 rfl (dd_X12_look_1 44 _ _ _ rfl) (fun h23 hM => ?_)
              refine r_iload_6 201 rfl (dd_X12_look_1 45 _ _ _ rfl) ?_
              refine r_ireturn rfl rfl (dd_X12_look_1 46 _ _ _ rfl) ?_
              exact k0 u rfl (by omega) ⟨by first | exact Or.inl hp | exact Or.inr (Or.inl ⟨hn, by omega⟩) | exact Or.inr (Or.inr ⟨hl, by omega⟩), by omega, by first | exact Or.inl (by omega) | exact Or.inr hp⟩ _ hM
        · dsimp only [zCont, Option.toList, List.cons_append, List.nil_append]
          refine r_istore_4 95 rfl (by decide) rfl (dd_X12_look_0 47 _ _ _ rfl) ?_
          refine r_aload_0 96 rfl (dd_X12_look_0 48 _ _ _ rfl) ?_
          refine r_iconst 97 rfl (dd_X12_look_0 49 _ _ _ rfl) ?_
          refine m_put 2 hg hM rfl (by decide) (by decide) rfl (fun _ _ _ => rfl) rfl rfl (tb_6 58 _ rfl) 100 rfl (dd_X12_look_0 50 _ _ _ rfl) (fun h25 hM => ?_)
          have hI2 : MInv n (zu1 S.1 2 0, S.2) := MInv.s2 (sc := S.1) (ar := S.2) hI (by decide)
          have hs9 := zstate_range S u (S.1 1)
          have hk9 := zlast_range (v := u) (w := S.1 1) (its := 0) (wo := -1) hI (by decide)
          refine r_aload_0 101 rfl (dd_X12_look_0 51 _ _ _ rfl) ?_
          refine r_iload_1 102 rfl (dd_X12_look_0 52 _ _ _ rfl) ?_
          refine r_aload_0 103 rfl (dd_X12_look_0 53 _ _ _ rfl) ?_
          refine m_get 1 hg hM (by unfold z_free; decide) rfl (by decide) (tb_6 57 _ rfl) 106 rfl (dd_X12_look_0 54 _ _ _ rfl) ?_ (fun _ _ _ => rfl)
          try simp (decide := true) only [zu1, if_true, if_false, reduceIte]
          refine r_callV2 (lvl := 11) (mc1 := 0) (ms1 := 0) 0 0 hg rfl md_X12_stateOn zc_X12 hM.kd wi_X12_stateOn wv_X12_stateOn (tb_7 16 _ rfl) (by decide) (by decide) rfl (Nat.le_of_ble_eq_true rfl) (by decide) (by decide) 109 rfl (dd_X12_look_0 55 _ _ _ rfl) ?_
          refine c_X12_stateOn (v := u) hg hI2 hM (by omega) (by omega) (fun h26 hM => ?_)
          dsimp only [zCont, Option.toList, List.cons_append, List.nil_append]
          rw [show zstate (zu1 S.1 2 0, S.2) u (S.1 1) = zstate S u (S.1 1) from zstate_ar (S := S) (S2 := (zu1 S.1 2 0, S.2)) rfl]
          refine r_istore_5 111 rfl (by decide) rfl (dd_X12_look_0 56 _ _ _ rfl) ?_
          refine r_aload_0 112 rfl (dd_X12_look_0 57 _ _ _ rfl) ?_
          refine r_iload_1 113 rfl (dd_X12_look_0 58 _ _ _ rfl) ?_
          refine r_aload_0 114 rfl (dd_X12_look_0 59 _ _ _ rfl) ?_
          refine m_get 1 hg hM (by unfold z_free; decide) rfl (by decide) (tb_6 57 _ rfl) 117 rfl (dd_X12_look_1 0 _ _ _ rfl) ?_ (fun _ _ _ => rfl)
          try simp (decide := true) only [zu1, if_true, if_false, reduceIte]
          refine r_iconst 118 rfl (dd_X12_look_1 1 _ _ _ rfl) ?_
          refine r_iconst 119 rfl (dd_X12_look_1 2 _ _ _ rfl) ?_
          refine r_callV4 (lvl := 11) (mc1 := 0) (ms1 := 0) 0 0 hg rfl md_X12_latest zc_X12 hM.kd wi_X12_latest wv_X12_latest (tb_7 24 _ rfl) (by decide) (by decide) rfl (Nat.le_of_ble_eq_true rfl) (by decide) (by decide) 122 rfl (dd_X12_look_1 3 _ _ _ rfl) ?_
          refine c_X12_latestI (v := u) hg hI2 hM (by omega) (by omega) (by omega) (by omega) ?_
          dsimp only [zCont, Option.toList, List.cons_append, List.nil_append]
          rw [show zlast (zu1 S.1 2 0, S.2) u (S.1 1) 0 (-1) = zlast S u (S.1 1) 0 (-1) from zlast_ar (S := S) (S2 := (zu1 S.1 2 0, S.2)) rfl]
          refine r_istore_6 124 rfl (by decide) rfl (dd_X12_look_1 4 _ _ _ rfl) ?_
          refine r_iload_2 125 rfl (dd_X12_look_1 5 _ _ _ rfl) ?_
          refine r_ifne (by omega) 128 rfl 154 rfl (dd_X12_look_1 6 _ _ _ rfl) (fun _ => ?_) (fun q => absurd q (by decide))
          refine r_iconst 155 rfl (dd_X12_look_1 19 _ _ _ rfl) ?_
          refine r_goto 159 rfl (dd_X12_look_1 20 _ _ _ rfl) ?_
          refine r_istore_7 161 rfl (by decide) rfl (dd_X12_look_1 22 _ _ _ rfl) ?_
          refine r_iload_7 163 rfl (dd_X12_look_1 23 _ _ _ rfl) ?_
          refine r_ifeq (by omega) 166 rfl 186 rfl (dd_X12_look_1 24 _ _ _ rfl) (fun q => absurd q (by decide)) (fun _ => ?_)
          refine r_iload_6 168 rfl (dd_X12_look_1 25 _ _ _ rfl) ?_
          refine r_iconst 169 rfl (dd_X12_look_1 26 _ _ _ rfl) ?_
          refine r_if_icmpeq (by omega) (by omega) 172 rfl 186 rfl (dd_X12_look_1 27 _ _ _ rfl) (fun hc27 => ?_) (fun hc27 => ?_)
          · refine r_iconst 187 rfl (dd_X12_look_1 35 _ _ _ rfl) ?_
            refine r_ireturn rfl rfl (dd_X12_look_1 36 _ _ _ rfl) ?_
            exact k2 u rfl (by omega) (fun q => by rcases q with ⟨q1, q2, q3⟩; rcases q1 with q1 | ⟨q1, q4⟩ | ⟨q1, q4⟩ <;> first | exact hp q1 | exact hn q1 | exact hl q1 | omega | (rcases q3 with q3 | q3 <;> first | omega | exact hp q3)) _ hM
          · have hpr := hI.prot (zlast S u (S.1 1) 0 (-1)).toNat
            refine r_aload_0 173 rfl (dd_X12_look_1 28 _ _ _ rfl) ?_
            refine m_arr 13 hg hM (by decide) (by decide) (tb_6 69 _ rfl) 176 rfl (dd_X12_look_1 29 _ _ _ rfl) ?_ (fun _ _ _ => rfl)
            refine r_iload_6 178 rfl (dd_X12_look_1 30 _ _ _ rfl) ?_
            refine m_zald 13 ((zlast S u (S.1 1) 0 (-1)).toNat) (by omega) hg hM rfl (by omega) (z_lt (n2 := 10) rfl (by omega)) (by decide) 179 rfl (dd_X12_look_1 31 _ _ _ rfl) ?_
            try simp (decide := true) only [zu2, false_and, and_false, and_true, true_and, and_self, if_true, if_false, reduceIte]
            refine r_ifeq (by omega) 182 rfl 188 rfl (dd_X12_look_1 32 _ _ _ rfl) (fun hc28 => ?_) (fun hc28 => ?_)
            · refine r_aload_0 189 rfl (dd_X12_look_1 37 _ _ _ rfl) ?_
              refine m_arr 14 hg hM (by decide) (by decide) (tb_6 70 _ rfl) 192 rfl (dd_X12_look_1 38 _ _ _ rfl) ?_ (fun _ _ _ => rfl)
              refine r_iload_6 194 rfl (dd_X12_look_1 39 _ _ _ rfl) ?_
              refine r_dup2 rfl rfl 195 rfl (dd_X12_look_1 40 _ _ _ rfl) ?_
              refine m_iald 14 ((zlast S u (S.1 1) 0 (-1)).toNat) (by omega) hg hM rfl (by omega) (z_lt (n2 := 10) rfl (by omega)) (by decide) 196 rfl (dd_X12_look_1 41 _ _ _ rfl) ?_
              try simp (decide := true) only [zu2, false_and, and_false, and_true, true_and, and_self, if_true, if_false, reduceIte]
              refine r_iconst 197 rfl (dd_X12_look_1 42 _ _ _ rfl) ?_
              refine r_iadd 198 rfl (dd_X12_look_1 43 _ _ _ rfl) ?_
              refine m_iast 14 ((zlast S u (S.1 1) 0 (-1)).toNat) (by omega) hg hM rfl (by omega) (z_lt (n2 := 10) rfl (by omega)) (by decide) 199 rfl (dd_X12_look_1 44 _ _ _ rfl) (fun h29 hM => ?_)
              refine r_iload_6 201 rfl (dd_X12_look_1 45 _ _ _ rfl) ?_
              refine r_ireturn rfl rfl (dd_X12_look_1 46 _ _ _ rfl) ?_
              exact k0 u rfl (by omega) ⟨by first | exact Or.inl hp | exact Or.inr (Or.inl ⟨hn, by omega⟩) | exact Or.inr (Or.inr ⟨hl, by omega⟩), by omega, by first | exact Or.inl (by omega) | exact Or.inr hp⟩ _ hM
            · refine r_iload_2 183 rfl (dd_X12_look_1 33 _ _ _ rfl) ?_
              refine r_ifne (by omega) 186 rfl 188 rfl (dd_X12_look_1 34 _ _ _ rfl) (fun _ => ?_) (fun q => absurd q (by decide))
              refine r_aload_0 189 rfl (dd_X12_look_1 37 _ _ _ rfl) ?_
              refine m_arr 14 hg hM (by decide) (by decide) (tb_6 70 _ rfl) 192 rfl (dd_X12_look_1 38 _ _ _ rfl) ?_ (fun _ _ _ => rfl)
              refine r_iload_6 194 rfl (dd_X12_look_1 39 _ _ _ rfl) ?_
              refine r_dup2 rfl rfl 195 rfl (dd_X12_look_1 40 _ _ _ rfl) ?_
              refine m_iald 14 ((zlast S u (S.1 1) 0 (-1)).toNat) (by omega) hg hM rfl (by omega) (z_lt (n2 := 10) rfl (by omega)) (by decide) 196 rfl (dd_X12_look_1 41 _ _ _ rfl) ?_
              try simp (decide := true) only [zu2, false_and, and_false, and_true, true_and, and_self, if_true, if_false, reduceIte]
              refine r_iconst 197 rfl (dd_X12_look_1 42 _ _ _ rfl) ?_
              refine r_iadd 198 rfl (dd_X12_look_1 43 _ _ _ rfl) ?_
              refine m_iast 14 ((zlast S u (S.1 1) 0 (-1)).toNat) (by omega) hg hM rfl (by omega) (z_lt (n2 := 10) rfl (by omega)) (by decide) 199 rfl (dd_X12_look_1 44 _ _ _ rfl) (fun h30 hM => ?_)
              refine r_iload_6 201 rfl (dd_X12_look_1 45 _ _ _ rfl) ?_
              refine r_ireturn rfl rfl (dd_X12_look_1 46 _ _ _ rfl) ?_
              exact k0 u rfl (by omega) ⟨by first | exact Or.inl hp | exact Or.inr (Or.inl ⟨hn, by omega⟩) | exact Or.inr (Or.inr ⟨hl, by omega⟩), by omega, by first | exact Or.inl (by omega) | exact Or.inr hp⟩ _ hM
    · dsimp only [zCont, Option.toList, List.cons_append, List.nil_append]
      refine r_istore_2 46 rfl (by decide) rfl (dd_X12_look_0 23 _ _ _ rfl) ?_
      refine r_aload_0 47 rfl (dd_X12_look_0 24 _ _ _ rfl) ?_
      refine r_bipush (by decide) 49 rfl (dd_X12_look_0 25 _ _ _ rfl) ?_
      refine r_bipush (by decide) 51 rfl (dd_X12_look_0 26 _ _ _ rfl) ?_
      refine r_bipush (by decide) 53 rfl (dd_X12_look_0 27 _ _ _ rfl) ?_
      refine r_bipush (by decide) 55 rfl (dd_X12_look_0 28 _ _ _ rfl) ?_
      refine r_bipush (by decide) 57 rfl (dd_X12_look_0 29 _ _ _ rfl) ?_
      refine r_bipush (by decide) 59 rfl (dd_X12_look_0 30 _ _ _ rfl) ?_
      refine r_bipush (by decide) 61 rfl (dd_X12_look_0 31 _ _ _ rfl) ?_
      refine r_callS7 (lvl := 10) (mc1 := 0) (ms1 := 0) 0 0 hg rfl md_X12_word ws_X12_word (tb_7 180 _ rfl) (by decide) (by decide) rfl (Nat.le_of_ble_eq_true rfl) (by decide) (by decide) 64 rfl (dd_X12_look_0 32 _ _ _ rfl) ?_
      refine c_X12_word hg (by decide) (by decide) (by decide) (by decide) (by decide) (by decide) (by decide) ?_
      dsimp only [zCont, Option.toList, List.cons_append, List.nil_append]
      refine r_topl (18406328744) (by decide +kernel) ?_
      refine r_bipush (by decide) 66 rfl (dd_X12_look_0 33 _ _ _ rfl) ?_
      refine r_callV2 (lvl := 10) (mc1 := 0) (ms1 := 0) 0 0 hg rfl md_X12_isWord zc_X12 hM.kd wi_X12_isWord wv_X12_isWord (tb_7 183 _ rfl) (by decide) (by decide) rfl (Nat.le_of_ble_eq_true rfl) (by decide) (by decide) 69 rfl (dd_X12_look_0 34 _ _ _ rfl) ?_
      refine c_X12_isWord (W := 18406328744) (mn := 7) hg hI hM (by decide) (by decide) (fun hn => ?_) (fun hn => ?_)
      · dsimp only [zCont, Option.toList, List.cons_append, List.nil_append]
        refine r_istore_3 70 rfl (by decide) rfl (dd_X12_look_0 35 _ _ _ rfl) ?_
        refine r_aload_0 71 rfl (dd_X12_look_0 36 _ _ _ rfl) ?_
        refine r_bipush (by decide) 73 rfl (dd_X12_look_0 37 _ _ _ rfl) ?_
        refine r_bipush (by decide) 75 rfl (dd_X12_look_0 38 _ _ _ rfl) ?_
        refine r_bipush (by decide) 77 rfl (dd_X12_look_0 39 _ _ _ rfl) ?_
        refine r_bipush (by decide) 79 rfl (dd_X12_look_0 40 _ _ _ rfl) ?_
        refine r_bipush (by decide) 81 rfl (dd_X12_look_0 41 _ _ _ rfl) ?_
        refine r_bipush (by decide) 83 rfl (dd_X12_look_0 42 _ _ _ rfl) ?_
        refine r_bipush (by decide) 85 rfl (dd_X12_look_0 43 _ _ _ rfl) ?_
        refine r_callS7 (lvl := 10) (mc1 := 0) (ms1 := 0) 0 0 hg rfl md_X12_word ws_X12_word (tb_7 180 _ rfl) (by decide) (by decide) rfl (Nat.le_of_ble_eq_true rfl) (by decide) (by decide) 88 rfl (dd_X12_look_0 44 _ _ _ rfl) ?_
        refine c_X12_word hg (by decide) (by decide) (by decide) (by decide) (by decide) (by decide) (by decide) ?_
        dsimp only [zCont, Option.toList, List.cons_append, List.nil_append]
        refine r_topl (18403950946) (by decide +kernel) ?_
        refine r_bipush (by decide) 90 rfl (dd_X12_look_0 45 _ _ _ rfl) ?_
        refine r_callV2 (lvl := 10) (mc1 := 0) (ms1 := 0) 0 0 hg rfl md_X12_isWord zc_X12 hM.kd wi_X12_isWord wv_X12_isWord (tb_7 183 _ rfl) (by decide) (by decide) rfl (Nat.le_of_ble_eq_true rfl) (by decide) (by decide) 93 rfl (dd_X12_look_0 46 _ _ _ rfl) ?_
        refine c_X12_isWord (W := 18403950946) (mn := 7) hg hI hM (by decide) (by decide) (fun hl => ?_) (fun hl => ?_)
        · dsimp only [zCont, Option.toList, List.cons_append, List.nil_append]
          refine r_istore_4 95 rfl (by decide) rfl (dd_X12_look_0 47 _ _ _ rfl) ?_
          refine r_aload_0 96 rfl (dd_X12_look_0 48 _ _ _ rfl) ?_
          refine r_iconst 97 rfl (dd_X12_look_0 49 _ _ _ rfl) ?_
          refine m_put 2 hg hM rfl (by decide) (by decide) rfl (fun _ _ _ => rfl) rfl rfl (tb_6 58 _ rfl) 100 rfl (dd_X12_look_0 50 _ _ _ rfl) (fun h32 hM => ?_)
          have hI2 : MInv n (zu1 S.1 2 0, S.2) := MInv.s2 (sc := S.1) (ar := S.2) hI (by decide)
          have hs9 := zstate_range S u (S.1 1)
          have hk9 := zlast_range (v := u) (w := S.1 1) (its := 0) (wo := -1) hI (by decide)
          refine r_aload_0 101 rfl (dd_X12_look_0 51 _ _ _ rfl) ?_
          refine r_iload_1 102 rfl (dd_X12_look_0 52 _ _ _ rfl) ?_
          refine r_aload_0 103 rfl (dd_X12_look_0 53 _ _ _ rfl) ?_
          refine m_get 1 hg hM (by unfold z_free; decide) rfl (by decide) (tb_6 57 _ rfl) 106 rfl (dd_X12_look_0 54 _ _ _ rfl) ?_ (fun _ _ _ => rfl)
          try simp (decide := true) only [zu1, if_true, if_false, reduceIte]
          refine r_callV2 (lvl := 11) (mc1 := 0) (ms1 := 0) 0 0 hg rfl md_X12_stateOn zc_X12 hM.kd wi_X12_stateOn wv_X12_stateOn (tb_7 16 _ rfl) (by decide) (by decide) rfl (Nat.le_of_ble_eq_true rfl) (by decide) (by decide) 109 rfl (dd_X12_look_0 55 _ _ _ rfl) ?_
          refine c_X12_stateOn (v := u) hg hI2 hM (by omega) (by omega) (fun h33 hM => ?_)
          dsimp only [zCont, Option.toList, List.cons_append, List.nil_append]
          rw [show zstate (zu1 S.1 2 0, S.2) u (S.1 1) = zstate S u (S.1 1) from zstate_ar (S := S) (S2 := (zu1 S.1 2 0, S.2)) rfl]
          refine r_istore_5 111 rfl (by decide) rfl (dd_X12_look_0 56 _ _ _ rfl) ?_
          refine r_aload_0 112 rfl (dd_X12_look_0 57 _ _ _ rfl) ?_
          refine r_iload_1 113 rfl (dd_X12_look_0 58 _ _ _ rfl) ?_
          refine r_aload_0 114 rfl (dd_X12_look_0 59 _ _ _ rfl) ?_
          refine m_get 1 hg hM (by unfold z_free; decide) rfl (by decide) (tb_6 57 _ rfl) 117 rfl (dd_X12_look_1 0 _ _ _ rfl) ?_ (fun _ _ _ => rfl)
          try simp (decide := true) only [zu1, if_true, if_false, reduceIte]
          refine r_iconst 118 rfl (dd_X12_look_1 1 _ _ _ rfl) ?_
          refine r_iconst 119 rfl (dd_X12_look_1 2 _ _ _ rfl) ?_
          refine r_callV4 (lvl := 11) (mc1 := 0) (ms1 := 0) 0 0 hg rfl md_X12_latest zc_X12 hM.kd wi_X12_latest wv_X12_latest (tb_7 24 _ rfl) (by decide) (by decide) rfl (Nat.le_of_ble_eq_true rfl) (by decide) (by decide) 122 rfl (dd_X12_look_1 3 _ _ _ rfl) ?_
          refine c_X12_latestI (v := u) hg hI2 hM (by omega) (by omega) (by omega) (by omega) ?_
          dsimp only [zCont, Option.toList, List.cons_append, List.nil_append]
          rw [show zlast (zu1 S.1 2 0, S.2) u (S.1 1) 0 (-1) = zlast S u (S.1 1) 0 (-1) from zlast_ar (S := S) (S2 := (zu1 S.1 2 0, S.2)) rfl]
          refine r_istore_6 124 rfl (by decide) rfl (dd_X12_look_1 4 _ _ _ rfl) ?_
          refine r_iload_2 125 rfl (dd_X12_look_1 5 _ _ _ rfl) ?_
          refine r_ifne (by omega) 128 rfl 154 rfl (dd_X12_look_1 6 _ _ _ rfl) (fun q => absurd q (by decide)) (fun _ => ?_)
          refine r_iload_3 129 rfl (dd_X12_look_1 7 _ _ _ rfl) ?_
          refine r_ifeq (by omega) 132 rfl 138 rfl (dd_X12_look_1 8 _ _ _ rfl) (fun q => absurd q (by decide)) (fun _ => ?_)
          refine r_iload_5 134 rfl (dd_X12_look_1 9 _ _ _ rfl) ?_
          refine r_iconst 135 rfl (dd_X12_look_1 10 _ _ _ rfl) ?_
          refine r_if_icmpeq (by omega) (by omega) 138 rfl 154 rfl (dd_X12_look_1 11 _ _ _ rfl) (fun hc34 => ?_) (fun hc34 => ?_)
          · refine r_iconst 155 rfl (dd_X12_look_1 19 _ _ _ rfl) ?_
            refine r_goto 159 rfl (dd_X12_look_1 20 _ _ _ rfl) ?_
            refine r_istore_7 161 rfl (by decide) rfl (dd_X12_look_1 22 _ _ _ rfl) ?_
            refine r_iload_7 163 rfl (dd_X12_look_1 23 _ _ _ rfl) ?_
            refine r_ifeq (by omega) 166 rfl 186 rfl (dd_X12_look_1 24 _ _ _ rfl) (fun q => absurd q (by decide)) (fun _ => ?_)
            refine r_iload_6 168 rfl (dd_X12_look_1 25 _ _ _ rfl) ?_
            refine r_iconst 169 rfl (dd_X12_look_1 26 _ _ _ rfl) ?_
            refine r_if_icmpeq (by omega) (by omega) 172 rfl 186 rfl (dd_X12_look_1 27 _ _ _ rfl) (fun hc35 => ?_) (fun hc35 => ?_)
            · refine r_iconst 187 rfl (dd_X12_look_1 35 _ _ _ rfl) ?_
              refine r_ireturn rfl rfl (dd_X12_look_1 36 _ _ _ rfl) ?_
              exact k2 u rfl (by omega) (fun q => by rcases q with ⟨q1, q2, q3⟩; rcases q1 with q1 | ⟨q1, q4⟩ | ⟨q1, q4⟩ <;> first | exact hp q1 | exact hn q1 | exact hl q1 | omega | (rcases q3 with q3 | q3 <;> first | omega | exact hp q3)) _ hM
            · have hpr := hI.prot (zlast S u (S.1 1) 0 (-1)).toNat
              refine r_aload_0 173 rfl (dd_X12_look_1 28 _ _ _ rfl) ?_
              refine m_arr 13 hg hM (by decide) (by decide) (tb_6 69 _ rfl) 176 rfl (dd_X12_look_1 29 _ _ _ rfl) ?_ (fun _ _ _ => rfl)
              refine r_iload_6 178 rfl (dd_X12_look_1 30 _ _ _ rfl) ?_
              refine m_zald 13 ((zlast S u (S.1 1) 0 (-1)).toNat) (by omega) hg hM rfl (by omega) (z_lt (n2 := 10) rfl (by omega)) (by decide) 179 rfl (dd_X12_look_1 31 _ _ _ rfl) ?_
              try simp (decide := true) only [zu2, false_and, and_false, and_true, true_and, and_self, if_true, if_false, reduceIte]
              refine r_ifeq (by omega) 182 rfl 188 rfl (dd_X12_look_1 32 _ _ _ rfl) (fun hc36 => ?_) (fun hc36 => ?_)
              · refine r_aload_0 189 rfl (dd_X12_look_1 37 _ _ _ rfl) ?_
                refine m_arr 14 hg hM (by decide) (by decide) (tb_6 70 _ rfl) 192 rfl (dd_X12_look_1 38 _ _ _ rfl) ?_ (fun _ _ _ => rfl)
                refine r_iload_6 194 rfl (dd_X12_look_1 39 _ _ _ rfl) ?_
                refine r_dup2 rfl rfl 195 rfl (dd_X12_look_1 40 _ _ _ rfl) ?_
                refine m_iald 14 ((zlast S u (S.1 1) 0 (-1)).toNat) (by omega) hg hM rfl (by omega) (z_lt (n2 := 10) rfl (by omega)) (by decide) 196 rfl (dd_X12_look_1 41 _ _ _ rfl) ?_
                try simp (decide := true) only [zu2, false_and, and_false, and_true, true_and, and_self, if_true, if_false, reduceIte]
                refine r_iconst 197 rfl (dd_X12_look_1 42 _ _ _ rfl) ?_
                refine r_iadd 198 rfl (dd_X12_look_1 43 _ _ _ rfl) ?_
                refine m_iast 14 ((zlast S u (S.1 1) 0 (-1)).toNat) (by omega) hg hM rfl (by omega) (z_lt (n2 := 10) rfl (by omega)) (by decide) 199 rfl (dd_X12_look_1 44 _ _ _ rfl) (fun h37 hM => ?_)
                refine r_iload_6 201 rfl (dd_X12_look_1 45 _ _ _ rfl) ?_
                refine r_ireturn rfl rfl (dd_X12_look_1 46 _ _ _ rfl) ?_
                exact k0 u rfl (by omega) ⟨by first | exact Or.inl hp | exact Or.inr (Or.inl ⟨hn, by omega⟩) | exact Or.inr (Or.inr ⟨hl, by omega⟩), by omega, by first | exact Or.inl (by omega) | exact Or.inr hp⟩ _ hM
              · refine r_iload_2 183 rfl (dd_X12_look_1 33 _ _ _ rfl) ?_
                refine r_ifne (by omega) 186 rfl 188 rfl (dd_X12_look_1 34 _ _ _ rfl) (fun q => absurd q (by decide)) (fun _ => ?_)
                refine r_iconst 187 rfl (dd_X12_look_1 35 _ _ _ rfl) ?_
                refine r_ireturn rfl rfl (dd_X12_look_1 36 _ _ _ rfl) ?_
                exact k2 u rfl (by omega) (fun q => by rcases q with ⟨q1, q2, q3⟩; rcases q1 with q1 | ⟨q1, q4⟩ | ⟨q1, q4⟩ <;> first | exact hp q1 | exact hn q1 | exact hl q1 | omega | (rcases q3 with q3 | q3 <;> first | omega | exact hp q3)) _ hM
          · refine r_iload_4 140 rfl (dd_X12_look_1 12 _ _ _ rfl) ?_
            refine r_ifeq (by omega) 143 rfl 158 rfl (dd_X12_look_1 13 _ _ _ rfl) (fun q => absurd q (by decide)) (fun _ => ?_)
            refine r_iload_5 145 rfl (dd_X12_look_1 14 _ _ _ rfl) ?_
            refine r_iconst 146 rfl (dd_X12_look_1 15 _ _ _ rfl) ?_
            refine r_if_icmpeq (by omega) (by omega) 149 rfl 154 rfl (dd_X12_look_1 16 _ _ _ rfl) (fun hc38 => ?_) (fun hc38 => ?_)
            · refine r_iconst 155 rfl (dd_X12_look_1 19 _ _ _ rfl) ?_
              refine r_goto 159 rfl (dd_X12_look_1 20 _ _ _ rfl) ?_
              refine r_istore_7 161 rfl (by decide) rfl (dd_X12_look_1 22 _ _ _ rfl) ?_
              refine r_iload_7 163 rfl (dd_X12_look_1 23 _ _ _ rfl) ?_
              refine r_ifeq (by omega) 166 rfl 186 rfl (dd_X12_look_1 24 _ _ _ rfl) (fun q => absurd q (by decide)) (fun _ => ?_)
              refine r_iload_6 168 rfl (dd_X12_look_1 25 _ _ _ rfl) ?_
              refine r_iconst 169 rfl (dd_X12_look_1 26 _ _ _ rfl) ?_
              refine r_if_icmpeq (by omega) (by omega) 172 rfl 186 rfl (dd_X12_look_1 27 _ _ _ rfl) (fun hc39 => ?_) (fun hc39 => ?_)
              · refine r_iconst 187 rfl (dd_X12_look_1 35 _ _ _ rfl) ?_
                refine r_ireturn rfl rfl (dd_X12_look_1 36 _ _ _ rfl) ?_
                exact k2 u rfl (by omega) (fun q => by rcases q with ⟨q1, q2, q3⟩; rcases q1 with q1 | ⟨q1, q4⟩ | ⟨q1, q4⟩ <;> first | exact hp q1 | exact hn q1 | exact hl q1 | omega | (rcases q3 with q3 | q3 <;> first | omega | exact hp q3)) _ hM
              · have hpr := hI.prot (zlast S u (S.1 1) 0 (-1)).toNat
                refine r_aload_0 173 rfl (dd_X12_look_1 28 _ _ _ rfl) ?_
                refine m_arr 13 hg hM (by decide) (by decide) (tb_6 69 _ rfl) 176 rfl (dd_X12_look_1 29 _ _ _ rfl) ?_ (fun _ _ _ => rfl)
                refine r_iload_6 178 rfl (dd_X12_look_1 30 _ _ _ rfl) ?_
                refine m_zald 13 ((zlast S u (S.1 1) 0 (-1)).toNat) (by omega) hg hM rfl (by omega) (z_lt (n2 := 10) rfl (by omega)) (by decide) 179 rfl (dd_X12_look_1 31 _ _ _ rfl) ?_
                try simp (decide := true) only [zu2, false_and, and_false, and_true, true_and, and_self, if_true, if_false, reduceIte]
                refine r_ifeq (by omega) 182 rfl 188 rfl (dd_X12_look_1 32 _ _ _ rfl) (fun hc40 => ?_) (fun hc40 => ?_)
                · refine r_aload_0 189 rfl (dd_X12_look_1 37 _ _ _ rfl) ?_
                  refine m_arr 14 hg hM (by decide) (by decide) (tb_6 70 _ rfl) 192 rfl (dd_X12_look_1 38 _ _ _ rfl) ?_ (fun _ _ _ => rfl)
                  refine r_iload_6 194 rfl (dd_X12_look_1 39 _ _ _ rfl) ?_
                  refine r_dup2 rfl rfl 195 rfl (dd_X12_look_1 40 _ _ _ rfl) ?_
                  refine m_iald 14 ((zlast S u (S.1 1) 0 (-1)).toNat) (by omega) hg hM rfl (by omega) (z_lt (n2 := 10) rfl (by omega)) (by decide) 196 rfl (dd_X12_look_1 41 _ _ _ rfl) ?_
                  try simp (decide := true) only [zu2, false_and, and_false, and_true, true_and, and_self, if_true, if_false, reduceIte]
                  refine r_iconst 197 rfl (dd_X12_look_1 42 _ _ _ rfl) ?_
                  refine r_iadd 198 rfl (dd_X12_look_1 43 _ _ _ rfl) ?_
                  refine m_iast 14 ((zlast S u (S.1 1) 0 (-1)).toNat) (by omega) hg hM rfl (by omega) (z_lt (n2 := 10) rfl (by omega)) (by decide) 199 rfl (dd_X12_look_1 44 _ _ _ rfl) (fun h41 hM => ?_)
                  refine r_iload_6 201 rfl (dd_X12_look_1 45 _ _ _ rfl) ?_
                  refine r_ireturn rfl rfl (dd_X12_look_1 46 _ _ _ rfl) ?_
                  exact k0 u rfl (by omega) ⟨by first | exact Or.inl hp | exact Or.inr (Or.inl ⟨hn, by omega⟩) | exact Or.inr (Or.inr ⟨hl, by omega⟩), by omega, by first | exact Or.inl (by omega) | exact Or.inr hp⟩ _ hM
                · refine r_iload_2 183 rfl (dd_X12_look_1 33 _ _ _ rfl) ?_
                  refine r_ifne (by omega) 186 rfl 188 rfl (dd_X12_look_1 34 _ _ _ rfl) (fun q => absurd q (by decide)) (fun _ => ?_)
                  refine r_iconst 187 rfl (dd_X12_look_1 35 _ _ _ rfl) ?_
                  refine r_ireturn rfl rfl (dd_X12_look_1 36 _ _ _ rfl) ?_
                  exact k2 u rfl (by omega) (fun q => by rcases q with ⟨q1, q2, q3⟩; rcases q1 with q1 | ⟨q1, q4⟩ | ⟨q1, q4⟩ <;> first | exact hp q1 | exact hn q1 | exact hl q1 | omega | (rcases q3 with q3 | q3 <;> first | omega | exact hp q3)) _ hM
            · refine r_iload_5 151 rfl (dd_X12_look_1 17 _ _ _ rfl) ?_
              refine r_ifne (by omega) 154 rfl 158 rfl (dd_X12_look_1 18 _ _ _ rfl) (fun hc42 => ?_) (fun hc42 => ?_)
              · refine r_iconst 159 rfl (dd_X12_look_1 21 _ _ _ rfl) ?_
                refine r_istore_7 161 rfl (by decide) rfl (dd_X12_look_1 22 _ _ _ rfl) ?_
                refine r_iload_7 163 rfl (dd_X12_look_1 23 _ _ _ rfl) ?_
                refine r_ifeq (by omega) 166 rfl 186 rfl (dd_X12_look_1 24 _ _ _ rfl) (fun _ => ?_) (fun q => absurd q (by decide))
                refine r_iconst 187 rfl (dd_X12_look_1 35 _ _ _ rfl) ?_
                refine r_ireturn rfl rfl (dd_X12_look_1 36 _ _ _ rfl) ?_
                exact k2 u rfl (by omega) (fun q => by rcases q with ⟨q1, q2, q3⟩; rcases q1 with q1 | ⟨q1, q4⟩ | ⟨q1, q4⟩ <;> first | exact hp q1 | exact hn q1 | exact hl q1 | omega | (rcases q3 with q3 | q3 <;> first | omega | exact hp q3)) _ hM
              · refine r_iconst 155 rfl (dd_X12_look_1 19 _ _ _ rfl) ?_
                refine r_goto 159 rfl (dd_X12_look_1 20 _ _ _ rfl) ?_
                refine r_istore_7 161 rfl (by decide) rfl (dd_X12_look_1 22 _ _ _ rfl) ?_
                refine r_iload_7 163 rfl (dd_X12_look_1 23 _ _ _ rfl) ?_
                refine r_ifeq (by omega) 166 rfl 186 rfl (dd_X12_look_1 24 _ _ _ rfl) (fun q => absurd q (by decide)) (fun _ => ?_)
                refine r_iload_6 168 rfl (dd_X12_look_1 25 _ _ _ rfl) ?_
                refine r_iconst 169 rfl (dd_X12_look_1 26 _ _ _ rfl) ?_
                refine r_if_icmpeq (by omega) (by omega) 172 rfl 186 rfl (dd_X12_look_1 27 _ _ _ rfl) (fun hc43 => ?_) (fun hc43 => ?_)
                · refine r_iconst 187 rfl (dd_X12_look_1 35 _ _ _ rfl) ?_
                  refine r_ireturn rfl rfl (dd_X12_look_1 36 _ _ _ rfl) ?_
                  exact k2 u rfl (by omega) (fun q => by rcases q with ⟨q1, q2, q3⟩; rcases q1 with q1 | ⟨q1, q4⟩ | ⟨q1, q4⟩ <;> first | exact hp q1 | exact hn q1 | exact hl q1 | omega | (rcases q3 with q3 | q3 <;> first | omega | exact hp q3)) _ hM
                · have hpr := hI.prot (zlast S u (S.1 1) 0 (-1)).toNat
                  refine r_aload_0 173 rfl (dd_X12_look_1 28 _ _ _ rfl) ?_
                  refine m_arr 13 hg hM (by decide) (by decide) (tb_6 69 _ rfl) 176 rfl (dd_X12_look_1 29 _ _ _ rfl) ?_ (fun _ _ _ => rfl)
                  refine r_iload_6 178 rfl (dd_X12_look_1 30 _ _ _ rfl) ?_
                  refine m_zald 13 ((zlast S u (S.1 1) 0 (-1)).toNat) (by omega) hg hM rfl (by omega) (z_lt (n2 := 10) rfl (by omega)) (by decide) 179 rfl (dd_X12_look_1 31 _ _ _ rfl) ?_
                  try simp (decide := true) only [zu2, false_and, and_false, and_true, true_and, and_self, if_true, if_false, reduceIte]
                  refine r_ifeq (by omega) 182 rfl 188 rfl (dd_X12_look_1 32 _ _ _ rfl) (fun hc44 => ?_) (fun hc44 => ?_)
                  · refine r_aload_0 189 rfl (dd_X12_look_1 37 _ _ _ rfl) ?_
                    refine m_arr 14 hg hM (by decide) (by decide) (tb_6 70 _ rfl) 192 rfl (dd_X12_look_1 38 _ _ _ rfl) ?_ (fun _ _ _ => rfl)
                    refine r_iload_6 194 rfl (dd_X12_look_1 39 _ _ _ rfl) ?_
                    refine r_dup2 rfl rfl 195 rfl (dd_X12_look_1 40 _ _ _ rfl) ?_
                    refine m_iald 14 ((zlast S u (S.1 1) 0 (-1)).toNat) (by omega) hg hM rfl (by omega) (z_lt (n2 := 10) rfl (by omega)) (by decide) 196 rfl (dd_X12_look_1 41 _ _ _ rfl) ?_
                    try simp (decide := true) only [zu2, false_and, and_false, and_true, true_and, and_self, if_true, if_false, reduceIte]
                    refine r_iconst 197 rfl (dd_X12_look_1 42 _ _ _ rfl) ?_
                    refine r_iadd 198 rfl (dd_X12_look_1 43 _ _ _ rfl) ?_
                    refine m_iast 14 ((zlast S u (S.1 1) 0 (-1)).toNat) (by omega) hg hM rfl (by omega) (z_lt (n2 := 10) rfl (by omega)) (by decide) 199 rfl (dd_X12_look_1 44 _ _ _ rfl) (fun h45 hM => ?_)
                    refine r_iload_6 201 rfl (dd_X12_look_1 45 _ _ _ rfl) ?_
                    refine r_ireturn rfl rfl (dd_X12_look_1 46 _ _ _ rfl) ?_
                    exact k0 u rfl (by omega) ⟨by first | exact Or.inl hp | exact Or.inr (Or.inl ⟨hn, by omega⟩) | exact Or.inr (Or.inr ⟨hl, by omega⟩), by omega, by first | exact Or.inl (by omega) | exact Or.inr hp⟩ _ hM
                  · refine r_iload_2 183 rfl (dd_X12_look_1 33 _ _ _ rfl) ?_
                    refine r_ifne (by omega) 186 rfl 188 rfl (dd_X12_look_1 34 _ _ _ rfl) (fun q => absurd q (by decide)) (fun _ => ?_)
                    refine r_iconst 187 rfl (dd_X12_look_1 35 _ _ _ rfl) ?_
                    refine r_ireturn rfl rfl (dd_X12_look_1 36 _ _ _ rfl) ?_
                    exact k2 u rfl (by omega) (fun q => by rcases q with ⟨q1, q2, q3⟩; rcases q1 with q1 | ⟨q1, q4⟩ | ⟨q1, q4⟩ <;> first | exact hp q1 | exact hn q1 | exact hl q1 | omega | (rcases q3 with q3 | q3 <;> first | omega | exact hp q3)) _ hM
        · dsimp only [zCont, Option.toList, List.cons_append, List.nil_append]
          refine r_istore_4 95 rfl (by decide) rfl (dd_X12_look_0 47 _ _ _ rfl) ?_
          refine r_aload_0 96 rfl (dd_X12_look_0 48 _ _ _ rfl) ?_
          refine r_iconst 97 rfl (dd_X12_look_0 49 _ _ _ rfl) ?_
          refine m_put 2 hg hM rfl (by decide) (by decide) rfl (fun _ _ _ => rfl) rfl rfl (tb_6 58 _ rfl) 100 rfl (dd_X12_look_0 50 _ _ _ rfl) (fun h47 hM => ?_)
          have hI2 : MInv n (zu1 S.1 2 0, S.2) := MInv.s2 (sc := S.1) (ar := S.2) hI (by decide)
          have hs9 := zstate_range S u (S.1 1)
          have hk9 := zlast_range (v := u) (w := S.1 1) (its := 0) (wo := -1) hI (by decide)
          refine r_aload_0 101 rfl (dd_X12_look_0 51 _ _ _ rfl) ?_
          refine r_iload_1 102 rfl (dd_X12_look_0 52 _ _ _ rfl) ?_
          refine r_aload_0 103 rfl (dd_X12_look_0 53 _ _ _ rfl) ?_
          refine m_get 1 hg hM (by unfold z_free; decide) rfl (by decide) (tb_6 57 _ rfl) 106 rfl (dd_X12_look_0 54 _ _ _ rfl) ?_ (fun _ _ _ => rfl)
          try simp (decide := true) only [zu1, if_true, if_false, reduceIte]
          refine r_callV2 (lvl := 11) (mc1 := 0) (ms1 := 0) 0 0 hg rfl md_X12_stateOn zc_X12 hM.kd wi_X12_stateOn wv_X12_stateOn (tb_7 16 _ rfl) (by decide) (by decide) rfl (Nat.le_of_ble_eq_true rfl) (by decide) (by decide) 109 rfl (dd_X12_look_0 55 _ _ _ rfl) ?_
          refine c_X12_stateOn (v := u) hg hI2 hM (by omega) (by omega) (fun h48 hM => ?_)
          dsimp only [zCont, Option.toList, List.cons_append, List.nil_append]
          rw [show zstate (zu1 S.1 2 0, S.2) u (S.1 1) = zstate S u (S.1 1) from zstate_ar (S := S) (S2 := (zu1 S.1 2 0, S.2)) rfl]
          refine r_istore_5 111 rfl (by decide) rfl (dd_X12_look_0 56 _ _ _ rfl) ?_
          refine r_aload_0 112 rfl (dd_X12_look_0 57 _ _ _ rfl) ?_
          refine r_iload_1 113 rfl (dd_X12_look_0 58 _ _ _ rfl) ?_
          refine r_aload_0 114 rfl (dd_X12_look_0 59 _ _ _ rfl) ?_
          refine m_get 1 hg hM (by unfold z_free; decide) rfl (by decide) (tb_6 57 _ rfl) 117 rfl (dd_X12_look_1 0 _ _ _ rfl) ?_ (fun _ _ _ => rfl)
          try simp (decide := true) only [zu1, if_true, if_false, reduceIte]
          refine r_iconst 118 rfl (dd_X12_look_1 1 _ _ _ rfl) ?_
          refine r_iconst 119 rfl (dd_X12_look_1 2 _ _ _ rfl) ?_
          refine r_callV4 (lvl := 11) (mc1 := 0) (ms1 := 0) 0 0 hg rfl md_X12_latest zc_X12 hM.kd wi_X12_latest wv_X12_latest (tb_7 24 _ rfl) (by decide) (by decide) rfl (Nat.le_of_ble_eq_true rfl) (by decide) (by decide) 122 rfl (dd_X12_look_1 3 _ _ _ rfl) ?_
          refine c_X12_latestI (v := u) hg hI2 hM (by omega) (by omega) (by omega) (by omega) ?_
          dsimp only [zCont, Option.toList, List.cons_append, List.nil_append]
          rw [show zlast (zu1 S.1 2 0, S.2) u (S.1 1) 0 (-1) = zlast S u (S.1 1) 0 (-1) from zlast_ar (S := S) (S2 := (zu1 S.1 2 0, S.2)) rfl]
          refine r_istore_6 124 rfl (by decide) rfl (dd_X12_look_1 4 _ _ _ rfl) ?_
          refine r_iload_2 125 rfl (dd_X12_look_1 5 _ _ _ rfl) ?_
          refine r_ifne (by omega) 128 rfl 154 rfl (dd_X12_look_1 6 _ _ _ rfl) (fun q => absurd q (by decide)) (fun _ => ?_)
          refine r_iload_3 129 rfl (dd_X12_look_1 7 _ _ _ rfl) ?_
          refine r_ifeq (by omega) 132 rfl 138 rfl (dd_X12_look_1 8 _ _ _ rfl) (fun q => absurd q (by decide)) (fun _ => ?_)
          refine r_iload_5 134 rfl (dd_X12_look_1 9 _ _ _ rfl) ?_
          refine r_iconst 135 rfl (dd_X12_look_1 10 _ _ _ rfl) ?_
          refine r_if_icmpeq (by omega) (by omega) 138 rfl 154 rfl (dd_X12_look_1 11 _ _ _ rfl) (fun hc49 => ?_) (fun hc49 => ?_)
          · refine r_iconst 155 rfl (dd_X12_look_1 19 _ _ _ rfl) ?_
            refine r_goto 159 rfl (dd_X12_look_1 20 _ _ _ rfl) ?_
            refine r_istore_7 161 rfl (by decide) rfl (dd_X12_look_1 22 _ _ _ rfl) ?_
            refine r_iload_7 163 rfl (dd_X12_look_1 23 _ _ _ rfl) ?_
            refine r_ifeq (by omega) 166 rfl 186 rfl (dd_X12_look_1 24 _ _ _ rfl) (fun q => absurd q (by decide)) (fun _ => ?_)
            refine r_iload_6 168 rfl (dd_X12_look_1 25 _ _ _ rfl) ?_
            refine r_iconst 169 rfl (dd_X12_look_1 26 _ _ _ rfl) ?_
            refine r_if_icmpeq (by omega) (by omega) 172 rfl 186 rfl (dd_X12_look_1 27 _ _ _ rfl) (fun hc50 => ?_) (fun hc50 => ?_)
            · refine r_iconst 187 rfl (dd_X12_look_1 35 _ _ _ rfl) ?_
              refine r_ireturn rfl rfl (dd_X12_look_1 36 _ _ _ rfl) ?_
              exact k2 u rfl (by omega) (fun q => by rcases q with ⟨q1, q2, q3⟩; rcases q1 with q1 | ⟨q1, q4⟩ | ⟨q1, q4⟩ <;> first | exact hp q1 | exact hn q1 | exact hl q1 | omega | (rcases q3 with q3 | q3 <;> first | omega | exact hp q3)) _ hM
            · have hpr := hI.prot (zlast S u (S.1 1) 0 (-1)).toNat
              refine r_aload_0 173 rfl (dd_X12_look_1 28 _ _ _ rfl) ?_
              refine m_arr 13 hg hM (by decide) (by decide) (tb_6 69 _ rfl) 176 rfl (dd_X12_look_1 29 _ _ _ rfl) ?_ (fun _ _ _ => rfl)
              refine r_iload_6 178 rfl (dd_X12_look_1 30 _ _ _ rfl) ?_
              refine m_zald 13 ((zlast S u (S.1 1) 0 (-1)).toNat) (by omega) hg hM rfl (by omega) (z_lt (n2 := 10) rfl (by omega)) (by decide) 179 rfl (dd_X12_look_1 31 _ _ _ rfl) ?_
              try simp (decide := true) only [zu2, false_and, and_false, and_true, true_and, and_self, if_true, if_false, reduceIte]
              refine r_ifeq (by omega) 182 rfl 188 rfl (dd_X12_look_1 32 _ _ _ rfl) (fun hc51 => ?_) (fun hc51 => ?_)
              · refine r_aload_0 189 rfl (dd_X12_look_1 37 _ _ _ rfl) ?_
                refine m_arr 14 hg hM (by decide) (by decide) (tb_6 70 _ rfl) 192 rfl (dd_X12_look_1 38 _ _ _ rfl) ?_ (fun _ _ _ => rfl)
                refine r_iload_6 194 rfl (dd_X12_look_1 39 _ _ _ rfl) ?_
                refine r_dup2 rfl rfl 195 rfl (dd_X12_look_1 40 _ _ _ rfl) ?_
                refine m_iald 14 ((zlast S u (S.1 1) 0 (-1)).toNat) (by omega) hg hM rfl (by omega) (z_lt (n2 := 10) rfl (by omega)) (by decide) 196 rfl (dd_X12_look_1 41 _ _ _ rfl) ?_
                try simp (decide := true) only [zu2, false_and, and_false, and_true, true_and, and_self, if_true, if_false, reduceIte]
                refine r_iconst 197 rfl (dd_X12_look_1 42 _ _ _ rfl) ?_
                refine r_iadd 198 rfl (dd_X12_look_1 43 _ _ _ rfl) ?_
                refine m_iast 14 ((zlast S u (S.1 1) 0 (-1)).toNat) (by omega) hg hM rfl (by omega) (z_lt (n2 := 10) rfl (by omega)) (by decide) 199 rfl (dd_X12_look_1 44 _ _ _ rfl) (fun h52 hM => ?_)
                refine r_iload_6 201 rfl (dd_X12_look_1 45 _ _ _ rfl) ?_
                refine r_ireturn rfl rfl (dd_X12_look_1 46 _ _ _ rfl) ?_
                exact k0 u rfl (by omega) ⟨by first | exact Or.inl hp | exact Or.inr (Or.inl ⟨hn, by omega⟩) | exact Or.inr (Or.inr ⟨hl, by omega⟩), by omega, by first | exact Or.inl (by omega) | exact Or.inr hp⟩ _ hM
              · refine r_iload_2 183 rfl (dd_X12_look_1 33 _ _ _ rfl) ?_
                refine r_ifne (by omega) 186 rfl 188 rfl (dd_X12_look_1 34 _ _ _ rfl) (fun q => absurd q (by decide)) (fun _ => ?_)
                refine r_iconst 187 rfl (dd_X12_look_1 35 _ _ _ rfl) ?_
                refine r_ireturn rfl rfl (dd_X12_look_1 36 _ _ _ rfl) ?_
                exact k2 u rfl (by omega) (fun q => by rcases q with ⟨q1, q2, q3⟩; rcases q1 with q1 | ⟨q1, q4⟩ | ⟨q1, q4⟩ <;> first | exact hp q1 | exact hn q1 | exact hl q1 | omega | (rcases q3 with q3 | q3 <;> first | omega | exact hp q3)) _ hM
          · refine r_iload_4 140 rfl (dd_X12_look_1 12 _ _ _ rfl) ?_
            refine r_ifeq (by omega) 143 rfl 158 rfl (dd_X12_look_1 13 _ _ _ rfl) (fun _ => ?_) (fun q => absurd q (by decide))
            refine r_iconst 159 rfl (dd_X12_look_1 21 _ _ _ rfl) ?_
            refine r_istore_7 161 rfl (by decide) rfl (dd_X12_look_1 22 _ _ _ rfl) ?_
            refine r_iload_7 163 rfl (dd_X12_look_1 23 _ _ _ rfl) ?_
            refine r_ifeq (by omega) 166 rfl 186 rfl (dd_X12_look_1 24 _ _ _ rfl) (fun _ => ?_) (fun q => absurd q (by decide))
            refine r_iconst 187 rfl (dd_X12_look_1 35 _ _ _ rfl) ?_
            refine r_ireturn rfl rfl (dd_X12_look_1 36 _ _ _ rfl) ?_
            exact k2 u rfl (by omega) (fun q => by rcases q with ⟨q1, q2, q3⟩; rcases q1 with q1 | ⟨q1, q4⟩ | ⟨q1, q4⟩ <;> first | exact hp q1 | exact hn q1 | exact hl q1 | omega | (rcases q3 with q3 | q3 <;> first | omega | exact hp q3)) _ hM
      · dsimp only [zCont, Option.toList, List.cons_append, List.nil_append]
        refine r_istore_3 70 rfl (by decide) rfl (dd_X12_look_0 35 _ _ _ rfl) ?_
        refine r_aload_0 71 rfl (dd_X12_look_0 36 _ _ _ rfl) ?_
        refine r_bipush (by decide) 73 rfl (dd_X12_look_0 37 _ _ _ rfl) ?_
        refine r_bipush (by decide) 75 rfl (dd_X12_look_0 38 _ _ _ rfl) ?_
        refine r_bipush (by decide) 77 rfl (dd_X12_look_0 39 _ _ _ rfl) ?_
        refine r_bipush (by decide) 79 rfl (dd_X12_look_0 40 _ _ _ rfl) ?_
        refine r_bipush (by decide) 81 rfl (dd_X12_look_0 41 _ _ _ rfl) ?_
        refine r_bipush (by decide) 83 rfl (dd_X12_look_0 42 _ _ _ rfl) ?_
        refine r_bipush (by decide) 85 rfl (dd_X12_look_0 43 _ _ _ rfl) ?_
        refine r_callS7 (lvl := 10) (mc1 := 0) (ms1 := 0) 0 0 hg rfl md_X12_word ws_X12_word (tb_7 180 _ rfl) (by decide) (by decide) rfl (Nat.le_of_ble_eq_true rfl) (by decide) (by decide) 88 rfl (dd_X12_look_0 44 _ _ _ rfl) ?_
        refine c_X12_word hg (by decide) (by decide) (by decide) (by decide) (by decide) (by decide) (by decide) ?_
        dsimp only [zCont, Option.toList, List.cons_append, List.nil_append]
        refine r_topl (18403950946) (by decide +kernel) ?_
        refine r_bipush (by decide) 90 rfl (dd_X12_look_0 45 _ _ _ rfl) ?_
        refine r_callV2 (lvl := 10) (mc1 := 0) (ms1 := 0) 0 0 hg rfl md_X12_isWord zc_X12 hM.kd wi_X12_isWord wv_X12_isWord (tb_7 183 _ rfl) (by decide) (by decide) rfl (Nat.le_of_ble_eq_true rfl) (by decide) (by decide) 93 rfl (dd_X12_look_0 46 _ _ _ rfl) ?_
        refine c_X12_isWord (W := 18403950946) (mn := 7) hg hI hM (by decide) (by decide) (fun hl => ?_) (fun hl => ?_)
        · dsimp only [zCont, Option.toList, List.cons_append, List.nil_append]
          refine r_istore_4 95 rfl (by decide) rfl (dd_X12_look_0 47 _ _ _ rfl) ?_
          refine r_aload_0 96 rfl (dd_X12_look_0 48 _ _ _ rfl) ?_
          refine r_iconst 97 rfl (dd_X12_look_0 49 _ _ _ rfl) ?_
          refine m_put 2 hg hM rfl (by decide) (by decide) rfl (fun _ _ _ => rfl) rfl rfl (tb_6 58 _ rfl) 100 rfl (dd_X12_look_0 50 _ _ _ rfl) (fun h54 hM => ?_)
          have hI2 : MInv n (zu1 S.1 2 0, S.2) := MInv.s2 (sc := S.1) (ar := S.2) hI (by decide)
          have hs9 := zstate_range S u (S.1 1)
          have hk9 := zlast_range (v := u) (w := S.1 1) (its := 0) (wo := -1) hI (by decide)
          refine r_aload_0 101 rfl (dd_X12_look_0 51 _ _ _ rfl) ?_
          refine r_iload_1 102 rfl (dd_X12_look_0 52 _ _ _ rfl) ?_
          refine r_aload_0 103 rfl (dd_X12_look_0 53 _ _ _ rfl) ?_
          refine m_get 1 hg hM (by unfold z_free; decide) rfl (by decide) (tb_6 57 _ rfl) 106 rfl (dd_X12_look_0 54 _ _ _ rfl) ?_ (fun _ _ _ => rfl)
          try simp (decide := true) only [zu1, if_true, if_false, reduceIte]
          refine r_callV2 (lvl := 11) (mc1 := 0) (ms1 := 0) 0 0 hg rfl md_X12_stateOn zc_X12 hM.kd wi_X12_stateOn wv_X12_stateOn (tb_7 16 _ rfl) (by decide) (by decide) rfl (Nat.le_of_ble_eq_true rfl) (by decide) (by decide) 109 rfl (dd_X12_look_0 55 _ _ _ rfl) ?_
          refine c_X12_stateOn (v := u) hg hI2 hM (by omega) (by omega) (fun h55 hM => ?_)
          dsimp only [zCont, Option.toList, List.cons_append, List.nil_append]
          rw [show zstate (zu1 S.1 2 0, S.2) u (S.1 1) = zstate S u (S.1 1) from zstate_ar (S := S) (S2 := (zu1 S.1 2 0, S.2)) rfl]
          refine r_istore_5 111 rfl (by decide) rfl (dd_X12_look_0 56 _ _ _ rfl) ?_
          refine r_aload_0 112 rfl (dd_X12_look_0 57 _ _ _ rfl) ?_
          refine r_iload_1 113 rfl (dd_X12_look_0 58 _ _ _ rfl) ?_
          refine r_aload_0 114 rfl (dd_X12_look_0 59 _ _ _ rfl) ?_
          refine m_get 1 hg hM (by unfold z_free; decide) rfl (by decide) (tb_6 57 _ rfl) 117 rfl (dd_X12_look_1 0 _ _ _ rfl) ?_ (fun _ _ _ => rfl)
          try simp (decide := true) only [zu1, if_true, if_false, reduceIte]
          refine r_iconst 118 rfl (dd_X12_look_1 1 _ _ _ rfl) ?_
          refine r_iconst 119 rfl (dd_X12_look_1 2 _ _ _ rfl) ?_
          refine r_callV4 (lvl := 11) (mc1 := 0) (ms1 := 0) 0 0 hg rfl md_X12_latest zc_X12 hM.kd wi_X12_latest wv_X12_latest (tb_7 24 _ rfl) (by decide) (by decide) rfl (Nat.le_of_ble_eq_true rfl) (by decide) (by decide) 122 rfl (dd_X12_look_1 3 _ _ _ rfl) ?_
          refine c_X12_latestI (v := u) hg hI2 hM (by omega) (by omega) (by omega) (by omega) ?_
          dsimp only [zCont, Option.toList, List.cons_append, List.nil_append]
          rw [show zlast (zu1 S.1 2 0, S.2) u (S.1 1) 0 (-1) = zlast S u (S.1 1) 0 (-1) from zlast_ar (S := S) (S2 := (zu1 S.1 2 0, S.2)) rfl]
          refine r_istore_6 124 rfl (by decide) rfl (dd_X12_look_1 4 _ _ _ rfl) ?_
          refine r_iload_2 125 rfl (dd_X12_look_1 5 _ _ _ rfl) ?_
          refine r_ifne (by omega) 128 rfl 154 rfl (dd_X12_look_1 6 _ _ _ rfl) (fun q => absurd q (by decide)) (fun _ => ?_)
          refine r_iload_3 129 rfl (dd_X12_look_1 7 _ _ _ rfl) ?_
          refine r_ifeq (by omega) 132 rfl 138 rfl (dd_X12_look_1 8 _ _ _ rfl) (fun _ => ?_) (fun q => absurd q (by decide))
          refine r_iload_4 140 rfl (dd_X12_look_1 12 _ _ _ rfl) ?_
          refine r_ifeq (by omega) 143 rfl 158 rfl (dd_X12_look_1 13 _ _ _ rfl) (fun q => absurd q (by decide)) (fun _ => ?_)
          refine r_iload_5 145 rfl (dd_X12_look_1 14 _ _ _ rfl) ?_
          refine r_iconst 146 rfl (dd_X12_look_1 15 _ _ _ rfl) ?_
          refine r_if_icmpeq (by omega) (by omega) 149 rfl 154 rfl (dd_X12_look_1 16 _ _ _ rfl) (fun hc56 => ?_) (fun hc56 => ?_)
          · refine r_iconst 155 rfl (dd_X12_look_1 19 _ _ _ rfl) ?_
            refine r_goto 159 rfl (dd_X12_look_1 20 _ _ _ rfl) ?_
            refine r_istore_7 161 rfl (by decide) rfl (dd_X12_look_1 22 _ _ _ rfl) ?_
            refine r_iload_7 163 rfl (dd_X12_look_1 23 _ _ _ rfl) ?_
            refine r_ifeq (by omega) 166 rfl 186 rfl (dd_X12_look_1 24 _ _ _ rfl) (fun q => absurd q (by decide)) (fun _ => ?_)
            refine r_iload_6 168 rfl (dd_X12_look_1 25 _ _ _ rfl) ?_
            refine r_iconst 169 rfl (dd_X12_look_1 26 _ _ _ rfl) ?_
            refine r_if_icmpeq (by omega) (by omega) 172 rfl 186 rfl (dd_X12_look_1 27 _ _ _ rfl) (fun hc57 => ?_) (fun hc57 => ?_)
            · refine r_iconst 187 rfl (dd_X12_look_1 35 _ _ _ rfl) ?_
              refine r_ireturn rfl rfl (dd_X12_look_1 36 _ _ _ rfl) ?_
              exact k2 u rfl (by omega) (fun q => by rcases q with ⟨q1, q2, q3⟩; rcases q1 with q1 | ⟨q1, q4⟩ | ⟨q1, q4⟩ <;> first | exact hp q1 | exact hn q1 | exact hl q1 | omega | (rcases q3 with q3 | q3 <;> first | omega | exact hp q3)) _ hM
            · have hpr := hI.prot (zlast S u (S.1 1) 0 (-1)).toNat
              refine r_aload_0 173 rfl (dd_X12_look_1 28 _ _ _ rfl) ?_
              refine m_arr 13 hg hM (by decide) (by decide) (tb_6 69 _ rfl) 176 rfl (dd_X12_look_1 29 _ _ _ rfl) ?_ (fun _ _ _ => rfl)
              refine r_iload_6 178 rfl (dd_X12_look_1 30 _ _ _ rfl) ?_
              refine m_zald 13 ((zlast S u (S.1 1) 0 (-1)).toNat) (by omega) hg hM rfl (by omega) (z_lt (n2 := 10) rfl (by omega)) (by decide) 179 rfl (dd_X12_look_1 31 _ _ _ rfl) ?_
              try simp (decide := true) only [zu2, false_and, and_false, and_true, true_and, and_self, if_true, if_false, reduceIte]
              refine r_ifeq (by omega) 182 rfl 188 rfl (dd_X12_look_1 32 _ _ _ rfl) (fun hc58 => ?_) (fun hc58 => ?_)
              · refine r_aload_0 189 rfl (dd_X12_look_1 37 _ _ _ rfl) ?_
                refine m_arr 14 hg hM (by decide) (by decide) (tb_6 70 _ rfl) 192 rfl (dd_X12_look_1 38 _ _ _ rfl) ?_ (fun _ _ _ => rfl)
                refine r_iload_6 194 rfl (dd_X12_look_1 39 _ _ _ rfl) ?_
                refine r_dup2 rfl rfl 195 rfl (dd_X12_look_1 40 _ _ _ rfl) ?_
                refine m_iald 14 ((zlast S u (S.1 1) 0 (-1)).toNat) (by omega) hg hM rfl (by omega) (z_lt (n2 := 10) rfl (by omega)) (by decide) 196 rfl (dd_X12_look_1 41 _ _ _ rfl) ?_
                try simp (decide := true) only [zu2, false_and, and_false, and_true, true_and, and_self, if_true, if_false, reduceIte]
                refine r_iconst 197 rfl (dd_X12_look_1 42 _ _ _ rfl) ?_
                refine r_iadd 198 rfl (dd_X12_look_1 43 _ _ _ rfl) ?_
                refine m_iast 14 ((zlast S u (S.1 1) 0 (-1)).toNat) (by omega) hg hM rfl (by omega) (z_lt (n2 := 10) rfl (by omega)) (by decide) 199 rfl (dd_X12_look_1 44 _ _ _ rfl) (fun h59 hM => ?_)
                refine r_iload_6 201 rfl (dd_X12_look_1 45 _ _ _ rfl) ?_
                refine r_ireturn rfl rfl (dd_X12_look_1 46 _ _ _ rfl) ?_
                exact k0 u rfl (by omega) ⟨by first | exact Or.inl hp | exact Or.inr (Or.inl ⟨hn, by omega⟩) | exact Or.inr (Or.inr ⟨hl, by omega⟩), by omega, by first | exact Or.inl (by omega) | exact Or.inr hp⟩ _ hM
              · refine r_iload_2 183 rfl (dd_X12_look_1 33 _ _ _ rfl) ?_
                refine r_ifne (by omega) 186 rfl 188 rfl (dd_X12_look_1 34 _ _ _ rfl) (fun q => absurd q (by decide)) (fun _ => ?_)
                refine r_iconst 187 rfl (dd_X12_look_1 35 _ _ _ rfl) ?_
                refine r_ireturn rfl rfl (dd_X12_look_1 36 _ _ _ rfl) ?_
                exact k2 u rfl (by omega) (fun q => by rcases q with ⟨q1, q2, q3⟩; rcases q1 with q1 | ⟨q1, q4⟩ | ⟨q1, q4⟩ <;> first | exact hp q1 | exact hn q1 | exact hl q1 | omega | (rcases q3 with q3 | q3 <;> first | omega | exact hp q3)) _ hM
          · refine r_iload_5 151 rfl (dd_X12_look_1 17 _ _ _ rfl) ?_
            refine r_ifne (by omega) 154 rfl 158 rfl (dd_X12_look_1 18 _ _ _ rfl) (fun hc60 => ?_) (fun hc60 => ?_)
            · refine r_iconst 159 rfl (dd_X12_look_1 21 _ _ _ rfl) ?_
              refine r_istore_7 161 rfl (by decide) rfl (dd_X12_look_1 22 _ _ _ rfl) ?_
              refine r_iload_7 163 rfl (dd_X12_look_1 23 _ _ _ rfl) ?_
              refine r_ifeq (by omega) 166 rfl 186 rfl (dd_X12_look_1 24 _ _ _ rfl) (fun _ => ?_) (fun q => absurd q (by decide))
              refine r_iconst 187 rfl (dd_X12_look_1 35 _ _ _ rfl) ?_
              refine r_ireturn rfl rfl (dd_X12_look_1 36 _ _ _ rfl) ?_
              exact k2 u rfl (by omega) (fun q => by rcases q with ⟨q1, q2, q3⟩; rcases q1 with q1 | ⟨q1, q4⟩ | ⟨q1, q4⟩ <;> first | exact hp q1 | exact hn q1 | exact hl q1 | omega | (rcases q3 with q3 | q3 <;> first | omega | exact hp q3)) _ hM
            · refine r_iconst 155 rfl (dd_X12_look_1 19 _ _ _ rfl) ?_
              refine r_goto 159 rfl (dd_X12_look_1 20 _ _ _ rfl) ?_
              refine r_istore_7 161 rfl (by decide) rfl (dd_X12_look_1 22 _ _ _ rfl) ?_
              refine r_iload_7 163 rfl (dd_X12_look_1 23 _ _ _ rfl) ?_
              refine r_ifeq (by omega) 166 rfl 186 rfl (dd_X12_look_1 24 _ _ _ rfl) (fun q => absurd q (by decide)) (fun _ => ?_)
              refine r_iload_6 168 rfl (dd_X12_look_1 25 _ _ _ rfl) ?_
              refine r_iconst 169 rfl (dd_X12_look_1 26 _ _ _ rfl) ?_
              refine r_if_icmpeq (by omega) (by omega) 172 rfl 186 rfl (dd_X12_look_1 27 _ _ _ rfl) (fun hc61 => ?_) (fun hc61 => ?_)
              · refine r_iconst 187 rfl (dd_X12_look_1 35 _ _ _ rfl) ?_
                refine r_ireturn rfl rfl (dd_X12_look_1 36 _ _ _ rfl) ?_
                exact k2 u rfl (by omega) (fun q => by rcases q with ⟨q1, q2, q3⟩; rcases q1 with q1 | ⟨q1, q4⟩ | ⟨q1, q4⟩ <;> first | exact hp q1 | exact hn q1 | exact hl q1 | omega | (rcases q3 with q3 | q3 <;> first | omega | exact hp q3)) _ hM
              · have hpr := hI.prot (zlast S u (S.1 1) 0 (-1)).toNat
                refine r_aload_0 173 rfl (dd_X12_look_1 28 _ _ _ rfl) ?_
                refine m_arr 13 hg hM (by decide) (by decide) (tb_6 69 _ rfl) 176 rfl (dd_X12_look_1 29 _ _ _ rfl) ?_ (fun _ _ _ => rfl)
                refine r_iload_6 178 rfl (dd_X12_look_1 30 _ _ _ rfl) ?_
                refine m_zald 13 ((zlast S u (S.1 1) 0 (-1)).toNat) (by omega) hg hM rfl (by omega) (z_lt (n2 := 10) rfl (by omega)) (by decide) 179 rfl (dd_X12_look_1 31 _ _ _ rfl) ?_
                try simp (decide := true) only [zu2, false_and, and_false, and_true, true_and, and_self, if_true, if_false, reduceIte]
                refine r_ifeq (by omega) 182 rfl 188 rfl (dd_X12_look_1 32 _ _ _ rfl) (fun hc62 => ?_) (fun hc62 => ?_)
                · refine r_aload_0 189 rfl (dd_X12_look_1 37 _ _ _ rfl) ?_
                  refine m_arr 14 hg hM (by decide) (by decide) (tb_6 70 _ rfl) 192 rfl (dd_X12_look_1 38 _ _ _ rfl) ?_ (fun _ _ _ => rfl)
                  refine r_iload_6 194 rfl (dd_X12_look_1 39 _ _ _ rfl) ?_
                  refine r_dup2 rfl rfl 195 rfl (dd_X12_look_1 40 _ _ _ rfl) ?_
                  refine m_iald 14 ((zlast S u (S.1 1) 0 (-1)).toNat) (by omega) hg hM rfl (by omega) (z_lt (n2 := 10) rfl (by omega)) (by decide) 196 rfl (dd_X12_look_1 41 _ _ _ rfl) ?_
                  try simp (decide := true) only [zu2, false_and, and_false, and_true, true_and, and_self, if_true, if_false, reduceIte]
                  refine r_iconst 197 rfl (dd_X12_look_1 42 _ _ _ rfl) ?_
                  refine r_iadd 198 rfl (dd_X12_look_1 43 _ _ _ rfl) ?_
                  refine m_iast 14 ((zlast S u (S.1 1) 0 (-1)).toNat) (by omega) hg hM rfl (by omega) (z_lt (n2 := 10) rfl (by omega)) (by decide) 199 rfl (dd_X12_look_1 44 _ _ _ rfl) (fun h63 hM => ?_)
                  refine r_iload_6 201 rfl (dd_X12_look_1 45 _ _ _ rfl) ?_
                  refine r_ireturn rfl rfl (dd_X12_look_1 46 _ _ _ rfl) ?_
                  exact k0 u rfl (by omega) ⟨by first | exact Or.inl hp | exact Or.inr (Or.inl ⟨hn, by omega⟩) | exact Or.inr (Or.inr ⟨hl, by omega⟩), by omega, by first | exact Or.inl (by omega) | exact Or.inr hp⟩ _ hM
                · refine r_iload_2 183 rfl (dd_X12_look_1 33 _ _ _ rfl) ?_
                  refine r_ifne (by omega) 186 rfl 188 rfl (dd_X12_look_1 34 _ _ _ rfl) (fun q => absurd q (by decide)) (fun _ => ?_)
                  refine r_iconst 187 rfl (dd_X12_look_1 35 _ _ _ rfl) ?_
                  refine r_ireturn rfl rfl (dd_X12_look_1 36 _ _ _ rfl) ?_
                  exact k2 u rfl (by omega) (fun q => by rcases q with ⟨q1, q2, q3⟩; rcases q1 with q1 | ⟨q1, q4⟩ | ⟨q1, q4⟩ <;> first | exact hp q1 | exact hn q1 | exact hl q1 | omega | (rcases q3 with q3 | q3 <;> first | omega | exact hp q3)) _ hM
        · dsimp only [zCont, Option.toList, List.cons_append, List.nil_append]
          refine r_istore_4 95 rfl (by decide) rfl (dd_X12_look_0 47 _ _ _ rfl) ?_
          refine r_aload_0 96 rfl (dd_X12_look_0 48 _ _ _ rfl) ?_
          refine r_iconst 97 rfl (dd_X12_look_0 49 _ _ _ rfl) ?_
          refine m_put 2 hg hM rfl (by decide) (by decide) rfl (fun _ _ _ => rfl) rfl rfl (tb_6 58 _ rfl) 100 rfl (dd_X12_look_0 50 _ _ _ rfl) (fun h65 hM => ?_)
          have hI2 : MInv n (zu1 S.1 2 0, S.2) := MInv.s2 (sc := S.1) (ar := S.2) hI (by decide)
          have hs9 := zstate_range S u (S.1 1)
          have hk9 := zlast_range (v := u) (w := S.1 1) (its := 0) (wo := -1) hI (by decide)
          refine r_aload_0 101 rfl (dd_X12_look_0 51 _ _ _ rfl) ?_
          refine r_iload_1 102 rfl (dd_X12_look_0 52 _ _ _ rfl) ?_
          refine r_aload_0 103 rfl (dd_X12_look_0 53 _ _ _ rfl) ?_
          refine m_get 1 hg hM (by unfold z_free; decide) rfl (by decide) (tb_6 57 _ rfl) 106 rfl (dd_X12_look_0 54 _ _ _ rfl) ?_ (fun _ _ _ => rfl)
          try simp (decide := true) only [zu1, if_true, if_false, reduceIte]
          refine r_callV2 (lvl := 11) (mc1 := 0) (ms1 := 0) 0 0 hg rfl md_X12_stateOn zc_X12 hM.kd wi_X12_stateOn wv_X12_stateOn (tb_7 16 _ rfl) (by decide) (by decide) rfl (Nat.le_of_ble_eq_true rfl) (by decide) (by decide) 109 rfl (dd_X12_look_0 55 _ _ _ rfl) ?_
          refine c_X12_stateOn (v := u) hg hI2 hM (by omega) (by omega) (fun h66 hM => ?_)
          dsimp only [zCont, Option.toList, List.cons_append, List.nil_append]
          rw [show zstate (zu1 S.1 2 0, S.2) u (S.1 1) = zstate S u (S.1 1) from zstate_ar (S := S) (S2 := (zu1 S.1 2 0, S.2)) rfl]
          refine r_istore_5 111 rfl (by decide) rfl (dd_X12_look_0 56 _ _ _ rfl) ?_
          refine r_aload_0 112 rfl (dd_X12_look_0 57 _ _ _ rfl) ?_
          refine r_iload_1 113 rfl (dd_X12_look_0 58 _ _ _ rfl) ?_
          refine r_aload_0 114 rfl (dd_X12_look_0 59 _ _ _ rfl) ?_
          refine m_get 1 hg hM (by unfold z_free; decide) rfl (by decide) (tb_6 57 _ rfl) 117 rfl (dd_X12_look_1 0 _ _ _ rfl) ?_ (fun _ _ _ => rfl)
          try simp (decide := true) only [zu1, if_true, if_false, reduceIte]
          refine r_iconst 118 rfl (dd_X12_look_1 1 _ _ _ rfl) ?_
          refine r_iconst 119 rfl (dd_X12_look_1 2 _ _ _ rfl) ?_
          refine r_callV4 (lvl := 11) (mc1 := 0) (ms1 := 0) 0 0 hg rfl md_X12_latest zc_X12 hM.kd wi_X12_latest wv_X12_latest (tb_7 24 _ rfl) (by decide) (by decide) rfl (Nat.le_of_ble_eq_true rfl) (by decide) (by decide) 122 rfl (dd_X12_look_1 3 _ _ _ rfl) ?_
          refine c_X12_latestI (v := u) hg hI2 hM (by omega) (by omega) (by omega) (by omega) ?_
          dsimp only [zCont, Option.toList, List.cons_append, List.nil_append]
          rw [show zlast (zu1 S.1 2 0, S.2) u (S.1 1) 0 (-1) = zlast S u (S.1 1) 0 (-1) from zlast_ar (S := S) (S2 := (zu1 S.1 2 0, S.2)) rfl]
          refine r_istore_6 124 rfl (by decide) rfl (dd_X12_look_1 4 _ _ _ rfl) ?_
          refine r_iload_2 125 rfl (dd_X12_look_1 5 _ _ _ rfl) ?_
          refine r_ifne (by omega) 128 rfl 154 rfl (dd_X12_look_1 6 _ _ _ rfl) (fun q => absurd q (by decide)) (fun _ => ?_)
          refine r_iload_3 129 rfl (dd_X12_look_1 7 _ _ _ rfl) ?_
          refine r_ifeq (by omega) 132 rfl 138 rfl (dd_X12_look_1 8 _ _ _ rfl) (fun _ => ?_) (fun q => absurd q (by decide))
          refine r_iload_4 140 rfl (dd_X12_look_1 12 _ _ _ rfl) ?_
          refine r_ifeq (by omega) 143 rfl 158 rfl (dd_X12_look_1 13 _ _ _ rfl) (fun _ => ?_) (fun q => absurd q (by decide))
          refine r_iconst 159 rfl (dd_X12_look_1 21 _ _ _ rfl) ?_
          refine r_istore_7 161 rfl (by decide) rfl (dd_X12_look_1 22 _ _ _ rfl) ?_
          refine r_iload_7 163 rfl (dd_X12_look_1 23 _ _ _ rfl) ?_
          refine r_ifeq (by omega) 166 rfl 186 rfl (dd_X12_look_1 24 _ _ _ rfl) (fun _ => ?_) (fun q => absurd q (by decide))
          refine r_iconst 187 rfl (dd_X12_look_1 35 _ _ _ rfl) ?_
          refine r_ireturn rfl rfl (dd_X12_look_1 36 _ _ _ rfl) ?_
          exact k2 u rfl (by omega) (fun q => by rcases q with ⟨q1, q2, q3⟩; rcases q1 with q1 | ⟨q1, q4⟩ | ⟨q1, q4⟩ <;> first | exact hp q1 | exact hn q1 | exact hl q1 | omega | (rcases q3 with q3 | q3 <;> first | omega | exact hp q3)) _ hM
  · dsimp only [zCont, Option.toList, List.cons_append, List.nil_append]
    refine r_ifeq (by omega) 9 rfl 13 rfl (dd_X12_look_0 4 _ _ _ rfl) (fun _ => ?_) (fun q => absurd q (by decide))
    refine r_iconst 14 rfl (dd_X12_look_0 7 _ _ _ rfl) ?_
    refine r_callV1 (lvl := 10) (mc1 := 0) (ms1 := 0) 0 0 hg rfl md_X12_goesWell zc_X12 hM.kd wi_X12_goesWell wv_X12_goesWell (tb_6 197 _ rfl) (by decide) (by decide) rfl (Nat.le_of_ble_eq_true rfl) (by decide) (by decide) 17 rfl (dd_X12_look_0 8 _ _ _ rfl) ?_
    refine c_X12_goesWell hg hM (by decide) (fun q => absurd q (by decide)) (fun _ h67 hM => ?_)
    dsimp only [zCont, Option.toList, List.cons_append, List.nil_append]
    refine r_ifne (by omega) 20 rfl 22 rfl (dd_X12_look_0 9 _ _ _ rfl) (fun q => absurd q (by decide)) (fun _ => ?_)
    refine r_iconst 21 rfl (dd_X12_look_0 10 _ _ _ rfl) ?_
    refine r_ireturn rfl rfl (dd_X12_look_0 11 _ _ _ rfl) ?_
    exact k1 (by omega) _ hM

abbrev mX12_ofVehicle : zM := (RX12, cX12_ofVehicle, 4, (Option.some Jvm.ClassFile.FieldType.int), [], "ofVehicle", 14)
set_option maxRecDepth 20000 in
theorem c_X12_ofVehicle {g : zGT} {Q : zO → zH → Prop} {h : zH} (hg : zG g) {h0 : zH} {m : Nat} {A : Nat → Nat} {S : zS} {n : Nat} {t : Int} (hI : MInv n S) (hM : MI h0 m A S t h) {v w : Int} (hv : zR v) (hw : zR w) (k1 : ¬ (0 ≤ v ∧ v < S.1 4) → ∀ h1, MI h0 m A S 1 h1 → Q (.inl (some (.int (zI 0)))) h1) (k2 : ∀ u : Nat, v = u → v < S.1 4 → ¬ (0 ≤ w ∧ w ≤ 4) → ∀ h1, MI h0 m A S 2 h1 → Q (.inl (some (.int (zI 0)))) h1) (k10 : ∀ u : Nat, v = u → v < S.1 4 → w = 0 → ∀ h1, MI h0 m A S 0 h1 → Q (.inl (some (.int (zI (10 * S.2 5 u + zdigit (S.2 5 u)))))) h1) (k11 : ∀ u : Nat, v = u → v < S.1 4 → w = 1 → ∀ h1, MI h0 m A S 0 h1 → Q (.inl (some (.int (zI (S.2 29 u))))) h1) (k12 : ∀ u : Nat, v = u → v < S.1 4 → w = 2 → ∀ h1, MI h0 m A S 0 h1 → Q (.inl (some (.int (zI (S.2 28 u))))) h1) (k13 : ∀ u : Nat, v = u → v < S.1 4 → w = 3 → ∀ h1, MI h0 m A S 0 h1 → Q (.inl (some (.int (zI (zgap S u (S.1 1 + 1).toNat))))) h1) (k14 : ∀ u : Nat, v = u → v < S.1 4 → w = 4 → ∀ h1, MI h0 m A S 0 h1 → Q (.inl (some (.int (zI (zclones S u (S.1 31).toNat))))) h1) : zC g (.code yX12_ofVehicle cX12_ofVehicle 4 (Option.some Jvm.ClassFile.FieldType.int)) yX12_ofVehicle 14 0 0 [.ref m, .int (zI v), .int (zI w)] h Q := by
  refine zC_of (M := mX12_ofVehicle) (lv := [some (.ref m), some (.int (zI v)), some (.int (zI w)), none]) (by decide) rfl rfl (Nat.le_of_ble_eq_true rfl) rfl rfl ?_
  have e1 := hI.vehicles
  refine r_aload_0 1 rfl (dd_X12_ofVehicle 0 _ _ _ rfl) ?_
  refine r_iload_1 2 rfl (dd_X12_ofVehicle 1 _ _ _ rfl) ?_
  refine r_callV1 (lvl := 11) (mc1 := 0) (ms1 := 0) 0 0 hg rfl md_X12_isVehicle zc_X12 hM.kd wi_X12_isVehicle wv_X12_isVehicle (tb_7 0 _ rfl) (by decide) (by decide) rfl (Nat.le_of_ble_eq_true rfl) (by decide) (by decide) 5 rfl (dd_X12_ofVehicle 2 _ _ _ rfl) ?_
  refine c_X12_isVehicle hg hI hM (by omega) (fun hb1 => ?_) (fun hb1 => ?_)
  · obtain ⟨u, rfl⟩ := Int.eq_ofNat_of_zero_le hb1.1
    have e3 := hI.serial u
    dsimp only [zCont, Option.toList, List.cons_append, List.nil_append]
    refine r_istore_3 6 rfl (by decide) rfl (dd_X12_ofVehicle 3 _ _ _ rfl) ?_
    refine r_aload_0 7 rfl (dd_X12_ofVehicle 4 _ _ _ rfl) ?_
    refine r_iload_3 8 rfl (dd_X12_ofVehicle 5 _ _ _ rfl) ?_
    refine r_ifne (by omega) 11 rfl 15 rfl (dd_X12_ofVehicle 6 _ _ _ rfl) (fun _ => ?_) (fun q => absurd q (by decide))
    refine r_iload_2 16 rfl (dd_X12_ofVehicle 9 _ _ _ rfl) ?_
    refine r_iconst 17 rfl (dd_X12_ofVehicle 10 _ _ _ rfl) ?_
    refine r_iconst 18 rfl (dd_X12_ofVehicle 11 _ _ _ rfl) ?_
    refine r_callS3 (lvl := 10) (mc1 := 0) (ms1 := 0) 0 0 hg rfl md_X12_in ws_X12_in (tb_6 209 _ rfl) (by decide) (by decide) rfl (Nat.le_of_ble_eq_true rfl) (by decide) (by decide) 21 rfl (dd_X12_ofVehicle 12 _ _ _ rfl) ?_
    refine c_X12_in hg (by omega) (by omega) (by omega) (fun hb2 => ?_) (fun hb2 => ?_)
    · dsimp only [zCont, Option.toList, List.cons_append, List.nil_append]
      refine r_ifeq (by omega) 24 rfl 28 rfl (dd_X12_ofVehicle 13 _ _ _ rfl) (fun q => absurd q (by decide)) (fun _ => ?_)
      refine r_iconst 25 rfl (dd_X12_ofVehicle 14 _ _ _ rfl) ?_
      refine r_goto 29 rfl (dd_X12_ofVehicle 15 _ _ _ rfl) ?_
      refine r_callV1 (lvl := 10) (mc1 := 0) (ms1 := 0) 0 0 hg rfl md_X12_goesWell zc_X12 hM.kd wi_X12_goesWell wv_X12_goesWell (tb_6 197 _ rfl) (by decide) (by decide) rfl (Nat.le_of_ble_eq_true rfl) (by decide) (by decide) 32 rfl (dd_X12_ofVehicle 17 _ _ _ rfl) ?_
      refine c_X12_goesWell hg hM (by decide) (fun _ h3 hM => ?_) (fun q => absurd rfl q)
      dsimp only [zCont, Option.toList, List.cons_append, List.nil_append]
      refine r_ifne (by omega) 35 rfl 37 rfl (dd_X12_ofVehicle 18 _ _ _ rfl) (fun _ => ?_) (fun q => absurd q (by decide))
      refine r_iload_2 38 rfl (dd_X12_ofVehicle 21 _ _ _ rfl) ?_
      rcases (show w = 0 ∨ w = 1 ∨ w = 2 ∨ w = 3 ∨ w = 4 by omega) with rfl | rfl | rfl | rfl | rfl
      · refine r_tsIn 68 (by decide) (by decide) rfl rfl (dd_X12_ofVehicle 22 _ _ _ rfl) ?_
        refine r_bipush (by decide) 70 rfl (dd_X12_ofVehicle 23 _ _ _ rfl) ?_
        refine r_aload_0 71 rfl (dd_X12_ofVehicle 24 _ _ _ rfl) ?_
        refine m_arr 5 hg hM (by decide) (by decide) (tb_6 61 _ rfl) 74 rfl (dd_X12_ofVehicle 25 _ _ _ rfl) ?_ (fun _ _ _ => rfl)
        refine r_iload_1 75 rfl (dd_X12_ofVehicle 26 _ _ _ rfl) ?_
        refine m_iald 5 (u) (by omega) hg hM rfl (by omega) (z_lt (n2 := 12) rfl (by omega)) (by decide) 76 rfl (dd_X12_ofVehicle 27 _ _ _ rfl) ?_
        refine r_imul 77 rfl (dd_X12_ofVehicle 28 _ _ _ rfl) ?_
        refine r_aload_0 78 rfl (dd_X12_ofVehicle 29 _ _ _ rfl) ?_
        refine m_arr 5 hg hM (by decide) (by decide) (tb_6 61 _ rfl) 81 rfl (dd_X12_ofVehicle 30 _ _ _ rfl) ?_ (fun _ _ _ => rfl)
        refine r_iload_1 82 rfl (dd_X12_ofVehicle 31 _ _ _ rfl) ?_
        refine m_iald 5 (u) (by omega) hg hM rfl (by omega) (z_lt (n2 := 12) rfl (by omega)) (by decide) 83 rfl (dd_X12_ofVehicle 32 _ _ _ rfl) ?_
        refine r_callS1 (lvl := 10) (mc1 := 0) (ms1 := 0) 0 0 hg rfl md_X12_check ws_X12_check (tb_6 212 _ rfl) (by decide) (by decide) rfl (Nat.le_of_ble_eq_true rfl) (by decide) (by decide) 86 rfl (dd_X12_ofVehicle 33 _ _ _ rfl) ?_
        refine c_X12_check hg (by omega) (by omega) ?_
        dsimp only [zCont, Option.toList, List.cons_append, List.nil_append]
        refine r_iadd 87 rfl (dd_X12_ofVehicle 34 _ _ _ rfl) ?_
        refine r_ireturn rfl rfl (dd_X12_ofVehicle 35 _ _ _ rfl) ?_
        exact k10 u rfl (by omega) rfl _ hM
      · refine r_tsIn 88 (by decide) (by decide) rfl rfl (dd_X12_ofVehicle 22 _ _ _ rfl) ?_
        refine r_aload_0 89 rfl (dd_X12_ofVehicle 36 _ _ _ rfl) ?_
        refine m_arr 29 hg hM (by decide) (by decide) (tb_6 85 _ rfl) 92 rfl (dd_X12_ofVehicle 37 _ _ _ rfl) ?_ (fun _ _ _ => rfl)
        refine r_iload_1 93 rfl (dd_X12_ofVehicle 38 _ _ _ rfl) ?_
        refine m_iald 29 (u) (by omega) hg hM rfl (by omega) (z_lt (n2 := 12) rfl (by omega)) (by decide) 94 rfl (dd_X12_ofVehicle 39 _ _ _ rfl) ?_
        refine r_ireturn rfl rfl (dd_X12_ofVehicle 40 _ _ _ rfl) ?_
        exact k11 u rfl (by omega) rfl _ hM
      · refine r_tsIn 95 (by decide) (by decide) rfl rfl (dd_X12_ofVehicle 22 _ _ _ rfl) ?_
        refine r_aload_0 96 rfl (dd_X12_ofVehicle 41 _ _ _ rfl) ?_
        refine m_arr 28 hg hM (by decide) (by decide) (tb_6 84 _ rfl) 99 rfl (dd_X12_ofVehicle 42 _ _ _ rfl) ?_ (fun _ _ _ => rfl)
        refine r_iload_1 100 rfl (dd_X12_ofVehicle 43 _ _ _ rfl) ?_
        refine m_iald 28 (u) (by omega) hg hM rfl (by omega) (z_lt (n2 := 12) rfl (by omega)) (by decide) 101 rfl (dd_X12_ofVehicle 44 _ _ _ rfl) ?_
        refine r_ireturn rfl rfl (dd_X12_ofVehicle 45 _ _ _ rfl) ?_
        exact k12 u rfl (by omega) rfl _ hM
      · refine r_tsIn 102 (by decide) (by decide) rfl rfl (dd_X12_ofVehicle 22 _ _ _ rfl) ?_
        refine r_aload_0 103 rfl (dd_X12_ofVehicle 46 _ _ _ rfl) ?_
        refine r_iload_1 104 rfl (dd_X12_ofVehicle 47 _ _ _ rfl) ?_
        refine r_callV1 (lvl := 12) (mc1 := 0) (ms1 := 0) 0 0 hg rfl md_X12_gap zc_X12 hM.kd wi_X12_gap wv_X12_gap (tb_7 112 _ rfl) (by decide) (by decide) rfl (Nat.le_of_ble_eq_true rfl) (by decide) (by decide) 107 rfl (dd_X12_ofVehicle 48 _ _ _ rfl) ?_
        refine c_X12_gap (v := u) hg hI hM rfl (by omega) (fun h4 hM => ?_)
        dsimp only [zCont, Option.toList, List.cons_append, List.nil_append]
        refine r_ireturn rfl rfl (dd_X12_ofVehicle 49 _ _ _ rfl) ?_
        exact k13 u rfl (by omega) rfl _ hM
      · refine r_tsOut 108 (by decide) rfl (dd_X12_ofVehicle 22 _ _ _ rfl) ?_
        refine r_aload_0 109 rfl (dd_X12_ofVehicle 50 _ _ _ rfl) ?_
        refine r_iload_1 110 rfl (dd_X12_ofVehicle 51 _ _ _ rfl) ?_
        refine r_callV1 (lvl := 13) (mc1 := 0) (ms1 := 0) 0 0 hg rfl md_X12_clones zc_X12 hM.kd wi_X12_clones wv_X12_clones (tb_7 116 _ rfl) (by decide) (by decide) rfl (Nat.le_of_ble_eq_true rfl) (by decide) (by decide) 113 rfl (dd_X12_ofVehicle 52 _ _ _ rfl) ?_
        refine c_X12_clones hg hI hM (by omega) ?_
        dsimp only [zCont, Option.toList, List.cons_append, List.nil_append]
        refine r_ireturn rfl rfl (dd_X12_ofVehicle 53 _ _ _ rfl) ?_
        exact k14 u rfl (by omega) rfl _ hM
    · dsimp only [zCont, Option.toList, List.cons_append, List.nil_append]
      refine r_ifeq (by omega) 24 rfl 28 rfl (dd_X12_ofVehicle 13 _ _ _ rfl) (fun _ => ?_) (fun q => absurd q (by decide))
      refine r_iconst 29 rfl (dd_X12_ofVehicle 16 _ _ _ rfl) ?_
      refine r_callV1 (lvl := 10) (mc1 := 0) (ms1 := 0) 0 0 hg rfl md_X12_goesWell zc_X12 hM.kd wi_X12_goesWell wv_X12_goesWell (tb_6 197 _ rfl) (by decide) (by decide) rfl (Nat.le_of_ble_eq_true rfl) (by decide) (by decide) 32 rfl (dd_X12_ofVehicle 17 _ _ _ rfl) ?_
      refine c_X12_goesWell hg hM (by decide) (fun q => absurd q (by decide)) (fun _ h5 hM => ?_)
      dsimp only [zCont, Option.toList, List.cons_append, List.nil_append]
      refine r_ifne (by omega) 35 rfl 37 rfl (dd_X12_ofVehicle 18 _ _ _ rfl) (fun q => absurd q (by decide)) (fun _ => ?_)
      refine r_iconst 36 rfl (dd_X12_ofVehicle 19 _ _ _ rfl) ?_
      refine r_ireturn rfl rfl (dd_X12_ofVehicle 20 _ _ _ rfl) ?_
      first | exact k1 (by omega) _ hM | exact k2 u rfl (by omega) (by omega) _ hM
  · dsimp only [zCont, Option.toList, List.cons_append, List.nil_append]
    refine r_istore_3 6 rfl (by decide) rfl (dd_X12_ofVehicle 3 _ _ _ rfl) ?_
    refine r_aload_0 7 rfl (dd_X12_ofVehicle 4 _ _ _ rfl) ?_
    refine r_iload_3 8 rfl (dd_X12_ofVehicle 5 _ _ _ rfl) ?_
    refine r_ifne (by omega) 11 rfl 15 rfl (dd_X12_ofVehicle 6 _ _ _ rfl) (fun q => absurd q (by decide)) (fun _ => ?_)
    refine r_iconst 12 rfl (dd_X12_ofVehicle 7 _ _ _ rfl) ?_
    refine r_goto 29 rfl (dd_X12_ofVehicle 8 _ _ _ rfl) ?_
    refine r_callV1 (lvl := 10) (mc1 := 0) (ms1 := 0) 0 0 hg rfl md_X12_goesWell zc_X12 hM.kd wi_X12_goesWell wv_X12_goesWell (tb_6 197 _ rfl) (by decide) (by decide) rfl (Nat.le_of_ble_eq_true rfl) (by decide) (by decide) 32 rfl (dd_X12_ofVehicle 17 _ _ _ rfl) ?_
    refine c_X12_goesWell hg hM (by decide) (fun q => absurd q (by decide)) (fun _ h6 hM => ?_)
    dsimp only [zCont, Option.toList, List.cons_append, List.nil_append]
    refine r_ifne (by omega) 35 rfl 37 rfl (dd_X12_ofVehicle 18 _ _ _ rfl) (fun q => absurd q (by decide)) (fun _ => ?_)
    refine r_iconst 36 rfl (dd_X12_ofVehicle 19 _ _ _ rfl) ?_
    refine r_ireturn rfl rfl (dd_X12_ofVehicle 20 _ _ _ rfl) ?_
    first | exact k1 (by omega) _ hM | exact k2 u rfl (by omega) (by omega) _ hM
