abbrev mX12_person : zM := (RX12, cX12_person, 1, (Option.some Jvm.ClassFile.FieldType.int), [], "person", 12)
set_option maxRecDepth 20000 in
theorem c_X12_person {g : zGT} {Q : zO → zH → Prop} {h : zH} (hg : zG g) {h0 : zH} {m : Nat} {A : Nat → Nat} {S : zS} {n : Nat} {t : Int} (hI : MInv n S) (hM : MI h0 m A S t h) (k1 : S.1 12 = 10 → ∀ h1, MI h0 m A S 1 h1 → Q (.inl (some (.int (zI 0)))) h1) (k0 : S.1 12 ≠ 10 → ∀ h1, MI h0 m A (zu1 S.1 12 (S.1 12 + 1), S.2) 0 h1 → Q (.inl (some (.int (zI (S.1 12))))) h1) : zC g (.code yX12_person cX12_person 1 (Option.some Jvm.ClassFile.FieldType.int)) yX12_person 12 0 0 [.ref m] h Q := by
  refine zC_of (M := mX12_person) (lv := [some (.ref m)]) (by decide) rfl rfl (Nat.le_of_ble_eq_true rfl) rfl rfl ?_
  have e1 := hI.people
  refine r_aload_0 1 rfl (dd_X12_person 0 _ _ _ rfl) ?_
  refine r_aload_0 2 rfl (dd_X12_person 1 _ _ _ rfl) ?_
  refine m_get 12 hg hM (by unfold z_free; decide) rfl (by decide) (tb_6 68 _ rfl) 5 rfl (dd_X12_person 2 _ _ _ rfl) ?_ (fun _ _ _ => rfl)
  try simp (decide := true) only [zu1, if_true, if_false, reduceIte]
  refine r_bipush (by decide) 7 rfl (dd_X12_person 3 _ _ _ rfl) ?_
  refine r_if_icmpne (by omega) (by omega) 10 rfl 14 rfl (dd_X12_person 4 _ _ _ rfl) (fun hc1 => ?_) (fun hc1 => ?_)
  · refine r_iconst 15 rfl (dd_X12_person 7 _ _ _ rfl) ?_
    refine r_callV1 (lvl := 10) (mc1 := 0) (ms1 := 0) 0 0 hg rfl md_X12_goesWell zc_X12 hM.kd wi_X12_goesWell wv_X12_goesWell (tb_6 197 _ rfl) (by decide) (by decide) rfl (Nat.le_of_ble_eq_true rfl) (by decide) (by decide) 18 rfl (dd_X12_person 8 _ _ _ rfl) ?_
    refine c_X12_goesWell hg hM (by decide) (fun _ h2 hM => ?_) (fun q => absurd rfl q)
    dsimp only [zCont, Option.toList, List.cons_append, List.nil_append]
    refine r_ifne (by omega) 21 rfl 23 rfl (dd_X12_person 9 _ _ _ rfl) (fun _ => ?_) (fun q => absurd q (by decide))
    refine r_aload_0 24 rfl (dd_X12_person 12 _ _ _ rfl) ?_
    refine r_dup rfl 25 rfl (dd_X12_person 13 _ _ _ rfl) ?_
    refine m_get 12 hg hM (by unfold z_free; decide) rfl (by decide) (tb_6 68 _ rfl) 28 rfl (dd_X12_person 14 _ _ _ rfl) ?_ (fun _ _ _ => rfl)
    try simp (decide := true) only [zu1, if_true, if_false, reduceIte]
    refine r_iconst 29 rfl (dd_X12_person 15 _ _ _ rfl) ?_
    refine r_iadd 30 rfl (dd_X12_person 16 _ _ _ rfl) ?_
    refine m_put 12 hg hM rfl (by decide) (by decide) rfl (fun _ _ _ => rfl) rfl rfl (tb_6 68 _ rfl) 33 rfl (dd_X12_person 17 _ _ _ rfl) (fun h4 hM => ?_)
    refine r_aload_0 34 rfl (dd_X12_person 18 _ _ _ rfl) ?_
    refine m_get 12 hg hM (by unfold z_free; decide) rfl (by decide) (tb_6 68 _ rfl) 37 rfl (dd_X12_person 19 _ _ _ rfl) ?_ (fun _ _ _ => rfl)
    try simp (decide := true) only [zu1, if_true, if_false, reduceIte]
    refine r_iconst 38 rfl (dd_X12_person 20 _ _ _ rfl) ?_
    refine r_isub 39 rfl (dd_X12_person 21 _ _ _ rfl) ?_
    refine r_ireturn rfl rfl (dd_X12_person 22 _ _ _ rfl) ?_
    have k := k0 (by omega) _ hM
    rw [Int.add_sub_cancel]
    exact k
  · refine r_iconst 11 rfl (dd_X12_person 5 _ _ _ rfl) ?_
    refine r_goto 15 rfl (dd_X12_person 6 _ _ _ rfl) ?_
    refine r_callV1 (lvl := 10) (mc1 := 0) (ms1 := 0) 0 0 hg rfl md_X12_goesWell zc_X12 hM.kd wi_X12_goesWell wv_X12_goesWell (tb_6 197 _ rfl) (by decide) (by decide) rfl (Nat.le_of_ble_eq_true rfl) (by decide) (by decide) 18 rfl (dd_X12_person 8 _ _ _ rfl) ?_
    refine c_X12_goesWell hg hM (by decide) (fun q => absurd q (by decide)) (fun _ h5 hM => ?_)
    dsimp only [zCont, Option.toList, List.cons_append, List.nil_append]
    refine r_ifne (by omega) 21 rfl 23 rfl (dd_X12_person 9 _ _ _ rfl) (fun q => absurd q (by decide)) (fun _ => ?_)
    refine r_iconst 22 rfl (dd_X12_person 10 _ _ _ rfl) ?_
    refine r_ireturn rfl rfl (dd_X12_person 11 _ _ _ rfl) ?_
    exact k1 (by omega) _ hM

abbrev mX12_vehicle : zM := (RX12, cX12_vehicle, 5, (Option.some Jvm.ClassFile.FieldType.int), [], "vehicle", 12)
set_option maxRecDepth 20000 in
theorem c_X12_vehicle {g : zGT} {Q : zO → zH → Prop} {h : zH} (hg : zG g) {h0 : zH} {m : Nat} {A : Nat → Nat} {S : zS} {n : Nat} {t : Int} (hI : MInv n S) (hM : MI h0 m A S t h) {a b c : Int} (ha : zR a) (hb : zR b) (hc : zR c) (k1 : ¬ (0 ≤ a ∧ a ≤ 9999 ∧ 0 ≤ b ∧ b ≤ S.1 1 ∧ 0 ≤ c ∧ c ≤ 3 ∧ zdigit a < 10) → ∀ h1, MI h0 m A S 1 h1 → Q (.inl (some (.int (zI 0)))) h1) (k2 : (0 ≤ a ∧ a ≤ 9999 ∧ 0 ≤ b ∧ b ≤ S.1 1 ∧ 0 ≤ c ∧ c ≤ 3 ∧ zdigit a < 10) → (zvof S a (S.1 4).toNat ≠ -1 ∨ S.1 4 = 12) → ∀ h1, MI h0 m A S 2 h1 → Q (.inl (some (.int (zI 0)))) h1) (k0 : (0 ≤ a ∧ a ≤ 9999 ∧ 0 ≤ b ∧ b ≤ S.1 1 ∧ 0 ≤ c ∧ c ≤ 3 ∧ zdigit a < 10) → ¬ (zvof S a (S.1 4).toNat ≠ -1 ∨ S.1 4 = 12) → ∀ h1, MI h0 m A (zu1 S.1 4 (S.1 4 + 1), zu2 (zu2 (zu2 (zu2 S.2 5 (S.1 4).toNat a) 6 (S.1 4).toNat b) 7 (S.1 4).toNat c) 29 (S.1 4).toNat (b + 1080)) 0 h1 → Q (.inl (some (.int (zI (S.1 4))))) h1) : zC g (.code yX12_vehicle cX12_vehicle 5 (Option.some Jvm.ClassFile.FieldType.int)) yX12_vehicle 12 0 0 [.ref m, .int (zI a), .int (zI b), .int (zI c)] h Q := by
  refine zC_of (M := mX12_vehicle) (lv := [some (.ref m), some (.int (zI a)), some (.int (zI b)), some (.int (zI c)), none]) (by decide) rfl rfl (Nat.le_of_ble_eq_true rfl) rfl rfl ?_
  have e1 := hI.vehicles
  have e2 := hI.today
  have e3 := zvof_range (S := S) (s := a) (S.1 4).toNat
  have e4 := zdigit_range a
  refine r_iload_1 1 rfl (dd_X12_vehicle_0 0 _ _ _ rfl) ?_
  refine r_iconst 2 rfl (dd_X12_vehicle_0 1 _ _ _ rfl) ?_
  refine r_sipush (by decide) 5 rfl (dd_X12_vehicle_0 2 _ _ _ rfl) ?_
  refine r_callS3 (lvl := 10) (mc1 := 0) (ms1 := 0) 0 0 hg rfl md_X12_in ws_X12_in (tb_6 209 _ rfl) (by decide) (by decide) rfl (Nat.le_of_ble_eq_true rfl) (by decide) (by decide) 8 rfl (dd_X12_vehicle_0 3 _ _ _ rfl) ?_
  refine c_X12_in hg (by omega) (by omega) (by omega) (fun hb1 => ?_) (fun hb1 => ?_)
  · dsimp only [zCont, Option.toList, List.cons_append, List.nil_append]
    refine r_ifeq (by omega) 11 rfl 45 rfl (dd_X12_vehicle_0 4 _ _ _ rfl) (fun q => absurd q (by decide)) (fun _ => ?_)
    refine r_iload_2 12 rfl (dd_X12_vehicle_0 5 _ _ _ rfl) ?_
    refine r_iconst 13 rfl (dd_X12_vehicle_0 6 _ _ _ rfl) ?_
    refine r_aload_0 14 rfl (dd_X12_vehicle_0 7 _ _ _ rfl) ?_
    refine m_get 1 hg hM (by unfold z_free; decide) rfl (by decide) (tb_6 57 _ rfl) 17 rfl (dd_X12_vehicle_0 8 _ _ _ rfl) ?_ (fun _ _ _ => rfl)
    try simp (decide := true) only [zu1, if_true, if_false, reduceIte]
    refine r_callS3 (lvl := 10) (mc1 := 0) (ms1 := 0) 0 0 hg rfl md_X12_in ws_X12_in (tb_6 209 _ rfl) (by decide) (by decide) rfl (Nat.le_of_ble_eq_true rfl) (by decide) (by decide) 20 rfl (dd_X12_vehicle_0 9 _ _ _ rfl) ?_
    refine c_X12_in hg (by omega) (by omega) (by omega) (fun hb2 => ?_) (fun hb2 => ?_)
    · dsimp only [zCont, Option.toList, List.cons_append, List.nil_append]
      refine r_ifeq (by omega) 23 rfl 45 rfl (dd_X12_vehicle_0 10 _ _ _ rfl) (fun q => absurd q (by decide)) (fun _ => ?_)
      refine r_iload_3 24 rfl (dd_X12_vehicle_0 11 _ _ _ rfl) ?_
      refine r_iconst 25 rfl (dd_X12_vehicle_0 12 _ _ _ rfl) ?_
      refine r_iconst 26 rfl (dd_X12_vehicle_0 13 _ _ _ rfl) ?_
      refine r_callS3 (lvl := 10) (mc1 := 0) (ms1 := 0) 0 0 hg rfl md_X12_in ws_X12_in (tb_6 209 _ rfl) (by decide) (by decide) rfl (Nat.le_of_ble_eq_true rfl) (by decide) (by decide) 29 rfl (dd_X12_vehicle_0 14 _ _ _ rfl) ?_
      refine c_X12_in hg (by omega) (by omega) (by omega) (fun hb3 => ?_) (fun hb3 => ?_)
      · dsimp only [zCont, Option.toList, List.cons_append, List.nil_append]
        refine r_ifeq (by omega) 32 rfl 45 rfl (dd_X12_vehicle_0 15 _ _ _ rfl) (fun q => absurd q (by decide)) (fun _ => ?_)
        refine r_iload_1 33 rfl (dd_X12_vehicle_0 16 _ _ _ rfl) ?_
        refine r_callS1 (lvl := 10) (mc1 := 0) (ms1 := 0) 0 0 hg rfl md_X12_check ws_X12_check (tb_6 212 _ rfl) (by decide) (by decide) rfl (Nat.le_of_ble_eq_true rfl) (by decide) (by decide) 36 rfl (dd_X12_vehicle_0 17 _ _ _ rfl) ?_
        refine c_X12_check hg (by omega) (by omega) ?_
        dsimp only [zCont, Option.toList, List.cons_append, List.nil_append]
        refine r_bipush (by decide) 38 rfl (dd_X12_vehicle_0 18 _ _ _ rfl) ?_
        refine r_if_icmpge (by omega) (by omega) 41 rfl 45 rfl (dd_X12_vehicle_0 19 _ _ _ rfl) (fun hc4 => ?_) (fun hc4 => ?_)
        · refine r_iconst 46 rfl (dd_X12_vehicle_0 22 _ _ _ rfl) ?_
          refine r_istore_4 48 rfl (by decide) rfl (dd_X12_vehicle_0 23 _ _ _ rfl) ?_
          refine r_aload_0 49 rfl (dd_X12_vehicle_0 24 _ _ _ rfl) ?_
          refine r_iload_4 51 rfl (dd_X12_vehicle_0 25 _ _ _ rfl) ?_
          refine r_ifne (by omega) 54 rfl 58 rfl (dd_X12_vehicle_0 26 _ _ _ rfl) (fun q => absurd q (by decide)) (fun _ => ?_)
          refine r_iconst 55 rfl (dd_X12_vehicle_0 27 _ _ _ rfl) ?_
          refine r_goto 81 rfl (dd_X12_vehicle_0 28 _ _ _ rfl) ?_
          refine r_callV1 (lvl := 10) (mc1 := 0) (ms1 := 0) 0 0 hg rfl md_X12_goesWell zc_X12 hM.kd wi_X12_goesWell wv_X12_goesWell (tb_6 197 _ rfl) (by decide) (by decide) rfl (Nat.le_of_ble_eq_true rfl) (by decide) (by decide) 84 rfl (dd_X12_vehicle_0 41 _ _ _ rfl) ?_
          refine c_X12_goesWell hg hM (by decide) (fun q => absurd q (by decide)) (fun _ h5 hM => ?_)
          dsimp only [zCont, Option.toList, List.cons_append, List.nil_append]
          refine r_ifne (by omega) 87 rfl 89 rfl (dd_X12_vehicle_0 42 _ _ _ rfl) (fun q => absurd q (by decide)) (fun _ => ?_)
          refine r_iconst 88 rfl (dd_X12_vehicle_0 43 _ _ _ rfl) ?_
          refine r_ireturn rfl rfl (dd_X12_vehicle_0 44 _ _ _ rfl) ?_
          first | exact k1 (by omega) _ hM | exact k2 (by omega) (by omega) _ hM
        · refine r_iconst 42 rfl (dd_X12_vehicle_0 20 _ _ _ rfl) ?_
          refine r_goto 46 rfl (dd_X12_vehicle_0 21 _ _ _ rfl) ?_
          refine r_istore_4 48 rfl (by decide) rfl (dd_X12_vehicle_0 23 _ _ _ rfl) ?_
          refine r_aload_0 49 rfl (dd_X12_vehicle_0 24 _ _ _ rfl) ?_
          refine r_iload_4 51 rfl (dd_X12_vehicle_0 25 _ _ _ rfl) ?_
          refine r_ifne (by omega) 54 rfl 58 rfl (dd_X12_vehicle_0 26 _ _ _ rfl) (fun _ => ?_) (fun q => absurd q (by decide))
          refine r_aload_0 59 rfl (dd_X12_vehicle_0 29 _ _ _ rfl) ?_
          refine r_iload_1 60 rfl (dd_X12_vehicle_0 30 _ _ _ rfl) ?_
          refine r_callV1 (lvl := 10) (mc1 := 0) (ms1 := 0) 0 0 hg rfl md_X12_vehicleOf zc_X12 hM.kd wi_X12_vehicleOf wv_X12_vehicleOf (tb_6 215 _ rfl) (by decide) (by decide) rfl (Nat.le_of_ble_eq_true rfl) (by decide) (by decide) 63 rfl (dd_X12_vehicle_0 31 _ _ _ rfl) ?_
          refine c_X12_vehicleOf hg hI hM (by omega) ?_
          dsimp only [zCont, Option.toList, List.cons_append, List.nil_append]
          refine r_iconst 64 rfl (dd_X12_vehicle_0 32 _ _ _ rfl) ?_
          refine r_if_icmpne (by omega) (by omega) 67 rfl 76 rfl (dd_X12_vehicle_0 33 _ _ _ rfl) (fun hc6 => ?_) (fun hc6 => ?_)
          · refine r_iconst 77 rfl (dd_X12_vehicle_0 38 _ _ _ rfl) ?_
            refine r_goto 81 rfl (dd_X12_vehicle_0 39 _ _ _ rfl) ?_
            refine r_callV1 (lvl := 10) (mc1 := 0) (ms1 := 0) 0 0 hg rfl md_X12_goesWell zc_X12 hM.kd wi_X12_goesWell wv_X12_goesWell (tb_6 197 _ rfl) (by decide) (by decide) rfl (Nat.le_of_ble_eq_true rfl) (by decide) (by decide) 84 rfl (dd_X12_vehicle_0 41 _ _ _ rfl) ?_
            refine c_X12_goesWell hg hM (by decide) (fun q => absurd q (by decide)) (fun _ h7 hM => ?_)
            dsimp only [zCont, Option.toList, List.cons_append, List.nil_append]
            refine r_ifne (by omega) 87 rfl 89 rfl (dd_X12_vehicle_0 42 _ _ _ rfl) (fun q => absurd q (by decide)) (fun _ => ?_)
            refine r_iconst 88 rfl (dd_X12_vehicle_0 43 _ _ _ rfl) ?_
            refine r_ireturn rfl rfl (dd_X12_vehicle_0 44 _ _ _ rfl) ?_
            first | exact k1 (by omega) _ hM | exact k2 (by omega) (by omega) _ hM
          · refine r_aload_0 68 rfl (dd_X12_vehicle_0 34 _ _ _ rfl) ?_
            refine m_get 4 hg hM (by unfold z_free; decide) rfl (by decide) (tb_6 60 _ rfl) 71 rfl (dd_X12_vehicle_0 35 _ _ _ rfl) ?_ (fun _ _ _ => rfl)
            try simp (decide := true) only [zu1, if_true, if_false, reduceIte]
            refine r_bipush (by decide) 73 rfl (dd_X12_vehicle_0 36 _ _ _ rfl) ?_
            refine r_if_icmpne (by omega) (by omega) 76 rfl 80 rfl (dd_X12_vehicle_0 37 _ _ _ rfl) (fun hc8 => ?_) (fun hc8 => ?_)
            · refine r_iconst 81 rfl (dd_X12_vehicle_0 40 _ _ _ rfl) ?_
              refine r_callV1 (lvl := 10) (mc1 := 0) (ms1 := 0) 0 0 hg rfl md_X12_goesWell zc_X12 hM.kd wi_X12_goesWell wv_X12_goesWell (tb_6 197 _ rfl) (by decide) (by decide) rfl (Nat.le_of_ble_eq_true rfl) (by decide) (by decide) 84 rfl (dd_X12_vehicle_0 41 _ _ _ rfl) ?_
              refine c_X12_goesWell hg hM (by decide) (fun _ h9 hM => ?_) (fun q => absurd rfl q)
              dsimp only [zCont, Option.toList, List.cons_append, List.nil_append]
              refine r_ifne (by omega) 87 rfl 89 rfl (dd_X12_vehicle_0 42 _ _ _ rfl) (fun _ => ?_) (fun q => absurd q (by decide))
              refine r_aload_0 90 rfl (dd_X12_vehicle_0 45 _ _ _ rfl) ?_
              refine m_arr 5 hg hM (by decide) (by decide) (tb_6 61 _ rfl) 93 rfl (dd_X12_vehicle_0 46 _ _ _ rfl) ?_ (fun _ _ _ => rfl)
              refine r_aload_0 94 rfl (dd_X12_vehicle_0 47 _ _ _ rfl) ?_
              refine m_get 4 hg hM (by unfold z_free; decide) rfl (by decide) (tb_6 60 _ rfl) 97 rfl (dd_X12_vehicle_0 48 _ _ _ rfl) ?_ (fun _ _ _ => rfl)
              try simp (decide := true) only [zu1, if_true, if_false, reduceIte]
              refine r_iload_1 98 rfl (dd_X12_vehicle_0 49 _ _ _ rfl) ?_
              refine m_iast 5 _ rfl hg hM rfl (by omega) (z_lt (n2 := 12) rfl (by omega)) (by decide) 99 rfl (dd_X12_vehicle_0 50 _ _ _ rfl) (fun h10 hM => ?_)
              refine r_aload_0 100 rfl (dd_X12_vehicle_0 51 _ _ _ rfl) ?_
              refine m_arr 6 hg hM (by decide) (by decide) (tb_6 62 _ rfl) 103 rfl (dd_X12_vehicle_0 52 _ _ _ rfl) ?_ (fun _ _ _ => rfl)
              refine r_aload_0 104 rfl (dd_X12_vehicle_0 53 _ _ _ rfl) ?_
              refine m_get 4 hg hM (by unfold z_free; decide) rfl (by decide) (tb_6 60 _ rfl) 107 rfl (dd_X12_vehicle_0 54 _ _ _ rfl) ?_ (fun _ _ _ => rfl)
              try simp (decide := true) only [zu1, if_true, if_false, reduceIte]
              refine r_iload_2 108 rfl (dd_X12_vehicle_0 55 _ _ _ rfl) ?_
              refine m_iast 6 _ rfl hg hM rfl (by omega) (z_lt (n2 := 12) rfl (by omega)) (by decide) 109 rfl (dd_X12_vehicle_0 56 _ _ _ rfl) (fun h11 hM => ?_)
              refine r_aload_0 110 rfl (dd_X12_vehicle_0 57 _ _ _ rfl) ?_
              refine m_arr 7 hg hM (by decide) (by decide) (tb_6 63 _ rfl) 113 rfl (dd_X12_vehicle_0 58 _ _ _ rfl) ?_ (fun _ _ _ => rfl)
              refine r_aload_0 114 rfl (dd_X12_vehicle_0 59 _ _ _ rfl) ?_
              refine m_get 4 hg hM (by unfold z_free; decide) rfl (by decide) (tb_6 60 _ rfl) 117 rfl (dd_X12_vehicle_1 0 _ _ _ rfl) ?_ (fun _ _ _ => rfl)
              try simp (decide := true) only [zu1, if_true, if_false, reduceIte]
              refine r_iload_3 118 rfl (dd_X12_vehicle_1 1 _ _ _ rfl) ?_
              refine m_iast 7 _ rfl hg hM rfl (by omega) (z_lt (n2 := 12) rfl (by omega)) (by decide) 119 rfl (dd_X12_vehicle_1 2 _ _ _ rfl) (fun h12 hM => ?_)
              refine r_aload_0 120 rfl (dd_X12_vehicle_1 3 _ _ _ rfl) ?_
              refine m_arr 29 hg hM (by decide) (by decide) (tb_6 85 _ rfl) 123 rfl (dd_X12_vehicle_1 4 _ _ _ rfl) ?_ (fun _ _ _ => rfl)
              refine r_aload_0 124 rfl (dd_X12_vehicle_1 5 _ _ _ rfl) ?_
              refine m_get 4 hg hM (by unfold z_free; decide) rfl (by decide) (tb_6 60 _ rfl) 127 rfl (dd_X12_vehicle_1 6 _ _ _ rfl) ?_ (fun _ _ _ => rfl)
              try simp (decide := true) only [zu1, if_true, if_false, reduceIte]
              refine r_iload_2 128 rfl (dd_X12_vehicle_1 7 _ _ _ rfl) ?_
              refine r_sipush (by decide) 131 rfl (dd_X12_vehicle_1 8 _ _ _ rfl) ?_
              refine r_iadd 132 rfl (dd_X12_vehicle_1 9 _ _ _ rfl) ?_
              refine m_iast 29 _ rfl hg hM rfl (by omega) (z_lt (n2 := 12) rfl (by omega)) (by decide) 133 rfl (dd_X12_vehicle_1 10 _ _ _ rfl) (fun h13 hM => ?_)
              refine r_aload_0 134 rfl (dd_X12_vehicle_1 11 _ _ _ rfl) ?_
              refine r_dup rfl 135 rfl (dd_X12_vehicle_1 12 _ _ _ rfl) ?_
              refine m_get 4 hg hM (by unfold z_free; decide) rfl (by decide) (tb_6 60 _ rfl) 138 rfl (dd_X12_vehicle_1 13 _ _ _ rfl) ?_ (fun _ _ _ => rfl)
              try simp (decide := true) only [zu1, if_true, if_false, reduceIte]
              refine r_iconst 139 rfl (dd_X12_vehicle_1 14 _ _ _ rfl) ?_
              refine r_iadd 140 rfl (dd_X12_vehicle_1 15 _ _ _ rfl) ?_
              refine m_put 4 hg hM rfl (by decide) (by decide) rfl (fun _ _ _ => rfl) rfl rfl (tb_6 60 _ rfl) 143 rfl (dd_X12_vehicle_1 16 _ _ _ rfl) (fun h15 hM => ?_)
              refine r_aload_0 144 rfl (dd_X12_vehicle_1 17 _ _ _ rfl) ?_
              refine m_get 4 hg hM (by unfold z_free; decide) rfl (by decide) (tb_6 60 _ rfl) 147 rfl (dd_X12_vehicle_1 18 _ _ _ rfl) ?_ (fun _ _ _ => rfl)
              try simp (decide := true) only [zu1, if_true, if_false, reduceIte]
              refine r_iconst 148 rfl (dd_X12_vehicle_1 19 _ _ _ rfl) ?_
              refine r_isub 149 rfl (dd_X12_vehicle_1 20 _ _ _ rfl) ?_
              refine r_ireturn rfl rfl (dd_X12_vehicle_1 21 _ _ _ rfl) ?_
              have k := k0 (by omega) (by omega) _ hM
              rw [Int.add_sub_cancel]
              exact k
            · refine r_iconst 77 rfl (dd_X12_vehicle_0 38 _ _ _ rfl) ?_
              refine r_goto 81 rfl (dd_X12_vehicle_0 39 _ _ _ rfl) ?_
              refine r_callV1 (lvl := 10) (mc1 := 0) (ms1 := 0) 0 0 hg rfl md_X12_goesWell zc_X12 hM.kd wi_X12_goesWell wv_X12_goesWell (tb_6 197 _ rfl) (by decide) (by decide) rfl (Nat.le_of_ble_eq_true rfl) (by decide) (by decide) 84 rfl (dd_X12_vehicle_0 41 _ _ _ rfl) ?_
              refine c_X12_goesWell hg hM (by decide) (fun q => absurd q (by decide)) (fun _ h16 hM => ?_)
              dsimp only [zCont, Option.toList, List.cons_append, List.nil_append]
              refine r_ifne (by omega) 87 rfl 89 rfl (dd_X12_vehicle_0 42 _ _ _ rfl) (fun q => absurd q (by decide)) (fun _ => ?_)
              refine r_iconst 88 rfl (dd_X12_vehicle_0 43 _ _ _ rfl) ?_
              refine r_ireturn rfl rfl (dd_X12_vehicle_0 44 _ _ _ rfl) ?_
              first | exact k1 (by omega) _ hM | exact k2 (by omega) (by omega) _ hM
      · dsimp only [zCont, Option.toList, List.cons_append, List.nil_append]
        refine r_ifeq (by omega) 32 rfl 45 rfl (dd_X12_vehicle_0 15 _ _ _ rfl) (fun _ => ?_) (fun q => absurd q (by decide))
        refine r_iconst 46 rfl (dd_X12_vehicle_0 22 _ _ _ rfl) ?_
        refine r_istore_4 48 rfl (by decide) rfl (dd_X12_vehicle_0 23 _ _ _ rfl) ?_
        refine r_aload_0 49 rfl (dd_X12_vehicle_0 24 _ _ _ rfl) ?_
        refine r_iload_4 51 rfl (dd_X12_vehicle_0 25 _ _ _ rfl) ?_
        refine r_ifne (by omega) 54 rfl 58 rfl (dd_X12_vehicle_0 26 _ _ _ rfl) (fun q => absurd q (by decide)) (fun _ => ?_)
        refine r_iconst 55 rfl (dd_X12_vehicle_0 27 _ _ _ rfl) ?_
        refine r_goto 81 rfl (dd_X12_vehicle_0 28 _ _ _ rfl) ?_
        refine r_callV1 (lvl := 10) (mc1 := 0) (ms1 := 0) 0 0 hg rfl md_X12_goesWell zc_X12 hM.kd wi_X12_goesWell wv_X12_goesWell (tb_6 197 _ rfl) (by decide) (by decide) rfl (Nat.le_of_ble_eq_true rfl) (by decide) (by decide) 84 rfl (dd_X12_vehicle_0 41 _ _ _ rfl) ?_
        refine c_X12_goesWell hg hM (by decide) (fun q => absurd q (by decide)) (fun _ h17 hM => ?_)
        dsimp only [zCont, Option.toList, List.cons_append, List.nil_append]
        refine r_ifne (by omega) 87 rfl 89 rfl (dd_X12_vehicle_0 42 _ _ _ rfl) (fun q => absurd q (by decide)) (fun _ => ?_)
        refine r_iconst 88 rfl (dd_X12_vehicle_0 43 _ _ _ rfl) ?_
        refine r_ireturn rfl rfl (dd_X12_vehicle_0 44 _ _ _ rfl) ?_
        first | exact k1 (by omega) _ hM | exact k2 (by omega) (by omega) _ hM
    · dsimp only [zCont, Option.toList, List.cons_append, List.nil_append]
      refine r_ifeq (by omega) 23 rfl 45 rfl (dd_X12_vehicle_0 10 _ _ _ rfl) (fun _ => ?_) (fun q => absurd q (by decide))
      refine r_iconst 46 rfl (dd_X12_vehicle_0 22 _ _ _ rfl) ?_
      refine r_istore_4 48 rfl (by decide) rfl (dd_X12_vehicle_0 23 _ _ _ rfl) ?_
      refine r_aload_0 49 rfl (dd_X12_vehicle_0 24 _ _ _ rfl) ?_
      refine r_iload_4 51 rfl (dd_X12_vehicle_0 25 _ _ _ rfl) ?_
      refine r_ifne (by omega) 54 rfl 58 rfl (dd_X12_vehicle_0 26 _ _ _ rfl) (fun q => absurd q (by decide)) (fun _ => ?_)
      refine r_iconst 55 rfl (dd_X12_vehicle_0 27 _ _ _ rfl) ?_
      refine r_goto 81 rfl (dd_X12_vehicle_0 28 _ _ _ rfl) ?_
      refine r_callV1 (lvl := 10) (mc1 := 0) (ms1 := 0) 0 0 hg rfl md_X12_goesWell zc_X12 hM.kd wi_X12_goesWell wv_X12_goesWell (tb_6 197 _ rfl) (by decide) (by decide) rfl (Nat.le_of_ble_eq_true rfl) (by decide) (by decide) 84 rfl (dd_X12_vehicle_0 41 _ _ _ rfl) ?_
      refine c_X12_goesWell hg hM (by decide) (fun q => absurd q (by decide)) (fun _ h18 hM => ?_)
      dsimp only [zCont, Option.toList, List.cons_append, List.nil_append]
      refine r_ifne (by omega) 87 rfl 89 rfl (dd_X12_vehicle_0 42 _ _ _ rfl) (fun q => absurd q (by decide)) (fun _ => ?_)
      refine r_iconst 88 rfl (dd_X12_vehicle_0 43 _ _ _ rfl) ?_
      refine r_ireturn rfl rfl (dd_X12_vehicle_0 44 _ _ _ rfl) ?_
      first | exact k1 (by omega) _ hM | exact k2 (by omega) (by omega) _ hM
  · dsimp only [zCont, Option.toList, List.cons_append, List.nil_append]
    refine r_ifeq (by omega) 11 rfl 45 rfl (dd_X12_vehicle_0 4 _ _ _ rfl) (fun _ => ?_) (fun q => absurd q (by decide))
    refine r_iconst 46 rfl (dd_X12_vehicle_0 22 _ _ _ rfl) ?_
    refine r_istore_4 48 rfl (by decide) rfl (dd_X12_vehicle_0 23 _ _ _ rfl) ?_
    refine r_aload_0 49 rfl (dd_X12_vehicle_0 24 _ _ _ rfl) ?_
    refine r_iload_4 51 rfl (dd_X12_vehicle_0 25 _ _ _ rfl) ?_
    refine r_ifne (by omega) 54 rfl 58 rfl (dd_X12_vehicle_0 26 _ _ _ rfl) (fun q => absurd q (by decide)) (fun _ => ?_)
    refine r_iconst 55 rfl (dd_X12_vehicle_0 27 _ _ _ rfl) ?_
    refine r_goto 81 rfl (dd_X12_vehicle_0 28 _ _ _ rfl) ?_
    refine r_callV1 (lvl := 10) (mc1 := 0) (ms1 := 0) 0 0 hg rfl md_X12_goesWell zc_X12 hM.kd wi_X12_goesWell wv_X12_goesWell (tb_6 197 _ rfl) (by decide) (by decide) rfl (Nat.le_of_ble_eq_true rfl) (by decide) (by decide) 84 rfl (dd_X12_vehicle_0 41 _ _ _ rfl) ?_
    refine c_X12_goesWell hg hM (by decide) (fun q => absurd q (by decide)) (fun _ h19 hM => ?_)
    dsimp only [zCont, Option.toList, List.cons_append, List.nil_append]
    refine r_ifne (by omega) 87 rfl 89 rfl (dd_X12_vehicle_0 42 _ _ _ rfl) (fun q => absurd q (by decide)) (fun _ => ?_)
    refine r_iconst 88 rfl (dd_X12_vehicle_0 43 _ _ _ rfl) ?_
    refine r_ireturn rfl rfl (dd_X12_vehicle_0 44 _ _ _ rfl) ?_
    first | exact k1 (by omega) _ hM | exact k2 (by omega) (by omega) _ hM

abbrev mX12_stamped : zM := (RX12, cX12_stamped, 3, (Option.some Jvm.ClassFile.FieldType.int), [], "stamped", 12)
set_option maxRecDepth 20000 in
theorem c_X12_stamped {g : zGT} {Q : zO → zH → Prop} {h : zH} (hg : zG g) {h0 : zH} {m : Nat} {A : Nat → Nat} {S : zS} {n : Nat} {t : Int} (hI : MInv n S) (hM : MI h0 m A S t h) {a : Int} (ha : zR a) (k1 : ¬ (0 ≤ a ∧ a ≤ 99999 ∧ zdigit (a / 10) = a % 10) → ∀ h1, MI h0 m A S 1 h1 → Q (.inl (some (.int (zI 0)))) h1) (k0 : (0 ≤ a ∧ a ≤ 99999 ∧ zdigit (a / 10) = a % 10) → ∀ h1, MI h0 m A S 0 h1 → Q (.inl (some (.int (zI (zvof S (a / 10) (S.1 4).toNat))))) h1) : zC g (.code yX12_stamped cX12_stamped 3 (Option.some Jvm.ClassFile.FieldType.int)) yX12_stamped 12 0 0 [.ref m, .int (zI a)] h Q := by
  refine zC_of (M := mX12_stamped) (lv := [some (.ref m), some (.int (zI a)), none]) (by decide) rfl rfl (Nat.le_of_ble_eq_true rfl) rfl rfl ?_
  have e4 := zdigit_range (a / 10)
  refine r_iload_1 1 rfl (dd_X12_stamped 0 _ _ _ rfl) ?_
  refine r_iconst 2 rfl (dd_X12_stamped 1 _ _ _ rfl) ?_
  refine r_ldc hg (tb_6 223 _ rfl) 4 rfl (dd_X12_stamped 2 _ _ _ rfl) ?_
  refine r_top 99999 rfl ?_
  refine r_callS3 (lvl := 10) (mc1 := 0) (ms1 := 0) 0 0 hg rfl md_X12_in ws_X12_in (tb_6 209 _ rfl) (by decide) (by decide) rfl (Nat.le_of_ble_eq_true rfl) (by decide) (by decide) 7 rfl (dd_X12_stamped 3 _ _ _ rfl) ?_
  refine c_X12_in hg (by omega) (by omega) (by omega) (fun hb1 => ?_) (fun hb1 => ?_)
  · dsimp only [zCont, Option.toList, List.cons_append, List.nil_append]
    refine r_ifeq (by omega) 10 rfl 28 rfl (dd_X12_stamped 4 _ _ _ rfl) (fun q => absurd q (by decide)) (fun _ => ?_)
    refine r_iload_1 11 rfl (dd_X12_stamped 5 _ _ _ rfl) ?_
    refine r_bipush (by decide) 13 rfl (dd_X12_stamped 6 _ _ _ rfl) ?_
    refine r_idiv (by omega) (by omega) (by omega) (by omega) 14 rfl (dd_X12_stamped 7 _ _ _ rfl) ?_
    refine r_callS1 (lvl := 10) (mc1 := 0) (ms1 := 0) 0 0 hg rfl md_X12_check ws_X12_check (tb_6 212 _ rfl) (by decide) (by decide) rfl (Nat.le_of_ble_eq_true rfl) (by decide) (by decide) 17 rfl (dd_X12_stamped 8 _ _ _ rfl) ?_
    refine c_X12_check hg (by omega) (by omega) ?_
    dsimp only [zCont, Option.toList, List.cons_append, List.nil_append]
    refine r_iload_1 18 rfl (dd_X12_stamped 9 _ _ _ rfl) ?_
    refine r_bipush (by decide) 20 rfl (dd_X12_stamped 10 _ _ _ rfl) ?_
    refine r_irem (by omega) (by omega) (by omega) (by omega) 21 rfl (dd_X12_stamped 11 _ _ _ rfl) ?_
    refine r_if_icmpne (by omega) (by omega) 24 rfl 28 rfl (dd_X12_stamped 12 _ _ _ rfl) (fun hc2 => ?_) (fun hc2 => ?_)
    · refine r_iconst 29 rfl (dd_X12_stamped 15 _ _ _ rfl) ?_
      refine r_istore_2 30 rfl (by decide) rfl (dd_X12_stamped 16 _ _ _ rfl) ?_
      refine r_aload_0 31 rfl (dd_X12_stamped 17 _ _ _ rfl) ?_
      refine r_iload_2 32 rfl (dd_X12_stamped 18 _ _ _ rfl) ?_
      refine r_ifeq (by omega) 35 rfl 39 rfl (dd_X12_stamped 19 _ _ _ rfl) (fun _ => ?_) (fun q => absurd q (by decide))
      refine r_iconst 40 rfl (dd_X12_stamped 22 _ _ _ rfl) ?_
      refine r_callV1 (lvl := 10) (mc1 := 0) (ms1 := 0) 0 0 hg rfl md_X12_goesWell zc_X12 hM.kd wi_X12_goesWell wv_X12_goesWell (tb_6 197 _ rfl) (by decide) (by decide) rfl (Nat.le_of_ble_eq_true rfl) (by decide) (by decide) 43 rfl (dd_X12_stamped 23 _ _ _ rfl) ?_
      refine c_X12_goesWell hg hM (by decide) (fun q => absurd q (by decide)) (fun _ h3 hM => ?_)
      dsimp only [zCont, Option.toList, List.cons_append, List.nil_append]
      refine r_ifeq (by omega) 46 rfl 57 rfl (dd_X12_stamped 24 _ _ _ rfl) (fun _ => ?_) (fun q => absurd q (by decide))
      refine r_iconst 58 rfl (dd_X12_stamped 31 _ _ _ rfl) ?_
      refine r_ireturn rfl rfl (dd_X12_stamped 32 _ _ _ rfl) ?_
      exact k1 (by omega) _ hM
    · refine r_iconst 25 rfl (dd_X12_stamped 13 _ _ _ rfl) ?_
      refine r_goto 29 rfl (dd_X12_stamped 14 _ _ _ rfl) ?_
      refine r_istore_2 30 rfl (by decide) rfl (dd_X12_stamped 16 _ _ _ rfl) ?_
      refine r_aload_0 31 rfl (dd_X12_stamped 17 _ _ _ rfl) ?_
      refine r_iload_2 32 rfl (dd_X12_stamped 18 _ _ _ rfl) ?_
      refine r_ifeq (by omega) 35 rfl 39 rfl (dd_X12_stamped 19 _ _ _ rfl) (fun q => absurd q (by decide)) (fun _ => ?_)
      refine r_iconst 36 rfl (dd_X12_stamped 20 _ _ _ rfl) ?_
      refine r_goto 40 rfl (dd_X12_stamped 21 _ _ _ rfl) ?_
      refine r_callV1 (lvl := 10) (mc1 := 0) (ms1 := 0) 0 0 hg rfl md_X12_goesWell zc_X12 hM.kd wi_X12_goesWell wv_X12_goesWell (tb_6 197 _ rfl) (by decide) (by decide) rfl (Nat.le_of_ble_eq_true rfl) (by decide) (by decide) 43 rfl (dd_X12_stamped 23 _ _ _ rfl) ?_
      refine c_X12_goesWell hg hM (by decide) (fun _ h4 hM => ?_) (fun q => absurd rfl q)
      dsimp only [zCont, Option.toList, List.cons_append, List.nil_append]
      refine r_ifeq (by omega) 46 rfl 57 rfl (dd_X12_stamped 24 _ _ _ rfl) (fun q => absurd q (by decide)) (fun _ => ?_)
      refine r_aload_0 47 rfl (dd_X12_stamped 25 _ _ _ rfl) ?_
      refine r_iload_1 48 rfl (dd_X12_stamped 26 _ _ _ rfl) ?_
      refine r_bipush (by decide) 50 rfl (dd_X12_stamped 27 _ _ _ rfl) ?_
      refine r_idiv (by omega) (by omega) (by omega) (by omega) 51 rfl (dd_X12_stamped 28 _ _ _ rfl) ?_
      refine r_callV1 (lvl := 10) (mc1 := 0) (ms1 := 0) 0 0 hg rfl md_X12_vehicleOf zc_X12 hM.kd wi_X12_vehicleOf wv_X12_vehicleOf (tb_6 215 _ rfl) (by decide) (by decide) rfl (Nat.le_of_ble_eq_true rfl) (by decide) (by decide) 54 rfl (dd_X12_stamped 29 _ _ _ rfl) ?_
      refine c_X12_vehicleOf hg hI hM (by omega) ?_
      dsimp only [zCont, Option.toList, List.cons_append, List.nil_append]
      refine r_goto 58 rfl (dd_X12_stamped 30 _ _ _ rfl) ?_
      refine r_ireturn rfl rfl (dd_X12_stamped 32 _ _ _ rfl) ?_
      exact k0 (by omega) _ hM
  · dsimp only [zCont, Option.toList, List.cons_append, List.nil_append]
    refine r_ifeq (by omega) 10 rfl 28 rfl (dd_X12_stamped 4 _ _ _ rfl) (fun _ => ?_) (fun q => absurd q (by decide))
    refine r_iconst 29 rfl (dd_X12_stamped 15 _ _ _ rfl) ?_
    refine r_istore_2 30 rfl (by decide) rfl (dd_X12_stamped 16 _ _ _ rfl) ?_
    refine r_aload_0 31 rfl (dd_X12_stamped 17 _ _ _ rfl) ?_
    refine r_iload_2 32 rfl (dd_X12_stamped 18 _ _ _ rfl) ?_
    refine r_ifeq (by omega) 35 rfl 39 rfl (dd_X12_stamped 19 _ _ _ rfl) (fun _ => ?_) (fun q => absurd q (by decide))
    refine r_iconst 40 rfl (dd_X12_stamped 22 _ _ _ rfl) ?_
    refine r_callV1 (lvl := 10) (mc1 := 0) (ms1 := 0) 0 0 hg rfl md_X12_goesWell zc_X12 hM.kd wi_X12_goesWell wv_X12_goesWell (tb_6 197 _ rfl) (by decide) (by decide) rfl (Nat.le_of_ble_eq_true rfl) (by decide) (by decide) 43 rfl (dd_X12_stamped 23 _ _ _ rfl) ?_
    refine c_X12_goesWell hg hM (by decide) (fun q => absurd q (by decide)) (fun _ h5 hM => ?_)
    dsimp only [zCont, Option.toList, List.cons_append, List.nil_append]
    refine r_ifeq (by omega) 46 rfl 57 rfl (dd_X12_stamped 24 _ _ _ rfl) (fun _ => ?_) (fun q => absurd q (by decide))
    refine r_iconst 58 rfl (dd_X12_stamped 31 _ _ _ rfl) ?_
    refine r_ireturn rfl rfl (dd_X12_stamped 32 _ _ _ rfl) ?_
    exact k1 (by omega) _ hM

abbrev mX12_protect : zM := (RX12, cX12_protect, 4, (Option.some Jvm.ClassFile.FieldType.boolean), [], "protect", 12)
set_option maxRecDepth 20000 in
theorem c_X12_protect {g : zGT} {Q : zO → zH → Prop} {h : zH} (hg : zG g) {h0 : zH} {m : Nat} {A : Nat → Nat} {S : zS} {n : Nat} {t : Int} (hI : MInv n S) (hM : MI h0 m A S t h) {a is : Int} (ha : zR a) (his : is = 0 ∨ is = 1) (k1 : ¬ (0 ≤ a ∧ a < S.1 12) → ∀ h1, MI h0 m A S 1 h1 → Q (.inl (some (.int (zI 0)))) h1) (k0 : (0 ≤ a ∧ a < S.1 12) → ∀ h1, MI h0 m A (S.1, zu2 S.2 13 a.toNat is) 0 h1 → Q (.inl (some (.int (zI (S.2 13 a.toNat))))) h1) : zC g (.code yX12_protect cX12_protect 4 (Option.some Jvm.ClassFile.FieldType.boolean)) yX12_protect 12 0 0 [.ref m, .int (zI a), .int (zI is)] h Q := by
  refine zC_of (M := mX12_protect) (lv := [some (.ref m), some (.int (zI a)), some (.int (zI is)), none]) (by decide) rfl rfl (Nat.le_of_ble_eq_true rfl) rfl rfl ?_
  have e1 := hI.people
  have hnb : narrow .boolean (.int (zI is)) = .int (zI is) := by rcases his with rfl | rfl <;> rfl
  refine r_aload_0 1 rfl (dd_X12_protect 0 _ _ _ rfl) ?_
  refine r_aload_0 2 rfl (dd_X12_protect 1 _ _ _ rfl) ?_
  refine r_iload_1 3 rfl (dd_X12_protect 2 _ _ _ rfl) ?_
  refine r_callV1 (lvl := 11) (mc1 := 0) (ms1 := 0) 0 0 hg rfl md_X12_isPerson zc_X12 hM.kd wi_X12_isPerson wv_X12_isPerson (tb_6 232 _ rfl) (by decide) (by decide) rfl (Nat.le_of_ble_eq_true rfl) (by decide) (by decide) 6 rfl (dd_X12_protect 3 _ _ _ rfl) ?_
  refine c_X12_isPerson hg hI hM (by omega) (fun hb1 => ?_) (fun hb1 => ?_)
  · dsimp only [zCont, Option.toList, List.cons_append, List.nil_append]
    refine r_ifeq (by omega) 9 rfl 13 rfl (dd_X12_protect 4 _ _ _ rfl) (fun q => absurd q (by decide)) (fun _ => ?_)
    refine r_iconst 10 rfl (dd_X12_protect 5 _ _ _ rfl) ?_
    refine r_goto 14 rfl (dd_X12_protect 6 _ _ _ rfl) ?_
    refine r_callV1 (lvl := 10) (mc1 := 0) (ms1 := 0) 0 0 hg rfl md_X12_goesWell zc_X12 hM.kd wi_X12_goesWell wv_X12_goesWell (tb_6 197 _ rfl) (by decide) (by decide) rfl (Nat.le_of_ble_eq_true rfl) (by decide) (by decide) 17 rfl (dd_X12_protect 8 _ _ _ rfl) ?_
    refine c_X12_goesWell hg hM (by decide) (fun _ h2 hM => ?_) (fun q => absurd rfl q)
    dsimp only [zCont, Option.toList, List.cons_append, List.nil_append]
    refine r_ifne (by omega) 20 rfl 22 rfl (dd_X12_protect 9 _ _ _ rfl) (fun _ => ?_) (fun q => absurd q (by decide))
    refine r_aload_0 23 rfl (dd_X12_protect 12 _ _ _ rfl) ?_
    refine m_arr 13 hg hM (by decide) (by decide) (tb_6 69 _ rfl) 26 rfl (dd_X12_protect 13 _ _ _ rfl) ?_ (fun _ _ _ => rfl)
    refine r_iload_1 27 rfl (dd_X12_protect 14 _ _ _ rfl) ?_
    refine m_zald 13 _ rfl hg hM rfl (by omega) (z_lt (n2 := 10) rfl (by omega)) (by decide) 28 rfl (dd_X12_protect 15 _ _ _ rfl) ?_
    refine r_istore_3 29 rfl (by decide) rfl (dd_X12_protect 16 _ _ _ rfl) ?_
    refine r_aload_0 30 rfl (dd_X12_protect 17 _ _ _ rfl) ?_
    refine m_arr 13 hg hM (by decide) (by decide) (tb_6 69 _ rfl) 33 rfl (dd_X12_protect 18 _ _ _ rfl) ?_ (fun _ _ _ => rfl)
    refine r_iload_1 34 rfl (dd_X12_protect 19 _ _ _ rfl) ?_
    refine r_iload_2 35 rfl (dd_X12_protect 20 _ _ _ rfl) ?_
    refine m_zast 13 _ rfl hg hM rfl (by omega) (z_lt (n2 := 10) rfl (by omega)) (by decide) (by first | rfl | assumption) 36 rfl (dd_X12_protect 21 _ _ _ rfl) (fun h3 hM => ?_)
    refine r_iload_3 37 rfl (dd_X12_protect 22 _ _ _ rfl) ?_
    refine r_ireturn rfl (by rcases hI.prot a.toNat with q | q <;> rw [q] <;> rfl) (dd_X12_protect 23 _ _ _ rfl) ?_
    exact k0 (by omega) _ hM
  · dsimp only [zCont, Option.toList, List.cons_append, List.nil_append]
    refine r_ifeq (by omega) 9 rfl 13 rfl (dd_X12_protect 4 _ _ _ rfl) (fun _ => ?_) (fun q => absurd q (by decide))
    refine r_iconst 14 rfl (dd_X12_protect 7 _ _ _ rfl) ?_
    refine r_callV1 (lvl := 10) (mc1 := 0) (ms1 := 0) 0 0 hg rfl md_X12_goesWell zc_X12 hM.kd wi_X12_goesWell wv_X12_goesWell (tb_6 197 _ rfl) (by decide) (by decide) rfl (Nat.le_of_ble_eq_true rfl) (by decide) (by decide) 17 rfl (dd_X12_protect 8 _ _ _ rfl) ?_
    refine c_X12_goesWell hg hM (by decide) (fun q => absurd q (by decide)) (fun _ h4 hM => ?_)
    dsimp only [zCont, Option.toList, List.cons_append, List.nil_append]
    refine r_ifne (by omega) 20 rfl 22 rfl (dd_X12_protect 9 _ _ _ rfl) (fun q => absurd q (by decide)) (fun _ => ?_)
    refine r_iconst 21 rfl (dd_X12_protect 10 _ _ _ rfl) ?_
    refine r_ireturn rfl rfl (dd_X12_protect 11 _ _ _ rfl) ?_
    exact k1 (by omega) _ hM

abbrev mX12_bar : zM := (RX12, cX12_bar, 6, (Option.some Jvm.ClassFile.FieldType.boolean), [], "bar", 12)
set_option maxRecDepth 20000 in
theorem c_X12_bar {g : zGT} {Q : zO → zH → Prop} {h : zH} (hg : zG g) {h0 : zH} {m : Nat} {A : Nat → Nat} {S : zS} {n : Nat} {t : Int} (hI : MInv n S) (hM : MI h0 m A S t h) {a b is : Int} (ha : zR a) (hb : zR b) (his : is = 0 ∨ is = 1) (k1 : ¬ (65 ≤ a ∧ a ≤ 90 ∧ 65 ≤ b ∧ b ≤ 90) → ∀ h1, MI h0 m A S 1 h1 → Q (.inl (some (.int (zI 0)))) h1) (k0 : (65 ≤ a ∧ a ≤ 90 ∧ 65 ≤ b ∧ b ≤ 90) → ∀ h1, MI h0 m A (S.1, zu2 S.2 15 (26 * (a - 65) + b - 65).toNat is) 0 h1 → Q (.inl (some (.int (zI (S.2 15 (26 * (a - 65) + b - 65).toNat))))) h1) : zC g (.code yX12_bar cX12_bar 6 (Option.some Jvm.ClassFile.FieldType.boolean)) yX12_bar 12 0 0 [.ref m, .int (zI a), .int (zI b), .int (zI is)] h Q := by
  refine zC_of (M := mX12_bar) (lv := [some (.ref m), some (.int (zI a)), some (.int (zI b)), some (.int (zI is)), none, none]) (by decide) rfl rfl (Nat.le_of_ble_eq_true rfl) rfl rfl ?_
  have hnb : narrow .boolean (.int (zI is)) = .int (zI is) := by rcases his with rfl | rfl <;> rfl
  refine r_aload_0 1 rfl (dd_X12_bar 0 _ _ _ rfl) ?_
  refine r_iload_1 2 rfl (dd_X12_bar 1 _ _ _ rfl) ?_
  refine r_callS1 (lvl := 11) (mc1 := 0) (ms1 := 0) 0 0 hg rfl md_X12_isLetter ws_X12_isLetter (tb_7 36 _ rfl) (by decide) (by decide) rfl (Nat.le_of_ble_eq_true rfl) (by decide) (by decide) 5 rfl (dd_X12_bar 2 _ _ _ rfl) ?_
  refine c_X12_isLetter hg (by omega) (fun hb1 => ?_) (fun hb1 => ?_)
  · dsimp only [zCont, Option.toList, List.cons_append, List.nil_append]
    refine r_ifeq (by omega) 8 rfl 19 rfl (dd_X12_bar 3 _ _ _ rfl) (fun q => absurd q (by decide)) (fun _ => ?_)
    refine r_iload_2 9 rfl (dd_X12_bar 4 _ _ _ rfl) ?_
    refine r_callS1 (lvl := 11) (mc1 := 0) (ms1 := 0) 0 0 hg rfl md_X12_isLetter ws_X12_isLetter (tb_7 36 _ rfl) (by decide) (by decide) rfl (Nat.le_of_ble_eq_true rfl) (by decide) (by decide) 12 rfl (dd_X12_bar 5 _ _ _ rfl) ?_
    refine c_X12_isLetter hg (by omega) (fun hb2 => ?_) (fun hb2 => ?_)
    · dsimp only [zCont, Option.toList, List.cons_append, List.nil_append]
      refine r_ifeq (by omega) 15 rfl 19 rfl (dd_X12_bar 6 _ _ _ rfl) (fun q => absurd q (by decide)) (fun _ => ?_)
      refine r_iconst 16 rfl (dd_X12_bar 7 _ _ _ rfl) ?_
      refine r_goto 20 rfl (dd_X12_bar 8 _ _ _ rfl) ?_
      refine r_callV1 (lvl := 10) (mc1 := 0) (ms1 := 0) 0 0 hg rfl md_X12_goesWell zc_X12 hM.kd wi_X12_goesWell wv_X12_goesWell (tb_6 197 _ rfl) (by decide) (by decide) rfl (Nat.le_of_ble_eq_true rfl) (by decide) (by decide) 23 rfl (dd_X12_bar 10 _ _ _ rfl) ?_
      refine c_X12_goesWell hg hM (by decide) (fun _ h3 hM => ?_) (fun q => absurd rfl q)
      dsimp only [zCont, Option.toList, List.cons_append, List.nil_append]
      refine r_ifne (by omega) 26 rfl 28 rfl (dd_X12_bar 11 _ _ _ rfl) (fun _ => ?_) (fun q => absurd q (by decide))
      refine r_bipush (by decide) 30 rfl (dd_X12_bar 14 _ _ _ rfl) ?_
      refine r_iload_1 31 rfl (dd_X12_bar 15 _ _ _ rfl) ?_
      refine r_bipush (by decide) 33 rfl (dd_X12_bar 16 _ _ _ rfl) ?_
      refine r_isub 34 rfl (dd_X12_bar 17 _ _ _ rfl) ?_
      refine r_imul 35 rfl (dd_X12_bar 18 _ _ _ rfl) ?_
      refine r_iload_2 36 rfl (dd_X12_bar 19 _ _ _ rfl) ?_
      refine r_iadd 37 rfl (dd_X12_bar 20 _ _ _ rfl) ?_
      refine r_bipush (by decide) 39 rfl (dd_X12_bar 21 _ _ _ rfl) ?_
      refine r_isub 40 rfl (dd_X12_bar 22 _ _ _ rfl) ?_
      refine r_istore_4 42 rfl (by decide) rfl (dd_X12_bar 23 _ _ _ rfl) ?_
      refine r_aload_0 43 rfl (dd_X12_bar 24 _ _ _ rfl) ?_
      refine m_arr 15 hg hM (by decide) (by decide) (tb_6 71 _ rfl) 46 rfl (dd_X12_bar 25 _ _ _ rfl) ?_ (fun _ _ _ => rfl)
      refine r_iload_4 48 rfl (dd_X12_bar 26 _ _ _ rfl) ?_
      refine m_zald 15 _ rfl hg hM rfl (by omega) (z_lt (n2 := 676) rfl (by omega)) (by decide) 49 rfl (dd_X12_bar 27 _ _ _ rfl) ?_
      refine r_istore_5 51 rfl (by decide) rfl (dd_X12_bar 28 _ _ _ rfl) ?_
      refine r_aload_0 52 rfl (dd_X12_bar 29 _ _ _ rfl) ?_
      refine m_arr 15 hg hM (by decide) (by decide) (tb_6 71 _ rfl) 55 rfl (dd_X12_bar 30 _ _ _ rfl) ?_ (fun _ _ _ => rfl)
      refine r_iload_4 57 rfl (dd_X12_bar 31 _ _ _ rfl) ?_
      refine r_iload_3 58 rfl (dd_X12_bar 32 _ _ _ rfl) ?_
      refine m_zast 15 _ rfl hg hM rfl (by omega) (z_lt (n2 := 676) rfl (by omega)) (by decide) (by first | rfl | assumption) 59 rfl (dd_X12_bar 33 _ _ _ rfl) (fun h4 hM => ?_)
      refine r_iload_5 61 rfl (dd_X12_bar 34 _ _ _ rfl) ?_
      refine r_ireturn rfl (by rcases hI.barred (26 * (a - 65) + b - 65).toNat with q | q <;> rw [q] <;> rfl) (dd_X12_bar 35 _ _ _ rfl) ?_
      exact k0 (by omega) _ hM
    · dsimp only [zCont, Option.toList, List.cons_append, List.nil_append]
      refine r_ifeq (by omega) 15 rfl 19 rfl (dd_X12_bar 6 _ _ _ rfl) (fun _ => ?_) (fun q => absurd q (by decide))
      refine r_iconst 20 rfl (dd_X12_bar 9 _ _ _ rfl) ?_
      refine r_callV1 (lvl := 10) (mc1 := 0) (ms1 := 0) 0 0 hg rfl md_X12_goesWell zc_X12 hM.kd wi_X12_goesWell wv_X12_goesWell (tb_6 197 _ rfl) (by decide) (by decide) rfl (Nat.le_of_ble_eq_true rfl) (by decide) (by decide) 23 rfl (dd_X12_bar 10 _ _ _ rfl) ?_
      refine c_X12_goesWell hg hM (by decide) (fun q => absurd q (by decide)) (fun _ h5 hM => ?_)
      dsimp only [zCont, Option.toList, List.cons_append, List.nil_append]
      refine r_ifne (by omega) 26 rfl 28 rfl (dd_X12_bar 11 _ _ _ rfl) (fun q => absurd q (by decide)) (fun _ => ?_)
      refine r_iconst 27 rfl (dd_X12_bar 12 _ _ _ rfl) ?_
      refine r_ireturn rfl rfl (dd_X12_bar 13 _ _ _ rfl) ?_
      exact k1 (by omega) _ hM
  · dsimp only [zCont, Option.toList, List.cons_append, List.nil_append]
    refine r_ifeq (by omega) 8 rfl 19 rfl (dd_X12_bar 3 _ _ _ rfl) (fun _ => ?_) (fun q => absurd q (by decide))
    refine r_iconst 20 rfl (dd_X12_bar 9 _ _ _ rfl) ?_
    refine r_callV1 (lvl := 10) (mc1 := 0) (ms1 := 0) 0 0 hg rfl md_X12_goesWell zc_X12 hM.kd wi_X12_goesWell wv_X12_goesWell (tb_6 197 _ rfl) (by decide) (by decide) rfl (Nat.le_of_ble_eq_true rfl) (by decide) (by decide) 23 rfl (dd_X12_bar 10 _ _ _ rfl) ?_
    refine c_X12_goesWell hg hM (by decide) (fun q => absurd q (by decide)) (fun _ h6 hM => ?_)
    dsimp only [zCont, Option.toList, List.cons_append, List.nil_append]
    refine r_ifne (by omega) 26 rfl 28 rfl (dd_X12_bar 11 _ _ _ rfl) (fun q => absurd q (by decide)) (fun _ => ?_)
    refine r_iconst 27 rfl (dd_X12_bar 12 _ _ _ rfl) ?_
    refine r_ireturn rfl rfl (dd_X12_bar 13 _ _ _ rfl) ?_
    exact k1 (by omega) _ hM

abbrev mX12_signOf : zM := (RX12, cX12_signOf, 2, (Option.some Jvm.ClassFile.FieldType.char), [], "signOf", 10)
set_option maxRecDepth 20000 in
theorem c_X12_signOf {g : zGT} {Q : zO → zH → Prop} {h : zH} (hg : zG g) {p q : Int} (hp : 0 ≤ p ∧ p < 67600) (hq : 0 ≤ q ∧ q ≤ 3) (k : Q (.inl (some (.int (zI (zsign p q))))) h) : zC g (.code yX12_signOf cX12_signOf 2 (Option.some Jvm.ClassFile.FieldType.char)) yX12_signOf 10 0 0 [.int (zI p), .int (zI q)] h Q := by
  refine zC_of (M := mX12_signOf) (lv := [some (.int (zI p)), some (.int (zI q))]) (by decide) rfl rfl (Nat.le_of_ble_eq_true rfl) rfl rfl ?_
  refine r_iload_1 1 rfl (dd_X12_signOf 0 _ _ _ rfl) ?_
  refine r_ifne (by omega) 4 rfl 15 rfl (dd_X12_signOf 1 _ _ _ rfl) (fun hc1 => ?_) (fun hc1 => ?_)
  · refine r_iload_1 16 rfl (dd_X12_signOf 8 _ _ _ rfl) ?_
    refine r_iconst 17 rfl (dd_X12_signOf 9 _ _ _ rfl) ?_
    refine r_if_icmpne (by omega) (by omega) 20 rfl 33 rfl (dd_X12_signOf 10 _ _ _ rfl) (fun hc2 => ?_) (fun hc2 => ?_)
    · refine r_iload_1 34 rfl (dd_X12_signOf 19 _ _ _ rfl) ?_
      refine r_iconst 35 rfl (dd_X12_signOf 20 _ _ _ rfl) ?_
      refine r_if_icmpne (by omega) (by omega) 38 rfl 51 rfl (dd_X12_signOf 21 _ _ _ rfl) (fun hc3 => ?_) (fun hc3 => ?_)
      · refine r_bipush (by decide) 53 rfl (dd_X12_signOf 30 _ _ _ rfl) ?_
        refine r_iload_0 54 rfl (dd_X12_signOf 31 _ _ _ rfl) ?_
        refine r_bipush (by decide) 56 rfl (dd_X12_signOf 32 _ _ _ rfl) ?_
        refine r_irem (by omega) (by omega) (by omega) (by omega) 57 rfl (dd_X12_signOf 33 _ _ _ rfl) ?_
        refine r_iadd 58 rfl (dd_X12_signOf 34 _ _ _ rfl) ?_
        refine r_i2c (by omega) (by omega) 59 rfl (dd_X12_signOf 35 _ _ _ rfl) ?_
        refine r_ireturn rfl (z_nchar (by omega) (by omega)) (dd_X12_signOf 36 _ _ _ rfl) ?_
        unfold zsign at k
        first | (rw [if_pos (by omega)] at k; exact k) | (rw [if_neg (by omega), if_pos (by omega)] at k; exact k) | (rw [if_neg (by omega), if_neg (by omega), if_pos (by omega)] at k; exact k) | (rw [if_neg (by omega), if_neg (by omega), if_neg (by omega)] at k; exact k)
      · refine r_bipush (by decide) 40 rfl (dd_X12_signOf 22 _ _ _ rfl) ?_
        refine r_iload_0 41 rfl (dd_X12_signOf 23 _ _ _ rfl) ?_
        refine r_bipush (by decide) 43 rfl (dd_X12_signOf 24 _ _ _ rfl) ?_
        refine r_idiv (by omega) (by omega) (by omega) (by omega) 44 rfl (dd_X12_signOf 25 _ _ _ rfl) ?_
        refine r_bipush (by decide) 46 rfl (dd_X12_signOf 26 _ _ _ rfl) ?_
        refine r_irem (by omega) (by omega) (by omega) (by omega) 47 rfl (dd_X12_signOf 27 _ _ _ rfl) ?_
        refine r_iadd 48 rfl (dd_X12_signOf 28 _ _ _ rfl) ?_
        refine r_goto 58 rfl (dd_X12_signOf 29 _ _ _ rfl) ?_
        refine r_i2c (by omega) (by omega) 59 rfl (dd_X12_signOf 35 _ _ _ rfl) ?_
        refine r_ireturn rfl (z_nchar (by omega) (by omega)) (dd_X12_signOf 36 _ _ _ rfl) ?_
        unfold zsign at k
        first | (rw [if_pos (by omega)] at k; exact k) | (rw [if_neg (by omega), if_pos (by omega)] at k; exact k) | (rw [if_neg (by omega), if_neg (by omega), if_pos (by omega)] at k; exact k) | (rw [if_neg (by omega), if_neg (by omega), if_neg (by omega)] at k; exact k)
    · refine r_bipush (by decide) 22 rfl (dd_X12_signOf 11 _ _ _ rfl) ?_
      refine r_iload_0 23 rfl (dd_X12_signOf 12 _ _ _ rfl) ?_
      refine r_bipush (by decide) 25 rfl (dd_X12_signOf 13 _ _ _ rfl) ?_
      refine r_idiv (by omega) (by omega) (by omega) (by omega) 26 rfl (dd_X12_signOf 14 _ _ _ rfl) ?_
      refine r_bipush (by decide) 28 rfl (dd_X12_signOf 15 _ _ _ rfl) ?_
      refine r_irem (by omega) (by omega) (by omega) (by omega) 29 rfl (dd_X12_signOf 16 _ _ _ rfl) ?_
      refine r_iadd 30 rfl (dd_X12_signOf 17 _ _ _ rfl) ?_
      refine r_goto 58 rfl (dd_X12_signOf 18 _ _ _ rfl) ?_
      refine r_i2c (by omega) (by omega) 59 rfl (dd_X12_signOf 35 _ _ _ rfl) ?_
      refine r_ireturn rfl (z_nchar (by omega) (by omega)) (dd_X12_signOf 36 _ _ _ rfl) ?_
      unfold zsign at k
      first | (rw [if_pos (by omega)] at k; exact k) | (rw [if_neg (by omega), if_pos (by omega)] at k; exact k) | (rw [if_neg (by omega), if_neg (by omega), if_pos (by omega)] at k; exact k) | (rw [if_neg (by omega), if_neg (by omega), if_neg (by omega)] at k; exact k)
  · refine r_bipush (by decide) 6 rfl (dd_X12_signOf 2 _ _ _ rfl) ?_
    refine r_iload_0 7 rfl (dd_X12_signOf 3 _ _ _ rfl) ?_
    refine r_sipush (by decide) 10 rfl (dd_X12_signOf 4 _ _ _ rfl) ?_
    refine r_idiv (by omega) (by omega) (by omega) (by omega) 11 rfl (dd_X12_signOf 5 _ _ _ rfl) ?_
    refine r_iadd 12 rfl (dd_X12_signOf 6 _ _ _ rfl) ?_
    refine r_goto 58 rfl (dd_X12_signOf 7 _ _ _ rfl) ?_
    refine r_i2c (by omega) (by omega) 59 rfl (dd_X12_signOf 35 _ _ _ rfl) ?_
    refine r_ireturn rfl (z_nchar (by omega) (by omega)) (dd_X12_signOf 36 _ _ _ rfl) ?_
    unfold zsign at k
    first | (rw [if_pos (by omega)] at k; exact k) | (rw [if_neg (by omega), if_pos (by omega)] at k; exact k) | (rw [if_neg (by omega), if_neg (by omega), if_pos (by omega)] at k; exact k) | (rw [if_neg (by omega), if_neg (by omega), if_neg (by omega)] at k; exact k)

abbrev mX12_looked : zM := (RX12, cX12_looked, 2, (Option.some Jvm.ClassFile.FieldType.int), [], "looked", 12)
set_option maxRecDepth 20000 in
theorem c_X12_looked {g : zGT} {Q : zO → zH → Prop} {h : zH} (hg : zG g) {h0 : zH} {m : Nat} {A : Nat → Nat} {S : zS} {n : Nat} {t : Int} (hI : MInv n S) (hM : MI h0 m A S t h) {a : Int} (ha : zR a) (k1 : ¬ (0 ≤ a ∧ a < S.1 12) → ∀ h1, MI h0 m A S 1 h1 → Q (.inl (some (.int (zI 0)))) h1) (k0 : (0 ≤ a ∧ a < S.1 12) → ∀ h1, MI h0 m A S 0 h1 → Q (.inl (some (.int (zI (S.2 14 a.toNat))))) h1) : zC g (.code yX12_looked cX12_looked 2 (Option.some Jvm.ClassFile.FieldType.int)) yX12_looked 12 0 0 [.ref m, .int (zI a)] h Q := by
  refine zC_of (M := mX12_looked) (lv := [some (.ref m), some (.int (zI a))]) (by decide) rfl rfl (Nat.le_of_ble_eq_true rfl) rfl rfl ?_
  have e1 := hI.people
  refine r_aload_0 1 rfl (dd_X12_looked 0 _ _ _ rfl) ?_
  refine r_aload_0 2 rfl (dd_X12_looked 1 _ _ _ rfl) ?_
  refine r_iload_1 3 rfl (dd_X12_looked 2 _ _ _ rfl) ?_
  refine r_callV1 (lvl := 11) (mc1 := 0) (ms1 := 0) 0 0 hg rfl md_X12_isPerson zc_X12 hM.kd wi_X12_isPerson wv_X12_isPerson (tb_6 232 _ rfl) (by decide) (by decide) rfl (Nat.le_of_ble_eq_true rfl) (by decide) (by decide) 6 rfl (dd_X12_looked 3 _ _ _ rfl) ?_
  refine c_X12_isPerson hg hI hM (by omega) (fun hb1 => ?_) (fun hb1 => ?_)
  · dsimp only [zCont, Option.toList, List.cons_append, List.nil_append]
    refine r_ifeq (by omega) 9 rfl 13 rfl (dd_X12_looked 4 _ _ _ rfl) (fun q => absurd q (by decide)) (fun _ => ?_)
    refine r_iconst 10 rfl (dd_X12_looked 5 _ _ _ rfl) ?_
    refine r_goto 14 rfl (dd_X12_looked 6 _ _ _ rfl) ?_
    refine r_callV1 (lvl := 10) (mc1 := 0) (ms1 := 0) 0 0 hg rfl md_X12_goesWell zc_X12 hM.kd wi_X12_goesWell wv_X12_goesWell (tb_6 197 _ rfl) (by decide) (by decide) rfl (Nat.le_of_ble_eq_true rfl) (by decide) (by decide) 17 rfl (dd_X12_looked 8 _ _ _ rfl) ?_
    refine c_X12_goesWell hg hM (by decide) (fun _ h2 hM => ?_) (fun q => absurd rfl q)
    dsimp only [zCont, Option.toList, List.cons_append, List.nil_append]
    refine r_ifeq (by omega) 20 rfl 29 rfl (dd_X12_looked 9 _ _ _ rfl) (fun q => absurd q (by decide)) (fun _ => ?_)
    refine r_aload_0 21 rfl (dd_X12_looked 10 _ _ _ rfl) ?_
    refine m_arr 14 hg hM (by decide) (by decide) (tb_6 70 _ rfl) 24 rfl (dd_X12_looked 11 _ _ _ rfl) ?_ (fun _ _ _ => rfl)
    refine r_iload_1 25 rfl (dd_X12_looked 12 _ _ _ rfl) ?_
    refine m_iald 14 _ rfl hg hM rfl (by omega) (z_lt (n2 := 10) rfl (by omega)) (by decide) 26 rfl (dd_X12_looked 13 _ _ _ rfl) ?_
    refine r_goto 30 rfl (dd_X12_looked 14 _ _ _ rfl) ?_
    refine r_ireturn rfl rfl (dd_X12_looked 16 _ _ _ rfl) ?_
    exact k0 (by omega) _ hM
  · dsimp only [zCont, Option.toList, List.cons_append, List.nil_append]
    refine r_ifeq (by omega) 9 rfl 13 rfl (dd_X12_looked 4 _ _ _ rfl) (fun _ => ?_) (fun q => absurd q (by decide))
    refine r_iconst 14 rfl (dd_X12_looked 7 _ _ _ rfl) ?_
    refine r_callV1 (lvl := 10) (mc1 := 0) (ms1 := 0) 0 0 hg rfl md_X12_goesWell zc_X12 hM.kd wi_X12_goesWell wv_X12_goesWell (tb_6 197 _ rfl) (by decide) (by decide) rfl (Nat.le_of_ble_eq_true rfl) (by decide) (by decide) 17 rfl (dd_X12_looked 8 _ _ _ rfl) ?_
    refine c_X12_goesWell hg hM (by decide) (fun q => absurd q (by decide)) (fun _ h3 hM => ?_)
    dsimp only [zCont, Option.toList, List.cons_append, List.nil_append]
    refine r_ifeq (by omega) 20 rfl 29 rfl (dd_X12_looked 9 _ _ _ rfl) (fun _ => ?_) (fun q => absurd q (by decide))
    refine r_iconst 30 rfl (dd_X12_looked 15 _ _ _ rfl) ?_
    refine r_ireturn rfl rfl (dd_X12_looked 16 _ _ _ rfl) ?_
    exact k1 (by omega) _ hM

abbrev mX12_pass : zM := (RX12, cX12_pass, 3, (Option.some Jvm.ClassFile.FieldType.int), [], "pass", 12)
set_option maxRecDepth 20000 in
theorem c_X12_pass {g : zGT} {Q : zO → zH → Prop} {h : zH} (hg : zG g) {h0 : zH} {m : Nat} {A : Nat → Nat} {S : zS} {n : Nat} {t : Int} (hI : MInv n S) (hM : MI h0 m A S t h) {a : Int} (ha : zR a) (k1 : ¬ (1 ≤ a ∧ a ≤ 400) → ∀ h1, MI h0 m A S 1 h1 → Q (.inl (some (.int (zI 0)))) h1) (k2 : (1 ≤ a ∧ a ≤ 400) → 20000 < S.1 1 + a → ∀ h1, MI h0 m A S 2 h1 → Q (.inl (some (.int (zI 0)))) h1) (k0 : (1 ≤ a ∧ a ≤ 400) → S.1 1 + a ≤ 20000 → ∀ h1, MI h0 m A (zu1 S.1 1 (S.1 1 + a), S.2) 0 h1 → Q (.inl (some (.int (zI (S.1 1 + a))))) h1) : zC g (.code yX12_pass cX12_pass 3 (Option.some Jvm.ClassFile.FieldType.int)) yX12_pass 12 0 0 [.ref m, .int (zI a)] h Q := by
  refine zC_of (M := mX12_pass) (lv := [some (.ref m), some (.int (zI a)), none]) (by decide) rfl rfl (Nat.le_of_ble_eq_true rfl) rfl rfl ?_
  have e1 := hI.today
  refine r_iload_1 1 rfl (dd_X12_pass 0 _ _ _ rfl) ?_
  refine r_iconst 2 rfl (dd_X12_pass 1 _ _ _ rfl) ?_
  refine r_sipush (by decide) 5 rfl (dd_X12_pass 2 _ _ _ rfl) ?_
  refine r_callS3 (lvl := 10) (mc1 := 0) (ms1 := 0) 0 0 hg rfl md_X12_in ws_X12_in (tb_6 209 _ rfl) (by decide) (by decide) rfl (Nat.le_of_ble_eq_true rfl) (by decide) (by decide) 8 rfl (dd_X12_pass 3 _ _ _ rfl) ?_
  refine c_X12_in hg (by omega) (by omega) (by omega) (fun hb1 => ?_) (fun hb1 => ?_)
  · dsimp only [zCont, Option.toList, List.cons_append, List.nil_append]
    refine r_istore_2 9 rfl (by decide) rfl (dd_X12_pass 4 _ _ _ rfl) ?_
    refine r_aload_0 10 rfl (dd_X12_pass 5 _ _ _ rfl) ?_
    refine r_iload_2 11 rfl (dd_X12_pass 6 _ _ _ rfl) ?_
    refine r_ifne (by omega) 14 rfl 18 rfl (dd_X12_pass 7 _ _ _ rfl) (fun _ => ?_) (fun q => absurd q (by decide))
    refine r_aload_0 19 rfl (dd_X12_pass 10 _ _ _ rfl) ?_
    refine m_get 1 hg hM (by unfold z_free; decide) rfl (by decide) (tb_6 57 _ rfl) 22 rfl (dd_X12_pass 11 _ _ _ rfl) ?_ (fun _ _ _ => rfl)
    try simp (decide := true) only [zu1, if_true, if_false, reduceIte]
    refine r_iload_1 23 rfl (dd_X12_pass 12 _ _ _ rfl) ?_
    refine r_iadd 24 rfl (dd_X12_pass 13 _ _ _ rfl) ?_
    refine r_sipush (by decide) 27 rfl (dd_X12_pass 14 _ _ _ rfl) ?_
    refine r_if_icmple (by omega) (by omega) 30 rfl 34 rfl (dd_X12_pass 15 _ _ _ rfl) (fun hc2 => ?_) (fun hc2 => ?_)
    · refine r_iconst 35 rfl (dd_X12_pass 18 _ _ _ rfl) ?_
      refine r_callV1 (lvl := 10) (mc1 := 0) (ms1 := 0) 0 0 hg rfl md_X12_goesWell zc_X12 hM.kd wi_X12_goesWell wv_X12_goesWell (tb_6 197 _ rfl) (by decide) (by decide) rfl (Nat.le_of_ble_eq_true rfl) (by decide) (by decide) 38 rfl (dd_X12_pass 19 _ _ _ rfl) ?_
      refine c_X12_goesWell hg hM (by decide) (fun _ h3 hM => ?_) (fun q => absurd rfl q)
      dsimp only [zCont, Option.toList, List.cons_append, List.nil_append]
      refine r_ifne (by omega) 41 rfl 43 rfl (dd_X12_pass 20 _ _ _ rfl) (fun _ => ?_) (fun q => absurd q (by decide))
      refine r_aload_0 44 rfl (dd_X12_pass 23 _ _ _ rfl) ?_
      refine r_dup rfl 45 rfl (dd_X12_pass 24 _ _ _ rfl) ?_
      refine m_get 1 hg hM (by unfold z_free; decide) rfl (by decide) (tb_6 57 _ rfl) 48 rfl (dd_X12_pass 25 _ _ _ rfl) ?_ (fun _ _ _ => rfl)
      try simp (decide := true) only [zu1, if_true, if_false, reduceIte]
      refine r_iload_1 49 rfl (dd_X12_pass 26 _ _ _ rfl) ?_
      refine r_iadd 50 rfl (dd_X12_pass 27 _ _ _ rfl) ?_
      refine m_put 1 hg hM rfl (by decide) (by decide) rfl (fun _ _ _ => rfl) rfl rfl (tb_6 57 _ rfl) 53 rfl (dd_X12_pass 28 _ _ _ rfl) (fun h5 hM => ?_)
      refine r_aload_0 54 rfl (dd_X12_pass 29 _ _ _ rfl) ?_
      refine m_get 1 hg hM (by unfold z_free; decide) rfl (by decide) (tb_6 57 _ rfl) 57 rfl (dd_X12_pass 30 _ _ _ rfl) ?_ (fun _ _ _ => rfl)
      try simp (decide := true) only [zu1, if_true, if_false, reduceIte]
      refine r_ireturn rfl rfl (dd_X12_pass 31 _ _ _ rfl) ?_
      exact k0 (by omega) (by omega) _ hM
    · refine r_iconst 31 rfl (dd_X12_pass 16 _ _ _ rfl) ?_
      refine r_goto 35 rfl (dd_X12_pass 17 _ _ _ rfl) ?_
      refine r_callV1 (lvl := 10) (mc1 := 0) (ms1 := 0) 0 0 hg rfl md_X12_goesWell zc_X12 hM.kd wi_X12_goesWell wv_X12_goesWell (tb_6 197 _ rfl) (by decide) (by decide) rfl (Nat.le_of_ble_eq_true rfl) (by decide) (by decide) 38 rfl (dd_X12_pass 19 _ _ _ rfl) ?_
      refine c_X12_goesWell hg hM (by decide) (fun q => absurd q (by decide)) (fun _ h6 hM => ?_)
      dsimp only [zCont, Option.toList, List.cons_append, List.nil_append]
      refine r_ifne (by omega) 41 rfl 43 rfl (dd_X12_pass 20 _ _ _ rfl) (fun q => absurd q (by decide)) (fun _ => ?_)
      refine r_iconst 42 rfl (dd_X12_pass 21 _ _ _ rfl) ?_
      refine r_ireturn rfl rfl (dd_X12_pass 22 _ _ _ rfl) ?_
      first | exact k1 (by omega) _ hM | exact k2 (by omega) (by omega) _ hM
  · dsimp only [zCont, Option.toList, List.cons_append, List.nil_append]
    refine r_istore_2 9 rfl (by decide) rfl (dd_X12_pass 4 _ _ _ rfl) ?_
    refine r_aload_0 10 rfl (dd_X12_pass 5 _ _ _ rfl) ?_
    refine r_iload_2 11 rfl (dd_X12_pass 6 _ _ _ rfl) ?_
    refine r_ifne (by omega) 14 rfl 18 rfl (dd_X12_pass 7 _ _ _ rfl) (fun q => absurd q (by decide)) (fun _ => ?_)
    refine r_iconst 15 rfl (dd_X12_pass 8 _ _ _ rfl) ?_
    refine r_goto 35 rfl (dd_X12_pass 9 _ _ _ rfl) ?_
    refine r_callV1 (lvl := 10) (mc1 := 0) (ms1 := 0) 0 0 hg rfl md_X12_goesWell zc_X12 hM.kd wi_X12_goesWell wv_X12_goesWell (tb_6 197 _ rfl) (by decide) (by decide) rfl (Nat.le_of_ble_eq_true rfl) (by decide) (by decide) 38 rfl (dd_X12_pass 19 _ _ _ rfl) ?_
    refine c_X12_goesWell hg hM (by decide) (fun q => absurd q (by decide)) (fun _ h7 hM => ?_)
    dsimp only [zCont, Option.toList, List.cons_append, List.nil_append]
    refine r_ifne (by omega) 41 rfl 43 rfl (dd_X12_pass 20 _ _ _ rfl) (fun q => absurd q (by decide)) (fun _ => ?_)
    refine r_iconst 42 rfl (dd_X12_pass 21 _ _ _ rfl) ?_
    refine r_ireturn rfl rfl (dd_X12_pass 22 _ _ _ rfl) ?_
    first | exact k1 (by omega) _ hM | exact k2 (by omega) (by omega) _ hM

abbrev mX12_rate : zM := (RX12, cX12_rate, 5, (Option.some Jvm.ClassFile.FieldType.int), [], "rate", 12)
set_option maxRecDepth 20000 in
theorem c_X12_rate {g : zGT} {Q : zO → zH → Prop} {h : zH} (hg : zG g) {h0 : zH} {m : Nat} {A : Nat → Nat} {S : zS} {n : Nat} {t : Int} (hI : MInv n S) (hM : MI h0 m A S t h) {a b c : Int} (ha : zR a) (hb : zR b) (hc : zR c) (k1 : ¬ (0 ≤ a ∧ a ≤ 3 ∧ 0 ≤ b ∧ b ≤ 20000 ∧ 0 ≤ c ∧ c ≤ 100000) → ∀ h1, MI h0 m A S 1 h1 → Q (.inl (some (.int (zI 0)))) h1) (k2 : (0 ≤ a ∧ a ≤ 3 ∧ 0 ≤ b ∧ b ≤ 20000 ∧ 0 ≤ c ∧ c ≤ 100000) → S.1 20 = 40 → ∀ h1, MI h0 m A S 2 h1 → Q (.inl (some (.int (zI 0)))) h1) (k0 : (0 ≤ a ∧ a ≤ 3 ∧ 0 ≤ b ∧ b ≤ 20000 ∧ 0 ≤ c ∧ c ≤ 100000) → S.1 20 ≠ 40 → ∀ h1, MI h0 m A (zu1 S.1 20 (S.1 20 + 1), zu2 (zu2 (zu2 S.2 21 (S.1 20).toNat a) 22 (S.1 20).toNat b) 23 (S.1 20).toNat c) 0 h1 → Q (.inl (some (.int (zI (S.1 20 + 1))))) h1) : zC g (.code yX12_rate cX12_rate 5 (Option.some Jvm.ClassFile.FieldType.int)) yX12_rate 12 0 0 [.ref m, .int (zI a), .int (zI b), .int (zI c)] h Q := by
  refine zC_of (M := mX12_rate) (lv := [some (.ref m), some (.int (zI a)), some (.int (zI b)), some (.int (zI c)), none]) (by decide) rfl rfl (Nat.le_of_ble_eq_true rfl) rfl rfl ?_
  have e1 := hI.rates
  refine r_iload_1 1 rfl (dd_X12_rate_0 0 _ _ _ rfl) ?_
  refine r_iconst 2 rfl (dd_X12_rate_0 1 _ _ _ rfl) ?_
  refine r_iconst 3 rfl (dd_X12_rate_0 2 _ _ _ rfl) ?_
  refine r_callS3 (lvl := 10) (mc1 := 0) (ms1 := 0) 0 0 hg rfl md_X12_in ws_X12_in (tb_6 209 _ rfl) (by decide) (by decide) rfl (Nat.le_of_ble_eq_true rfl) (by decide) (by decide) 6 rfl (dd_X12_rate_0 3 _ _ _ rfl) ?_
  refine c_X12_in hg (by omega) (by omega) (by omega) (fun hb1 => ?_) (fun hb1 => ?_)
  · dsimp only [zCont, Option.toList, List.cons_append, List.nil_append]
    refine r_ifeq (by omega) 9 rfl 34 rfl (dd_X12_rate_0 4 _ _ _ rfl) (fun q => absurd q (by decide)) (fun _ => ?_)
    refine r_iload_2 10 rfl (dd_X12_rate_0 5 _ _ _ rfl) ?_
    refine r_iconst 11 rfl (dd_X12_rate_0 6 _ _ _ rfl) ?_
    refine r_sipush (by decide) 14 rfl (dd_X12_rate_0 7 _ _ _ rfl) ?_
    refine r_callS3 (lvl := 10) (mc1 := 0) (ms1 := 0) 0 0 hg rfl md_X12_in ws_X12_in (tb_6 209 _ rfl) (by decide) (by decide) rfl (Nat.le_of_ble_eq_true rfl) (by decide) (by decide) 17 rfl (dd_X12_rate_0 8 _ _ _ rfl) ?_
    refine c_X12_in hg (by omega) (by omega) (by omega) (fun hb2 => ?_) (fun hb2 => ?_)
    · dsimp only [zCont, Option.toList, List.cons_append, List.nil_append]
      refine r_ifeq (by omega) 20 rfl 34 rfl (dd_X12_rate_0 9 _ _ _ rfl) (fun q => absurd q (by decide)) (fun _ => ?_)
      refine r_iload_3 21 rfl (dd_X12_rate_0 10 _ _ _ rfl) ?_
      refine r_iconst 22 rfl (dd_X12_rate_0 11 _ _ _ rfl) ?_
      refine r_ldc hg (tb_7 76 _ rfl) 24 rfl (dd_X12_rate_0 12 _ _ _ rfl) ?_
      refine r_top 100000 rfl ?_
      refine r_callS3 (lvl := 10) (mc1 := 0) (ms1 := 0) 0 0 hg rfl md_X12_in ws_X12_in (tb_6 209 _ rfl) (by decide) (by decide) rfl (Nat.le_of_ble_eq_true rfl) (by decide) (by decide) 27 rfl (dd_X12_rate_0 13 _ _ _ rfl) ?_
      refine c_X12_in hg (by omega) (by omega) (by omega) (fun hb3 => ?_) (fun hb3 => ?_)
      · dsimp only [zCont, Option.toList, List.cons_append, List.nil_append]
        refine r_ifeq (by omega) 30 rfl 34 rfl (dd_X12_rate_0 14 _ _ _ rfl) (fun q => absurd q (by decide)) (fun _ => ?_)
        refine r_iconst 31 rfl (dd_X12_rate_0 15 _ _ _ rfl) ?_
        refine r_goto 35 rfl (dd_X12_rate_0 16 _ _ _ rfl) ?_
        refine r_istore_4 37 rfl (by decide) rfl (dd_X12_rate_0 18 _ _ _ rfl) ?_
        refine r_aload_0 38 rfl (dd_X12_rate_0 19 _ _ _ rfl) ?_
        refine r_iload_4 40 rfl (dd_X12_rate_0 20 _ _ _ rfl) ?_
        refine r_ifne (by omega) 43 rfl 47 rfl (dd_X12_rate_0 21 _ _ _ rfl) (fun _ => ?_) (fun q => absurd q (by decide))
        refine r_aload_0 48 rfl (dd_X12_rate_0 24 _ _ _ rfl) ?_
        refine m_get 20 hg hM (by unfold z_free; decide) rfl (by decide) (tb_6 76 _ rfl) 51 rfl (dd_X12_rate_0 25 _ _ _ rfl) ?_ (fun _ _ _ => rfl)
        try simp (decide := true) only [zu1, if_true, if_false, reduceIte]
        refine r_bipush (by decide) 53 rfl (dd_X12_rate_0 26 _ _ _ rfl) ?_
        refine r_if_icmpne (by omega) (by omega) 56 rfl 60 rfl (dd_X12_rate_0 27 _ _ _ rfl) (fun hc4 => ?_) (fun hc4 => ?_)
        · refine r_iconst 61 rfl (dd_X12_rate_0 30 _ _ _ rfl) ?_
          refine r_callV1 (lvl := 10) (mc1 := 0) (ms1 := 0) 0 0 hg rfl md_X12_goesWell zc_X12 hM.kd wi_X12_goesWell wv_X12_goesWell (tb_6 197 _ rfl) (by decide) (by decide) rfl (Nat.le_of_ble_eq_true rfl) (by decide) (by decide) 64 rfl (dd_X12_rate_0 31 _ _ _ rfl) ?_
          refine c_X12_goesWell hg hM (by decide) (fun _ h5 hM => ?_) (fun q => absurd rfl q)
          dsimp only [zCont, Option.toList, List.cons_append, List.nil_append]
          refine r_ifne (by omega) 67 rfl 69 rfl (dd_X12_rate_0 32 _ _ _ rfl) (fun _ => ?_) (fun q => absurd q (by decide))
          refine r_aload_0 70 rfl (dd_X12_rate_0 35 _ _ _ rfl) ?_
          refine m_arr 21 hg hM (by decide) (by decide) (tb_6 77 _ rfl) 73 rfl (dd_X12_rate_0 36 _ _ _ rfl) ?_ (fun _ _ _ => rfl)
          refine r_aload_0 74 rfl (dd_X12_rate_0 37 _ _ _ rfl) ?_
          refine m_get 20 hg hM (by unfold z_free; decide) rfl (by decide) (tb_6 76 _ rfl) 77 rfl (dd_X12_rate_0 38 _ _ _ rfl) ?_ (fun _ _ _ => rfl)
          try simp (decide := true) only [zu1, if_true, if_false, reduceIte]
          refine r_iload_1 78 rfl (dd_X12_rate_0 39 _ _ _ rfl) ?_
          refine m_iast 21 _ rfl hg hM rfl (by omega) (z_lt (n2 := 40) rfl (by omega)) (by decide) 79 rfl (dd_X12_rate_0 40 _ _ _ rfl) (fun h6 hM => ?_)
          refine r_aload_0 80 rfl (dd_X12_rate_0 41 _ _ _ rfl) ?_
          refine m_arr 22 hg hM (by decide) (by decide) (tb_6 78 _ rfl) 83 rfl (dd_X12_rate_0 42 _ _ _ rfl) ?_ (fun _ _ _ => rfl)
          refine r_aload_0 84 rfl (dd_X12_rate_0 43 _ _ _ rfl) ?_
          refine m_get 20 hg hM (by unfold z_free; decide) rfl (by decide) (tb_6 76 _ rfl) 87 rfl (dd_X12_rate_0 44 _ _ _ rfl) ?_ (fun _ _ _ => rfl)
          try simp (decide := true) only [zu1, if_true, if_false, reduceIte]
          refine r_iload_2 88 rfl (dd_X12_rate_0 45 _ _ _ rfl) ?_
          refine m_iast 22 _ rfl hg hM rfl (by omega) (z_lt (n2 := 40) rfl (by omega)) (by decide) 89 rfl (dd_X12_rate_0 46 _ _ _ rfl) (fun h7 hM => ?_)
          refine r_aload_0 90 rfl (dd_X12_rate_0 47 _ _ _ rfl) ?_
          refine m_arr 23 hg hM (by decide) (by decide) (tb_6 79 _ rfl) 93 rfl (dd_X12_rate_0 48 _ _ _ rfl) ?_ (fun _ _ _ => rfl)
          refine r_aload_0 94 rfl (dd_X12_rate_0 49 _ _ _ rfl) ?_
          refine m_get 20 hg hM (by unfold z_free; decide) rfl (by decide) (tb_6 76 _ rfl) 97 rfl (dd_X12_rate_0 50 _ _ _ rfl) ?_ (fun _ _ _ => rfl)
          try simp (decide := true) only [zu1, if_true, if_false, reduceIte]
          refine r_iload_3 98 rfl (dd_X12_rate_0 51 _ _ _ rfl) ?_
          refine m_iast 23 _ rfl hg hM rfl (by omega) (z_lt (n2 := 40) rfl (by omega)) (by decide) 99 rfl (dd_X12_rate_0 52 _ _ _ rfl) (fun h8 hM => ?_)
          refine r_aload_0 100 rfl (dd_X12_rate_0 53 _ _ _ rfl) ?_
          refine r_dup rfl 101 rfl (dd_X12_rate_0 54 _ _ _ rfl) ?_
          refine m_get 20 hg hM (by unfold z_free; decide) rfl (by decide) (tb_6 76 _ rfl) 104 rfl (dd_X12_rate_0 55 _ _ _ rfl) ?_ (fun _ _ _ => rfl)
          try simp (decide := true) only [zu1, if_true, if_false, reduceIte]
          refine r_iconst 105 rfl (dd_X12_rate_0 56 _ _ _ rfl) ?_
          refine r_iadd 106 rfl (dd_X12_rate_0 57 _ _ _ rfl) ?_
          refine m_put 20 hg hM rfl (by decide) (by decide) rfl (fun _ _ _ => rfl) rfl rfl (tb_6 76 _ rfl) 109 rfl (dd_X12_rate_0 58 _ _ _ rfl) (fun h10 hM => ?_)
          refine r_aload_0 110 rfl (dd_X12_rate_0 59 _ _ _ rfl) ?_
          refine m_get 20 hg hM (by unfold z_free; decide) rfl (by decide) (tb_6 76 _ rfl) 113 rfl (dd_X12_rate_1 0 _ _ _ rfl) ?_ (fun _ _ _ => rfl)
          try simp (decide := true) only [zu1, if_true, if_false, reduceIte]
          refine r_ireturn rfl rfl (dd_X12_rate_1 1 _ _ _ rfl) ?_
          exact k0 (by omega) (by omega) _ hM
        · refine r_iconst 57 rfl (dd_X12_rate_0 28 _ _ _ rfl) ?_
          refine r_goto 61 rfl (dd_X12_rate_0 29 _ _ _ rfl) ?_
          refine r_callV1 (lvl := 10) (mc1 := 0) (ms1 := 0) 0 0 hg rfl md_X12_goesWell zc_X12 hM.kd wi_X12_goesWell wv_X12_goesWell (tb_6 197 _ rfl) (by decide) (by decide) rfl (Nat.le_of_ble_eq_true rfl) (by decide) (by decide) 64 rfl (dd_X12_rate_0 31 _ _ _ rfl) ?_
          refine c_X12_goesWell hg hM (by decide) (fun q => absurd q (by decide)) (fun _ h11 hM => ?_)
          dsimp only [zCont, Option.toList, List.cons_append, List.nil_append]
          refine r_ifne (by omega) 67 rfl 69 rfl (dd_X12_rate_0 32 _ _ _ rfl) (fun q => absurd q (by decide)) (fun _ => ?_)
          refine r_iconst 68 rfl (dd_X12_rate_0 33 _ _ _ rfl) ?_
          refine r_ireturn rfl rfl (dd_X12_rate_0 34 _ _ _ rfl) ?_
          first | exact k1 (by omega) _ hM | exact k2 (by omega) (by omega) _ hM
      · dsimp only [zCont, Option.toList, List.cons_append, List.nil_append]
        refine r_ifeq (by omega) 30 rfl 34 rfl (dd_X12_rate_0 14 _ _ _ rfl) (fun _ => ?_) (fun q => absurd q (by decide))
        refine r_iconst 35 rfl (dd_X12_rate_0 17 _ _ _ rfl) ?_
        refine r_istore_4 37 rfl (by decide) rfl (dd_X12_rate_0 18 _ _ _ rfl) ?_
        refine r_aload_0 38 rfl (dd_X12_rate_0 19 _ _ _ rfl) ?_
        refine r_iload_4 40 rfl (dd_X12_rate_0 20 _ _ _ rfl) ?_
        refine r_ifne (by omega) 43 rfl 47 rfl (dd_X12_rate_0 21 _ _ _ rfl) (fun q => absurd q (by decide)) (fun _ => ?_)
        refine r_iconst 44 rfl (dd_X12_rate_0 22 _ _ _ rfl) ?_
        refine r_goto 61 rfl (dd_X12_rate_0 23 _ _ _ rfl) ?_
        refine r_callV1 (lvl := 10) (mc1 := 0) (ms1 := 0) 0 0 hg rfl md_X12_goesWell zc_X12 hM.kd wi_X12_goesWell wv_X12_goesWell (tb_6 197 _ rfl) (by decide) (by decide) rfl (Nat.le_of_ble_eq_true rfl) (by decide) (by decide) 64 rfl (dd_X12_rate_0 31 _ _ _ rfl) ?_
        refine c_X12_goesWell hg hM (by decide) (fun q => absurd q (by decide)) (fun _ h12 hM => ?_)
        dsimp only [zCont, Option.toList, List.cons_append, List.nil_append]
        refine r_ifne (by omega) 67 rfl 69 rfl (dd_X12_rate_0 32 _ _ _ rfl) (fun q => absurd q (by decide)) (fun _ => ?_)
        refine r_iconst 68 rfl (dd_X12_rate_0 33 _ _ _ rfl) ?_
        refine r_ireturn rfl rfl (dd_X12_rate_0 34 _ _ _ rfl) ?_
        first | exact k1 (by omega) _ hM | exact k2 (by omega) (by omega) _ hM
    · dsimp only [zCont, Option.toList, List.cons_append, List.nil_append]
      refine r_ifeq (by omega) 20 rfl 34 rfl (dd_X12_rate_0 9 _ _ _ rfl) (fun _ => ?_) (fun q => absurd q (by decide))
      refine r_iconst 35 rfl (dd_X12_rate_0 17 _ _ _ rfl) ?_
      refine r_istore_4 37 rfl (by decide) rfl (dd_X12_rate_0 18 _ _ _ rfl) ?_
      refine r_aload_0 38 rfl (dd_X12_rate_0 19 _ _ _ rfl) ?_
      refine r_iload_4 40 rfl (dd_X12_rate_0 20 _ _ _ rfl) ?_
      refine r_ifne (by omega) 43 rfl 47 rfl (dd_X12_rate_0 21 _ _ _ rfl) (fun q => absurd q (by decide)) (fun _ => ?_)
      refine r_iconst 44 rfl (dd_X12_rate_0 22 _ _ _ rfl) ?_
      refine r_goto 61 rfl (dd_X12_rate_0 23 _ _ _ rfl) ?_
      refine r_callV1 (lvl := 10) (mc1 := 0) (ms1 := 0) 0 0 hg rfl md_X12_goesWell zc_X12 hM.kd wi_X12_goesWell wv_X12_goesWell (tb_6 197 _ rfl) (by decide) (by decide) rfl (Nat.le_of_ble_eq_true rfl) (by decide) (by decide) 64 rfl (dd_X12_rate_0 31 _ _ _ rfl) ?_
      refine c_X12_goesWell hg hM (by decide) (fun q => absurd q (by decide)) (fun _ h13 hM => ?_)
      dsimp only [zCont, Option.toList, List.cons_append, List.nil_append]
      refine r_ifne (by omega) 67 rfl 69 rfl (dd_X12_rate_0 32 _ _ _ rfl) (fun q => absurd q (by decide)) (fun _ => ?_)
      refine r_iconst 68 rfl (dd_X12_rate_0 33 _ _ _ rfl) ?_
      refine r_ireturn rfl rfl (dd_X12_rate_0 34 _ _ _ rfl) ?_
      first | exact k1 (by omega) _ hM | exact k2 (by omega) (by omega) _ hM
  · dsimp only [zCont, Option.toList, List.cons_append, List.nil_append]
    refine r_ifeq (by omega) 9 rfl 34 rfl (dd_X12_rate_0 4 _ _ _ rfl) (fun _ => ?_) (fun q => absurd q (by decide))
    refine r_iconst 35 rfl (dd_X12_rate_0 17 _ _ _ rfl) ?_
    refine r_istore_4 37 rfl (by decide) rfl (dd_X12_rate_0 18 _ _ _ rfl) ?_
    refine r_aload_0 38 rfl (dd_X12_rate_0 19 _ _ _ rfl) ?_
    refine r_iload_4 40 rfl (dd_X12_rate_0 20 _ _ _ rfl) ?_
    refine r_ifne (by omega) 43 rfl 47 rfl (dd_X12_rate_0 21 _ _ _ rfl) (fun q => absurd q (by decide)) (fun _ => ?_)
    refine r_iconst 44 rfl (dd_X12_rate_0 22 _ _ _ rfl) ?_
    refine r_goto 61 rfl (dd_X12_rate_0 23 _ _ _ rfl) ?_
    refine r_callV1 (lvl := 10) (mc1 := 0) (ms1 := 0) 0 0 hg rfl md_X12_goesWell zc_X12 hM.kd wi_X12_goesWell wv_X12_goesWell (tb_6 197 _ rfl) (by decide) (by decide) rfl (Nat.le_of_ble_eq_true rfl) (by decide) (by decide) 64 rfl (dd_X12_rate_0 31 _ _ _ rfl) ?_
    refine c_X12_goesWell hg hM (by decide) (fun q => absurd q (by decide)) (fun _ h14 hM => ?_)
    dsimp only [zCont, Option.toList, List.cons_append, List.nil_append]
    refine r_ifne (by omega) 67 rfl 69 rfl (dd_X12_rate_0 32 _ _ _ rfl) (fun q => absurd q (by decide)) (fun _ => ?_)
    refine r_iconst 68 rfl (dd_X12_rate_0 33 _ _ _ rfl) ?_
    refine r_ireturn rfl rfl (dd_X12_rate_0 34 _ _ _ rfl) ?_
    first | exact k1 (by omega) _ hM | exact k2 (by omega) (by omega) _ hM

abbrev mX12_minutes : zM := (RX12, cX12_minutes, 2, (Option.some Jvm.ClassFile.FieldType.int), [], "minutes", 10)
set_option maxRecDepth 20000 in
theorem c_X12_minutes {g : zGT} {Q : zO → zH → Prop} {h : zH} (hg : zG g) {h0 : zH} {m : Nat} {A : Nat → Nat} {S : zS} {n : Nat} {t : Int} (hI : MInv n S) (hM : MI h0 m A S t h) {s : Nat} (hs : s < 40) (k : Q (.inl (some (.int (zI (1440 * S.2 34 s + S.2 35 s))))) h) : zC g (.code yX12_minutes cX12_minutes 2 (Option.some Jvm.ClassFile.FieldType.int)) yX12_minutes 10 0 0 [.ref m, .int (zI s)] h Q := by
  refine zC_of (M := mX12_minutes) (lv := [some (.ref m), some (.int (zI s))]) (by decide) rfl rfl (Nat.le_of_ble_eq_true rfl) rfl rfl ?_
  refine r_sipush (by decide) 3 rfl (dd_X12_minutes 0 _ _ _ rfl) ?_
  refine r_aload_0 4 rfl (dd_X12_minutes 1 _ _ _ rfl) ?_
  refine m_arr 34 hg hM (by decide) (by decide) (tb_6 90 _ rfl) 7 rfl (dd_X12_minutes 2 _ _ _ rfl) ?_ (fun _ _ _ => rfl)
  refine r_iload_1 8 rfl (dd_X12_minutes 3 _ _ _ rfl) ?_
  refine m_iald 34 (s) (by omega) hg hM rfl (by omega) (z_lt (n2 := 40) rfl (by omega)) (by decide) 9 rfl (dd_X12_minutes 4 _ _ _ rfl) ?_
  refine r_imul 10 rfl (dd_X12_minutes 5 _ _ _ rfl) ?_
  refine r_aload_0 11 rfl (dd_X12_minutes 6 _ _ _ rfl) ?_
  refine m_arr 35 hg hM (by decide) (by decide) (tb_6 91 _ rfl) 14 rfl (dd_X12_minutes 7 _ _ _ rfl) ?_ (fun _ _ _ => rfl)
  refine r_iload_1 15 rfl (dd_X12_minutes 8 _ _ _ rfl) ?_
  refine m_iald 35 (s) (by omega) hg hM rfl (by omega) (z_lt (n2 := 40) rfl (by omega)) (by decide) 16 rfl (dd_X12_minutes 9 _ _ _ rfl) ?_
  refine r_iadd 17 rfl (dd_X12_minutes 10 _ _ _ rfl) ?_
  refine r_ireturn rfl rfl (dd_X12_minutes 11 _ _ _ rfl) ?_
  exact k
