abbrev mX12_test : zM := (RX12, cX12_test, 8, (Option.some Jvm.ClassFile.FieldType.int), [], "test", 13)
set_option maxRecDepth 20000 in
theorem c_X12_test {g : zGT} {Q : zO → zH → Prop} {h : zH} (hg : zG g) {h0 : zH} {m : Nat} {A : Nat → Nat} {S : zS} {n : Nat} {t : Int} (hI : MInv n S) (hM : MI h0 m A S t h) {v w gr far : Int} (hv : zR v) (hw : zR w) (hg9 : zR gr) (hf : zR far) (k1 : ¬ (0 ≤ v ∧ v < S.1 4) → ∀ h1, MI h0 m A S 1 h1 → Q (.inl (some (.int (zI 0)))) h1) (k2 : ∀ u : Nat, v = u → v < S.1 4 → ¬ ztestOK S u w gr far → ∀ h1, MI h0 m A S 2 h1 → Q (.inl (some (.int (zI 0)))) h1) (k3 : ∀ u : Nat, v = u → v < S.1 4 → ztestOK S u w gr far → S.2 25 u = 20 → ∀ h1, MI h0 m A S 3 h1 → Q (.inl (some (.int (zI 0)))) h1) (k0 : ∀ (u : Nat) (B U : Int), v = u → v < S.1 4 → ztestOK S u w gr far → S.2 25 u ≠ 20 → B = zback S u far → U = zuntil S u w gr → ∀ h1, MI h0 m A (S.1, zu2 (zu2 (zu2 (zu2 (zu2 S.2 28 u (S.2 28 u + B)) 25 u (S.2 25 u + 1)) 26 u w) 27 u far) 29 u U) 0 h1 → Q (.inl (some (.int (zI U)))) h1) : zC g (.code yX12_test cX12_test 8 (Option.some Jvm.ClassFile.FieldType.int)) yX12_test 13 0 0 [.ref m, .int (zI v), .int (zI w), .int (zI gr), .int (zI far)] h Q := by
  refine zC_of (M := mX12_test) (lv := [some (.ref m), some (.int (zI v)), some (.int (zI w)), some (.int (zI gr)), some (.int (zI far)), none, none, none]) (by decide) rfl rfl (Nat.le_of_ble_eq_true rfl) rfl rfl ?_
  have e1 := hI.vehicles
  have e2 := hI.today
  refine r_aload_0 1 rfl (dd_X12_test_0 0 _ _ _ rfl) ?_
  refine r_iload_1 2 rfl (dd_X12_test_0 1 _ _ _ rfl) ?_
  refine r_callV1 (lvl := 11) (mc1 := 0) (ms1 := 0) 0 0 hg rfl md_X12_isVehicle zc_X12 hM.kd wi_X12_isVehicle wv_X12_isVehicle (tb_7 0 _ rfl) (by decide) (by decide) rfl (Nat.le_of_ble_eq_true rfl) (by decide) (by decide) 5 rfl (dd_X12_test_0 2 _ _ _ rfl) ?_
  refine c_X12_isVehicle hg hI hM (by omega) (fun hb1 => ?_) (fun hb1 => ?_)
  · obtain ⟨u, rfl⟩ := Int.eq_ofNat_of_zero_le hb1.1
    have e3 := hI.tests u
    have e4 := hI.testDay u
    have e5 := hI.mileage u
    have e6 := hI.back u
    have e7 := hI.until u
    have e8 := hI.built u
    have e9 := hI.calls
    dsimp only [zCont, Option.toList, List.cons_append, List.nil_append]
    refine r_istore_5 7 rfl (by decide) rfl (dd_X12_test_0 3 _ _ _ rfl) ?_
    refine r_iload_5 9 rfl (dd_X12_test_0 4 _ _ _ rfl) ?_
    refine r_ifeq (by omega) 12 rfl 71 rfl (dd_X12_test_0 5 _ _ _ rfl) (fun q => absurd q (by decide)) (fun _ => ?_)
    refine r_iload_2 13 rfl (dd_X12_test_0 6 _ _ _ rfl) ?_
    refine r_aload_0 14 rfl (dd_X12_test_0 7 _ _ _ rfl) ?_
    refine m_arr 25 hg hM (by decide) (by decide) (tb_6 81 _ rfl) 17 rfl (dd_X12_test_0 8 _ _ _ rfl) ?_ (fun _ _ _ => rfl)
    refine r_iload_1 18 rfl (dd_X12_test_0 9 _ _ _ rfl) ?_
    refine m_iald 25 (u) (by omega) hg hM rfl (by omega) (z_lt (n2 := 12) rfl (by omega)) (by decide) 19 rfl (dd_X12_test_0 10 _ _ _ rfl) ?_
    try simp (decide := true) only [zu2, false_and, and_false, and_true, true_and, and_self, if_true, if_false, reduceIte]
    refine r_ifne (by omega) 22 rfl 31 rfl (dd_X12_test_0 11 _ _ _ rfl) (fun hc2 => ?_) (fun hc2 => ?_)
    · refine r_aload_0 32 rfl (dd_X12_test_0 17 _ _ _ rfl) ?_
      refine m_arr 26 hg hM (by decide) (by decide) (tb_6 82 _ rfl) 35 rfl (dd_X12_test_0 18 _ _ _ rfl) ?_ (fun _ _ _ => rfl)
      refine r_iload_1 36 rfl (dd_X12_test_0 19 _ _ _ rfl) ?_
      refine m_iald 26 (u) (by omega) hg hM rfl (by omega) (z_lt (n2 := 12) rfl (by omega)) (by decide) 37 rfl (dd_X12_test_0 20 _ _ _ rfl) ?_
      try simp (decide := true) only [zu2, false_and, and_false, and_true, true_and, and_self, if_true, if_false, reduceIte]
      refine r_aload_0 38 rfl (dd_X12_test_0 21 _ _ _ rfl) ?_
      refine m_get 1 hg hM (by unfold z_free; decide) rfl (by decide) (tb_6 57 _ rfl) 41 rfl (dd_X12_test_0 22 _ _ _ rfl) ?_ (fun _ _ _ => rfl)
      try simp (decide := true) only [zu1, if_true, if_false, reduceIte]
      refine r_callS3 (lvl := 10) (mc1 := 0) (ms1 := 0) 0 0 hg rfl md_X12_in ws_X12_in (tb_6 209 _ rfl) (by decide) (by decide) rfl (Nat.le_of_ble_eq_true rfl) (by decide) (by decide) 44 rfl (dd_X12_test_0 23 _ _ _ rfl) ?_
      refine c_X12_in hg (by omega) (by omega) (by omega) (fun hb3 => ?_) (fun hb3 => ?_)
      · dsimp only [zCont, Option.toList, List.cons_append, List.nil_append]
        refine r_ifeq (by omega) 47 rfl 71 rfl (dd_X12_test_0 24 _ _ _ rfl) (fun q => absurd q (by decide)) (fun _ => ?_)
        refine r_iload_3 48 rfl (dd_X12_test_0 25 _ _ _ rfl) ?_
        refine r_iconst 49 rfl (dd_X12_test_0 26 _ _ _ rfl) ?_
        refine r_iconst 50 rfl (dd_X12_test_0 27 _ _ _ rfl) ?_
        refine r_callS3 (lvl := 10) (mc1 := 0) (ms1 := 0) 0 0 hg rfl md_X12_in ws_X12_in (tb_6 209 _ rfl) (by decide) (by decide) rfl (Nat.le_of_ble_eq_true rfl) (by decide) (by decide) 53 rfl (dd_X12_test_0 28 _ _ _ rfl) ?_
        refine c_X12_in hg (by omega) (by omega) (by omega) (fun hb4 => ?_) (fun hb4 => ?_)
        · dsimp only [zCont, Option.toList, List.cons_append, List.nil_append]
          refine r_ifeq (by omega) 56 rfl 71 rfl (dd_X12_test_0 29 _ _ _ rfl) (fun q => absurd q (by decide)) (fun _ => ?_)
          refine r_iload_4 58 rfl (dd_X12_test_0 30 _ _ _ rfl) ?_
          refine r_iconst 59 rfl (dd_X12_test_0 31 _ _ _ rfl) ?_
          refine r_ldc hg (tb_7 98 _ rfl) 61 rfl (dd_X12_test_0 32 _ _ _ rfl) ?_
          refine r_top 10000000 rfl ?_
          refine r_callS3 (lvl := 10) (mc1 := 0) (ms1 := 0) 0 0 hg rfl md_X12_in ws_X12_in (tb_6 209 _ rfl) (by decide) (by decide) rfl (Nat.le_of_ble_eq_true rfl) (by decide) (by decide) 64 rfl (dd_X12_test_0 33 _ _ _ rfl) ?_
          refine c_X12_in hg (by omega) (by omega) (by omega) (fun hb5 => ?_) (fun hb5 => ?_)
          · dsimp only [zCont, Option.toList, List.cons_append, List.nil_append]
            refine r_ifeq (by omega) 67 rfl 71 rfl (dd_X12_test_0 34 _ _ _ rfl) (fun q => absurd q (by decide)) (fun _ => ?_)
            refine r_iconst 68 rfl (dd_X12_test_0 35 _ _ _ rfl) ?_
            refine r_goto 72 rfl (dd_X12_test_0 36 _ _ _ rfl) ?_
            refine r_istore_6 74 rfl (by decide) rfl (dd_X12_test_0 38 _ _ _ rfl) ?_
            refine r_aload_0 75 rfl (dd_X12_test_0 39 _ _ _ rfl) ?_
            refine r_iload_5 77 rfl (dd_X12_test_0 40 _ _ _ rfl) ?_
            refine r_ifne (by omega) 80 rfl 84 rfl (dd_X12_test_0 41 _ _ _ rfl) (fun _ => ?_) (fun q => absurd q (by decide))
            refine r_iload_6 86 rfl (dd_X12_test_0 44 _ _ _ rfl) ?_
            refine r_ifne (by omega) 89 rfl 93 rfl (dd_X12_test_0 45 _ _ _ rfl) (fun _ => ?_) (fun q => absurd q (by decide))
            refine r_aload_0 94 rfl (dd_X12_test_0 48 _ _ _ rfl) ?_
            refine m_arr 25 hg hM (by decide) (by decide) (tb_6 81 _ rfl) 97 rfl (dd_X12_test_0 49 _ _ _ rfl) ?_ (fun _ _ _ => rfl)
            refine r_iload_1 98 rfl (dd_X12_test_0 50 _ _ _ rfl) ?_
            refine m_iald 25 (u) (by omega) hg hM rfl (by omega) (z_lt (n2 := 12) rfl (by omega)) (by decide) 99 rfl (dd_X12_test_0 51 _ _ _ rfl) ?_
            try simp (decide := true) only [zu2, false_and, and_false, and_true, true_and, and_self, if_true, if_false, reduceIte]
            refine r_bipush (by decide) 101 rfl (dd_X12_test_0 52 _ _ _ rfl) ?_
            refine r_if_icmpne (by omega) (by omega) 104 rfl 108 rfl (dd_X12_test_0 53 _ _ _ rfl) (fun hc6 => ?_) (fun hc6 => ?_)
            · refine r_iconst 109 rfl (dd_X12_test_0 56 _ _ _ rfl) ?_
              refine r_callV1 (lvl := 10) (mc1 := 0) (ms1 := 0) 0 0 hg rfl md_X12_goesWell zc_X12 hM.kd wi_X12_goesWell wv_X12_goesWell (tb_6 197 _ rfl) (by decide) (by decide) rfl (Nat.le_of_ble_eq_true rfl) (by decide) (by decide) 112 rfl (dd_X12_test_0 57 _ _ _ rfl) ?_
              refine c_X12_goesWell hg hM (by decide) (fun _ h7 hM => ?_) (fun q => absurd rfl q)
              dsimp only [zCont, Option.toList, List.cons_append, List.nil_append]
              refine r_ifne (by omega) 115 rfl 117 rfl (dd_X12_test_0 58 _ _ _ rfl) (fun _ => ?_) (fun q => absurd q (by decide))
              refine r_aload_0 118 rfl (dd_X12_test_1 1 _ _ _ rfl) ?_
              refine m_arr 28 hg hM (by decide) (by decide) (tb_6 84 _ rfl) 121 rfl (dd_X12_test_1 2 _ _ _ rfl) ?_ (fun _ _ _ => rfl)
              refine r_iload_1 122 rfl (dd_X12_test_1 3 _ _ _ rfl) ?_
              refine r_dup2 rfl rfl 123 rfl (dd_X12_test_1 4 _ _ _ rfl) ?_
              refine m_iald 28 (u) (by omega) hg hM rfl (by omega) (z_lt (n2 := 12) rfl (by omega)) (by decide) 124 rfl (dd_X12_test_1 5 _ _ _ rfl) ?_
              try simp (decide := true) only [zu2, false_and, and_false, and_true, true_and, and_self, if_true, if_false, reduceIte]
              refine r_aload_0 125 rfl (dd_X12_test_1 6 _ _ _ rfl) ?_
              refine m_arr 25 hg hM (by decide) (by decide) (tb_6 81 _ rfl) 128 rfl (dd_X12_test_1 7 _ _ _ rfl) ?_ (fun _ _ _ => rfl)
              refine r_iload_1 129 rfl (dd_X12_test_1 8 _ _ _ rfl) ?_
              refine m_iald 25 (u) (by omega) hg hM rfl (by omega) (z_lt (n2 := 12) rfl (by omega)) (by decide) 130 rfl (dd_X12_test_1 9 _ _ _ rfl) ?_
              try simp (decide := true) only [zu2, false_and, and_false, and_true, true_and, and_self, if_true, if_false, reduceIte]
              refine r_ifle (by omega) 133 rfl 148 rfl (dd_X12_test_1 10 _ _ _ rfl) (fun hc8 => ?_) (fun hc8 => ?_)
              · refine r_iconst 149 rfl (dd_X12_test_1 19 _ _ _ rfl) ?_
                refine r_iadd 150 rfl (dd_X12_test_1 20 _ _ _ rfl) ?_
                refine m_iast 28 (u) (by omega) hg hM rfl (by omega) (z_lt (n2 := 12) rfl (by omega)) (by decide) 151 rfl (dd_X12_test_1 21 _ _ _ rfl) (fun h9 hM => ?_)
                refine r_aload_0 152 rfl (dd_X12_test_1 22 _ _ _ rfl) ?_
                refine m_arr 25 hg hM (by decide) (by decide) (tb_6 81 _ rfl) 155 rfl (dd_X12_test_1 23 _ _ _ rfl) ?_ (fun _ _ _ => rfl)
                refine r_iload_1 156 rfl (dd_X12_test_1 24 _ _ _ rfl) ?_
                refine r_dup2 rfl rfl 157 rfl (dd_X12_test_1 25 _ _ _ rfl) ?_
                refine m_iald 25 (u) (by omega) hg hM rfl (by omega) (z_lt (n2 := 12) rfl (by omega)) (by decide) 158 rfl (dd_X12_test_1 26 _ _ _ rfl) ?_
                try simp (decide := true) only [zu2, false_and, and_false, and_true, true_and, and_self, if_true, if_false, reduceIte]
                refine r_iconst 159 rfl (dd_X12_test_1 27 _ _ _ rfl) ?_
                refine r_iadd 160 rfl (dd_X12_test_1 28 _ _ _ rfl) ?_
                refine m_iast 25 (u) (by omega) hg hM rfl (by omega) (z_lt (n2 := 12) rfl (by omega)) (by decide) 161 rfl (dd_X12_test_1 29 _ _ _ rfl) (fun h10 hM => ?_)
                refine r_aload_0 162 rfl (dd_X12_test_1 30 _ _ _ rfl) ?_
                refine m_arr 26 hg hM (by decide) (by decide) (tb_6 82 _ rfl) 165 rfl (dd_X12_test_1 31 _ _ _ rfl) ?_ (fun _ _ _ => rfl)
                refine r_iload_1 166 rfl (dd_X12_test_1 32 _ _ _ rfl) ?_
                refine r_iload_2 167 rfl (dd_X12_test_1 33 _ _ _ rfl) ?_
                refine m_iast 26 (u) (by omega) hg hM rfl (by omega) (z_lt (n2 := 12) rfl (by omega)) (by decide) 168 rfl (dd_X12_test_1 34 _ _ _ rfl) (fun h11 hM => ?_)
                refine r_aload_0 169 rfl (dd_X12_test_1 35 _ _ _ rfl) ?_
                refine m_arr 27 hg hM (by decide) (by decide) (tb_6 83 _ rfl) 172 rfl (dd_X12_test_1 36 _ _ _ rfl) ?_ (fun _ _ _ => rfl)
                refine r_iload_1 173 rfl (dd_X12_test_1 37 _ _ _ rfl) ?_
                refine r_iload_4 175 rfl (dd_X12_test_1 38 _ _ _ rfl) ?_
                refine m_iast 27 (u) (by omega) hg hM rfl (by omega) (z_lt (n2 := 12) rfl (by omega)) (by decide) 176 rfl (dd_X12_test_1 39 _ _ _ rfl) (fun h12 hM => ?_)
                refine r_iload_3 177 rfl (dd_X12_test_1 40 _ _ _ rfl) ?_
                refine r_iconst 178 rfl (dd_X12_test_1 41 _ _ _ rfl) ?_
                refine r_if_icmpne (by omega) (by omega) 181 rfl 185 rfl (dd_X12_test_1 42 _ _ _ rfl) (fun hc13 => ?_) (fun hc13 => ?_)
                · refine r_iload_2 186 rfl (dd_X12_test_1 45 _ _ _ rfl) ?_
                  refine r_sipush (by decide) 189 rfl (dd_X12_test_1 46 _ _ _ rfl) ?_
                  refine r_iadd 190 rfl (dd_X12_test_1 47 _ _ _ rfl) ?_
                  refine r_istore_7 192 rfl (by decide) rfl (dd_X12_test_1 48 _ _ _ rfl) ?_
                  refine r_aload_0 193 rfl (dd_X12_test_1 49 _ _ _ rfl) ?_
                  refine m_arr 29 hg hM (by decide) (by decide) (tb_6 85 _ rfl) 196 rfl (dd_X12_test_1 50 _ _ _ rfl) ?_ (fun _ _ _ => rfl)
                  refine r_iload_1 197 rfl (dd_X12_test_1 51 _ _ _ rfl) ?_
                  refine r_iload_3 198 rfl (dd_X12_test_1 52 _ _ _ rfl) ?_
                  refine r_iconst 199 rfl (dd_X12_test_1 53 _ _ _ rfl) ?_
                  refine r_if_icmpne (by omega) (by omega) 202 rfl 227 rfl (dd_X12_test_1 54 _ _ _ rfl) (fun hc14 => ?_) (fun hc14 => ?_)
                  · refine r_iload_7 229 rfl (dd_X12_test_2 8 _ _ _ rfl) ?_
                    refine r_aload_0 230 rfl (dd_X12_test_2 9 _ _ _ rfl) ?_
                    refine m_arr 29 hg hM (by decide) (by decide) (tb_6 85 _ rfl) 233 rfl (dd_X12_test_2 10 _ _ _ rfl) ?_ (fun _ _ _ => rfl)
                    refine r_iload_1 234 rfl (dd_X12_test_2 11 _ _ _ rfl) ?_
                    refine m_iald 29 (u) (by omega) hg hM rfl (by omega) (z_lt (n2 := 12) rfl (by omega)) (by decide) 235 rfl (dd_X12_test_2 12 _ _ _ rfl) ?_
                    try simp (decide := true) only [zu2, false_and, and_false, and_true, true_and, and_self, if_true, if_false, reduceIte]
                    refine r_if_icmple (by omega) (by omega) 238 rfl 243 rfl (dd_X12_test_2 13 _ _ _ rfl) (fun hc15 => ?_) (fun hc15 => ?_)
                    · refine r_aload_0 244 rfl (dd_X12_test_2 16 _ _ _ rfl) ?_
                      refine m_arr 29 hg hM (by decide) (by decide) (tb_6 85 _ rfl) 247 rfl (dd_X12_test_2 17 _ _ _ rfl) ?_ (fun _ _ _ => rfl)
                      refine r_iload_1 248 rfl (dd_X12_test_2 18 _ _ _ rfl) ?_
                      refine m_iald 29 (u) (by omega) hg hM rfl (by omega) (z_lt (n2 := 12) rfl (by omega)) (by decide) 249 rfl (dd_X12_test_2 19 _ _ _ rfl) ?_
                      try simp (decide := true) only [zu2, false_and, and_false, and_true, true_and, and_self, if_true, if_false, reduceIte]
                      refine m_iast 29 (u) (by omega) hg hM rfl (by omega) (z_lt (n2 := 12) rfl (by omega)) (by decide) 250 rfl (dd_X12_test_2 20 _ _ _ rfl) (fun h16 hM => ?_)
                      refine r_aload_0 251 rfl (dd_X12_test_2 21 _ _ _ rfl) ?_
                      refine m_arr 29 hg hM (by decide) (by decide) (tb_6 85 _ rfl) 254 rfl (dd_X12_test_2 22 _ _ _ rfl) ?_ (fun _ _ _ => rfl)
                      refine r_iload_1 255 rfl (dd_X12_test_2 23 _ _ _ rfl) ?_
                      refine m_iald 29 (u) (by omega) hg hM rfl (by omega) (z_lt (n2 := 12) rfl (by omega)) (by decide) 256 rfl (dd_X12_test_2 24 _ _ _ rfl) ?_
                      try simp (decide := true) only [zu2, false_and, and_false, and_true, true_and, and_self, if_true, if_false, reduceIte]
                      refine r_ireturn rfl rfl (dd_X12_test_2 25 _ _ _ rfl) ?_
                      exact k0 u _ _ rfl (by omega) (by unfold ztestOK; first | (rw [if_pos (by omega)]; omega) | (rw [if_neg (by omega)]; omega)) (by omega) (by unfold zback; first | (rw [if_pos (by omega)]; done) | (rw [if_neg (by omega)]; done) | (exfalso; omega)) (by unfold zuntil; first | (rw [if_pos (by omega), if_pos (by omega)]; done) | (rw [if_pos (by omega), if_neg (by omega)]; done) | (rw [if_neg (by omega), if_pos (by omega)]; done) | (rw [if_neg (by omega), if_neg (by omega)]; done) | (exfalso; omega)) _ hM
                    · refine r_iload_7 240 rfl (dd_X12_test_2 14 _ _ _ rfl) ?_
                      refine r_goto 249 rfl (dd_X12_test_2 15 _ _ _ rfl) ?_
                      refine m_iast 29 (u) (by omega) hg hM rfl (by omega) (z_lt (n2 := 12) rfl (by omega)) (by decide) 250 rfl (dd_X12_test_2 20 _ _ _ rfl) (fun h17 hM => ?_)
                      refine r_aload_0 251 rfl (dd_X12_test_2 21 _ _ _ rfl) ?_
                      refine m_arr 29 hg hM (by decide) (by decide) (tb_6 85 _ rfl) 254 rfl (dd_X12_test_2 22 _ _ _ rfl) ?_ (fun _ _ _ => rfl)
                      refine r_iload_1 255 rfl (dd_X12_test_2 23 _ _ _ rfl) ?_
                      refine m_iald 29 (u) (by omega) hg hM rfl (by omega) (z_lt (n2 := 12) rfl (by omega)) (by decide) 256 rfl (dd_X12_test_2 24 _ _ _ rfl) ?_
                      try simp (decide := true) only [zu2, false_and, and_false, and_true, true_and, and_self, if_true, if_false, reduceIte]
                      refine r_ireturn rfl rfl (dd_X12_test_2 25 _ _ _ rfl) ?_
                      exact k0 u _ _ rfl (by omega) (by unfold ztestOK; first | (rw [if_pos (by omega)]; omega) | (rw [if_neg (by omega)]; omega)) (by omega) (by unfold zback; first | (rw [if_pos (by omega)]; done) | (rw [if_neg (by omega)]; done) | (exfalso; omega)) (by unfold zuntil; first | (rw [if_pos (by omega), if_pos (by omega)]; done) | (rw [if_pos (by omega), if_neg (by omega)]; done) | (rw [if_neg (by omega), if_pos (by omega)]; done) | (rw [if_neg (by omega), if_neg (by omega)]; done) | (exfalso; omega)) _ hM
                  · refine r_iload_7 204 rfl (dd_X12_test_1 55 _ _ _ rfl) ?_
                    refine r_aload_0 205 rfl (dd_X12_test_1 56 _ _ _ rfl) ?_
                    refine m_arr 29 hg hM (by decide) (by decide) (tb_6 85 _ rfl) 208 rfl (dd_X12_test_1 57 _ _ _ rfl) ?_ (fun _ _ _ => rfl)
                    refine r_iload_1 209 rfl (dd_X12_test_1 58 _ _ _ rfl) ?_
                    refine m_iald 29 (u) (by omega) hg hM rfl (by omega) (z_lt (n2 := 12) rfl (by omega)) (by decide) 210 rfl (dd_X12_test_1 59 _ _ _ rfl) ?_
                    try simp (decide := true) only [zu2, false_and, and_false, and_true, true_and, and_self, if_true, if_false, reduceIte]
                    refine r_if_icmpge (by omega) (by omega) 213 rfl 218 rfl (dd_X12_test_2 0 _ _ _ rfl) (fun hc18 => ?_) (fun hc18 => ?_)
                    · refine r_aload_0 219 rfl (dd_X12_test_2 3 _ _ _ rfl) ?_
                      refine m_arr 29 hg hM (by decide) (by decide) (tb_6 85 _ rfl) 222 rfl (dd_X12_test_2 4 _ _ _ rfl) ?_ (fun _ _ _ => rfl)
                      refine r_iload_1 223 rfl (dd_X12_test_2 5 _ _ _ rfl) ?_
                      refine m_iald 29 (u) (by omega) hg hM rfl (by omega) (z_lt (n2 := 12) rfl (by omega)) (by decide) 224 rfl (dd_X12_test_2 6 _ _ _ rfl) ?_
                      try simp (decide := true) only [zu2, false_and, and_false, and_true, true_and, and_self, if_true, if_false, reduceIte]
                      refine r_goto 249 rfl (dd_X12_test_2 7 _ _ _ rfl) ?_
                      refine m_iast 29 (u) (by omega) hg hM rfl (by omega) (z_lt (n2 := 12) rfl (by omega)) (by decide) 250 rfl (dd_X12_test_2 20 _ _ _ rfl) (fun h19 hM => ?_)
                      refine r_aload_0 251 rfl (dd_X12_test_2 21 _ _ _ rfl) ?_
                      refine m_arr 29 hg hM (by decide) (by decide) (tb_6 85 _ rfl) 254 rfl (dd_X12_test_2 22 _ _ _ rfl) ?_ (fun _ _ _ => rfl)
                      refine r_iload_1 255 rfl (dd_X12_test_2 23 _ _ _ rfl) ?_
                      refine m_iald 29 (u) (by omega) hg hM rfl (by omega) (z_lt (n2 := 12) rfl (by omega)) (by decide) 256 rfl (dd_X12_test_2 24 _ _ _ rfl) ?_
                      try simp (decide := true) only [zu2, false_and, and_false, and_true, true_and, and_self, if_true, if_false, reduceIte]
                      refine r_ireturn rfl rfl (dd_X12_test_2 25 _ _ _ rfl) ?_
                      exact k0 u _ _ rfl (by omega) (by unfold ztestOK; first | (rw [if_pos (by omega)]; omega) | (rw [if_neg (by omega)]; omega)) (by omega) (by unfold zback; first | (rw [if_pos (by omega)]; done) | (rw [if_neg (by omega)]; done) | (exfalso; omega)) (by unfold zuntil; first | (rw [if_pos (by omega), if_pos (by omega)]; done) | (rw [if_pos (by omega), if_neg (by omega)]; done) | (rw [if_neg (by omega), if_pos (by omega)]; done) | (rw [if_neg (by omega), if_neg (by omega)]; done) | (exfalso; omega)) _ hM
                    · refine r_iload_7 215 rfl (dd_X12_test_2 1 _ _ _ rfl) ?_
                      refine r_goto 249 rfl (dd_X12_test_2 2 _ _ _ rfl) ?_
                      refine m_iast 29 (u) (by omega) hg hM rfl (by omega) (z_lt (n2 := 12) rfl (by omega)) (by decide) 250 rfl (dd_X12_test_2 20 _ _ _ rfl) (fun h20 hM => ?_)
                      refine r_aload_0 251 rfl (dd_X12_test_2 21 _ _ _ rfl) ?_
                      refine m_arr 29 hg hM (by decide) (by decide) (tb_6 85 _ rfl) 254 rfl (dd_X12_test_2 22 _ _ _ rfl) ?_ (fun _ _ _ => rfl)
                      refine r_iload_1 255 rfl (dd_X12_test_2 23 _ _ _ rfl) ?_
                      refine m_iald 29 (u) (by omega) hg hM rfl (by omega) (z_lt (n2 := 12) rfl (by omega)) (by decide) 256 rfl (dd_X12_test_2 24 _ _ _ rfl) ?_
                      try simp (decide := true) only [zu2, false_and, and_false, and_true, true_and, and_self, if_true, if_false, reduceIte]
                      refine r_ireturn rfl rfl (dd_X12_test_2 25 _ _ _ rfl) ?_
                      exact k0 u _ _ rfl (by omega) (by unfold ztestOK; first | (rw [if_pos (by omega)]; omega) | (rw [if_neg (by omega)]; omega)) (by omega) (by unfold zback; first | (rw [if_pos (by omega)]; done) | (rw [if_neg (by omega)]; done) | (exfalso; omega)) (by unfold zuntil; first | (rw [if_pos (by omega), if_pos (by omega)]; done) | (rw [if_pos (by omega), if_neg (by omega)]; done) | (rw [if_neg (by omega), if_pos (by omega)]; done) | (rw [if_neg (by omega), if_neg (by omega)]; done) | (exfalso; omega)) _ hM
                · refine r_iload_2 182 rfl (dd_X12_test_1 43 _ _ _ rfl) ?_
                  refine r_goto 190 rfl (dd_X12_test_1 44 _ _ _ rfl) ?_
                  refine r_istore_7 192 rfl (by decide) rfl (dd_X12_test_1 48 _ _ _ rfl) ?_
                  refine r_aload_0 193 rfl (dd_X12_test_1 49 _ _ _ rfl) ?_
                  refine m_arr 29 hg hM (by decide) (by decide) (tb_6 85 _ rfl) 196 rfl (dd_X12_test_1 50 _ _ _ rfl) ?_ (fun _ _ _ => rfl)
                  refine r_iload_1 197 rfl (dd_X12_test_1 51 _ _ _ rfl) ?_
                  refine r_iload_3 198 rfl (dd_X12_test_1 52 _ _ _ rfl) ?_
                  refine r_iconst 199 rfl (dd_X12_test_1 53 _ _ _ rfl) ?_
                  refine r_if_icmpne (by omega) (by omega) 202 rfl 227 rfl (dd_X12_test_1 54 _ _ _ rfl) (fun hc21 => ?_) (fun hc21 => ?_)
                  · refine r_iload_7 229 rfl (dd_X12_test_2 8 _ _ _ rfl) ?_
                    refine r_aload_0 230 rfl (dd_X12_test_2 9 _ _ _ rfl) ?_
                    refine m_arr 29 hg hM (by decide) (by decide) (tb_6 85 _ rfl) 233 rfl (dd_X12_test_2 10 _ _ _ rfl) ?_ (fun _ _ _ => rfl)
                    refine r_iload_1 234 rfl (dd_X12_test_2 11 _ _ _ rfl) ?_
                    refine m_iald 29 (u) (by omega) hg hM rfl (by omega) (z_lt (n2 := 12) rfl (by omega)) (by decide) 235 rfl (dd_X12_test_2 12 _ _ _ rfl) ?_
                    try simp (decide := true) only [zu2, false_and, and_false, and_true, true_and, and_self, if_true, if_false, reduceIte]
                    refine r_if_icmple (by omega) (by omega) 238 rfl 243 rfl (dd_X12_test_2 13 _ _ _ rfl) (fun hc22 => ?_) (fun hc22 => ?_)
                    · refine r_aload_0 244 rfl (dd_X12_test_2 16 _ _ _ rfl) ?_
                      refine m_arr 29 hg hM (by decide) (by decide) (tb_6 85 _ rfl) 247 rfl (dd_X12_test_2 17 _ _ _ rfl) ?_ (fun _ _ _ => rfl)
                      refine r_iload_1 248 rfl (dd_X12_test_2 18 _ _ _ rfl) ?_
                      refine m_iald 29 (u) (by omega) hg hM rfl (by omega) (z_lt (n2 := 12) rfl (by omega)) (by decide) 249 rfl (dd_X12_test_2 19 _ _ _ rfl) ?_
                      try simp (decide := true) only [zu2, false_and, and_false, and_true, true_and, and_self, if_true, if_false, reduceIte]
                      refine m_iast 29 (u) (by omega) hg hM rfl (by omega) (z_lt (n2 := 12) rfl (by omega)) (by decide) 250 rfl (dd_X12_test_2 20 _ _ _ rfl) (fun h23 hM => ?_)
                      refine r_aload_0 251 rfl (dd_X12_test_2 21 _ _ _ rfl) ?_
                      refine m_arr 29 hg hM (by decide) (by decide) (tb_6 85 _ rfl) 254 rfl (dd_X12_test_2 22 _ _ _ rfl) ?_ (fun _ _ _ => rfl)
                      refine r_iload_1 255 rfl (dd_X12_test_2 23 _ _ _ rfl) ?_
                      refine m_iald 29 (u) (by omega) hg hM rfl (by omega) (z_lt (n2 := 12) rfl (by omega)) (by decide) 256 rfl (dd_X12_test_2 24 _ _ _ rfl) ?_
                      try simp (decide := true) only [zu2, false_and, and_false, and_true, true_and, and_self, if_true, if_false, reduceIte]
                      refine r_ireturn rfl rfl (dd_X12_test_2 25 _ _ _ rfl) ?_
                      exact k0 u _ _ rfl (by omega) (by unfold ztestOK; first | (rw [if_pos (by omega)]; omega) | (rw [if_neg (by omega)]; omega)) (by omega) (by unfold zback; first | (rw [if_pos (by omega)]; done) | (rw [if_neg (by omega)]; done) | (exfalso; omega)) (by unfold zuntil; first | (rw [if_pos (by omega), if_pos (by omega)]; done) | (rw [if_pos (by omega), if_neg (by omega)]; done) | (rw [if_neg (by omega), if_pos (by omega)]; done) | (rw [if_neg (by omega), if_neg (by omega)]; done) | (exfalso; omega)) _ hM
                    · refine r_iload_7 240 rfl (dd_X12_test_2 14 _ _ _ rfl) ?_
                      refine r_goto 249 rfl (dd_X12_test_2 15 _ _ _ rfl) ?_
                      refine m_iast 29 (u) (by omega) hg hM rfl (by omega) (z_lt (n2 := 12) rfl (by omega)) (by decide) 250 rfl (dd_X12_test_2 20 _ _ _ rfl) (fun h24 hM => ?_)
                      refine r_aload_0 251 rfl (dd_X12_test_2 21 _ _ _ rfl) ?_
                      refine m_arr 29 hg hM (by decide) (by decide) (tb_6 85 _ rfl) 254 rfl (dd_X12_test_2 22 _ _ _ rfl) ?_ (fun _ _ _ => rfl)
                      refine r_iload_1 255 rfl (dd_X12_test_2 23 _ _ _ rfl) ?_
                      refine m_iald 29 (u) (by omega) hg hM rfl (by omega) (z_lt (n2 := 12) rfl (by omega)) (by decide) 256 rfl (dd_X12_test_2 24 _ _ _ rfl) ?_
                      try simp (decide := true) only [zu2, false_and, and_false, and_true, true_and, and_self, if_true, if_false, reduceIte]
                      refine r_ireturn rfl rfl (dd_X12_test_2 25 _ _ _ rfl) ?_
                      exact k0 u _ _ rfl (by omega) (by unfold ztestOK; first | (rw [if_pos (by omega)]; omega) | (rw [if_neg (by omega)]; omega)) (by omega) (by unfold zback; first | (rw [if_pos (by omega)]; done) | (rw [if_neg (by omega)]; done) | (exfalso; omega)) (by unfold zuntil; first | (rw [if_pos (by omega), if_pos (by omega)]; done) | (rw [if_pos (by omega), if_neg (by omega)]; done) | (rw [if_neg (by omega), if_pos (by omega)]; done) | (rw [if_neg (by omega), if_neg (by omega)]; done) | (exfalso; omega)) _ hM
                  · refine r_iload_7 204 rfl (dd_X12_test_1 55 _ _ _ rfl) ?_
                    refine r_aload_0 205 rfl (dd_X12_test_1 56 _ _ _ rfl) ?_
                    refine m_arr 29 hg hM (by decide) (by decide) (tb_6 85 _ rfl) 208 rfl (dd_X12_test_1 57 _ _ _ rfl) ?_ (fun _ _ _ => rfl)
                    refine r_iload_1 209 rfl (dd_X12_test_1 58 _ _ _ rfl) ?_
                    refine m_iald 29 (u) (by omega) hg hM rfl (by omega) (z_lt (n2 := 12) rfl (by omega)) (by decide) 210 rfl (dd_X12_test_1 59 _ _ _ rfl) ?_
                    try simp (decide := true) only [zu2, false_and, and_false, and_true, true_and, and_self, if_true, if_false, reduceIte]
                    refine r_if_icmpge (by omega) (by omega) 213 rfl 218 rfl (dd_X12_test_2 0 _ _ _ rfl) (fun hc25 => ?_) (fun hc25 => ?_)
                    · refine r_aload_0 219 rfl (dd_X12_test_2 3 _ _ _ rfl) ?_
                      refine m_arr 29 hg hM (by decide) (by decide) (tb_6 85 _ rfl) 222 rfl (dd_X12_test_2 4 _ _ _ rfl) ?_ (fun _ _ _ => rfl)
                      refine r_iload_1 223 rfl (dd_X12_test_2 5 _ _ _ rfl) ?_
                      refine m_iald 29 (u) (by omega) hg hM rfl (by omega) (z_lt (n2 := 12) rfl (by omega)) (by decide) 224 rfl (dd_X12_test_2 6 _ _ _ rfl) ?_
                      try simp (decide := true) only [zu2, false_and, and_false, and_true, true_and, and_self, if_true, if_false, reduceIte]
                      refine r_goto 249 rfl (dd_X12_test_2 7 _ _ _ rfl) ?_
                      refine m_iast 29 (u) (by omega) hg hM rfl (by omega) (z_lt (n2 := 12) rfl (by omega)) (by decide) 250 rfl (dd_X12_test_2 20 _ _ _ rfl) (fun h26 hM => ?_)
                      refine r_aload_0 251 rfl (dd_X12_test_2 21 _ _ _ rfl) ?_
                      refine m_arr 29 hg hM (by decide) (by decide) (tb_6 85 _ rfl) 254 rfl (dd_X12_test_2 22 _ _ _ rfl) ?_ (fun _ _ _ => rfl)
                      refine r_iload_1 255 rfl (dd_X12_test_2 23 _ _ _ rfl) ?_
                      refine m_iald 29 (u) (by omega) hg hM rfl (by omega) (z_lt (n2 := 12) rfl (by omega)) (by decide) 256 rfl (dd_X12_test_2 24 _ _ _ rfl) ?_
                      try simp (decide := true) only [zu2, false_and, and_false, and_true, true_and, and_self, if_true, if_false, reduceIte]
                      refine r_ireturn rfl rfl (dd_X12_test_2 25 _ _ _ rfl) ?_
                      exact k0 u _ _ rfl (by omega) (by unfold ztestOK; first | (rw [if_pos (by omega)]; omega) | (rw [if_neg (by omega)]; omega)) (by omega) (by unfold zback; first | (rw [if_pos (by omega)]; done) | (rw [if_neg (by omega)]; done) | (exfalso; omega)) (by unfold zuntil; first | (rw [if_pos (by omega), if_pos (by omega)]; done) | (rw [if_pos (by omega), if_neg (by omega)]; done) | (rw [if_neg (by omega), if_pos (by omega)]; done) | (rw [if_neg (by omega), if_neg (by omega)]; done) | (exfalso; omega)) _ hM
                    · refine r_iload_7 215 rfl (dd_X12_test_2 1 _ _ _ rfl) ?_
                      refine r_goto 249 rfl (dd_X12_test_2 2 _ _ _ rfl) ?_
                      refine m_iast 29 (u) (by omega) hg hM rfl (by omega) (z_lt (n2 := 12) rfl (by omega)) (by decide) 250 rfl (dd_X12_test_2 20 _ _ _ rfl) (fun h27 hM => ?_)
                      refine r_aload_0 251 rfl (dd_X12_test_2 21 _ _ _ rfl) ?_
                      refine m_arr 29 hg hM (by decide) (by decide) (tb_6 85 _ rfl) 254 rfl (dd_X12_test_2 22 _ _ _ rfl) ?_ (fun _ _ _ => rfl)
                      refine r_iload_1 255 rfl (dd_X12_test_2 23 _ _ _ rfl) ?_
                      refine m_iald 29 (u) (by omega) hg hM rfl (by omega) (z_lt (n2 := 12) rfl (by omega)) (by decide) 256 rfl (dd_X12_test_2 24 _ _ _ rfl) ?_
                      try simp (decide := true) only [zu2, false_and, and_false, and_true, true_and, and_self, if_true, if_false, reduceIte]
                      refine r_ireturn rfl rfl (dd_X12_test_2 25 _ _ _ rfl) ?_
                      exact k0 u _ _ rfl (by omega) (by unfold ztestOK; first | (rw [if_pos (by omega)]; omega) | (rw [if_neg (by omega)]; omega)) (by omega) (by unfold zback; first | (rw [if_pos (by omega)]; done) | (rw [if_neg (by omega)]; done) | (exfalso; omega)) (by unfold zuntil; first | (rw [if_pos (by omega), if_pos (by omega)]; done) | (rw [if_pos (by omega), if_neg (by omega)]; done) | (rw [if_neg (by omega), if_pos (by omega)]; done) | (rw [if_neg (by omega), if_neg (by omega)]; done) | (exfalso; omega)) _ hM
              · refine r_iload_4 135 rfl (dd_X12_test_1 11 _ _ _ rfl) ?_
                refine r_aload_0 136 rfl (dd_X12_test_1 12 _ _ _ rfl) ?_
                refine m_arr 27 hg hM (by decide) (by decide) (tb_6 83 _ rfl) 139 rfl (dd_X12_test_1 13 _ _ _ rfl) ?_ (fun _ _ _ => rfl)
                refine r_iload_1 140 rfl (dd_X12_test_1 14 _ _ _ rfl) ?_
                refine m_iald 27 (u) (by omega) hg hM rfl (by omega) (z_lt (n2 := 12) rfl (by omega)) (by decide) 141 rfl (dd_X12_test_1 15 _ _ _ rfl) ?_
                try simp (decide := true) only [zu2, false_and, and_false, and_true, true_and, and_self, if_true, if_false, reduceIte]
                refine r_if_icmpge (by omega) (by omega) 144 rfl 148 rfl (dd_X12_test_1 16 _ _ _ rfl) (fun hc28 => ?_) (fun hc28 => ?_)
                · refine r_iconst 149 rfl (dd_X12_test_1 19 _ _ _ rfl) ?_
                  refine r_iadd 150 rfl (dd_X12_test_1 20 _ _ _ rfl) ?_
                  refine m_iast 28 (u) (by omega) hg hM rfl (by omega) (z_lt (n2 := 12) rfl (by omega)) (by decide) 151 rfl (dd_X12_test_1 21 _ _ _ rfl) (fun h29 hM => ?_)
                  refine r_aload_0 152 rfl (dd_X12_test_1 22 _ _ _ rfl) ?_
                  refine m_arr 25 hg hM (by decide) (by decide) (tb_6 81 _ rfl) 155 rfl (dd_X12_test_1 23 _ _ _ rfl) ?_ (fun _ _ _ => rfl)
                  refine r_iload_1 156 rfl (dd_X12_test_1 24 _ _ _ rfl) ?_
                  refine r_dup2 rfl rfl 157 rfl (dd_X12_test_1 25 _ _ _ rfl) ?_
                  refine m_iald 25 (u) (by omega) hg hM rfl (by omega) (z_lt (n2 := 12) rfl (by omega)) (by decide) 158 rfl (dd_X12_test_1 26 _ _ _ rfl) ?_
                  try simp (decide := true) only [zu2, false_and, and_false, and_true, true_and, and_self, if_true, if_false, reduceIte]
                  refine r_iconst 159 rfl (dd_X12_test_1 27 _ _ _ rfl) ?_
                  refine r_iadd 160 rfl (dd_X12_test_1 28 _ _ _ rfl) ?_
                  refine m_iast 25 (u) (by omega) hg hM rfl (by omega) (z_lt (n2 := 12) rfl (by omega)) (by decide) 161 rfl (dd_X12_test_1 29 _ _ _ rfl) (fun h30 hM => ?_)
                  refine r_aload_0 162 rfl (dd_X12_test_1 30 _ _ _ rfl) ?_
                  refine m_arr 26 hg hM (by decide) (by decide) (tb_6 82 _ rfl) 165 rfl (dd_X12_test_1 31 _ _ _ rfl) ?_ (fun _ _ _ => rfl)
                  refine r_iload_1 166 rfl (dd_X12_test_1 32 _ _ _ rfl) ?_
                  refine r_iload_2 167 rfl (dd_X12_test_1 33 _ _ _ rfl) ?_
                  refine m_iast 26 (u) (by omega) hg hM rfl (by omega) (z_lt (n2 := 12) rfl (by omega)) (by decide) 168 rfl (dd_X12_test_1 34 _ _ _ rfl) (fun h31 hM => ?_)
                  refine r_aload_0 169 rfl (dd_X12_test_1 35 _ _ _ rfl) ?_
                  refine m_arr 27 hg hM (by decide) (by decide) (tb_6 83 _ rfl) 172 rfl (dd_X12_test_1 36 _ _ _ rfl) ?_ (fun _ _ _ => rfl)
                  refine r_iload_1 173 rfl (dd_X12_test_1 37 _ _ _ rfl) ?_
                  refine r_iload_4 175 rfl (dd_X12_test_1 38 _ _ _ rfl) ?_
                  refine m_iast 27 (u) (by omega) hg hM rfl (by omega) (z_lt (n2 := 12) rfl (by omega)) (by decide) 176 rfl (dd_X12_test_1 39 _ _ _ rfl) (fun h32 hM => ?_)
                  refine r_iload_3 177 rfl (dd_X12_test_1 40 _ _ _ rfl) ?_
                  refine r_iconst 178 rfl (dd_X12_test_1 41 _ _ _ rfl) ?_
                  refine r_if_icmpne (by omega) (by omega) 181 rfl 185 rfl (dd_X12_test_1 42 _ _ _ rfl) (fun hc33 => ?_) (fun hc33 => ?_)
                  · refine r_iload_2 186 rfl (dd_X12_test_1 45 _ _ _ rfl) ?_
                    refine r_sipush (by decide) 189 rfl (dd_X12_test_1 46 _ _ _ rfl) ?_
                    refine r_iadd 190 rfl (dd_X12_test_1 47 _ _ _ rfl) ?_
                    refine r_istore_7 192 rfl (by decide) rfl (dd_X12_test_1 48 _ _ _ rfl) ?_
                    refine r_aload_0 193 rfl (dd_X12_test_1 49 _ _ _ rfl) ?_
                    refine m_arr 29 hg hM (by decide) (by decide) (tb_6 85 _ rfl) 196 rfl (dd_X12_test_1 50 _ _ _ rfl) ?_ (fun _ _ _ => rfl)
                    refine r_iload_1 197 rfl (dd_X12_test_1 51 _ _ _ rfl) ?_
                    refine r_iload_3 198 rfl (dd_X12_test_1 52 _ _ _ rfl) ?_
                    refine r_iconst 199 rfl (dd_X12_test_1 53 _ _ _ rfl) ?_
                    refine r_if_icmpne (by omega) (by omega) 202 rfl 227 rfl (dd_X12_test_1 54 _ _ _ rfl) (fun hc34 => ?_) (fun hc34 => ?_)
                    · refine r_iload_7 229 rfl (dd_X12_test_2 8 _ _ _ rfl) ?_
                      refine r_aload_0 230 rfl (dd_X12_test_2 9 _ _ _ rfl) ?_
                      refine m_arr 29 hg hM (by decide) (by decide) (tb_6 85 _ rfl) 233 rfl (dd_X12_test_2 10 _ _ _ rfl) ?_ (fun _ _ _ => rfl)
                      refine r_iload_1 234 rfl (dd_X12_test_2 11 _ _ _ rfl) ?_
                      refine m_iald 29 (u) (by omega) hg hM rfl (by omega) (z_lt (n2 := 12) rfl (by omega)) (by decide) 235 rfl (dd_X12_test_2 12 _ _ _ rfl) ?_
                      try simp (decide := true) only [zu2, false_and, and_false, and_true, true_and, and_self, if_true, if_false, reduceIte]
                      refine r_if_icmple (by omega) (by omega) 238 rfl 243 rfl (dd_X12_test_2 13 _ _ _ rfl) (fun hc35 => ?_) (fun hc35 => ?_)
                      · refine r_aload_0 244 rfl (dd_X12_test_2 16 _ _ _ rfl) ?_
                        refine m_arr 29 hg hM (by decide) (by decide) (tb_6 85 _ rfl) 247 rfl (dd_X12_test_2 17 _ _ _ rfl) ?_ (fun _ _ _ => rfl)
                        refine r_iload_1 248 rfl (dd_X12_test_2 18 _ _ _ rfl) ?_
                        refine m_iald 29 (u) (by omega) hg hM rfl (by omega) (z_lt (n2 := 12) rfl (by omega)) (by decide) 249 rfl (dd_X12_test_2 19 _ _ _ rfl) ?_
                        try simp (decide := true) only [zu2, false_and, and_false, and_true, true_and, and_self, if_true, if_false, reduceIte]
                        refine m_iast 29 (u) (by omega) hg hM rfl (by omega) (z_lt (n2 := 12) rfl (by omega)) (by decide) 250 rfl (dd_X12_test_2 20 _ _ _ rfl) (fun h36 hM => ?_)
                        refine r_aload_0 251 rfl (dd_X12_test_2 21 _ _ _ rfl) ?_
                        refine m_arr 29 hg hM (by decide) (by decide) (tb_6 85 _ rfl) 254 rfl (dd_X12_test_2 22 _ _ _ rfl) ?_ (fun _ _ _ => rfl)
                        refine r_iload_1 255 rfl (dd_X12_test_2 23 _ _ _ rfl) ?_
                        refine m_iald 29 (u) (by omega) hg hM rfl (by omega) (z_lt (n2 := 12) rfl (by omega)) (by decide) 256 rfl (dd_X12_test_2 24 _ _ _ rfl) ?_
                        try simp (decide := true) only [zu2, false_and, and_false, and_true, true_and, and_self, if_true, if_false, reduceIte]
                        refine r_ireturn rfl rfl (dd_X12_test_2 25 _ _ _ rfl) ?_
                        exact k0 u _ _ rfl (by omega) (by unfold ztestOK; first | (rw [if_pos (by omega)]; omega) | (rw [if_neg (by omega)]; omega)) (by omega) (by unfold zback; first | (rw [if_pos (by omega)]; done) | (rw [if_neg (by omega)]; done) | (exfalso; omega)) (by unfold zuntil; first | (rw [if_pos (by omega), if_pos (by omega)]; done) | (rw [if_pos (by omega), if_neg (by omega)]; done) | (rw [if_neg (by omega), if_pos (by omega)]; done) | (rw [if_neg (by omega), if_neg (by omega)]; done) | (exfalso; omega)) _ hM
                      · refine r_iload_7 240 rfl (dd_X12_test_2 14 _ _ _ rfl) ?_
                        refine r_goto 249 rfl (dd_X12_test_2 15 _ _ _ rfl) ?_
                        refine m_iast 29 (u) (by omega) hg hM rfl (by omega) (z_lt (n2 := 12) rfl (by omega)) (by decide) 250 rfl (dd_X12_test_2 20 _ _ _ rfl) (fun h37 hM => ?_)
                        refine r_aload_0 251 rfl (dd_X12_test_2 21 _ _ _ rfl) ?_
                        refine m_arr 29 hg hM (by decide) (by decide) (tb_6 85 _ rfl) 254 rfl (dd_X12_test_2 22 _ _ _ rfl) ?_ (fun _ _ _ => rfl)
                        refine r_iload_1 255 rfl (dd_X12_test_2 23 _ _ _ rfl) ?_
                        refine m_iald 29 (u) (by omega) hg hM rfl (by omega) (z_lt (n2 := 12) rfl (by omega)) (by decide) 256 rfl (dd_X12_test_2 24 _ _ _ rfl) ?_
                        try simp (decide := true) only [zu2, false_and, and_false, and_true, true_and, and_self, if_true, if_false, reduceIte]
                        refine r_ireturn rfl rfl (dd_X12_test_2 25 _ _ _ rfl) ?_
                        exact k0 u _ _ rfl (by omega) (by unfold ztestOK; first | (rw [if_pos (by omega)]; omega) | (rw [if_neg (by omega)]; omega)) (by omega) (by unfold zback; first | (rw [if_pos (by omega)]; done) | (rw [if_neg (by omega)]; done) | (exfalso; omega)) (by unfold zuntil; first | (rw [if_pos (by omega), if_pos (by omega)]; done) | (rw [if_pos (by omega), if_neg (by omega)]; done) | (rw [if_neg (by omega), if_pos (by omega)]; done) | (rw [if_neg (by omega), if_neg (by omega)]; done) | (exfalso; omega)) _ hM
                    · refine r_iload_7 204 rfl (dd_X12_test_1 55 _ _ _ rfl) ?_
                      refine r_aload_0 205 rfl (dd_X12_test_1 56 _ _ _ rfl) ?_
                      refine m_arr 29 hg hM (by decide) (by decide) (tb_6 85 _ rfl) 208 rfl (dd_X12_test_1 57 _ _ _ rfl) ?_ (fun _ _ _ => rfl)
                      refine r_iload_1 209 rfl (dd_X12_test_1 58 _ _ _ rfl) ?_
                      refine m_iald 29 (u) (by omega) hg hM rfl (by omega) (z_lt (n2 := 12) rfl (by omega)) (by decide) 210 rfl (dd_X12_test_1 59 _ _ _ rfl) ?_
                      try simp (decide := true) only [zu2, false_and, and_false, and_true, true_and, and_self, if_true, if_false, reduceIte]
                      refine r_if_icmpge (by omega) (by omega) 213 rfl 218 rfl (dd_X12_test_2 0 _ _ _ rfl) (fun hc38 => ?_) (fun hc38 => ?_)
                      · refine r_aload_0 219 rfl (dd_X12_test_2 3 _ _ _ rfl) ?_
                        refine m_arr 29 hg hM (by decide) (by decide) (tb_6 85 _ rfl) 222 rfl (dd_X12_test_2 4 _ _ _ rfl) ?_ (fun _ _ _ => rfl)
                        refine r_iload_1 223 rfl (dd_X12_test_2 5 _ _ _ rfl) ?_
                        refine m_iald 29 (u) (by omega) hg hM rfl (by omega) (z_lt (n2 := 12) rfl (by omega)) (by decide) 224 rfl (dd_X12_test_2 6 _ _ _ rfl) ?_
                        try simp (decide := true) only [zu2, false_and, and_false, and_true, true_and, and_self, if_true, if_false, reduceIte]
                        refine r_goto 249 rfl (dd_X12_test_2 7 _ _ _ rfl) ?_
                        refine m_iast 29 (u) (by omega) hg hM rfl (by omega) (z_lt (n2 := 12) rfl (by omega)) (by decide) 250 rfl (dd_X12_test_2 20 _ _ _ rfl) (fun h39 hM => ?_)
                        refine r_aload_0 251 rfl (dd_X12_test_2 21 _ _ _ rfl) ?_
                        refine m_arr 29 hg hM (by decide) (by decide) (tb_6 85 _ rfl) 254 rfl (dd_X12_test_2 22 _ _ _ rfl) ?_ (fun _ _ _ => rfl)
                        refine r_iload_1 255 rfl (dd_X12_test_2 23 _ _ _ rfl) ?_
                        refine m_iald 29 (u) (by omega) hg hM rfl (by omega) (z_lt (n2 := 12) rfl (by omega)) (by decide) 256 rfl (dd_X12_test_2 24 _ _ _ rfl) ?_
                        try simp (decide := true) only [zu2, false_and, and_false, and_true, true_and, and_self, if_true, if_false, reduceIte]
                        refine r_ireturn rfl rfl (dd_X12_test_2 25 _ _ _ rfl) ?_
                        exact k0 u _ _ rfl (by omega) (by unfold ztestOK; first | (rw [if_pos (by omega)]; omega) | (rw [if_neg (by omega)]; omega)) (by omega) (by unfold zback; first | (rw [if_pos (by omega)]; done) | (rw [if_neg (by omega)]; done) | (exfalso; omega)) (by unfold zuntil; first | (rw [if_pos (by omega), if_pos (by omega)]; done) | (rw [if_pos (by omega), if_neg (by omega)]; done) | (rw [if_neg (by omega), if_pos (by omega)]; done) | (rw [if_neg (by omega), if_neg (by omega)]; done) | (exfalso; omega)) _ hM
                      · refine r_iload_7 215 rfl (dd_X12_test_2 1 _ _ _ rfl) ?_
                        refine r_goto 249 rfl (dd_X12_test_2 2 _ _ _ rfl) ?_
                        refine m_iast 29 (u) (by omega) hg hM rfl (by omega) (z_lt (n2 := 12) rfl (by omega)) (by decide) 250 rfl (dd_X12_test_2 20 _ _ _ rfl) (fun h40 hM => ?_)
                        refine r_aload_0 251 rfl (dd_X12_test_2 21 _ _ _ rfl) ?_
                        refine m_arr 29 hg hM (by decide) (by decide) (tb_6 85 _ rfl) 254 rfl (dd_X12_test_2 22 _ _ _ rfl) ?_ (fun _ _ _ => rfl)
                        refine r_iload_1 255 rfl (dd_X12_test_2 23 _ _ _ rfl) ?_
                        refine m_iald 29 (u) (by omega) hg hM rfl (by omega) (z_lt (n2 := 12) rfl (by omega)) (by decide) 256 rfl (dd_X12_test_2 24 _ _ _ rfl) ?_
                        try simp (decide := true) only [zu2, false_and, and_false, and_true, true_and, and_self, if_true, if_false, reduceIte]
                        refine r_ireturn rfl rfl (dd_X12_test_2 25 _ _ _ rfl) ?_
                        exact k0 u _ _ rfl (by omega) (by unfold ztestOK; first | (rw [if_pos (by omega)]; omega) | (rw [if_neg (by omega)]; omega)) (by omega) (by unfold zback; first | (rw [if_pos (by omega)]; done) | (rw [if_neg (by omega)]; done) | (exfalso; omega)) (by unfold zuntil; first | (rw [if_pos (by omega), if_pos (by omega)]; done) | (rw [if_pos (by omega), if_neg (by omega)]; done) | (rw [if_neg (by omega), if_pos (by omega)]; done) | (rw [if_neg (by omega), if_neg (by omega)]; done) | (exfalso; omega)) _ hM
                  · refine r_iload_2 182 rfl (dd_X12_test_1 43 _ _ _ rfl) ?_
                    refine r_goto 190 rfl (dd_X12_test_1 44 _ _ _ rfl) ?_
                    refine r_istore_7 192 rfl (by decide) rfl (dd_X12_test_1 48 _ _ _ rfl) ?_
                    refine r_aload_0 193 rfl (dd_X12_test_1 49 _ _ _ rfl) ?_
                    refine m_arr 29 hg hM (by decide) (by decide) (tb_6 85 _ rfl) 196 rfl (dd_X12_test_1 50 _ _ _ rfl) ?_ (fun _ _ _ => rfl)
                    refine r_iload_1 197 rfl (dd_X12_test_1 51 _ _ _ rfl) ?_
                    refine r_iload_3 198 rfl (dd_X12_test_1 52 _ _ _ rfl) ?_
                    refine r_iconst 199 rfl (dd_X12_test_1 53 _ _ _ rfl) ?_
                    refine r_if_icmpne (by omega) (by omega) 202 rfl 227 rfl (dd_X12_test_1 54 _ _ _ rfl) (fun hc41 => ?_) (fun hc41 => ?_)
                    · refine r_iload_7 229 rfl (dd_X12_test_2 8 _ _ _ rfl) ?_
                      refine r_aload_0 230 rfl (dd_X12_test_2 9 _ _ _ rfl) ?_
                      refine m_arr 29 hg hM (by decide) (by decide) (tb_6 85 _ rfl) 233 rfl (dd_X12_test_2 10 _ _ _ rfl) ?_ (fun _ _ _ => rfl)
                      refine r_iload_1 234 rfl (dd_X12_test_2 11 _ _ _ rfl) ?_
                      refine m_iald 29 (u) (by omega) hg hM rfl (by omega) (z_lt (n2 := 12) rfl (by omega)) (by decide) 235 rfl (dd_X12_test_2 12 _ _ _ rfl) ?_
                      try simp (decide := true) only [zu2, false_and, and_false, and_true, true_and, and_self, if_true, if_false, reduceIte]
                      refine r_if_icmple (by omega) (by omega) 238 rfl 243 rfl (dd_X12_test_2 13 _ _ _ rfl) (fun hc42 => ?_) (fun hc42 => ?_)
                      · refine r_aload_0 244 rfl (dd_X12_test_2 16 _ _ _ rfl) ?_
                        refine m_arr 29 hg hM (by decide) (by decide) (tb_6 85 _ rfl) 247 rfl (dd_X12_test_2 17 _ _ _ rfl) ?_ (fun _ _ _ => rfl)
                        refine r_iload_1 248 rfl (dd_X12_test_2 18 _ _ _ rfl) ?_
                        refine m_iald 29 (u) (by omega) hg hM rfl (by omega) (z_lt (n2 := 12) rfl (by omega)) (by decide) 249 rfl (dd_X12_test_2 19 _ _ _ rfl) ?_
                        try simp (decide := true) only [zu2, false_and, and_false, and_true, true_and, and_self, if_true, if_false, reduceIte]
                        refine m_iast 29 (u) (by omega) hg hM rfl (by omega) (z_lt (n2 := 12) rfl (by omega)) (by decide) 250 rfl (dd_X12_test_2 20 _ _ _ rfl) (fun h43 hM => ?_)
                        refine r_aload_0 251 rfl (dd_X12_test_2 21 _ _ _ rfl) ?_
                        refine m_arr 29 hg hM (by decide) (by decide) (tb_6 85 _ rfl) 254 rfl (dd_X12_test_2 22 _ _ _ rfl) ?_ (fun _ _ _ => rfl)
                        refine r_iload_1 255 rfl (dd_X12_test_2 23 _ _ _ rfl) ?_
                        refine m_iald 29 (u) (by omega) hg hM rfl (by omega) (z_lt (n2 := 12) rfl (by omega)) (by decide) 256 rfl (dd_X12_test_2 24 _ _ _ rfl) ?_
                        try simp (decide := true) only [zu2, false_and, and_false, and_true, true_and, and_self, if_true, if_false, reduceIte]
                        refine r_ireturn rfl rfl (dd_X12_test_2 25 _ _ _ rfl) ?_
                        exact k0 u _ _ rfl (by omega) (by unfold ztestOK; first | (rw [if_pos (by omega)]; omega) | (rw [if_neg (by omega)]; omega)) (by omega) (by unfold zback; first | (rw [if_pos (by omega)]; done) | (rw [if_neg (by omega)]; done) | (exfalso; omega)) (by unfold zuntil; first | (rw [if_pos (by omega), if_pos (by omega)]; done) | (rw [if_pos (by omega), if_neg (by omega)]; done) | (rw [if_neg (by omega), if_pos (by omega)]; done) | (rw [if_neg (by omega), if_neg (by omega)]; done) | (exfalso; omega)) _ hM
                      · refine r_iload_7 240 rfl (dd_X12_test_2 14 _ _ _ rfl) ?_
                        refine r_goto 249 rfl (dd_X12_test_2 15 _ _ _ rfl) ?_
                        refine m_iast 29 (u) (by omega) hg hM rfl (by omega) (z_lt (n2 := 12) rfl (by omega)) (by decide) 250 rfl (dd_X12_test_2 20 _ _ _ rfl) (fun h44 hM => ?_)
                        refine r_aload_0 251 rfl (dd_X12_test_2 21 _ _ _ rfl) ?_
                        refine m_arr 29 hg hM (by decide) (by decide) (tb_6 85 _ rfl) 254 rfl (dd_X12_test_2 22 _ _ _ rfl) ?_ (fun _ _ _ => rfl)
                        refine r_iload_1 255 rfl (dd_X12_test_2 23 _ _ _ rfl) ?_
                        refine m_iald 29 (u) (by omega) hg hM rfl (by omega) (z_lt (n2 := 12) rfl (by omega)) (by decide) 256 rfl (dd_X12_test_2 24 _ _ _ rfl) ?_
                        try simp (decide := true) only [zu2, false_and, and_false, and_true, true_and, and_self, if_true, if_false, reduceIte]
                        refine r_ireturn rfl rfl (dd_X12_test_2 25 _ _ _ rfl) ?_
                        exact k0 u _ _ rfl (by omega) (by unfold ztestOK; first | (rw [if_pos (by omega)]; omega) | (rw [if_neg (by omega)]; omega)) (by omega) (by unfold zback; first | (rw [if_pos (by omega)]; done) | (rw [if_neg (by omega)]; done) | (exfalso; omega)) (by unfold zuntil; first | (rw [if_pos (by omega), if_pos (by omega)]; done) | (rw [if_pos (by omega), if_neg (by omega)]; done) | (rw [if_neg (by omega), if_pos (by omega)]; done) | (rw [if_neg (by omega), if_neg (by omega)]; done) | (exfalso; omega)) _ hM
                    · refine r_iload_7 204 rfl (dd_X12_test_1 55 _ _ _ rfl) ?_
                      refine r_aload_0 205 rfl (dd_X12_test_1 56 _ _ _ rfl) ?_
                      refine m_arr 29 hg hM (by decide) (by decide) (tb_6 85 _ rfl) 208 rfl (dd_X12_test_1 57 _ _ _ rfl) ?_ (fun _ _ _ => rfl)
                      refine r_iload_1 209 rfl (dd_X12_test_1 58 _ _ _ rfl) ?_
                      refine m_iald 29 (u) (by omega) hg hM rfl (by omega) (z_lt (n2 := 12) rfl (by omega)) (by decide) 210 rfl (dd_X12_test_1 59 _ _ _ rfl) ?_
                      try simp (decide := true) only [zu2, false_and, and_false, and_true, true_and, and_self, if_true, if_false, reduceIte]
                      refine r_if_icmpge (by omega) (by omega) 213 rfl 218 rfl (dd_X12_test_2 0 _ _ _ rfl) (fun hc45 => ?_) (fun hc45 => ?_)
                      · refine r_aload_0 219 rfl (dd_X12_test_2 3 _ _ _ rfl) ?_
                        refine m_arr 29 hg hM (by decide) (by decide) (tb_6 85 _ rfl) 222 rfl (dd_X12_test_2 4 _ _ _ rfl) ?_ (fun _ _ _ => rfl)
                        refine r_iload_1 223 rfl (dd_X12_test_2 5 _ _ _ rfl) ?_
                        refine m_iald 29 (u) (by omega) hg hM rfl (by omega) (z_lt (n2 := 12) rfl (by omega)) (by decide) 224 rfl (dd_X12_test_2 6 _ _ _ rfl) ?_
                        try simp (decide := true) only [zu2, false_and, and_false, and_true, true_and, and_self, if_true, if_false, reduceIte]
                        refine r_goto 249 rfl (dd_X12_test_2 7 _ _ _ rfl) ?_
                        refine m_iast 29 (u) (by omega) hg hM rfl (by omega) (z_lt (n2 := 12) rfl (by omega)) (by decide) 250 rfl (dd_X12_test_2 20 _ _ _ rfl) (fun h46 hM => ?_)
                        refine r_aload_0 251 rfl (dd_X12_test_2 21 _ _ _ rfl) ?_
                        refine m_arr 29 hg hM (by decide) (by decide) (tb_6 85 _ rfl) 254 rfl (dd_X12_test_2 22 _ _ _ rfl) ?_ (fun _ _ _ => rfl)
                        refine r_iload_1 255 rfl (dd_X12_test_2 23 _ _ _ rfl) ?_
                        refine m_iald 29 (u) (by omega) hg hM rfl (by omega) (z_lt (n2 := 12) rfl (by omega)) (by decide) 256 rfl (dd_X12_test_2 24 _ _ _ rfl) ?_
                        try simp (decide := true) only [zu2, false_and, and_false, and_true, true_and, and_self, if_true, if_false, reduceIte]
                        refine r_ireturn rfl rfl (dd_X12_test_2 25 _ _ _ rfl) ?_
                        exact k0 u _ _ rfl (by omega) (by unfold ztestOK; first | (rw [if_pos (by omega)]; omega) | (rw [if_neg (by omega)]; omega)) (by omega) (by unfold zback; first | (rw [if_pos (by omega)]; done) | (rw [if_neg (by omega)]; done) | (exfalso; omega)) (by unfold zuntil; first | (rw [if_pos (by omega), if_pos (by omega)]; done) | (rw [if_pos (by omega), if_neg (by omega)]; done) | (rw [if_neg (by omega), if_pos (by omega)]; done) | (rw [if_neg (by omega), if_neg (by omega)]; done) | (exfalso; omega)) _ hM
                      · refine r_iload_7 215 rfl (dd_X12_test_2 1 _ _ _ rfl) ?_
                        refine r_goto 249 rfl (dd_X12_test_2 2 _ _ _ rfl) ?_
                        refine m_iast 29 (u) (by omega) hg hM rfl (by omega) (z_lt (n2 := 12) rfl (by omega)) (by decide) 250 rfl (dd_X12_test_2 20 _ _ _ rfl) (fun h47 hM => ?_)
                        refine r_aload_0 251 rfl (dd_X12_test_2 21 _ _ _ rfl) ?_
                        refine m_arr 29 hg hM (by decide) (by decide) (tb_6 85 _ rfl) 254 rfl (dd_X12_test_2 22 _ _ _ rfl) ?_ (fun _ _ _ => rfl)
                        refine r_iload_1 255 rfl (dd_X12_test_2 23 _ _ _ rfl) ?_
                        refine m_iald 29 (u) (by omega) hg hM rfl (by omega) (z_lt (n2 := 12) rfl (by omega)) (by decide) 256 rfl (dd_X12_test_2 24 _ _ _ rfl) ?_
                        try simp (decide := true) only [zu2, false_and, and_false, and_true, true_and, and_self, if_true, if_false, reduceIte]
                        refine r_ireturn rfl rfl (dd_X12_test_2 25 _ _ _ rfl) ?_
                        exact k0 u _ _ rfl (by omega) (by unfold ztestOK; first | (rw [if_pos (by omega)]; omega) | (rw [if_neg (by omega)]; omega)) (by omega) (by unfold zback; first | (rw [if_pos (by omega)]; done) | (rw [if_neg (by omega)]; done) | (exfalso; omega)) (by unfold zuntil; first | (rw [if_pos (by omega), if_pos (by omega)]; done) | (rw [if_pos (by omega), if_neg (by omega)]; done) | (rw [if_neg (by omega), if_pos (by omega)]; done) | (rw [if_neg (by omega), if_neg (by omega)]; done) | (exfalso; omega)) _ hM
                · refine r_iconst 145 rfl (dd_X12_test_1 17 _ _ _ rfl) ?_
                  refine r_goto 149 rfl (dd_X12_test_1 18 _ _ _ rfl) ?_
                  refine r_iadd 150 rfl (dd_X12_test_1 20 _ _ _ rfl) ?_
                  refine m_iast 28 (u) (by omega) hg hM rfl (by omega) (z_lt (n2 := 12) rfl (by omega)) (by decide) 151 rfl (dd_X12_test_1 21 _ _ _ rfl) (fun h48 hM => ?_)
                  refine r_aload_0 152 rfl (dd_X12_test_1 22 _ _ _ rfl) ?_
                  refine m_arr 25 hg hM (by decide) (by decide) (tb_6 81 _ rfl) 155 rfl (dd_X12_test_1 23 _ _ _ rfl) ?_ (fun _ _ _ => rfl)
                  refine r_iload_1 156 rfl (dd_X12_test_1 24 _ _ _ rfl) ?_
                  refine r_dup2 rfl rfl 157 rfl (dd_X12_test_1 25 _ _ _ rfl) ?_
                  refine m_iald 25 (u) (by omega) hg hM rfl (by omega) (z_lt (n2 := 12) rfl (by omega)) (by decide) 158 rfl (dd_X12_test_1 26 _ _ _ rfl) ?_
                  try simp (decide := true) only [zu2, false_and, and_false, and_true, true_and, and_self, if_true, if_false, reduceIte]
                  refine r_iconst 159 rfl (dd_X12_test_1 27 _ _ _ rfl) ?_
                  refine r_iadd 160 rfl (dd_X12_test_1 28 _ _ _ rfl) ?_
                  refine m_iast 25 (u) (by omega) hg hM rfl (by omega) (z_lt (n2 := 12) rfl (by omega)) (by decide) 161 rfl (dd_X12_test_1 29 _ _ _ rfl) (fun h49 hM => ?_)
                  refine r_aload_0 162 rfl (dd_X12_test_1 30 _ _ _ rfl) ?_
                  refine m_arr 26 hg hM (by decide) (by decide) (tb_6 82 _ rfl) 165 rfl (dd_X12_test_1 31 _ _ _ rfl) ?_ (fun _ _ _ => rfl)
                  refine r_iload_1 166 rfl (dd_X12_test_1 32 _ _ _ rfl) ?_
                  refine r_iload_2 167 rfl (dd_X12_test_1 33 _ _ _ rfl) ?_
                  refine m_iast 26 (u) (by omega) hg hM rfl (by omega) (z_lt (n2 := 12) rfl (by omega)) (by decide) 168 rfl (dd_X12_test_1 34 _ _ _ rfl) (fun h50 hM => ?_)
                  refine r_aload_0 169 rfl (dd_X12_test_1 35 _ _ _ rfl) ?_
                  refine m_arr 27 hg hM (by decide) (by decide) (tb_6 83 _ rfl) 172 rfl (dd_X12_test_1 36 _ _ _ rfl) ?_ (fun _ _ _ => rfl)
                  refine r_iload_1 173 rfl (dd_X12_test_1 37 _ _ _ rfl) ?_
                  refine r_iload_4 175 rfl (dd_X12_test_1 38 _ _ _ rfl) ?_
                  refine m_iast 27 (u) (by omega) hg hM rfl (by omega) (z_lt (n2 := 12) rfl (by omega)) (by decide) 176 rfl (dd_X12_test_1 39 _ _ _ rfl) (fun h51 hM => ?_)
                  refine r_iload_3 177 rfl (dd_X12_test_1 40 _ _ _ rfl) ?_
                  refine r_iconst 178 rfl (dd_X12_test_1 41 _ _ _ rfl) ?_
                  refine r_if_icmpne (by omega) (by omega) 181 rfl 185 rfl (dd_X12_test_1 42 _ _ _ rfl) (fun hc52 => ?_) (fun hc52 => ?_)
                  · refine r_iload_2 186 rfl (dd_X12_test_1 45 _ _ _ rfl) ?_
                    refine r_sipush (by decide) 189 rfl (dd_X12_test_1 46 _ _ _ rfl) ?_
                    refine r_iadd 190 rfl (dd_X12_test_1 47 _ _ _ rfl) ?_
                    refine r_istore_7 192 rfl (by decide) rfl (dd_X12_test_1 48 _ _ _ rfl) ?_
                    refine r_aload_0 193 rfl (dd_X12_test_1 49 _ _ _ rfl) ?_
                    refine m_arr 29 hg hM (by decide) (by decide) (tb_6 85 _ rfl) 196 rfl (dd_X12_test_1 50 _ _ _ rfl) ?_ (fun _ _ _ => rfl)
                    refine r_iload_1 197 rfl (dd_X12_test_1 51 _ _ _ rfl) ?_
                    refine r_iload_3 198 rfl (dd_X12_test_1 52 _ _ _ rfl) ?_
                    refine r_iconst 199 rfl (dd_X12_test_1 53 _ _ _ rfl) ?_
                    refine r_if_icmpne (by omega) (by omega) 202 rfl 227 rfl (dd_X12_test_1 54 _ _ _ rfl) (fun hc53 => ?_) (fun hc53 => ?_)
                    · refine r_iload_7 229 rfl (dd_X12_test_2 8 _ _ _ rfl) ?_
                      refine r_aload_0 230 rfl (dd_X12_test_2 9 _ _ _ rfl) ?_
                      refine m_arr 29 hg hM (by decide) (by decide) (tb_6 85 _ rfl) 233 rfl (dd_X12_test_2 10 _ _ _ rfl) ?_ (fun _ _ _ => rfl)
                      refine r_iload_1 234 rfl (dd_X12_test_2 11 _ _ _ rfl) ?_
                      refine m_iald 29 (u) (by omega) hg hM rfl (by omega) (z_lt (n2 := 12) rfl (by omega)) (by decide) 235 rfl (dd_X12_test_2 12 _ _ _ rfl) ?_
                      try simp (decide := true) only [zu2, false_and, and_false, and_true, true_and, and_self, if_true, if_false, reduceIte]
                      refine r_if_icmple (by omega) (by omega) 238 rfl 243 rfl (dd_X12_test_2 13 _ _ _ rfl) (fun hc54 => ?_) (fun hc54 => ?_)
                      · refine r_aload_0 244 rfl (dd_X12_test_2 16 _ _ _ rfl) ?_
                        refine m_arr 29 hg hM (by decide) (by decide) (tb_6 85 _ rfl) 247 rfl (dd_X12_test_2 17 _ _ _ rfl) ?_ (fun _ _ _ => rfl)
                        refine r_iload_1 248 rfl (dd_X12_test_2 18 _ _ _ rfl) ?_
                        refine m_iald 29 (u) (by omega) hg hM rfl (by omega) (z_lt (n2 := 12) rfl (by omega)) (by decide) 249 rfl (dd_X12_test_2 19 _ _ _ rfl) ?_
                        try simp (decide := true) only [zu2, false_and, and_false, and_true, true_and, and_self, if_true, if_false, reduceIte]
                        refine m_iast 29 (u) (by omega) hg hM rfl (by omega) (z_lt (n2 := 12) rfl (by omega)) (by decide) 250 rfl (dd_X12_test_2 20 _ _ _ rfl) (fun h55 hM => ?_)
                        refine r_aload_0 251 rfl (dd_X12_test_2 21 _ _ _ rfl) ?_
                        refine m_arr 29 hg hM (by decide) (by decide) (tb_6 85 _ rfl) 254 rfl (dd_X12_test_2 22 _ _ _ rfl) ?_ (fun _ _ _ => rfl)
                        refine r_iload_1 255 rfl (dd_X12_test_2 23 _ _ _ rfl) ?_
                        refine m_iald 29 (u) (by omega) hg hM rfl (by omega) (z_lt (n2 := 12) rfl (by omega)) (by decide) 256 rfl (dd_X12_test_2 24 _ _ _ rfl) ?_
                        try simp (decide := true) only [zu2, false_and, and_false, and_true, true_and, and_self, if_true, if_false, reduceIte]
                        refine r_ireturn rfl rfl (dd_X12_test_2 25 _ _ _ rfl) ?_
                        exact k0 u _ _ rfl (by omega) (by unfold ztestOK; first | (rw [if_pos (by omega)]; omega) | (rw [if_neg (by omega)]; omega)) (by omega) (by unfold zback; first | (rw [if_pos (by omega)]; done) | (rw [if_neg (by omega)]; done) | (exfalso; omega)) (by unfold zuntil; first | (rw [if_pos (by omega), if_pos (by omega)]; done) | (rw [if_pos (by omega), if_neg (by omega)]; done) | (rw [if_neg (by omega), if_pos (by omega)]; done) | (rw [if_neg (by omega), if_neg (by omega)]; done) | (exfalso; omega)) _ hM
                      · refine r_iload_7 240 rfl (dd_X12_test_2 14 _ _ _ rfl) ?_
                        refine r_goto 249 rfl (dd_X12_test_2 15 _ _ _ rfl) ?_
                        refine m_iast 29 (u) (by omega) hg hM rfl (by omega) (z_lt (n2 := 12) rfl (by omega)) (by decide) 250 rfl (dd_X12_test_2 20 _ _ _ rfl) (fun h56 hM => ?_)
                        refine r_aload_0 251 rfl (dd_X12_test_2 21 _ _ _ rfl) ?_
                        refine m_arr 29 hg hM (by decide) (by decide) (tb_6 85 _ rfl) 254 rfl (dd_X12_test_2 22 _ _ _ rfl) ?_ (fun _ _ _ => rfl)
                        refine r_iload_1 255 rfl (dd_X12_test_2 23 _ _ _ rfl) ?_
                        refine m_iald 29 (u) (by omega) hg hM rfl (by omega) (z_lt (n2 := 12) rfl (by omega)) (by decide) 256 rfl (dd_X12_test_2 24 _ _ _ rfl) ?_
                        try simp (decide := true) only [zu2, false_and, and_false, and_true, true_and, and_self, if_true, if_false, reduceIte]
                        refine r_ireturn rfl rfl (dd_X12_test_2 25 _ _ _ rfl) ?_
                        exact k0 u _ _ rfl (by omega) (by unfold ztestOK; first | (rw [if_pos (by omega)]; omega) | (rw [if_neg (by omega)]; omega)) (by omega) (by unfold zback; first | (rw [if_pos (by omega)]; done) | (rw [if_neg (by omega)]; done) | (exfalso; omega)) (by unfold zuntil; first | (rw [if_pos (by omega), if_pos (by omega)]; done) | (rw [if_pos (by omega), if_neg (by omega)]; done) | (rw [if_neg (by omega), if_pos (by omega)]; done) | (rw [if_neg (by omega), if_neg (by omega)]; done) | (exfalso; omega)) _ hM
                    · refine r_iload_7 204 rfl (dd_X12_test_1 55 _ _ _ rfl) ?_
                      refine r_aload_0 205 rfl (dd_X12_test_1 56 _ _ _ rfl) ?_
                      refine m_arr 29 hg hM (by decide) (by decide) (tb_6 85 _ rfl) 208 rfl (dd_X12_test_1 57 _ _ _ rfl) ?_ (fun _ _ _ => rfl)
                      refine r_iload_1 209 rfl (dd_X12_test_1 58 _ _ _ rfl) ?_
                      refine m_iald 29 (u) (by omega) hg hM rfl (by omega) (z_lt (n2 := 12) rfl (by omega)) (by decide) 210 rfl (dd_X12_test_1 59 _ _ _ rfl) ?_
                      try simp (decide := true) only [zu2, false_and, and_false, and_true, true_and, and_self, if_true, if_false, reduceIte]
                      refine r_if_icmpge (by omega) (by omega) 213 rfl 218 rfl (dd_X12_test_2 0 _ _ _ rfl) (fun hc57 => ?_) (fun hc57 => ?_)
                      · refine r_aload_0 219 rfl (dd_X12_test_2 3 _ _ _ rfl) ?_
                        refine m_arr 29 hg hM (by decide) (by decide) (tb_6 85 _ rfl) 222 rfl (dd_X12_test_2 4 _ _ _ rfl) ?_ (fun _ _ _ => rfl)
                        refine r_iload_1 223 rfl (dd_X12_test_2 5 _ _ _ rfl) ?_
                        refine m_iald 29 (u) (by omega) hg hM rfl (by omega) (z_lt (n2 := 12) rfl (by omega)) (by decide) 224 rfl (dd_X12_test_2 6 _ _ _ rfl) ?_
                        try simp (decide := true) only [zu2, false_and, and_false, and_true, true_and, and_self, if_true, if_false, reduceIte]
                        refine r_goto 249 rfl (dd_X12_test_2 7 _ _ _ rfl) ?_
                        refine m_iast 29 (u) (by omega) hg hM rfl (by omega) (z_lt (n2 := 12) rfl (by omega)) (by decide) 250 rfl (dd_X12_test_2 20 _ _ _ rfl) (fun h58 hM => ?_)
                        refine r_aload_0 251 rfl (dd_X12_test_2 21 _ _ _ rfl) ?_
                        refine m_arr 29 hg hM (by decide) (by decide) (tb_6 85 _ rfl) 254 rfl (dd_X12_test_2 22 _ _ _ rfl) ?_ (fun _ _ _ => rfl)
                        refine r_iload_1 255 rfl (dd_X12_test_2 23 _ _ _ rfl) ?_
                        refine m_iald 29 (u) (by omega) hg hM rfl (by omega) (z_lt (n2 := 12) rfl (by omega)) (by decide) 256 rfl (dd_X12_test_2 24 _ _ _ rfl) ?_
                        try simp (decide := true) only [zu2, false_and, and_false, and_true, true_and, and_self, if_true, if_false, reduceIte]
                        refine r_ireturn rfl rfl (dd_X12_test_2 25 _ _ _ rfl) ?_
                        exact k0 u _ _ rfl (by omega) (by unfold ztestOK; first | (rw [if_pos (by omega)]; omega) | (rw [if_neg (by omega)]; omega)) (by omega) (by unfold zback; first | (rw [if_pos (by omega)]; done) | (rw [if_neg (by omega)]; done) | (exfalso; omega)) (by unfold zuntil; first | (rw [if_pos (by omega), if_pos (by omega)]; done) | (rw [if_pos (by omega), if_neg (by omega)]; done) | (rw [if_neg (by omega), if_pos (by omega)]; done) | (rw [if_neg (by omega), if_neg (by omega)]; done) | (exfalso; omega)) _ hM
                      · refine r_iload_7 215 rfl (dd_X12_test_2 1 _ _ _ rfl) ?_
                        refine r_goto 249 rfl (dd_X12_test_2 2 _ _ _ rfl) ?_
                        refine m_iast 29 (u) (by omega) hg hM rfl (by omega) (z_lt (n2 := 12) rfl (by omega)) (by decide) 250 rfl (dd_X12_test_2 20 _ _ _ rfl) (fun h59 hM => ?_)
                        refine r_aload_0 251 rfl (dd_X12_test_2 21 _ _ _ rfl) ?_
                        refine m_arr 29 hg hM (by decide) (by decide) (tb_6 85 _ rfl) 254 rfl (dd_X12_test_2 22 _ _ _ rfl) ?_ (fun _ _ _ => rfl)
                        refine r_iload_1 255 rfl (dd_X12_test_2 23 _ _ _ rfl) ?_
                        refine m_iald 29 (u) (by omega) hg hM rfl (by omega) (z_lt (n2 := 12) rfl (by omega)) (by decide) 256 rfl (dd_X12_test_2 24 _ _ _ rfl) ?_
                        try simp (decide := true) only [zu2, false_and, and_false, and_true, true_and, and_self, if_true, if_false, reduceIte]
                        refine r_ireturn rfl rfl (dd_X12_test_2 25 _ _ _ rfl) ?_
                        exact k0 u _ _ rfl (by omega) (by unfold ztestOK; first | (rw [if_pos (by omega)]; omega) | (rw [if_neg (by omega)]; omega)) (by omega) (by unfold zback; first | (rw [if_pos (by omega)]; done) | (rw [if_neg (by omega)]; done) | (exfalso; omega)) (by unfold zuntil; first | (rw [if_pos (by omega), if_pos (by omega)]; done) | (rw [if_pos (by omega), if_neg (by omega)]; done) | (rw [if_neg (by omega), if_pos (by omega)]; done) | (rw [if_neg (by omega), if_neg (by omega)]; done) | (exfalso; omega)) _ hM
                  · refine r_iload_2 182 rfl (dd_X12_test_1 43 _ _ _ rfl) ?_
                    refine r_goto 190 rfl (dd_X12_test_1 44 _ _ _ rfl) ?_
                    refine r_istore_7 192 rfl (by decide) rfl (dd_X12_test_1 48 _ _ _ rfl) ?_
                    refine r_aload_0 193 rfl (dd_X12_test_1 49 _ _ _ rfl) ?_
                    refine m_arr 29 hg hM (by decide) (by decide) (tb_6 85 _ rfl) 196 rfl (dd_X12_test_1 50 _ _ _ rfl) ?_ (fun _ _ _ => rfl)
                    refine r_iload_1 197 rfl (dd_X12_test_1 51 _ _ _ rfl) ?_
                    refine r_iload_3 198 rfl (dd_X12_test_1 52 _ _ _ rfl) ?_
                    refine r_iconst 199 rfl (dd_X12_test_1 53 _ _ _ rfl) ?_
                    refine r_if_icmpne (by omega) (by omega) 202 rfl 227 rfl (dd_X12_test_1 54 _ _ _ rfl) (fun hc60 => ?_) (fun hc60 => ?_)
                    · refine r_iload_7 229 rfl (dd_X12_test_2 8 _ _ _ rfl) ?_
                      refine r_aload_0 230 rfl (dd_X12_test_2 9 _ _ _ rfl) ?_
                      refine m_arr 29 hg hM (by decide) (by decide) (tb_6 85 _ rfl) 233 rfl (dd_X12_test_2 10 _ _ _ rfl) ?_ (fun _ _ _ => rfl)
                      refine r_iload_1 234 rfl (dd_X12_test_2 11 _ _ _ rfl) ?_
                      refine m_iald 29 (u) (by omega) hg hM rfl (by omega) (z_lt (n2 := 12) rfl (by omega)) (by decide) 235 rfl (dd_X12_test_2 12 _ _ _ rfl) ?_
                      try simp (decide := true) only [zu2, false_and, and_false, and_true, true_and, and_self, if_true, if_false, reduceIte]
                      refine r_if_icmple (by omega) (by omega) 238 rfl 243 rfl (dd_X12_test_2 13 _ _ _ rfl) (fun hc61 => ?_) (fun hc61 => ?_)
                      · refine r_aload_0 244 rfl (dd_X12_test_2 16 _ _ _ rfl) ?_
                        refine m_arr 29 hg hM (by decide) (by decide) (tb_6 85 _ rfl) 247 rfl (dd_X12_test_2 17 _ _ _ rfl) ?_ (fun _ _ _ => rfl)
                        refine r_iload_1 248 rfl (dd_X12_test_2 18 _ _ _ rfl) ?_
                        refine m_iald 29 (u) (by omega) hg hM rfl (by omega) (z_lt (n2 := 12) rfl (by omega)) (by decide) 249 rfl (dd_X12_test_2 19 _ _ _ rfl) ?_
                        try simp (decide := true) only [zu2, false_and, and_false, and_true, true_and, and_self, if_true, if_false, reduceIte]
                        refine m_iast 29 (u) (by omega) hg hM rfl (by omega) (z_lt (n2 := 12) rfl (by omega)) (by decide) 250 rfl (dd_X12_test_2 20 _ _ _ rfl) (fun h62 hM => ?_)
                        refine r_aload_0 251 rfl (dd_X12_test_2 21 _ _ _ rfl) ?_
                        refine m_arr 29 hg hM (by decide) (by decide) (tb_6 85 _ rfl) 254 rfl (dd_X12_test_2 22 _ _ _ rfl) ?_ (fun _ _ _ => rfl)
                        refine r_iload_1 255 rfl (dd_X12_test_2 23 _ _ _ rfl) ?_
                        refine m_iald 29 (u) (by omega) hg hM rfl (by omega) (z_lt (n2 := 12) rfl (by omega)) (by decide) 256 rfl (dd_X12_test_2 24 _ _ _ rfl) ?_
                        try simp (decide := true) only [zu2, false_and, and_false, and_true, true_and, and_self, if_true, if_false, reduceIte]
                        refine r_ireturn rfl rfl (dd_X12_test_2 25 _ _ _ rfl) ?_
                        exact k0 u _ _ rfl (by omega) (by unfold ztestOK; first | (rw [if_pos (by omega)]; omega) | (rw [if_neg (by omega)]; omega)) (by omega) (by unfold zback; first | (rw [if_pos (by omega)]; done) | (rw [if_neg (by omega)]; done) | (exfalso; omega)) (by unfold zuntil; first | (rw [if_pos (by omega), if_pos (by omega)]; done) | (rw [if_pos (by omega), if_neg (by omega)]; done) | (rw [if_neg (by omega), if_pos (by omega)]; done) | (rw [if_neg (by omega), if_neg (by omega)]; done) | (exfalso; omega)) _ hM
                      · refine r_iload_7 240 rfl (dd_X12_test_2 14 _ _ _ rfl) ?_
                        refine r_goto 249 rfl (dd_X12_test_2 15 _ _ _ rfl) ?_
                        refine m_iast 29 (u) (by omega) hg hM rfl (by omega) (z_lt (n2 := 12) rfl (by omega)) (by decide) 250 rfl (dd_X12_test_2 20 _ _ _ rfl) (fun h63 hM => ?_)
                        refine r_aload_0 251 rfl (dd_X12_test_2 21 _ _ _ rfl) ?_
                        refine m_arr 29 hg hM (by decide) (by decide) (tb_6 85 _ rfl) 254 rfl (dd_X12_test_2 22 _ _ _ rfl) ?_ (fun _ _ _ => rfl)
                        refine r_iload_1 255 rfl (dd_X12_test_2 23 _ _ _ rfl) ?_
                        refine m_iald 29 (u) (by omega) hg hM rfl (by omega) (z_lt (n2 := 12) rfl (by omega)) (by decide) 256 rfl (dd_X12_test_2 24 _ _ _ rfl) ?_
                        try simp (decide := true) only [zu2, false_and, and_false, and_true, true_and, and_self, if_true, if_false, reduceIte]
                        refine r_ireturn rfl rfl (dd_X12_test_2 25 _ _ _ rfl) ?_
                        exact k0 u _ _ rfl (by omega) (by unfold ztestOK; first | (rw [if_pos (by omega)]; omega) | (rw [if_neg (by omega)]; omega)) (by omega) (by unfold zback; first | (rw [if_pos (by omega)]; done) | (rw [if_neg (by omega)]; done) | (exfalso; omega)) (by unfold zuntil; first | (rw [if_pos (by omega), if_pos (by omega)]; done) | (rw [if_pos (by omega), if_neg (by omega)]; done) | (rw [if_neg (by omega), if_pos (by omega)]; done) | (rw [if_neg (by omega), if_neg (by omega)]; done) | (exfalso; omega)) _ hM
                    · refine r_iload_7 204 rfl (dd_X12_test_1 55 _ _ _ rfl) ?_
                      refine r_aload_0 205 rfl (dd_X12_test_1 56 _ _ _ rfl) ?_
                      refine m_arr 29 hg hM (by decide) (by decide) (tb_6 85 _ rfl) 208 rfl (dd_X12_test_1 57 _ _ _ rfl) ?_ (fun _ _ _ => rfl)
                      refine r_iload_1 209 rfl (dd_X12_test_1 58 _ _ _ rfl) ?_
                      refine m_iald 29 (u) (by omega) hg hM rfl (by omega) (z_lt (n2 := 12) rfl (by omega)) (by decide) 210 rfl (dd_X12_test_1 59 _ _ _ rfl) ?_
                      try simp (decide := true) only [zu2, false_and, and_false, and_true, true_and, and_self, if_true, if_false, reduceIte]
                      refine r_if_icmpge (by omega) (by omega) 213 rfl 218 rfl (dd_X12_test_2 0 _ _ _ rfl) (fun hc64 => ?_) (fun hc64 => ?_)
                      · refine r_aload_0 219 rfl (dd_X12_test_2 3 _ _ _ rfl) ?_
                        refine m_arr 29 hg hM (by decide) (by decide) (tb_6 85 _ rfl) 222 rfl (dd_X12_test_2 4 _ _ _ rfl) ?_ (fun _ _ _ => rfl)
                        refine r_iload_1 223 rfl (dd_X12_test_2 5 _ _ _ rfl) ?_
                        refine m_iald 29 (u) (by omega) hg hM rfl (by omega) (z_lt (n2 := 12) rfl (by omega)) (by decide) 224 rfl (dd_X12_test_2 6 _ _ _ rfl) ?_
                        try simp (decide := true) only [zu2, false_and, and_false, and_true, true_and, and_self, if_true, if_false, reduceIte]
                        refine r_goto 249 rfl (dd_X12_test_2 7 _ _ _ rfl) ?_
                        refine m_iast 29 (u) (by omega) hg hM rfl (by omega) (z_lt (n2 := 12) rfl (by omega)) (by decide) 250 rfl (dd_X12_test_2 20 _ _ _ rfl) (fun h65 hM => ?_)
                        refine r_aload_0 251 rfl (dd_X12_test_2 21 _ _ _ rfl) ?_
                        refine m_arr 29 hg hM (by decide) (by decide) (tb_6 85 _ rfl) 254 rfl (dd_X12_test_2 22 _ _ _ rfl) ?_ (fun _ _ _ => rfl)
                        refine r_iload_1 255 rfl (dd_X12_test_2 23 _ _ _ rfl) ?_
                        refine m_iald 29 (u) (by omega) hg hM rfl (by omega) (z_lt (n2 := 12) rfl (by omega)) (by decide) 256 rfl (dd_X12_test_2 24 _ _ _ rfl) ?_
                        try simp (decide := true) only [zu2, false_and, and_false, and_true, true_and, and_self, if_true, if_false, reduceIte]
                        refine r_ireturn rfl rfl (dd_X12_test_2 25 _ _ _ rfl) ?_
                        exact k0 u _ _ rfl (by omega) (by unfold ztestOK; first | (rw [if_pos (by omega)]; omega) | (rw [if_neg (by omega)]; omega)) (by omega) (by unfold zback; first | (rw [if_pos (by omega)]; done) | (rw [if_neg (by omega)]; done) | (exfalso; omega)) (by unfold zuntil; first | (rw [if_pos (by omega), if_pos (by omega)]; done) | (rw [if_pos (by omega), if_neg (by omega)]; done) | (rw [if_neg (by omega), if_pos (by omega)]; done) | (rw [if_neg (by omega), if_neg (by omega)]; done) | (exfalso; omega)) _ hM
                      · refine r_iload_7 215 rfl (dd_X12_test_2 1 _ _ _ rfl) ?_
                        refine r_goto 249 rfl (dd_X12_test_2 2 _ _ _ rfl) ?_
                        refine m_iast 29 (u) (by omega) hg hM rfl (by omega) (z_lt (n2 := 12) rfl (by omega)) (by decide) 250 rfl (dd_X12_test_2 20 _ _ _ rfl) (fun h66 hM => ?_)
                        refine r_aload_0 251 rfl (dd_X12_test_2 21 _ _ _ rfl) ?_
                        refine m_arr 29 hg hM (by decide) (by decide) (tb_6 85 _ rfl) 254 rfl (dd_X12_test_2 22 _ _ _ rfl) ?_ (fun _ _ _ => rfl)
                        refine r_iload_1 255 rfl (dd_X12_test_2 23 _ _ _ rfl) ?_
                        refine m_iald 29 (u) (by omega) hg hM rfl (by omega) (z_lt (n2 := 12) rfl (by omega)) (by decide) 256 rfl (dd_X12_test_2 24 _ _ _ rfl) ?_
                        try simp (decide := true) only [zu2, false_and, and_false, and_true, true_and, and_self, if_true, if_false, reduceIte]
                        refine r_ireturn rfl rfl (dd_X12_test_2 25 _ _ _ rfl) ?_
                        exact k0 u _ _ rfl (by omega) (by unfold ztestOK; first | (rw [if_pos (by omega)]; omega) | (rw [if_neg (by omega)]; omega)) (by omega) (by unfold zback; first | (rw [if_pos (by omega)]; done) | (rw [if_neg (by omega)]; done) | (exfalso; omega)) (by unfold zuntil; first | (rw [if_pos (by omega), if_pos (by omega)]; done) | (rw [if_pos (by omega), if_neg (by omega)]; done) | (rw [if_neg (by omega), if_pos (by omega)]; done) | (rw [if_neg (by omega), if_neg (by omega)]; done) | (exfalso; omega)) _ hM
            · refine r_iconst 105 rfl (dd_X12_test_0 54 _ _ _ rfl) ?_
              refine r_goto 109 rfl (dd_X12_test_0 55 _ _ _ rfl) ?_
              refine r_callV1 (lvl := 10) (mc1 := 0) (ms1 := 0) 0 0 hg rfl md_X12_goesWell zc_X12 hM.kd wi_X12_goesWell wv_X12_goesWell (tb_6 197 _ rfl) (by decide) (by decide) rfl (Nat.le_of_ble_eq_true rfl) (by decide) (by decide) 112 rfl (dd_X12_test_0 57 _ _ _ rfl) ?_
              refine c_X12_goesWell hg hM (by decide) (fun q => absurd q (by decide)) (fun _ h67 hM => ?_)
              dsimp only [zCont, Option.toList, List.cons_append, List.nil_append]
              refine r_ifne (by omega) 115 rfl 117 rfl (dd_X12_test_0 58 _ _ _ rfl) (fun q => absurd q (by decide)) (fun _ => ?_)
              refine r_iconst 116 rfl (dd_X12_test_0 59 _ _ _ rfl) ?_
              refine r_ireturn rfl rfl (dd_X12_test_1 0 _ _ _ rfl) ?_
              first | exact k1 (by omega) _ hM | exact k2 u rfl (by omega) (by unfold ztestOK; first | (rw [if_pos (by omega)]; omega) | (rw [if_neg (by omega)]; omega)) _ hM | exact k3 u rfl (by omega) (by unfold ztestOK; first | (rw [if_pos (by omega)]; omega) | (rw [if_neg (by omega)]; omega)) (by omega) _ hM
          · dsimp only [zCont, Option.toList, List.cons_append, List.nil_append]
            refine r_ifeq (by omega) 67 rfl 71 rfl (dd_X12_test_0 34 _ _ _ rfl) (fun _ => ?_) (fun q => absurd q (by decide))
            refine r_iconst 72 rfl (dd_X12_test_0 37 _ _ _ rfl) ?_
            refine r_istore_6 74 rfl (by decide) rfl (dd_X12_test_0 38 _ _ _ rfl) ?_
            refine r_aload_0 75 rfl (dd_X12_test_0 39 _ _ _ rfl) ?_
            refine r_iload_5 77 rfl (dd_X12_test_0 40 _ _ _ rfl) ?_
            refine r_ifne (by omega) 80 rfl 84 rfl (dd_X12_test_0 41 _ _ _ rfl) (fun _ => ?_) (fun q => absurd q (by decide))
            refine r_iload_6 86 rfl (dd_X12_test_0 44 _ _ _ rfl) ?_
            refine r_ifne (by omega) 89 rfl 93 rfl (dd_X12_test_0 45 _ _ _ rfl) (fun q => absurd q (by decide)) (fun _ => ?_)
            refine r_iconst 90 rfl (dd_X12_test_0 46 _ _ _ rfl) ?_
            refine r_goto 109 rfl (dd_X12_test_0 47 _ _ _ rfl) ?_
            refine r_callV1 (lvl := 10) (mc1 := 0) (ms1 := 0) 0 0 hg rfl md_X12_goesWell zc_X12 hM.kd wi_X12_goesWell wv_X12_goesWell (tb_6 197 _ rfl) (by decide) (by decide) rfl (Nat.le_of_ble_eq_true rfl) (by decide) (by decide) 112 rfl (dd_X12_test_0 57 _ _ _ rfl) ?_
            refine c_X12_goesWell hg hM (by decide) (fun q => absurd q (by decide)) (fun _ h68 hM => ?_)
            dsimp only [zCont, Option.toList, List.cons_append, List.nil_append]
            refine r_ifne (by omega) 115 rfl 117 rfl (dd_X12_test_0 58 _ _ _ rfl) (fun q => absurd q (by decide)) (fun _ => ?_)
            refine r_iconst 116 rfl (dd_X12_test_0 59 _ _ _ rfl) ?_
            refine r_ireturn rfl rfl (dd_X12_test_1 0 _ _ _ rfl) ?_
            first | exact k1 (by omega) _ hM | exact k2 u rfl (by omega) (by unfold ztestOK; first | (rw [if_pos (by omega)]; omega) | (rw [if_neg (by omega)]; omega)) _ hM | exact k3 u rfl (by omega) (by unfold ztestOK; first | (rw [if_pos (by omega)]; omega) | (rw [if_neg (by omega)]; omega)) (by omega) _ hM
        · dsimp only [zCont, Option.toList, List.cons_append, List.nil_append]
          refine r_ifeq (by omega) 56 rfl 71 rfl (dd_X12_test_0 29 _ _ _ rfl) (fun _ => ?_) (fun q => absurd q (by decide))
          refine r_iconst 72 rfl (dd_X12_test_0 37 _ _ _ rfl) ?_
          refine r_istore_6 74 rfl (by decide) rfl (dd_X12_test_0 38 _ _ _ rfl) ?_
          refine r_aload_0 75 rfl (dd_X12_test_0 39 _ _ _ rfl) ?_
          refine r_iload_5 77 rfl (dd_X12_test_0 40 _ _ _ rfl) ?_
          refine r_ifne (by omega) 80 rfl 84 rfl (dd_X12_test_0 41 _ _ _ rfl) (fun _ => ?_) (fun q => absurd q (by decide))
          refine r_iload_6 86 rfl (dd_X12_test_0 44 _ _ _ rfl) ?_
          refine r_ifne (by omega) 89 rfl 93 rfl (dd_X12_test_0 45 _ _ _ rfl) (fun q => absurd q (by decide)) (fun _ => ?_)
          refine r_iconst 90 rfl (dd_X12_test_0 46 _ _ _ rfl) ?_
          refine r_goto 109 rfl (dd_X12_test_0 47 _ _ _ rfl) ?_
          refine r_callV1 (lvl := 10) (mc1 := 0) (ms1 := 0) 0 0 hg rfl md_X12_goesWell zc_X12 hM.kd wi_X12_goesWell wv_X12_goesWell (tb_6 197 _ rfl) (by decide) (by decide) rfl (Nat.le_of_ble_eq_true rfl) (by decide) (by decide) 112 rfl (dd_X12_test_0 57 _ _ _ rfl) ?_
          refine c_X12_goesWell hg hM (by decide) (fun q => absurd q (by decide)) (fun _ h69 hM => ?_)
          dsimp only [zCont, Option.toList, List.cons_append, List.nil_append]
          refine r_ifne (by omega) 115 rfl 117 rfl (dd_X12_test_0 58 _ _ _ rfl) (fun q => absurd q (by decide)) (fun _ => ?_)
          refine r_iconst 116 rfl (dd_X12_test_0 59 _ _ _ rfl) ?_
          refine r_ireturn rfl rfl (dd_X12_test_1 0 _ _ _ rfl) ?_
          first | exact k1 (by omega) _ hM | exact k2 u rfl (by omega) (by unfold ztestOK; first | (rw [if_pos (by omega)]; omega) | (rw [if_neg (by omega)]; omega)) _ hM | exact k3 u rfl (by omega) (by unfold ztestOK; first | (rw [if_pos (by omega)]; omega) | (rw [if_neg (by omega)]; omega)) (by omega) _ hM
      · dsimp only [zCont, Option.toList, List.cons_append, List.nil_append]
        refine r_ifeq (by omega) 47 rfl 71 rfl (dd_X12_test_0 24 _ _ _ rfl) (fun _ => ?_) (fun q => absurd q (by decide))
        refine r_iconst 72 rfl (dd_X12_test_0 37 _ _ _ rfl) ?_
        refine r_istore_6 74 rfl (by decide) rfl (dd_X12_test_0 38 _ _ _ rfl) ?_
        refine r_aload_0 75 rfl (dd_X12_test_0 39 _ _ _ rfl) ?_
        refine r_iload_5 77 rfl (dd_X12_test_0 40 _ _ _ rfl) ?_
        refine r_ifne (by omega) 80 rfl 84 rfl (dd_X12_test_0 41 _ _ _ rfl) (fun _ => ?_) (fun q => absurd q (by decide))
        refine r_iload_6 86 rfl (dd_X12_test_0 44 _ _ _ rfl) ?_
        refine r_ifne (by omega) 89 rfl 93 rfl (dd_X12_test_0 45 _ _ _ rfl) (fun q => absurd q (by decide)) (fun _ => ?_)
        refine r_iconst 90 rfl (dd_X12_test_0 46 _ _ _ rfl) ?_
        refine r_goto 109 rfl (dd_X12_test_0 47 _ _ _ rfl) ?_
        refine r_callV1 (lvl := 10) (mc1 := 0) (ms1 := 0) 0 0 hg rfl md_X12_goesWell zc_X12 hM.kd wi_X12_goesWell wv_X12_goesWell (tb_6 197 _ rfl) (by decide) (by decide) rfl (Nat.le_of_ble_eq_true rfl) (by decide) (by decide) 112 rfl (dd_X12_test_0 57 _ _ _ rfl) ?_
        refine c_X12_goesWell hg hM (by decide) (fun q => absurd q (by decide)) (fun _ h70 hM => ?_)
        dsimp only [zCont, Option.toList, List.cons_append, List.nil_append]
        refine r_ifne (by omega) 115 rfl 117 rfl (dd_X12_test_0 58 _ _ _ rfl) (fun q => absurd q (by decide)) (fun _ => ?_)
        refine r_iconst 116 rfl (dd_X12_test_0 59 _ _ _ rfl) ?_
        refine r_ireturn rfl rfl (dd_X12_test_1 0 _ _ _ rfl) ?_
        first | exact k1 (by omega) _ hM | exact k2 u rfl (by omega) (by unfold ztestOK; first | (rw [if_pos (by omega)]; omega) | (rw [if_neg (by omega)]; omega)) _ hM | exact k3 u rfl (by omega) (by unfold ztestOK; first | (rw [if_pos (by omega)]; omega) | (rw [if_neg (by omega)]; omega)) (by omega) _ hM
    · refine r_aload_0 23 rfl (dd_X12_test_0 12 _ _ _ rfl) ?_
      refine m_arr 6 hg hM (by decide) (by decide) (tb_6 62 _ rfl) 26 rfl (dd_X12_test_0 13 _ _ _ rfl) ?_ (fun _ _ _ => rfl)
      refine r_iload_1 27 rfl (dd_X12_test_0 14 _ _ _ rfl) ?_
      refine m_iald 6 (u) (by omega) hg hM rfl (by omega) (z_lt (n2 := 12) rfl (by omega)) (by decide) 28 rfl (dd_X12_test_0 15 _ _ _ rfl) ?_
      try simp (decide := true) only [zu2, false_and, and_false, and_true, true_and, and_self, if_true, if_false, reduceIte]
      refine r_goto 37 rfl (dd_X12_test_0 16 _ _ _ rfl) ?_
      refine r_aload_0 38 rfl (dd_X12_test_0 21 _ _ _ rfl) ?_
      refine m_get 1 hg hM (by unfold z_free; decide) rfl (by decide) (tb_6 57 _ rfl) 41 rfl (dd_X12_test_0 22 _ _ _ rfl) ?_ (fun _ _ _ => rfl)
      try simp (decide := true) only [zu1, if_true, if_false, reduceIte]
      refine r_callS3 (lvl := 10) (mc1 := 0) (ms1 := 0) 0 0 hg rfl md_X12_in ws_X12_in (tb_6 209 _ rfl) (by decide) (by decide) rfl (Nat.le_of_ble_eq_true rfl) (by decide) (by decide) 44 rfl (dd_X12_test_0 23 _ _ _ rfl) ?_
      refine c_X12_in hg (by omega) (by omega) (by omega) (fun hb71 => ?_) (fun hb71 => ?_)
      · dsimp only [zCont, Option.toList, List.cons_append, List.nil_append]
        refine r_ifeq (by omega) 47 rfl 71 rfl (dd_X12_test_0 24 _ _ _ rfl) (fun q => absurd q (by decide)) (fun _ => ?_)
        refine r_iload_3 48 rfl (dd_X12_test_0 25 _ _ _ rfl) ?_
        refine r_iconst 49 rfl (dd_X12_test_0 26 _ _ _ rfl) ?_
        refine r_iconst 50 rfl (dd_X12_test_0 27 _ _ _ rfl) ?_
        refine r_callS3 (lvl := 10) (mc1 := 0) (ms1 := 0) 0 0 hg rfl md_X12_in ws_X12_in (tb_6 209 _ rfl) (by decide) (by decide) rfl (Nat.le_of_ble_eq_true rfl) (by decide) (by decide) 53 rfl (dd_X12_test_0 28 _ _ _ rfl) ?_
        refine c_X12_in hg (by omega) (by omega) (by omega) (fun hb72 => ?_) (fun hb72 => ?_)
        · dsimp only [zCont, Option.toList, List.cons_append, List.nil_append]
          refine r_ifeq (by omega) 56 rfl 71 rfl (dd_X12_test_0 29 _ _ _ rfl) (fun q => absurd q (by decide)) (fun _ => ?_)
          refine r_iload_4 58 rfl (dd_X12_test_0 30 _ _ _ rfl) ?_
          refine r_iconst 59 rfl (dd_X12_test_0 31 _ _ _ rfl) ?_
          refine r_ldc hg (tb_7 98 _ rfl) 61 rfl (dd_X12_test_0 32 _ _ _ rfl) ?_
          refine r_top 10000000 rfl ?_
          refine r_callS3 (lvl := 10) (mc1 := 0) (ms1 := 0) 0 0 hg rfl md_X12_in ws_X12_in (tb_6 209 _ rfl) (by decide) (by decide) rfl (Nat.le_of_ble_eq_true rfl) (by decide) (by decide) 64 rfl (dd_X12_test_0 33 _ _ _ rfl) ?_
          refine c_X12_in hg (by omega) (by omega) (by omega) (fun hb73 => ?_) (fun hb73 => ?_)
          · dsimp only [zCont, Option.toList, List.cons_append, List.nil_append]
            refine r_ifeq (by omega) 67 rfl 71 rfl (dd_X12_test_0 34 _ _ _ rfl) (fun q => absurd q (by decide)) (fun _ => ?_)
            refine r_iconst 68 rfl (dd_X12_test_0 35 _ _ _ rfl) ?_
            refine r_goto 72 rfl (dd_X12_test_0 36 _ _ _ rfl) ?_
            refine r_istore_6 74 rfl (by decide) rfl (dd_X12_test_0 38 _ _ _ rfl) ?_
            refine r_aload_0 75 rfl (dd_X12_test_0 39 _ _ _ rfl) ?_
            refine r_iload_5 77 rfl (dd_X12_test_0 40 _ _ _ rfl) ?_
            refine r_ifne (by omega) 80 rfl 84 rfl (dd_X12_test_0 41 _ _ _ rfl) (fun _ => ?_) (fun q => absurd q (by decide))
            refine r_iload_6 86 rfl (dd_X12_test_0 44 _ _ _ rfl) ?_
            refine r_ifne (by omega) 89 rfl 93 rfl (dd_X12_test_0 45 _ _ _ rfl) (fun _ => ?_) (fun q => absurd q (by decide))
            refine r_aload_0 94 rfl (dd_X12_test_0 48 _ _ _ rfl) ?_
            refine m_arr 25 hg hM (by decide) (by decide) (tb_6 81 _ rfl) 97 rfl (dd_X12_test_0 49 _ _ _ rfl) ?_ (fun _ _ _ => rfl)
            refine r_iload_1 98 rfl (dd_X12_test_0 50 _ _ _ rfl) ?_
            refine m_iald 25 (u) (by omega) hg hM rfl (by omega) (z_lt (n2 := 12) rfl (by omega)) (by decide) 99 rfl (dd_X12_test_0 51 _ _ _ rfl) ?_
            try simp (decide := true) only [zu2, false_and, and_false, and_true, true_and, and_self, if_true, if_false, reduceIte]
            refine r_bipush (by decide) 101 rfl (dd_X12_test_0 52 _ _ _ rfl) ?_
            refine r_if_icmpne (by omega) (by omega) 104 rfl 108 rfl (dd_X12_test_0 53 _ _ _ rfl) (fun hc74 => ?_) (fun hc74 => ?_)
            · refine r_iconst 109 rfl (dd_X12_test_0 56 _ _ _ rfl) ?_
              refine r_callV1 (lvl := 10) (mc1 := 0) (ms1 := 0) 0 0 hg rfl md_X12_goesWell zc_X12 hM.kd wi_X12_goesWell wv_X12_goesWell (tb_6 197 _ rfl) (by decide) (by decide) rfl (Nat.le_of_ble_eq_true rfl) (by decide) (by decide) 112 rfl (dd_X12_test_0 57 _ _ _ rfl) ?_
              refine c_X12_goesWell hg hM (by decide) (fun _ h75 hM => ?_) (fun q => absurd rfl q)
              dsimp only [zCont, Option.toList, List.cons_append, List.nil_append]
              refine r_ifne (by omega) 115 rfl 117 rfl (dd_X12_test_0 58 _ _ _ rfl) (fun _ => ?_) (fun q => absurd q (by decide))
              refine r_aload_0 118 rfl (dd_X12_test_1 1 _ _ _ rfl) ?_
              refine m_arr 28 hg hM (by decide) (by decide) (tb_6 84 _ rfl) 121 rfl (dd_X12_test_1 2 _ _ _ rfl) ?_ (fun _ _ _ => rfl)
              refine r_iload_1 122 rfl (dd_X12_test_1 3 _ _ _ rfl) ?_
              refine r_dup2 rfl rfl 123 rfl (dd_X12_test_1 4 _ _ _ rfl) ?_
              refine m_iald 28 (u) (by omega) hg hM rfl (by omega) (z_lt (n2 := 12) rfl (by omega)) (by decide) 124 rfl (dd_X12_test_1 5 _ _ _ rfl) ?_
              try simp (decide := true) only [zu2, false_and, and_false, and_true, true_and, and_self, if_true, if_false, reduceIte]
              refine r_aload_0 125 rfl (dd_X12_test_1 6 _ _ _ rfl) ?_
              refine m_arr 25 hg hM (by decide) (by decide) (tb_6 81 _ rfl) 128 rfl (dd_X12_test_1 7 _ _ _ rfl) ?_ (fun _ _ _ => rfl)
              refine r_iload_1 129 rfl (dd_X12_test_1 8 _ _ _ rfl) ?_
              refine m_iald 25 (u) (by omega) hg hM rfl (by omega) (z_lt (n2 := 12) rfl (by omega)) (by decide) 130 rfl (dd_X12_test_1 9 _ _ _ rfl) ?_
              try simp (decide := true) only [zu2, false_and, and_false, and_true, true_and, and_self, if_true, if_false, reduceIte]
              refine r_ifle (by omega) 133 rfl 148 rfl (dd_X12_test_1 10 _ _ _ rfl) (fun hc76 => ?_) (fun hc76 => ?_)
              · refine r_iconst 149 rfl (dd_X12_test_1 19 _ _ _ rfl) ?_
                refine r_iadd 150 rfl (dd_X12_test_1 20 _ _ _ rfl) ?_
                refine m_iast 28 (u) (by omega) hg hM rfl (by omega) (z_lt (n2 := 12) rfl (by omega)) (by decide) 151 rfl (dd_X12_test_1 21 _ _ _ rfl) (fun h77 hM => ?_)
                refine r_aload_0 152 rfl (dd_X12_test_1 22 _ _ _ rfl) ?_
                refine m_arr 25 hg hM (by decide) (by decide) (tb_6 81 _ rfl) 155 rfl (dd_X12_test_1 23 _ _ _ rfl) ?_ (fun _ _ _ => rfl)
                refine r_iload_1 156 rfl (dd_X12_test_1 24 _ _ _ rfl) ?_
                refine r_dup2 rfl rfl 157 rfl (dd_X12_test_1 25 _ _ _ rfl) ?_
                refine m_iald 25 (u) (by omega) hg hM rfl (by omega) (z_lt (n2 := 12) rfl (by omega)) (by decide) 158 rfl (dd_X12_test_1 26 _ _ _ rfl) ?_
                try simp (decide := true) only [zu2, false_and, and_false, and_true, true_and, and_self, if_true, if_false, reduceIte]
                refine r_iconst 159 rfl (dd_X12_test_1 27 _ _ _ rfl) ?_
                refine r_iadd 160 rfl (dd_X12_test_1 28 _ _ _ rfl) ?_
                refine m_iast 25 (u) (by omega) hg hM rfl (by omega) (z_lt (n2 := 12) rfl (by omega)) (by decide) 161 rfl (dd_X12_test_1 29 _ _ _ rfl) (fun h78 hM => ?_)
                refine r_aload_0 162 rfl (dd_X12_test_1 30 _ _ _ rfl) ?_
                refine m_arr 26 hg hM (by decide) (by decide) (tb_6 82 _ rfl) 165 rfl (dd_X12_test_1 31 _ _ _ rfl) ?_ (fun _ _ _ => rfl)
                refine r_iload_1 166 rfl (dd_X12_test_1 32 _ _ _ rfl) ?_
                refine r_iload_2 167 rfl (dd_X12_test_1 33 _ _ _ rfl) ?_
                refine m_iast 26 (u) (by omega) hg hM rfl (by omega) (z_lt (n2 := 12) rfl (by omega)) (by decide) 168 rfl (dd_X12_test_1 34 _ _ _ rfl) (fun h79 hM => ?_)
                refine r_aload_0 169 rfl (dd_X12_test_1 35 _ _ _ rfl) ?_
                refine m_arr 27 hg hM (by decide) (by decide) (tb_6 83 _ rfl) 172 rfl (dd_X12_test_1 36 _ _ _ rfl) ?_ (fun _ _ _ => rfl)
                refine r_iload_1 173 rfl (dd_X12_test_1 37 _ _ _ rfl) ?_
                refine r_iload_4 175 rfl (dd_X12_test_1 38 _ _ _ rfl) ?_
                refine m_iast 27 (u) (by omega) hg hM rfl (by omega) (z_lt (n2 := 12) rfl (by omega)) (by decide) 176 rfl (dd_X12_test_1 39 _ _ _ rfl) (fun h80 hM => ?_)
                refine r_iload_3 177 rfl (dd_X12_test_1 40 _ _ _ rfl) ?_
                refine r_iconst 178 rfl (dd_X12_test_1 41 _ _ _ rfl) ?_
                refine r_if_icmpne (by omega) (by omega) 181 rfl 185 rfl (dd_X12_test_1 42 _ _ _ rfl) (fun hc81 => ?_) (fun hc81 => ?_)
                · refine r_iload_2 186 rfl (dd_X12_test_1 45 _ _ _ rfl) ?_
                  refine r_sipush (by decide) 189 rfl (dd_X12_test_1 46 _ _ _ rfl) ?_
                  refine r_iadd 190 rfl (dd_X12_test_1 47 _ _ _ rfl) ?_
                  refine r_istore_7 192 rfl (by decide) rfl (dd_X12_test_1 48 _ _ _ rfl) ?_
                  refine r_aload_0 193 rfl (dd_X12_test_1 49 _ _ _ rfl) ?_
                  refine m_arr 29 hg hM (by decide) (by decide) (tb_6 85 _ rfl) 196 rfl (dd_X12_test_1 50 _ _ _ rfl) ?_ (fun _ _ _ => rfl)
                  refine r_iload_1 197 rfl (dd_X12_test_1 51 _ _ _ rfl) ?_
                  refine r_iload_3 198 rfl (dd_X12_test_1 52 _ _ _ rfl) ?_
                  refine r_iconst 199 rfl (dd_X12_test_1 53 _ _ _ rfl) ?_
                  refine r_if_icmpne (by omega) (by omega) 202 rfl 227 rfl (dd_X12_test_1 54 _ _ _ rfl) (fun hc82 => ?_) (fun hc82 => ?_)
                  · refine r_iload_7 229 rfl (dd_X12_test_2 8 _ _ _ rfl) ?_
                    refine r_aload_0 230 rfl (dd_X12_test_2 9 _ _ _ rfl) ?_
                    refine m_arr 29 hg hM (by decide) (by decide) (tb_6 85 _ rfl) 233 rfl (dd_X12_test_2 10 _ _ _ rfl) ?_ (fun _ _ _ => rfl)
                    refine r_iload_1 234 rfl (dd_X12_test_2 11 _ _ _ rfl) ?_
                    refine m_iald 29 (u) (by omega) hg hM rfl (by omega) (z_lt (n2 := 12) rfl (by omega)) (by decide) 235 rfl (dd_X12_test_2 12 _ _ _ rfl) ?_
                    try simp (decide := true) only [zu2, false_and, and_false, and_true, true_and, and_self, if_true, if_false, reduceIte]
                    refine r_if_icmple (by omega) (by omega) 238 rfl 243 rfl (dd_X12_test_2 13 _ _ _ rfl) (fun hc83 => ?_) (fun hc83 => ?_)
                    · refine r_aload_0 244 rfl (dd_X12_test_2 16 _ _ _ rfl) ?_
                      refine m_arr 29 hg hM (by decide) (by decide) (tb_6 85 _ rfl) 247 rfl (dd_X12_test_2 17 _ _ _ rfl) ?_ (fun _ _ _ => rfl)
                      refine r_iload_1 248 rfl (dd_X12_test_2 18 _ _ _ rfl) ?_
                      refine m_iald 29 (u) (by omega) hg hM rfl (by omega) (z_lt (n2 := 12) rfl (by omega)) (by decide) 249 rfl (dd_X12_test_2 19 _ _ _ rfl) ?_
                      try simp (decide := true) only [zu2, false_and, and_false, and_true, true_and, and_self, if_true, if_false, reduceIte]
                      refine m_iast 29 (u) (by omega) hg hM rfl (by omega) (z_lt (n2 := 12) rfl (by omega)) (by decide) 250 rfl (dd_X12_test_2 20 _ _ _ rfl) (fun h84 hM => ?_)
                      refine r_aload_0 251 rfl (dd_X12_test_2 21 _ _ _ rfl) ?_
                      refine m_arr 29 hg hM (by decide) (by decide) (tb_6 85 _ rfl) 254 rfl (dd_X12_test_2 22 _ _ _ rfl) ?_ (fun _ _ _ => rfl)
                      refine r_iload_1 255 rfl (dd_X12_test_2 23 _ _ _ rfl) ?_
                      refine m_iald 29 (u) (by omega) hg hM rfl (by omega) (z_lt (n2 := 12) rfl (by omega)) (by decide) 256 rfl (dd_X12_test_2 24 _ _ _ rfl) ?_
                      try simp (decide := true) only [zu2, false_and, and_false, and_true, true_and, and_self, if_true, if_false, reduceIte]
                      refine r_ireturn rfl rfl (dd_X12_test_2 25 _ _ _ rfl) ?_
                      exact k0 u _ _ rfl (by omega) (by unfold ztestOK; first | (rw [if_pos (by omega)]; omega) | (rw [if_neg (by omega)]; omega)) (by omega) (by unfold zback; first | (rw [if_pos (by omega)]; done) | (rw [if_neg (by omega)]; done) | (exfalso; omega)) (by unfold zuntil; first | (rw [if_pos (by omega), if_pos (by omega)]; done) | (rw [if_pos (by omega), if_neg (by omega)]; done) | (rw [if_neg (by omega), if_pos (by omega)]; done) | (rw [if_neg (by omega), if_neg (by omega)]; done) | (exfalso; omega)) _ hM
                    · refine r_iload_7 240 rfl (dd_X12_test_2 14 _ _ _ rfl) ?_
                      refine r_goto 249 rfl (dd_X12_test_2 15 _ _ _ rfl) ?_
                      refine m_iast 29 (u) (by omega) hg hM rfl (by omega) (z_lt (n2 := 12) rfl (by omega)) (by decide) 250 rfl (dd_X12_test_2 20 _ _ _ rfl) (fun h85 hM => ?_)
                      refine r_aload_0 251 rfl (dd_X12_test_2 21 _ _ _ rfl) ?_
                      refine m_arr 29 hg hM (by decide) (by decide) (tb_6 85 _ rfl) 254 rfl (dd_X12_test_2 22 _ _ _ rfl) ?_ (fun _ _ _ => rfl)
                      refine r_iload_1 255 rfl (dd_X12_test_2 23 _ _ _ rfl) ?_
                      refine m_iald 29 (u) (by omega) hg hM rfl (by omega) (z_lt (n2 := 12) rfl (by omega)) (by decide) 256 rfl (dd_X12_test_2 24 _ _ _ rfl) ?_
                      try simp (decide := true) only [zu2, false_and, and_false, and_true, true_and, and_self, if_true, if_false, reduceIte]
                      refine r_ireturn rfl rfl (dd_X12_test_2 25 _ _ _ rfl) ?_
                      exact k0 u _ _ rfl (by omega) (by unfold ztestOK; first | (rw [if_pos (by omega)]; omega) | (rw [if_neg (by omega)]; omega)) (by omega) (by unfold zback; first | (rw [if_pos (by omega)]; done) | (rw [if_neg (by omega)]; done) | (exfalso; omega)) (by unfold zuntil; first | (rw [if_pos (by omega), if_pos (by omega)]; done) | (rw [if_pos (by omega), if_neg (by omega)]; done) | (rw [if_neg (by omega), if_pos (by omega)]; done) | (rw [if_neg (by omega), if_neg (by omega)]; done) | (exfalso; omega)) _ hM
                  · refine r_iload_7 204 rfl (dd_X12_test_1 55 _ _ _ rfl) ?_
                    refine r_aload_0 205 rfl (dd_X12_test_1 56 _ _ _ rfl) ?_
                    refine m_arr 29 hg hM (by decide) (by decide) (tb_6 85 _ rfl) 208 rfl (dd_X12_test_1 57 _ _ _ rfl) ?_ (fun _ _ _ => rfl)
                    refine r_iload_1 209 rfl (dd_X12_test_1 58 _ _ _ rfl) ?_
                    refine m_iald 29 (u) (by omega) hg hM rfl (by omega) (z_lt (n2 := 12) rfl (by omega)) (by decide) 210 rfl (dd_X12_test_1 59 _ _ _ rfl) ?_
                    try simp (decide := true) only [zu2, false_and, and_false, and_true, true_and, and_self, if_true, if_false, reduceIte]
                    refine r_if_icmpge (by omega) (by omega) 213 rfl 218 rfl (dd_X12_test_2 0 _ _ _ rfl) (fun hc86 => ?_) (fun hc86 => ?_)
                    · refine r_aload_0 219 rfl (dd_X12_test_2 3 _ _ _ rfl) ?_
                      refine m_arr 29 hg hM (by decide) (by decide) (tb_6 85 _ rfl) 222 rfl (dd_X12_test_2 4 _ _ _ rfl) ?_ (fun _ _ _ => rfl)
                      refine r_iload_1 223 rfl (dd_X12_test_2 5 _ _ _ rfl) ?_
                      refine m_iald 29 (u) (by omega) hg hM rfl (by omega) (z_lt (n2 := 12) rfl (by omega)) (by decide) 224 rfl (dd_X12_test_2 6 _ _ _ rfl) ?_
                      try simp (decide := true) only [zu2, false_and, and_false, and_true, true_and, and_self, if_true, if_false, reduceIte]
                      refine r_goto 249 rfl (dd_X12_test_2 7 _ _ _ rfl) ?_
                      refine m_iast 29 (u) (by omega) hg hM rfl (by omega) (z_lt (n2 := 12) rfl (by omega)) (by decide) 250 rfl (dd_X12_test_2 20 _ _ _ rfl) (fun h87 hM => ?_)
                      refine r_aload_0 251 rfl (dd_X12_test_2 21 _ _ _ rfl) ?_
                      refine m_arr 29 hg hM (by decide) (by decide) (tb_6 85 _ rfl) 254 rfl (dd_X12_test_2 22 _ _ _ rfl) ?_ (fun _ _ _ => rfl)
                      refine r_iload_1 255 rfl (dd_X12_test_2 23 _ _ _ rfl) ?_
                      refine m_iald 29 (u) (by omega) hg hM rfl (by omega) (z_lt (n2 := 12) rfl (by omega)) (by decide) 256 rfl (dd_X12_test_2 24 _ _ _ rfl) ?_
                      try simp (decide := true) only [zu2, false_and, and_false, and_true, true_and, and_self, if_true, if_false, reduceIte]
                      refine r_ireturn rfl rfl (dd_X12_test_2 25 _ _ _ rfl) ?_
                      exact k0 u _ _ rfl (by omega) (by unfold ztestOK; first | (rw [if_pos (by omega)]; omega) | (rw [if_neg (by omega)]; omega)) (by omega) (by unfold zback; first | (rw [if_pos (by omega)]; done) | (rw [if_neg (by omega)]; done) | (exfalso; omega)) (by unfold zuntil; first | (rw [if_pos (by omega), if_pos (by omega)]; done) | (rw [if_pos (by omega), if_neg (by omega)]; done) | (rw [if_neg (by omega), if_pos (by omega)]; done) | (rw [if_neg (by omega), if_neg (by omega)]; done) | (exfalso; omega)) _ hM
                    · refine r_iload_7 215 rfl (dd_X12_test_2 1 _ _ _ rfl) ?_
                      refine r_goto 249 rfl (dd_X12_test_2 2 _ _ _ rfl) ?_
                      refine m_iast 29 (u) (by omega) hg hM rfl (by omega) (z_lt (n2 := 12) rfl (by omega)) (by decide) 250 rfl (dd_X12_test_2 20 _ _ _ rfl) (fun h88 hM => ?_)
                      refine r_aload_0 251 rfl (dd_X12_test_2 21 _ _ _ rfl) ?_
                      refine m_arr 29 hg hM (by decide) (by decide) (tb_6 85 _ rfl) 254 rfl (dd_X12_test_2 22 _ _ _ rfl) ?_ (fun _ _ _ => rfl)
                      refine r_iload_1 255 rfl (dd_X12_test_2 23 _ _ _ rfl) ?_
                      refine m_iald 29 (u) (by omega) hg hM rfl (by omega) (z_lt (n2 := 12) rfl (by omega)) (by decide) 256 rfl (dd_X12_test_2 24 _ _ _ rfl) ?_
                      try simp (decide := true) only [zu2, false_and, and_false, and_true, true_and, and_self, if_true, if_false, reduceIte]
                      refine r_ireturn rfl rfl (dd_X12_test_2 25 _ _ _ rfl) ?_
                      exact k0 u _ _ rfl (by omega) (by unfold ztestOK; first | (rw [if_pos (by omega)]; omega) | (rw [if_neg (by omega)]; omega)) (by omega) (by unfold zback; first | (rw [if_pos (by omega)]; done) | (rw [if_neg (by omega)]; done) | (exfalso; omega)) (by unfold zuntil; first | (rw [if_pos (by omega), if_pos (by omega)]; done) | (rw [if_pos (by omega), if_neg (by omega)]; done) | (rw [if_neg (by omega), if_pos (by omega)]; done) | (rw [if_neg (by omega), if_neg (by omega)]; done) | (exfalso; omega)) _ hM
                · refine r_iload_2 182 rfl (dd_X12_test_1 43 _ _ _ rfl) ?_
                  refine r_goto 190 rfl (dd_X12_test_1 44 _ _ _ rfl) ?_
                  refine r_istore_7 192 rfl (by decide) rfl (dd_X12_test_1 48 _ _ _ rfl) ?_
                  refine r_aload_0 193 rfl (dd_X12_test_1 49 _ _ _ rfl) ?_
                  refine m_arr 29 hg hM (by decide) (by decide) (tb_6 85 _ rfl) 196 rfl (dd_X12_test_1 50 _ _ _ rfl) ?_ (fun _ _ _ => rfl)
                  refine r_iload_1 197 rfl (dd_X12_test_1 51 _ _ _ rfl) ?_
                  refine r_iload_3 198 rfl (dd_X12_test_1 52 _ _ _ rfl) ?_
                  refine r_iconst 199 rfl (dd_X12_test_1 53 _ _ _ rfl) ?_
                  refine r_if_icmpne (by omega) (by omega) 202 rfl 227 rfl (dd_X12_test_1 54 _ _ _ rfl) (fun hc89 => ?_) (fun hc89 => ?_)
                  · refine r_iload_7 229 rfl (dd_X12_test_2 8 _ _ _ rfl) ?_
                    refine r_aload_0 230 rfl (dd_X12_test_2 9 _ _ _ rfl) ?_
                    refine m_arr 29 hg hM (by decide) (by decide) (tb_6 85 _ rfl) 233 rfl (dd_X12_test_2 10 _ _ _ rfl) ?_ (fun _ _ _ => rfl)
                    refine r_iload_1 234 rfl (dd_X12_test_2 11 _ _ _ rfl) ?_
                    refine m_iald 29 (u) (by omega) hg hM rfl (by omega) (z_lt (n2 := 12) rfl (by omega)) (by decide) 235 rfl (dd_X12_test_2 12 _ _ _ rfl) ?_
                    try simp (decide := true) only [zu2, false_and, and_false, and_true, true_and, and_self, if_true, if_false, reduceIte]
                    refine r_if_icmple (by omega) (by omega) 238 rfl 243 rfl (dd_X12_test_2 13 _ _ _ rfl) (fun hc90 => ?_) (fun hc90 => ?_)
                    · refine r_aload_0 244 rfl (dd_X12_test_2 16 _ _ _ rfl) ?_
                      refine m_arr 29 hg hM (by decide) (by decide) (tb_6 85 _ rfl) 247 rfl (dd_X12_test_2 17 _ _ _ rfl) ?_ (fun _ _ _ => rfl)
                      refine r_iload_1 248 rfl (dd_X12_test_2 18 _ _ _ rfl) ?_
                      refine m_iald 29 (u) (by omega) hg hM rfl (by omega) (z_lt (n2 := 12) rfl (by omega)) (by decide) 249 rfl (dd_X12_test_2 19 _ _ _ rfl) ?_
                      try simp (decide := true) only [zu2, false_and, and_false, and_true, true_and, and_self, if_true, if_false, reduceIte]
                      refine m_iast 29 (u) (by omega) hg hM rfl (by omega) (z_lt (n2 := 12) rfl (by omega)) (by decide) 250 rfl (dd_X12_test_2 20 _ _ _ rfl) (fun h91 hM => ?_)
                      refine r_aload_0 251 rfl (dd_X12_test_2 21 _ _ _ rfl) ?_
                      refine m_arr 29 hg hM (by decide) (by decide) (tb_6 85 _ rfl) 254 rfl (dd_X12_test_2 22 _ _ _ rfl) ?_ (fun _ _ _ => rfl)
                      refine r_iload_1 255 rfl (dd_X12_test_2 23 _ _ _ rfl) ?_
                      refine m_iald 29 (u) (by omega) hg hM rfl (by omega) (z_lt (n2 := 12) rfl (by omega)) (by decide) 256 rfl (dd_X12_test_2 24 _ _ _ rfl) ?_
                      try simp (decide := true) only [zu2, false_and, and_false, and_true, true_and, and_self, if_true, if_false, reduceIte]
                      refine r_ireturn rfl rfl (dd_X12_test_2 25 _ _ _ rfl) ?_
                      exact k0 u _ _ rfl (by omega) (by unfold ztestOK; first | (rw [if_pos (by omega)]; omega) | (rw [if_neg (by omega)]; omega)) (by omega) (by unfold zback; first | (rw [if_pos (by omega)]; done) | (rw [if_neg (by omega)]; done) | (exfalso; omega)) (by unfold zuntil; first | (rw [if_pos (by omega), if_pos (by omega)]; done) | (rw [if_pos (by omega), if_neg (by omega)]; done) | (rw [if_neg (by omega), if_pos (by omega)]; done) | (rw [if_neg (by omega), if_neg (by omega)]; done) | (exfalso; omega)) _ hM
                    · refine r_iload_7 240 rfl (dd_X12_test_2 14 _ _ _ rfl) ?_
                      refine r_goto 249 rfl (dd_X12_test_2 15 _ _ _ rfl) ?_
                      refine m_iast 29 (u) (by omega) hg hM rfl (by omega) (z_lt (n2 := 12) rfl (by omega)) (by decide) 250 rfl (dd_X12_test_2 20 _ _ _ rfl) (fun h92 hM => ?_)
                      refine r_aload_0 251 rfl (dd_X12_test_2 21 _ _ _ rfl) ?_
                      refine m_arr 29 hg hM (by decide) (by decide) (tb_6 85 _ rfl) 254 rfl (dd_X12_test_2 22 _ _ _ rfl) ?_ (fun _ _ _ => rfl)
                      refine r_iload_1 255 rfl (dd_X12_test_2 23 _ _ _ rfl) ?_
                      refine m_iald 29 (u) (by omega) hg hM rfl (by omega) (z_lt (n2 := 12) rfl (by omega)) (by decide) 256 rfl (dd_X12_test_2 24 _ _ _ rfl) ?_
                      try simp (decide := true) only [zu2, false_and, and_false, and_true, true_and, and_self, if_true, if_false, reduceIte]
                      refine r_ireturn rfl rfl (dd_X12_test_2 25 _ _ _ rfl) ?_
                      exact k0 u _ _ rfl (by omega) (by unfold ztestOK; first | (rw [if_pos (by omega)]; omega) | (rw [if_neg (by omega)]; omega)) (by omega) (by unfold zback; first | (rw [if_pos (by omega)]; done) | (rw [if_neg (by omega)]; done) | (exfalso; omega)) (by unfold zuntil; first | (rw [if_pos (by omega), if_pos (by omega)]; done) | (rw [if_pos (by omega), if_neg (by omega)]; done) | (rw [if_neg (by omega), if_pos (by omega)]; done) | (rw [if_neg (by omega), if_neg (by omega)]; done) | (exfalso; omega)) _ hM
                  · refine r_iload_7 204 rfl (dd_X12_test_1 55 _ _ _ rfl) ?_
                    refine r_aload_0 205 rfl (dd_X12_test_1 56 _ _ _ rfl) ?_
                    refine m_arr 29 hg hM (by decide) (by decide) (tb_6 85 _ rfl) 208 rfl (dd_X12_test_1 57 _ _ _ rfl) ?_ (fun _ _ _ => rfl)
                    refine r_iload_1 209 rfl (dd_X12_test_1 58 _ _ _ rfl) ?_
                    refine m_iald 29 (u) (by omega) hg hM rfl (by omega) (z_lt (n2 := 12) rfl (by omega)) (by decide) 210 rfl (dd_X12_test_1 59 _ _ _ rfl) ?_
                    try simp (decide := true) only [zu2, false_and, and_false, and_true, true_and, and_self, if_true, if_false, reduceIte]
                    refine r_if_icmpge (by omega) (by omega) 213 rfl 218 rfl (dd_X12_test_2 0 _ _ _ rfl) (fun hc93 => ?_) (fun hc93 => ?_)
                    · refine r_aload_0 219 rfl (dd_X12_test_2 3 _ _ _ rfl) ?_
                      refine m_arr 29 hg hM (by decide) (by decide) (tb_6 85 _ rfl) 222 rfl (dd_X12_test_2 4 _ _ _ rfl) ?_ (fun _ _ _ => rfl)
                      refine r_iload_1 223 rfl (dd_X12_test_2 5 _ _ _ rfl) ?_
                      refine m_iald 29 (u) (by omega) hg hM rfl (by omega) (z_lt (n2 := 12) rfl (by omega)) (by decide) 224 rfl (dd_X12_test_2 6 _ _ _ rfl) ?_
                      try simp (decide := true) only [zu2, false_and, and_false, and_true, true_and, and_self, if_true, if_false, reduceIte]
                      refine r_goto 249 rfl (dd_X12_test_2 7 _ _ _ rfl) ?_
                      refine m_iast 29 (u) (by omega) hg hM rfl (by omega) (z_lt (n2 := 12) rfl (by omega)) (by decide) 250 rfl (dd_X12_test_2 20 _ _ _ rfl) (fun h94 hM => ?_)
                      refine r_aload_0 251 rfl (dd_X12_test_2 21 _ _ _ rfl) ?_
                      refine m_arr 29 hg hM (by decide) (by decide) (tb_6 85 _ rfl) 254 rfl (dd_X12_test_2 22 _ _ _ rfl) ?_ (fun _ _ _ => rfl)
                      refine r_iload_1 255 rfl (dd_X12_test_2 23 _ _ _ rfl) ?_
                      refine m_iald 29 (u) (by omega) hg hM rfl (by omega) (z_lt (n2 := 12) rfl (by omega)) (by decide) 256 rfl (dd_X12_test_2 24 _ _ _ rfl) ?_
                      try simp (decide := true) only [zu2, false_and, and_false, and_true, true_and, and_self, if_true, if_false, reduceIte]
                      refine r_ireturn rfl rfl (dd_X12_test_2 25 _ _ _ rfl) ?_
                      exact k0 u _ _ rfl (by omega) (by unfold ztestOK; first | (rw [if_pos (by omega)]; omega) | (rw [if_neg (by omega)]; omega)) (by omega) (by unfold zback; first | (rw [if_pos (by omega)]; done) | (rw [if_neg (by omega)]; done) | (exfalso; omega)) (by unfold zuntil; first | (rw [if_pos (by omega), if_pos (by omega)]; done) | (rw [if_pos (by omega), if_neg (by omega)]; done) | (rw [if_neg (by omega), if_pos (by omega)]; done) | (rw [if_neg (by omega), if_neg (by omega)]; done) | (exfalso; omega)) _ hM
                    · refine r_iload_7 215 rfl (dd_X12_test_2 1 _ _ _ rfl) ?_
                      refine r_goto 249 rfl (dd_X12_test_2 2 _ _ _ rfl) ?_
                      refine m_iast 29 (u) (by omega) hg hM rfl (by omega) (z_lt (n2 := 12) rfl (by omega)) (by decide) 250 rfl (dd_X12_test_2 20 _ _ _ rfl) (fun h95 hM => ?_)
                      refine r_aload_0 251 rfl (dd_X12_test_2 21 _ _ _ rfl) ?_
                      refine m_arr 29 hg hM (by decide) (by decide) (tb_6 85 _ rfl) 254 rfl (dd_X12_test_2 22 _ _ _ rfl) ?_ (fun _ _ _ => rfl)
                      refine r_iload_1 255 rfl (dd_X12_test_2 23 _ _ _ rfl) ?_
                      refine m_iald 29 (u) (by omega) hg hM rfl (by omega) (z_lt (n2 := 12) rfl (by omega)) (by decide) 256 rfl (dd_X12_test_2 24 _ _ _ rfl) ?_
                      try simp (decide := true) only [zu2, false_and, and_false, and_true, true_and, and_self, if_true, if_false, reduceIte]
                      refine r_ireturn rfl rfl (dd_X12_test_2 25 _ _ _ rfl) ?_
                      exact k0 u _ _ rfl (by omega) (by unfold ztestOK; first | (rw [if_pos (by omega)]; omega) | (rw [if_neg (by omega)]; omega)) (by omega) (by unfold zback; first | (rw [if_pos (by omega)]; done) | (rw [if_neg (by omega)]; done) | (exfalso; omega)) (by unfold zuntil; first | (rw [if_pos (by omega), if_pos (by omega)]; done) | (rw [if_pos (by omega), if_neg (by omega)]; done) | (rw [if_neg (by omega), if_pos (by omega)]; done) | (rw [if_neg (by omega), if_neg (by omega)]; done) | (exfalso; omega)) _ hM
              · refine r_iload_4 135 rfl (dd_X12_test_1 11 _ _ _ rfl) ?_
                refine r_aload_0 136 rfl (dd_X12_test_1 12 _ _ _ rfl) ?_
                refine m_arr 27 hg hM (by decide) (by decide) (tb_6 83 _ rfl) 139 rfl (dd_X12_test_1 13 _ _ _ rfl) ?_ (fun _ _ _ => rfl)
                refine r_iload_1 140 rfl (dd_X12_test_1 14 _ _ _ rfl) ?_
                refine m_iald 27 (u) (by omega) hg hM rfl (by omega) (z_lt (n2 := 12) rfl (by omega)) (by decide) 141 rfl (dd_X12_test_1 15 _ _ _ rfl) ?_
                try simp (decide := true) only [zu2, false_and, and_false, and_true, true_and, and_self, if_true, if_false, reduceIte]
                refine r_if_icmpge (by omega) (by omega) 144 rfl 148 rfl (dd_X12_test_1 16 _ _ _ rfl) (fun hc96 => ?_) (fun hc96 => ?_)
                · refine r_iconst 149 rfl (dd_X12_test_1 19 _ _ _ rfl) ?_
                  refine r_iadd 150 rfl (dd_X12_test_1 20 _ _ _ rfl) ?_
                  refine m_iast 28 (u) (by omega) hg hM rfl (by omega) (z_lt (n2 := 12) rfl (by omega)) (by decide) 151 rfl (dd_X12_test_1 21 _ _ _ rfl) (fun h97 hM => ?_)
                  refine r_aload_0 152 rfl (dd_X12_test_1 22 _ _ _ rfl) ?_
                  refine m_arr 25 hg hM (by decide) (by decide) (tb_6 81 _ rfl) 155 rfl (dd_X12_test_1 23 _ _ _ rfl) ?_ (fun _ _ _ => rfl)
                  refine r_iload_1 156 rfl (dd_X12_test_1 24 _ _ _ rfl) ?_
                  refine r_dup2 rfl rfl 157 rfl (dd_X12_test_1 25 _ _ _ rfl) ?_
                  refine m_iald 25 (u) (by omega) hg hM rfl (by omega) (z_lt (n2 := 12) rfl (by omega)) (by decide) 158 rfl (dd_X12_test_1 26 _ _ _ rfl) ?_
                  try simp (decide := true) only [zu2, false_and, and_false, and_true, true_and, and_self, if_true, if_false, reduceIte]
                  refine r_iconst 159 rfl (dd_X12_test_1 27 _ _ _ rfl) ?_
                  refine r_iadd 160 rfl (dd_X12_test_1 28 _ _ _ rfl) ?_
                  refine m_iast 25 (u) (by omega) hg hM rfl (by omega) (z_lt (n2 := 12) rfl (by omega)) (by decide) 161 rfl (dd_X12_test_1 29 _ _ _ rfl) (fun h98 hM => ?_)
                  refine r_aload_0 162 rfl (dd_X12_test_1 30 _ _ _ rfl) ?_
                  refine m_arr 26 hg hM (by decide) (by decide) (tb_6 82 _ rfl) 165 rfl (dd_X12_test_1 31 _ _ _ rfl) ?_ (fun _ _ _ => rfl)
                  refine r_iload_1 166 rfl (dd_X12_test_1 32 _ _ _ rfl) ?_
                  refine r_iload_2 167 rfl (dd_X12_test_1 33 _ _ _ rfl) ?_
                  refine m_iast 26 (u) (by omega) hg hM rfl (by omega) (z_lt (n2 := 12) rfl (by omega)) (by decide) 168 rfl (dd_X12_test_1 34 _ _ _ rfl) (fun h99 hM => ?_)
                  refine r_aload_0 169 rfl (dd_X12_test_1 35 _ _ _ rfl) ?_
                  refine m_arr 27 hg hM (by decide) (by decide) (tb_6 83 _ rfl) 172 rfl (dd_X12_test_1 36 _ _ _ rfl) ?_ (fun _ _ _ => rfl)
                  refine r_iload_1 173 rfl (dd_X12_test_1 37 _ _ _ rfl) ?_
                  refine r_iload_4 175 rfl (dd_X12_test_1 38 _ _ _ rfl) ?_
                  refine m_iast 27 (u) (by omega) hg hM rfl (by omega) (z_lt (n2 := 12) rfl (by omega)) (by decide) 176 rfl (dd_X12_test_1 39 _ _ _ rfl) (fun h100 hM => ?_)
                  refine r_iload_3 177 rfl (dd_X12_test_1 40 _ _ _ rfl) ?_
                  refine r_iconst 178 rfl (dd_X12_test_1 41 _ _ _ rfl) ?_
                  refine r_if_icmpne (by omega) (by omega) 181 rfl 185 rfl (dd_X12_test_1 42 _ _ _ rfl) (fun hc101 => ?_) (fun hc101 => ?_)
                  · refine r_iload_2 186 rfl (dd_X12_test_1 45 _ _ _ rfl) ?_
                    refine r_sipush (by decide) 189 rfl (dd_X12_test_1 46 _ _ _ rfl) ?_
                    refine r_iadd 190 rfl (dd_X12_test_1 47 _ _ _ rfl) ?_
                    refine r_istore_7 192 rfl (by decide) rfl (dd_X12_test_1 48 _ _ _ rfl) ?_
                    refine r_aload_0 193 rfl (dd_X12_test_1 49 _ _ _ rfl) ?_
                    refine m_arr 29 hg hM (by decide) (by decide) (tb_6 85 _ rfl) 196 rfl (dd_X12_test_1 50 _ _ _ rfl) ?_ (fun _ _ _ => rfl)
                    refine r_iload_1 197 rfl (dd_X12_test_1 51 _ _ _ rfl) ?_
                    refine r_iload_3 198 rfl (dd_X12_test_1 52 _ _ _ rfl) ?_
                    refine r_iconst 199 rfl (dd_X12_test_1 53 _ _ _ rfl) ?_
                    refine r_if_icmpne (by omega) (by omega) 202 rfl 227 rfl (dd_X12_test_1 54 _ _ _ rfl) (fun hc102 => ?_) (fun hc102 => ?_)
                    · refine r_iload_7 229 rfl (dd_X12_test_2 8 _ _ _ rfl) ?_
                      refine r_aload_0 230 rfl (dd_X12_test_2 9 _ _ _ rfl) ?_
                      refine m_arr 29 hg hM (by decide) (by decide) (tb_6 85 _ rfl) 233 rfl (dd_X12_test_2 10 _ _ _ rfl) ?_ (fun _ _ _ => rfl)
                      refine r_iload_1 234 rfl (dd_X12_test_2 11 _ _ _ rfl) ?_
                      refine m_iald 29 (u) (by omega) hg hM rfl (by omega) (z_lt (n2 := 12) rfl (by omega)) (by decide) 235 rfl (dd_X12_test_2 12 _ _ _ rfl) ?_
                      try simp (decide := true) only [zu2, false_and, and_false, and_true, true_and, and_self, if_true, if_false, reduceIte]
                      refine r_if_icmple (by omega) (by omega) 238 rfl 243 rfl (dd_X12_test_2 13 _ _ _ rfl) (fun hc103 => ?_) (fun hc103 => ?_)
                      · refine r_aload_0 244 rfl (dd_X12_test_2 16 _ _ _ rfl) ?_
                        refine m_arr 29 hg hM (by decide) (by decide) (tb_6 85 _ rfl) 247 rfl (dd_X12_test_2 17 _ _ _ rfl) ?_ (fun _ _ _ => rfl)
                        refine r_iload_1 248 rfl (dd_X12_test_2 18 _ _ _ rfl) ?_
                        refine m_iald 29 (u) (by omega) hg hM rfl (by omega) (z_lt (n2 := 12) rfl (by omega)) (by decide) 249 rfl (dd_X12_test_2 19 _ _ _ rfl) ?_
                        try simp (decide := true) only [zu2, false_and, and_false, and_true, true_and, and_self, if_true, if_false, reduceIte]
                        refine m_iast 29 (u) (by omega) hg hM rfl (by omega) (z_lt (n2 := 12) rfl (by omega)) (by decide) 250 rfl (dd_X12_test_2 20 _ _ _ rfl) (fun h104 hM => ?_)
                        refine r_aload_0 251 rfl (dd_X12_test_2 21 _ _ _ rfl) ?_
                        refine m_arr 29 hg hM (by decide) (by decide) (tb_6 85 _ rfl) 254 rfl (dd_X12_test_2 22 _ _ _ rfl) ?_ (fun _ _ _ => rfl)
                        refine r_iload_1 255 rfl (dd_X12_test_2 23 _ _ _ rfl) ?_
                        refine m_iald 29 (u) (by omega) hg hM rfl (by omega) (z_lt (n2 := 12) rfl (by omega)) (by decide) 256 rfl (dd_X12_test_2 24 _ _ _ rfl) ?_
                        try simp (decide := true) only [zu2, false_and, and_false, and_true, true_and, and_self, if_true, if_false, reduceIte]
                        refine r_ireturn rfl rfl (dd_X12_test_2 25 _ _ _ rfl) ?_
                        exact k0 u _ _ rfl (by omega) (by unfold ztestOK; first | (rw [if_pos (by omega)]; omega) | (rw [if_neg (by omega)]; omega)) (by omega) (by unfold zback; first | (rw [if_pos (by omega)]; done) | (rw [if_neg (by omega)]; done) | (exfalso; omega)) (by unfold zuntil; first | (rw [if_pos (by omega), if_pos (by omega)]; done) | (rw [if_pos (by omega), if_neg (by omega)]; done) | (rw [if_neg (by omega), if_pos (by omega)]; done) | (rw [if_neg (by omega), if_neg (by omega)]; done) | (exfalso; omega)) _ hM
                      · refine r_iload_7 240 rfl (dd_X12_test_2 14 _ _ _ rfl) ?_
                        refine r_goto 249 rfl (dd_X12_test_2 15 _ _ _ rfl) ?_
                        refine m_iast 29 (u) (by omega) hg hM rfl (by omega) (z_lt (n2 := 12) rfl (by omega)) (by decide) 250 rfl (dd_X12_test_2 20 _ _ _ rfl) (fun h105 hM => ?_)
                        refine r_aload_0 251 rfl (dd_X12_test_2 21 _ _ _ rfl) ?_
                        refine m_arr 29 hg hM (by decide) (by decide) (tb_6 85 _ rfl) 254 rfl (dd_X12_test_2 22 _ _ _ rfl) ?_ (fun _ _ _ => rfl)
                        refine r_iload_1 255 rfl (dd_X12_test_2 23 _ _ _ rfl) ?_
                        refine m_iald 29 (u) (by omega) hg hM rfl (by omega) (z_lt (n2 := 12) rfl (by omega)) (by decide) 256 rfl (dd_X12_test_2 24 _ _ _ rfl) ?_
                        try simp (decide := true) only [zu2, false_and, and_false, and_true, true_and, and_self, if_true, if_false, reduceIte]
                        refine r_ireturn rfl rfl (dd_X12_test_2 25 _ _ _ rfl) ?_
                        exact k0 u _ _ rfl (by omega) (by unfold ztestOK; first | (rw [if_pos (by omega)]; omega) | (rw [if_neg (by omega)]; omega)) (by omega) (by unfold zback; first | (rw [if_pos (by omega)]; done) | (rw [if_neg (by omega)]; done) | (exfalso; omega)) (by unfold zuntil; first | (rw [if_pos (by omega), if_pos (by omega)]; done) | (rw [if_pos (by omega), if_neg (by omega)]; done) | (rw [if_neg (by omega), if_pos (by omega)]; done) | (rw [if_neg (by omega), if_neg (by omega)]; done) | (exfalso; omega)) _ hM
                    · refine r_iload_7 204 rfl (dd_X12_test_1 55 _ _ _ rfl) ?_
                      refine r_aload_0 205 rfl (dd_X12_test_1 56 _ _ _ rfl) ?_
                      refine m_arr 29 hg hM (by decide) (by decide) (tb_6 85 _ rfl) 208 rfl (dd_X12_test_1 57 _ _ _ rfl) ?_ (fun _ _ _ => rfl)
                      refine r_iload_1 209 rfl (dd_X12_test_1 58 _ _ _ rfl) ?_
                      refine m_iald 29 (u) (by omega) hg hM rfl (by omega) (z_lt (n2 := 12) rfl (by omega)) (by decide) 210 rfl (dd_X12_test_1 59 _ _ _ rfl) ?_
                      try simp (decide := true) only [zu2, false_and, and_false, and_true, true_and, and_self, if_true, if_false, reduceIte]
                      refine r_if_icmpge (by omega) (by omega) 213 rfl 218 rfl (dd_X12_test_2 0 _ _ _ rfl) (fun hc106 => ?_) (fun hc106 => ?_)
                      · refine r_aload_0 219 rfl (dd_X12_test_2 3 _ _ _ rfl) ?_
                        refine m_arr 29 hg hM (by decide) (by decide) (tb_6 85 _ rfl) 222 rfl (dd_X12_test_2 4 _ _ _ rfl) ?_ (fun _ _ _ => rfl)
                        refine r_iload_1 223 rfl (dd_X12_test_2 5 _ _ _ rfl) ?_
                        refine m_iald 29 (u) (by omega) hg hM rfl (by omega) (z_lt (n2 := 12) rfl (by omega)) (by decide) 224 rfl (dd_X12_test_2 6 _ _ _ rfl) ?_
                        try simp (decide := true) only [zu2, false_and, and_false, and_true, true_and, and_self, if_true, if_false, reduceIte]
                        refine r_goto 249 rfl (dd_X12_test_2 7 _ _ _ rfl) ?_
                        refine m_iast 29 (u) (by omega) hg hM rfl (by omega) (z_lt (n2 := 12) rfl (by omega)) (by decide) 250 rfl (dd_X12_test_2 20 _ _ _ rfl) (fun h107 hM => ?_)
                        refine r_aload_0 251 rfl (dd_X12_test_2 21 _ _ _ rfl) ?_
                        refine m_arr 29 hg hM (by decide) (by decide) (tb_6 85 _ rfl) 254 rfl (dd_X12_test_2 22 _ _ _ rfl) ?_ (fun _ _ _ => rfl)
                        refine r_iload_1 255 rfl (dd_X12_test_2 23 _ _ _ rfl) ?_
                        refine m_iald 29 (u) (by omega) hg hM rfl (by omega) (z_lt (n2 := 12) rfl (by omega)) (by decide) 256 rfl (dd_X12_test_2 24 _ _ _ rfl) ?_
                        try simp (decide := true) only [zu2, false_and, and_false, and_true, true_and, and_self, if_true, if_false, reduceIte]
                        refine r_ireturn rfl rfl (dd_X12_test_2 25 _ _ _ rfl) ?_
                        exact k0 u _ _ rfl (by omega) (by unfold ztestOK; first | (rw [if_pos (by omega)]; omega) | (rw [if_neg (by omega)]; omega)) (by omega) (by unfold zback; first | (rw [if_pos (by omega)]; done) | (rw [if_neg (by omega)]; done) | (exfalso; omega)) (by unfold zuntil; first | (rw [if_pos (by omega), if_pos (by omega)]; done) | (rw [if_pos (by omega), if_neg (by omega)]; done) | (rw [if_neg (by omega), if_pos (by omega)]; done) | (rw [if_neg (by omega), if_neg (by omega)]; done) | (exfalso; omega)) _ hM
                      · refine r_iload_7 215 rfl (dd_X12_test_2 1 _ _ _ rfl) ?_
                        refine r_goto 249 rfl (dd_X12_test_2 2 _ _ _ rfl) ?_
                        refine m_iast 29 (u) (by omega) hg hM rfl (by omega) (z_lt (n2 := 12) rfl (by omega)) (by decide) 250 rfl (dd_X12_test_2 20 _ _ _ rfl) (fun h108 hM => ?_)
                        refine r_aload_0 251 rfl (dd_X12_test_2 21 _ _ _ rfl) ?_
                        refine m_arr 29 hg hM (by decide) (by decide) (tb_6 85 _ rfl) 254 rfl (dd_X12_test_2 22 _ _ _ rfl) ?_ (fun _ _ _ => rfl)
                        refine r_iload_1 255 rfl (dd_X12_test_2 23 _ _ _ rfl) ?_
                        refine m_iald 29 (u) (by omega) hg hM rfl (by omega) (z_lt (n2 := 12) rfl (by omega)) (by decide) 256 rfl (dd_X12_test_2 24 _ _ _ rfl) ?_
                        try simp (decide := true) only [zu2, false_and, and_false, and_true, true_and, and_self, if_true, if_false, reduceIte]
                        refine r_ireturn rfl rfl (dd_X12_test_2 25 _ _ _ rfl) ?_
                        exact k0 u _ _ rfl (by omega) (by unfold ztestOK; first | (rw [if_pos (by omega)]; omega) | (rw [if_neg (by omega)]; omega)) (by omega) (by unfold zback; first | (rw [if_pos (by omega)]; done) | (rw [if_neg (by omega)]; done) | (exfalso; omega)) (by unfold zuntil; first | (rw [if_pos (by omega), if_pos (by omega)]; done) | (rw [if_pos (by omega), if_neg (by omega)]; done) | (rw [if_neg (by omega), if_pos (by omega)]; done) | (rw [if_neg (by omega), if_neg (by omega)]; done) | (exfalso; omega)) _ hM
                  · refine r_iload_2 182 rfl (dd_X12_test_1 43 _ _ _ rfl) ?_
                    refine r_goto 190 rfl (dd_X12_test_1 44 _ _ _ rfl) ?_
                    refine r_istore_7 192 rfl (by decide) rfl (dd_X12_test_1 48 _ _ _ rfl) ?_
                    refine r_aload_0 193 rfl (dd_X12_test_1 49 _ _ _ rfl) ?_
                    refine m_arr 29 hg hM (by decide) (by decide) (tb_6 85 _ rfl) 196 rfl (dd_X12_test_1 50 _ _ _ rfl) ?_ (fun _ _ _ => rfl)
                    refine r_iload_1 197 rfl (dd_X12_test_1 51 _ _ _ rfl) ?_
                    refine r_iload_3 198 rfl (dd_X12_test_1 52 _ _ _ rfl) ?_
                    refine r_iconst 199 rfl (dd_X12_test_1 53 _ _ _ rfl) ?_
                    refine r_if_icmpne (by omega) (by omega) 202 rfl 227 rfl (dd_X12_test_1 54 _ _ _ rfl) (fun hc109 => ?_) (fun hc109 => ?_)
                    · refine r_iload_7 229 rfl (dd_X12_test_2 8 _ _ _ rfl) ?_
                      refine r_aload_0 230 rfl (dd_X12_test_2 9 _ _ _ rfl) ?_
                      refine m_arr 29 hg hM (by decide) (by decide) (tb_6 85 _ rfl) 233 rfl (dd_X12_test_2 10 _ _ _ rfl) ?_ (fun _ _ _ => rfl)
                      refine r_iload_1 234 rfl (dd_X12_test_2 11 _ _ _ rfl) ?_
                      refine m_iald 29 (u) (by omega) hg hM rfl (by omega) (z_lt (n2 := 12) rfl (by omega)) (by decide) 235 rfl (dd_X12_test_2 12 _ _ _ rfl) ?_
                      try simp (decide := true) only [zu2, false_and, and_false, and_true, true_and, and_self, if_true, if_false, reduceIte]
                      refine r_if_icmple (by omega) (by omega) 238 rfl 243 rfl (dd_X12_test_2 13 _ _ _ rfl) (fun hc110 => ?_) (fun hc110 => ?_)
                      · refine r_aload_0 244 rfl (dd_X12_test_2 16 _ _ _ rfl) ?_
                        refine m_arr 29 hg hM (by decide) (by decide) (tb_6 85 _ rfl) 247 rfl (dd_X12_test_2 17 _ _ _ rfl) ?_ (fun _ _ _ => rfl)
                        refine r_iload_1 248 rfl (dd_X12_test_2 18 _ _ _ rfl) ?_
                        refine m_iald 29 (u) (by omega) hg hM rfl (by omega) (z_lt (n2 := 12) rfl (by omega)) (by decide) 249 rfl (dd_X12_test_2 19 _ _ _ rfl) ?_
                        try simp (decide := true) only [zu2, false_and, and_false, and_true, true_and, and_self, if_true, if_false, reduceIte]
                        refine m_iast 29 (u) (by omega) hg hM rfl (by omega) (z_lt (n2 := 12) rfl (by omega)) (by decide) 250 rfl (dd_X12_test_2 20 _ _ _ rfl) (fun h111 hM => ?_)
                        refine r_aload_0 251 rfl (dd_X12_test_2 21 _ _ _ rfl) ?_
                        refine m_arr 29 hg hM (by decide) (by decide) (tb_6 85 _ rfl) 254 rfl (dd_X12_test_2 22 _ _ _ rfl) ?_ (fun _ _ _ => rfl)
                        refine r_iload_1 255 rfl (dd_X12_test_2 23 _ _ _ rfl) ?_
                        refine m_iald 29 (u) (by omega) hg hM rfl (by omega) (z_lt (n2 := 12) rfl (by omega)) (by decide) 256 rfl (dd_X12_test_2 24 _ _ _ rfl) ?_
                        try simp (decide := true) only [zu2, false_and, and_false, and_true, true_and, and_self, if_true, if_false, reduceIte]
                        refine r_ireturn rfl rfl (dd_X12_test_2 25 _ _ _ rfl) ?_
                        exact k0 u _ _ rfl (by omega) (by unfold ztestOK; first | (rw [if_pos (by omega)]; omega) | (rw [if_neg (by omega)]; omega)) (by omega) (by unfold zback; first | (rw [if_pos (by omega)]; done) | (rw [if_neg (by omega)]; done) | (exfalso; omega)) (by unfold zuntil; first | (rw [if_pos (by omega), if_pos (by omega)]; done) | (rw [if_pos (by omega), if_neg (by omega)]; done) | (rw [if_neg (by omega), if_pos (by omega)]; done) | (rw [if_neg (by omega), if_neg (by omega)]; done) | (exfalso; omega)) _ hM
                      · refine r_iload_7 240 rfl (dd_X12_test_2 14 _ _ _ rfl) ?_
                        refine r_goto 249 rfl (dd_X12_test_2 15 _ _ _ rfl) ?_
                        refine m_iast 29 (u) (by omega) hg hM rfl (by omega) (z_lt (n2 := 12) rfl (by omega)) (by decide) 250 rfl (dd_X12_test_2 20 _ _ _ rfl) (fun h112 hM => ?_)
                        refine r_aload_0 251 rfl (dd_X12_test_2 21 _ _ _ rfl) ?_
                        refine m_arr 29 hg hM (by decide) (by decide) (tb_6 85 _ rfl) 254 rfl (dd_X12_test_2 22 _ _ _ rfl) ?_ (fun _ _ _ => rfl)
                        refine r_iload_1 255 rfl (dd_X12_test_2 23 _ _ _ rfl) ?_
                        refine m_iald 29 (u) (by omega) hg hM rfl (by omega) (z_lt (n2 := 12) rfl (by omega)) (by decide) 256 rfl (dd_X12_test_2 24 _ _ _ rfl) ?_
                        try simp (decide := true) only [zu2, false_and, and_false, and_true, true_and, and_self, if_true, if_false, reduceIte]
                        refine r_ireturn rfl rfl (dd_X12_test_2 25 _ _ _ rfl) ?_
                        exact k0 u _ _ rfl (by omega) (by unfold ztestOK; first | (rw [if_pos (by omega)]; omega) | (rw [if_neg (by omega)]; omega)) (by omega) (by unfold zback; first | (rw [if_pos (by omega)]; done) | (rw [if_neg (by omega)]; done) | (exfalso; omega)) (by unfold zuntil; first | (rw [if_pos (by omega), if_pos (by omega)]; done) | (rw [if_pos (by omega), if_neg (by omega)]; done) | (rw [if_neg (by omega), if_pos (by omega)]; done) | (rw [if_neg (by omega), if_neg (by omega)]; done) | (exfalso; omega)) _ hM
                    · refine r_iload_7 204 rfl (dd_X12_test_1 55 _ _ _ rfl) ?_
                      refine r_aload_0 205 rfl (dd_X12_test_1 56 _ _ _ rfl) ?_
                      refine m_arr 29 hg hM (by decide) (by decide) (tb_6 85 _ rfl) 208 rfl (dd_X12_test_1 57 _ _ _ rfl) ?_ (fun _ _ _ => rfl)
                      refine r_iload_1 209 rfl (dd_X12_test_1 58 _ _ _ rfl) ?_
                      refine m_iald 29 (u) (by omega) hg hM rfl (by omega) (z_lt (n2 := 12) rfl (by omega)) (by decide) 210 rfl (dd_X12_test_1 59 _ _ _ rfl) ?_
                      try simp (decide := true) only [zu2, false_and, and_false, and_true, true_and, and_self, if_true, if_false, reduceIte]
                      refine r_if_icmpge (by omega) (by omega) 213 rfl 218 rfl (dd_X12_test_2 0 _ _ _ rfl) (fun hc113 => ?_) (fun hc113 => ?_)
                      · refine r_aload_0 219 rfl (dd_X12_test_2 3 _ _ _ rfl) ?_
                        refine m_arr 29 hg hM (by decide) (by decide) (tb_6 85 _ rfl) 222 rfl (dd_X12_test_2 4 _ _ _ rfl) ?_ (fun _ _ _ => rfl)
                        refine r_iload_1 223 rfl (dd_X12_test_2 5 _ _ _ rfl) ?_
                        refine m_iald 29 (u) (by omega) hg hM rfl (by omega) (z_lt (n2 := 12) rfl (by omega)) (by decide) 224 rfl (dd_X12_test_2 6 _ _ _ rfl) ?_
                        try simp (decide := true) only [zu2, false_and, and_false, and_true, true_and, and_self, if_true, if_false, reduceIte]
                        refine r_goto 249 rfl (dd_X12_test_2 7 _ _ _ rfl) ?_
                        refine m_iast 29 (u) (by omega) hg hM rfl (by omega) (z_lt (n2 := 12) rfl (by omega)) (by decide) 250 rfl (dd_X12_test_2 20 _ _ _ rfl) (fun h114 hM => ?_)
                        refine r_aload_0 251 rfl (dd_X12_test_2 21 _ _ _ rfl) ?_
                        refine m_arr 29 hg hM (by decide) (by decide) (tb_6 85 _ rfl) 254 rfl (dd_X12_test_2 22 _ _ _ rfl) ?_ (fun _ _ _ => rfl)
                        refine r_iload_1 255 rfl (dd_X12_test_2 23 _ _ _ rfl) ?_
                        refine m_iald 29 (u) (by omega) hg hM rfl (by omega) (z_lt (n2 := 12) rfl (by omega)) (by decide) 256 rfl (dd_X12_test_2 24 _ _ _ rfl) ?_
                        try simp (decide := true) only [zu2, false_and, and_false, and_true, true_and, and_self, if_true, if_false, reduceIte]
                        refine r_ireturn rfl rfl (dd_X12_test_2 25 _ _ _ rfl) ?_
                        exact k0 u _ _ rfl (by omega) (by unfold ztestOK; first | (rw [if_pos (by omega)]; omega) | (rw [if_neg (by omega)]; omega)) (by omega) (by unfold zback; first | (rw [if_pos (by omega)]; done) | (rw [if_neg (by omega)]; done) | (exfalso; omega)) (by unfold zuntil; first | (rw [if_pos (by omega), if_pos (by omega)]; done) | (rw [if_pos (by omega), if_neg (by omega)]; done) | (rw [if_neg (by omega), if_pos (by omega)]; done) | (rw [if_neg (by omega), if_neg (by omega)]; done) | (exfalso; omega)) _ hM
                      · refine r_iload_7 215 rfl (dd_X12_test_2 1 _ _ _ rfl) ?_
                        refine r_goto 249 rfl (dd_X12_test_2 2 _ _ _ rfl) ?_
                        refine m_iast 29 (u) (by omega) hg hM rfl (by omega) (z_lt (n2 := 12) rfl (by omega)) (by decide) 250 rfl (dd_X12_test_2 20 _ _ _ rfl) (fun h115 hM => ?_)
                        refine r_aload_0 251 rfl (dd_X12_test_2 21 _ _ _ rfl) ?_
                        refine m_arr 29 hg hM (by decide) (by decide) (tb_6 85 _ rfl) 254 rfl (dd_X12_test_2 22 _ _ _ rfl) ?_ (fun _ _ _ => rfl)
                        refine r_iload_1 255 rfl (dd_X12_test_2 23 _ _ _ rfl) ?_
                        refine m_iald 29 (u) (by omega) hg hM rfl (by omega) (z_lt (n2 := 12) rfl (by omega)) (by decide) 256 rfl (dd_X12_test_2 24 _ _ _ rfl) ?_
                        try simp (decide := true) only [zu2, false_and, and_false, and_true, true_and, and_self, if_true, if_false, reduceIte]
                        refine r_ireturn rfl rfl (dd_X12_test_2 25 _ _ _ rfl) ?_
                        exact k0 u _ _ rfl (by omega) (by unfold ztestOK; first | (rw [if_pos (by omega)]; omega) | (rw [if_neg (by omega)]; omega)) (by omega) (by unfold zback; first | (rw [if_pos (by omega)]; done) | (rw [if_neg (by omega)]; done) | (exfalso; omega)) (by unfold zuntil; first | (rw [if_pos (by omega), if_pos (by omega)]; done) | (rw [if_pos (by omega), if_neg (by omega)]; done) | (rw [if_neg (by omega), if_pos (by omega)]; done) | (rw [if_neg (by omega), if_neg (by omega)]; done) | (exfalso; omega)) _ hM
                · refine r_iconst 145 rfl (dd_X12_test_1 17 _ _ _ rfl) ?_
                  refine r_goto 149 rfl (dd_X12_test_1 18 _ _ _ rfl) ?_
                  refine r_iadd 150 rfl (dd_X12_test_1 20 _ _ _ rfl) ?_
                  refine m_iast 28 (u) (by omega) hg hM rfl (by omega) (z_lt (n2 := 12) rfl (by omega)) (by decide) 151 rfl (dd_X12_test_1 21 _ _ _ rfl) (fun h116 hM => ?_)
                  refine r_aload_0 152 rfl (dd_X12_test_1 22 _ _ _ rfl) ?_
                  refine m_arr 25 hg hM (by decide) (by decide) (tb_6 81 _ rfl) 155 rfl (dd_X12_test_1 23 _ _ _ rfl) ?_ (fun _ _ _ => rfl)
                  refine r_iload_1 156 rfl (dd_X12_test_1 24 _ _ _ rfl) ?_
                  refine r_dup2 rfl rfl 157 rfl (dd_X12_test_1 25 _ _ _ rfl) ?_
                  refine m_iald 25 (u) (by omega) hg hM rfl (by omega) (z_lt (n2 := 12) rfl (by omega)) (by decide) 158 rfl (dd_X12_test_1 26 _ _ _ rfl) ?_
                  try simp (decide := true) only [zu2, false_and, and_false, and_true, true_and, and_self, if_true, if_false, reduceIte]
                  refine r_iconst 159 rfl (dd_X12_test_1 27 _ _ _ rfl) ?_
                  refine r_iadd 160 rfl (dd_X12_test_1 28 _ _ _ rfl) ?_
                  refine m_iast 25 (u) (by omega) hg hM rfl (by omega) (z_lt (n2 := 12) rfl (by omega)) (by decide) 161 rfl (dd_X12_test_1 29 _ _ _ rfl) (fun h117 hM => ?_)
                  refine r_aload_0 162 rfl (dd_X12_test_1 30 _ _ _ rfl) ?_
                  refine m_arr 26 hg hM (by decide) (by decide) (tb_6 82 _ rfl) 165 rfl (dd_X12_test_1 31 _ _ _ rfl) ?_ (fun _ _ _ => rfl)
                  refine r_iload_1 166 rfl (dd_X12_test_1 32 _ _ _ rfl) ?_
                  refine r_iload_2 167 rfl (dd_X12_test_1 33 _ _ _ rfl) ?_
                  refine m_iast 26 (u) (by omega) hg hM rfl (by omega) (z_lt (n2 := 12) rfl (by omega)) (by decide) 168 rfl (dd_X12_test_1 34 _ _ _ rfl) (fun h118 hM => ?_)
                  refine r_aload_0 169 rfl (dd_X12_test_1 35 _ _ _ rfl) ?_
                  refine m_arr 27 hg hM (by decide) (by decide) (tb_6 83 _ rfl) 172 rfl (dd_X12_test_1 36 _ _ _ rfl) ?_ (fun _ _ _ => rfl)
                  refine r_iload_1 173 rfl (dd_X12_test_1 37 _ _ _ rfl) ?_
                  refine r_iload_4 175 rfl (dd_X12_test_1 38 _ _ _ rfl) ?_
                  refine m_iast 27 (u) (by omega) hg hM rfl (by omega) (z_lt (n2 := 12) rfl (by omega)) (by decide) 176 rfl (dd_X12_test_1 39 _ _ _ rfl) (fun h119 hM => ?_)
                  refine r_iload_3 177 rfl (dd_X12_test_1 40 _ _ _ rfl) ?_
                  refine r_iconst 178 rfl (dd_X12_test_1 41 _ _ _ rfl) ?_
                  refine r_if_icmpne (by omega) (by omega) 181 rfl 185 rfl (dd_X12_test_1 42 _ _ _ rfl) (fun hc120 => ?_) (fun hc120 => ?_)
                  · refine r_iload_2 186 rfl (dd_X12_test_1 45 _ _ _ rfl) ?_
                    refine r_sipush (by decide) 189 rfl (dd_X12_test_1 46 _ _ _ rfl) ?_
                    refine r_iadd 190 rfl (dd_X12_test_1 47 _ _ _ rfl) ?_
                    refine r_istore_7 192 rfl (by decide) rfl (dd_X12_test_1 48 _ _ _ rfl) ?_
                    refine r_aload_0 193 rfl (dd_X12_test_1 49 _ _ _ rfl) ?_
                    refine m_arr 29 hg hM (by decide) (by decide) (tb_6 85 _ rfl) 196 rfl (dd_X12_test_1 50 _ _ _ rfl) ?_ (fun _ _ _ => rfl)
                    refine r_iload_1 197 rfl (dd_X12_test_1 51 _ _ _ rfl) ?_
                    refine r_iload_3 198 rfl (dd_X12_test_1 52 _ _ _ rfl) ?_
                    refine r_iconst 199 rfl (dd_X12_test_1 53 _ _ _ rfl) ?_
                    refine r_if_icmpne (by omega) (by omega) 202 rfl 227 rfl (dd_X12_test_1 54 _ _ _ rfl) (fun hc121 => ?_) (fun hc121 => ?_)
                    · refine r_iload_7 229 rfl (dd_X12_test_2 8 _ _ _ rfl) ?_
                      refine r_aload_0 230 rfl (dd_X12_test_2 9 _ _ _ rfl) ?_
                      refine m_arr 29 hg hM (by decide) (by decide) (tb_6 85 _ rfl) 233 rfl (dd_X12_test_2 10 _ _ _ rfl) ?_ (fun _ _ _ => rfl)
                      refine r_iload_1 234 rfl (dd_X12_test_2 11 _ _ _ rfl) ?_
                      refine m_iald 29 (u) (by omega) hg hM rfl (by omega) (z_lt (n2 := 12) rfl (by omega)) (by decide) 235 rfl (dd_X12_test_2 12 _ _ _ rfl) ?_
                      try simp (decide := true) only [zu2, false_and, and_false, and_true, true_and, and_self, if_true, if_false, reduceIte]
                      refine r_if_icmple (by omega) (by omega) 238 rfl 243 rfl (dd_X12_test_2 13 _ _ _ rfl) (fun hc122 => ?_) (fun hc122 => ?_)
                      · refine r_aload_0 244 rfl (dd_X12_test_2 16 _ _ _ rfl) ?_
                        refine m_arr 29 hg hM (by decide) (by decide) (tb_6 85 _ rfl) 247 rfl (dd_X12_test_2 17 _ _ _ rfl) ?_ (fun _ _ _ => rfl)
                        refine r_iload_1 248 rfl (dd_X12_test_2 18 _ _ _ rfl) ?_
                        refine m_iald 29 (u) (by omega) hg hM rfl (by omega) (z_lt (n2 := 12) rfl (by omega)) (by decide) 249 rfl (dd_X12_test_2 19 _ _ _ rfl) ?_
                        try simp (decide := true) only [zu2, false_and, and_false, and_true, true_and, and_self, if_true, if_false, reduceIte]
                        refine m_iast 29 (u) (by omega) hg hM rfl (by omega) (z_lt (n2 := 12) rfl (by omega)) (by decide) 250 rfl (dd_X12_test_2 20 _ _ _ rfl) (fun h123 hM => ?_)
                        refine r_aload_0 251 rfl (dd_X12_test_2 21 _ _ _ rfl) ?_
                        refine m_arr 29 hg hM (by decide) (by decide) (tb_6 85 _ rfl) 254 rfl (dd_X12_test_2 22 _ _ _ rfl) ?_ (fun _ _ _ => rfl)
                        refine r_iload_1 255 rfl (dd_X12_test_2 23 _ _ _ rfl) ?_
                        refine m_iald 29 (u) (by omega) hg hM rfl (by omega) (z_lt (n2 := 12) rfl (by omega)) (by decide) 256 rfl (dd_X12_test_2 24 _ _ _ rfl) ?_
                        try simp (decide := true) only [zu2, false_and, and_false, and_true, true_and, and_self, if_true, if_false, reduceIte]
                        refine r_ireturn rfl rfl (dd_X12_test_2 25 _ _ _ rfl) ?_
                        exact k0 u _ _ rfl (by omega) (by unfold ztestOK; first | (rw [if_pos (by omega)]; omega) | (rw [if_neg (by omega)]; omega)) (by omega) (by unfold zback; first | (rw [if_pos (by omega)]; done) | (rw [if_neg (by omega)]; done) | (exfalso; omega)) (by unfold zuntil; first | (rw [if_pos (by omega), if_pos (by omega)]; done) | (rw [if_pos (by omega), if_neg (by omega)]; done) | (rw [if_neg (by omega), if_pos (by omega)]; done) | (rw [if_neg (by omega), if_neg (by omega)]; done) | (exfalso; omega)) _ hM
                      · refine r_iload_7 240 rfl (dd_X12_test_2 14 _ _ _ rfl) ?_
                        refine r_goto 249 rfl (dd_X12_test_2 15 _ _ _ rfl) ?_
                        refine m_iast 29 (u) (by omega) hg hM rfl (by omega) (z_lt (n2 := 12) rfl (by omega)) (by decide) 250 rfl (dd_X12_test_2 20 _ _ _ rfl) (fun h124 hM => ?_)
                        refine r_aload_0 251 rfl (dd_X12_test_2 21 _ _ _ rfl) ?_
                        refine m_arr 29 hg hM (by decide) (by decide) (tb_6 85 _ rfl) 254 rfl (dd_X12_test_2 22 _ _ _ rfl) ?_ (fun _ _ _ => rfl)
                        refine r_iload_1 255 rfl (dd_X12_test_2 23 _ _ _ rfl) ?_
                        refine m_iald 29 (u) (by omega) hg hM rfl (by omega) (z_lt (n2 := 12) rfl (by omega)) (by decide) 256 rfl (dd_X12_test_2 24 _ _ _ rfl) ?_
                        try simp (decide := true) only [zu2, false_and, and_false, and_true, true_and, and_self, if_true, if_false, reduceIte]
                        refine r_ireturn rfl rfl (dd_X12_test_2 25 _ _ _ rfl) ?_
                        exact k0 u _ _ rfl (by omega) (by unfold ztestOK; first | (rw [if_pos (by omega)]; omega) | (rw [if_neg (by omega)]; omega)) (by omega) (by unfold zback; first | (rw [if_pos (by omega)]; done) | (rw [if_neg (by omega)]; done) | (exfalso; omega)) (by unfold zuntil; first | (rw [if_pos (by omega), if_pos (by omega)]; done) | (rw [if_pos (by omega), if_neg (by omega)]; done) | (rw [if_neg (by omega), if_pos (by omega)]; done) | (rw [if_neg (by omega), if_neg (by omega)]; done) | (exfalso; omega)) _ hM
                    · refine r_iload_7 204 rfl (dd_X12_test_1 55 _ _ _ rfl) ?_
                      refine r_aload_0 205 rfl (dd_X12_test_1 56 _ _ _ rfl) ?_
                      refine m_arr 29 hg hM (by decide) (by decide) (tb_6 85 _ rfl) 208 rfl (dd_X12_test_1 57 _ _ _ rfl) ?_ (fun _ _ _ => rfl)
                      refine r_iload_1 209 rfl (dd_X12_test_1 58 _ _ _ rfl) ?_
                      refine m_iald 29 (u) (by omega) hg hM rfl (by omega) (z_lt (n2 := 12) rfl (by omega)) (by decide) 210 rfl (dd_X12_test_1 59 _ _ _ rfl) ?_
                      try simp (decide := true) only [zu2, false_and, and_false, and_true, true_and, and_self, if_true, if_false, reduceIte]
                      refine r_if_icmpge (by omega) (by omega) 213 rfl 218 rfl (dd_X12_test_2 0 _ _ _ rfl) (fun hc125 => ?_) (fun hc125 => ?_)
                      · refine r_aload_0 219 rfl (dd_X12_test_2 3 _ _ _ rfl) ?_
                        refine m_arr 29 hg hM (by decide) (by decide) (tb_6 85 _ rfl) 222 rfl (dd_X12_test_2 4 _ _ _ rfl) ?_ (fun _ _ _ => rfl)
                        refine r_iload_1 223 rfl (dd_X12_test_2 5 _ _ _ rfl) ?_
                        refine m_iald 29 (u) (by omega) hg hM rfl (by omega) (z_lt (n2 := 12) rfl (by omega)) (by decide) 224 rfl (dd_X12_test_2 6 _ _ _ rfl) ?_
                        try simp (decide := true) only [zu2, false_and, and_false, and_true, true_and, and_self, if_true, if_false, reduceIte]
                        refine r_goto 249 rfl (dd_X12_test_2 7 _ _ _ rfl) ?_
                        refine m_iast 29 (u) (by omega) hg hM rfl (by omega) (z_lt (n2 := 12) rfl (by omega)) (by decide) 250 rfl (dd_X12_test_2 20 _ _ _ rfl) (fun h126 hM => ?_)
                        refine r_aload_0 251 rfl (dd_X12_test_2 21 _ _ _ rfl) ?_
                        refine m_arr 29 hg hM (by decide) (by decide) (tb_6 85 _ rfl) 254 rfl (dd_X12_test_2 22 _ _ _ rfl) ?_ (fun _ _ _ => rfl)
                        refine r_iload_1 255 rfl (dd_X12_test_2 23 _ _ _ rfl) ?_
                        refine m_iald 29 (u) (by omega) hg hM rfl (by omega) (z_lt (n2 := 12) rfl (by omega)) (by decide) 256 rfl (dd_X12_test_2 24 _ _ _ rfl) ?_
                        try simp (decide := true) only [zu2, false_and, and_false, and_true, true_and, and_self, if_true, if_false, reduceIte]
                        refine r_ireturn rfl rfl (dd_X12_test_2 25 _ _ _ rfl) ?_
                        exact k0 u _ _ rfl (by omega) (by unfold ztestOK; first | (rw [if_pos (by omega)]; omega) | (rw [if_neg (by omega)]; omega)) (by omega) (by unfold zback; first | (rw [if_pos (by omega)]; done) | (rw [if_neg (by omega)]; done) | (exfalso; omega)) (by unfold zuntil; first | (rw [if_pos (by omega), if_pos (by omega)]; done) | (rw [if_pos (by omega), if_neg (by omega)]; done) | (rw [if_neg (by omega), if_pos (by omega)]; done) | (rw [if_neg (by omega), if_neg (by omega)]; done) | (exfalso; omega)) _ hM
                      · refine r_iload_7 215 rfl (dd_X12_test_2 1 _ _ _ rfl) ?_
                        refine r_goto 249 rfl (dd_X12_test_2 2 _ _ _ rfl) ?_
                        refine m_iast 29 (u) (by omega) hg hM rfl (by omega) (z_lt (n2 := 12) rfl (by omega)) (by decide) 250 rfl (dd_X12_test_2 20 _ _ _ rfl) (fun h127 hM => ?_)
                        refine r_aload_0 251 rfl (dd_X12_test_2 21 _ _ _ rfl) ?_
                        refine m_arr 29 hg hM (by decide) (by decide) (tb_6 85 _ rfl) 254 rfl (dd_X12_test_2 22 _ _ _ rfl) ?_ (fun _ _ _ => rfl)
                        refine r_iload_1 255 rfl (dd_X12_test_2 23 _ _ _ rfl) ?_
                        refine m_iald 29 (u) (by omega) hg hM rfl (by omega) (z_lt (n2 := 12) rfl (by omega)) (by decide) 256 rfl (dd_X12_test_2 24 _ _ _ rfl) ?_
                        try simp (decide := true) only [zu2, false_and, and_false, and_true, true_and, and_self, if_true, if_false, reduceIte]
                        refine r_ireturn rfl rfl (dd_X12_test_2 25 _ _ _ rfl) ?_
                        exact k0 u _ _ rfl (by omega) (by unfold ztestOK; first | (rw [if_pos (by omega)]; omega) | (rw [if_neg (by omega)]; omega)) (by omega) (by unfold zback; first | (rw [if_pos (by omega)]; done) | (rw [if_neg (by omega)]; done) | (exfalso; omega)) (by unfold zuntil; first | (rw [if_pos (by omega), if_pos (by omega)]; done) | (rw [if_pos (by omega), if_neg (by omega)]; done) | (rw [if_neg (by omega), if_pos (by omega)]; done) | (rw [if_neg (by omega), if_neg (by omega)]; done) | (exfalso; omega)) _ hM
                  · refine r_iload_2 182 rfl (dd_X12_test_1 43 _ _ _ rfl) ?_
                    refine r_goto 190 rfl (dd_X12_test_1 44 _ _ _ rfl) ?_
                    refine r_istore_7 192 rfl (by decide) rfl (dd_X12_test_1 48 _ _ _ rfl) ?_
                    refine r_aload_0 193 rfl (dd_X12_test_1 49 _ _ _ rfl) ?_
                    refine m_arr 29 hg hM (by decide) (by decide) (tb_6 85 _ rfl) 196 rfl (dd_X12_test_1 50 _ _ _ rfl) ?_ (fun _ _ _ => rfl)
                    refine r_iload_1 197 rfl (dd_X12_test_1 51 _ _ _ rfl) ?_
                    refine r_iload_3 198 rfl (dd_X12_test_1 52 _ _ _ rfl) ?_
                    refine r_iconst 199 rfl (dd_X12_test_1 53 _ _ _ rfl) ?_
                    refine r_if_icmpne (by omega) (by omega) 202 rfl 227 rfl (dd_X12_test_1 54 _ _ _ rfl) (fun hc128 => ?_) (fun hc128 => ?_)
                    · refine r_iload_7 229 rfl (dd_X12_test_2 8 _ _ _ rfl) ?_
                      refine r_aload_0 230 rfl (dd_X12_test_2 9 _ _ _ rfl) ?_
                      refine m_arr 29 hg hM (by decide) (by decide) (tb_6 85 _ rfl) 233 rfl (dd_X12_test_2 10 _ _ _ rfl) ?_ (fun _ _ _ => rfl)
                      refine r_iload_1 234 rfl (dd_X12_test_2 11 _ _ _ rfl) ?_
                      refine m_iald 29 (u) (by omega) hg hM rfl (by omega) (z_lt (n2 := 12) rfl (by omega)) (by decide) 235 rfl (dd_X12_test_2 12 _ _ _ rfl) ?_
                      try simp (decide := true) only [zu2, false_and, and_false, and_true, true_and, and_self, if_true, if_false, reduceIte]
                      refine r_if_icmple (by omega) (by omega) 238 rfl 243 rfl (dd_X12_test_2 13 _ _ _ rfl) (fun hc129 => ?_) (fun hc129 => ?_)
                      · refine r_aload_0 244 rfl (dd_X12_test_2 16 _ _ _ rfl) ?_
                        refine m_arr 29 hg hM (by decide) (by decide) (tb_6 85 _ rfl) 247 rfl (dd_X12_test_2 17 _ _ _ rfl) ?_ (fun _ _ _ => rfl)
                        refine r_iload_1 248 rfl (dd_X12_test_2 18 _ _ _ rfl) ?_
                        refine m_iald 29 (u) (by omega) hg hM rfl (by omega) (z_lt (n2 := 12) rfl (by omega)) (by decide) 249 rfl (dd_X12_test_2 19 _ _ _ rfl) ?_
                        try simp (decide := true) only [zu2, false_and, and_false, and_true, true_and, and_self, if_true, if_false, reduceIte]
                        refine m_iast 29 (u) (by omega) hg hM rfl (by omega) (z_lt (n2 := 12) rfl (by omega)) (by decide) 250 rfl (dd_X12_test_2 20 _ _ _ rfl) (fun h130 hM => ?_)
                        refine r_aload_0 251 rfl (dd_X12_test_2 21 _ _ _ rfl) ?_
                        refine m_arr 29 hg hM (by decide) (by decide) (tb_6 85 _ rfl) 254 rfl (dd_X12_test_2 22 _ _ _ rfl) ?_ (fun _ _ _ => rfl)
                        refine r_iload_1 255 rfl (dd_X12_test_2 23 _ _ _ rfl) ?_
                        refine m_iald 29 (u) (by omega) hg hM rfl (by omega) (z_lt (n2 := 12) rfl (by omega)) (by decide) 256 rfl (dd_X12_test_2 24 _ _ _ rfl) ?_
                        try simp (decide := true) only [zu2, false_and, and_false, and_true, true_and, and_self, if_true, if_false, reduceIte]
                        refine r_ireturn rfl rfl (dd_X12_test_2 25 _ _ _ rfl) ?_
                        exact k0 u _ _ rfl (by omega) (by unfold ztestOK; first | (rw [if_pos (by omega)]; omega) | (rw [if_neg (by omega)]; omega)) (by omega) (by unfold zback; first | (rw [if_pos (by omega)]; done) | (rw [if_neg (by omega)]; done) | (exfalso; omega)) (by unfold zuntil; first | (rw [if_pos (by omega), if_pos (by omega)]; done) | (rw [if_pos (by omega), if_neg (by omega)]; done) | (rw [if_neg (by omega), if_pos (by omega)]; done) | (rw [if_neg (by omega), if_neg (by omega)]; done) | (exfalso; omega)) _ hM
                      · refine r_iload_7 240 rfl (dd_X12_test_2 14 _ _ _ rfl) ?_
                        refine r_goto 249 rfl (dd_X12_test_2 15 _ _ _ rfl) ?_
                        refine m_iast 29 (u) (by omega) hg hM rfl (by omega) (z_lt (n2 := 12) rfl (by omega)) (by decide) 250 rfl (dd_X12_test_2 20 _ _ _ rfl) (fun h131 hM => ?_)
                        refine r_aload_0 251 rfl (dd_X12_test_2 21 _ _ _ rfl) ?_
                        refine m_arr 29 hg hM (by decide) (by decide) (tb_6 85 _ rfl) 254 rfl (dd_X12_test_2 22 _ _ _ rfl) ?_ (fun _ _ _ => rfl)
                        refine r_iload_1 255 rfl (dd_X12_test_2 23 _ _ _ rfl) ?_
                        refine m_iald 29 (u) (by omega) hg hM rfl (by omega) (z_lt (n2 := 12) rfl (by omega)) (by decide) 256 rfl (dd_X12_test_2 24 _ _ _ rfl) ?_
                        try simp (decide := true) only [zu2, false_and, and_false, and_true, true_and, and_self, if_true, if_false, reduceIte]
                        refine r_ireturn rfl rfl (dd_X12_test_2 25 _ _ _ rfl) ?_
                        exact k0 u _ _ rfl (by omega) (by unfold ztestOK; first | (rw [if_pos (by omega)]; omega) | (rw [if_neg (by omega)]; omega)) (by omega) (by unfold zback; first | (rw [if_pos (by omega)]; done) | (rw [if_neg (by omega)]; done) | (exfalso; omega)) (by unfold zuntil; first | (rw [if_pos (by omega), if_pos (by omega)]; done) | (rw [if_pos (by omega), if_neg (by omega)]; done) | (rw [if_neg (by omega), if_pos (by omega)]; done) | (rw [if_neg (by omega), if_neg (by omega)]; done) | (exfalso; omega)) _ hM
                    · refine r_iload_7 204 rfl (dd_X12_test_1 55 _ _ _ rfl) ?_
                      refine r_aload_0 205 rfl (dd_X12_test_1 56 _ _ _ rfl) ?_
                      refine m_arr 29 hg hM (by decide) (by decide) (tb_6 85 _ rfl) 208 rfl (dd_X12_test_1 57 _ _ _ rfl) ?_ (fun _ _ _ => rfl)
                      refine r_iload_1 209 rfl (dd_X12_test_1 58 _ _ _ rfl) ?_
                      refine m_iald 29 (u) (by omega) hg hM rfl (by omega) (z_lt (n2 := 12) rfl (by omega)) (by decide) 210 rfl (dd_X12_test_1 59 _ _ _ rfl) ?_
                      try simp (decide := true) only [zu2, false_and, and_false, and_true, true_and, and_self, if_true, if_false, reduceIte]
                      refine r_if_icmpge (by omega) (by omega) 213 rfl 218 rfl (dd_X12_test_2 0 _ _ _ rfl) (fun hc132 => ?_) (fun hc132 => ?_)
                      · refine r_aload_0 219 rfl (dd_X12_test_2 3 _ _ _ rfl) ?_
                        refine m_arr 29 hg hM (by decide) (by decide) (tb_6 85 _ rfl) 222 rfl (dd_X12_test_2 4 _ _ _ rfl) ?_ (fun _ _ _ => rfl)
                        refine r_iload_1 223 rfl (dd_X12_test_2 5 _ _ _ rfl) ?_
                        refine m_iald 29 (u) (by omega) hg hM rfl (by omega) (z_lt (n2 := 12) rfl (by omega)) (by decide) 224 rfl (dd_X12_test_2 6 _ _ _ rfl) ?_
                        try simp (decide := true) only [zu2, false_and, and_false, and_true, true_and, and_self, if_true, if_false, reduceIte]
                        refine r_goto 249 rfl (dd_X12_test_2 7 _ _ _ rfl) ?_
                        refine m_iast 29 (u) (by omega) hg hM rfl (by omega) (z_lt (n2 := 12) rfl (by omega)) (by decide) 250 rfl (dd_X12_test_2 20 _ _ _ rfl) (fun h133 hM => ?_)
                        refine r_aload_0 251 rfl (dd_X12_test_2 21 _ _ _ rfl) ?_
                        refine m_arr 29 hg hM (by decide) (by decide) (tb_6 85 _ rfl) 254 rfl (dd_X12_test_2 22 _ _ _ rfl) ?_ (fun _ _ _ => rfl)
                        refine r_iload_1 255 rfl (dd_X12_test_2 23 _ _ _ rfl) ?_
                        refine m_iald 29 (u) (by omega) hg hM rfl (by omega) (z_lt (n2 := 12) rfl (by omega)) (by decide) 256 rfl (dd_X12_test_2 24 _ _ _ rfl) ?_
                        try simp (decide := true) only [zu2, false_and, and_false, and_true, true_and, and_self, if_true, if_false, reduceIte]
                        refine r_ireturn rfl rfl (dd_X12_test_2 25 _ _ _ rfl) ?_
                        exact k0 u _ _ rfl (by omega) (by unfold ztestOK; first | (rw [if_pos (by omega)]; omega) | (rw [if_neg (by omega)]; omega)) (by omega) (by unfold zback; first | (rw [if_pos (by omega)]; done) | (rw [if_neg (by omega)]; done) | (exfalso; omega)) (by unfold zuntil; first | (rw [if_pos (by omega), if_pos (by omega)]; done) | (rw [if_pos (by omega), if_neg (by omega)]; done) | (rw [if_neg (by omega), if_pos (by omega)]; done) | (rw [if_neg (by omega), if_neg (by omega)]; done) | (exfalso; omega)) _ hM
                      · refine r_iload_7 215 rfl (dd_X12_test_2 1 _ _ _ rfl) ?_
                        refine r_goto 249 rfl (dd_X12_test_2 2 _ _ _ rfl) ?_
                        refine m_iast 29 (u) (by omega) hg hM rfl (by omega) (z_lt (n2 := 12) rfl (by omega)) (by decide) 250 rfl (dd_X12_test_2 20 _ _ _ rfl) (fun h134 hM => ?_)
                        refine r_aload_0 251 rfl (dd_X12_test_2 21 _ _ _ rfl) ?_
                        refine m_arr 29 hg hM (by decide) (by decide) (tb_6 85 _ rfl) 254 rfl (dd_X12_test_2 22 _ _ _ rfl) ?_ (fun _ _ _ => rfl)
                        refine r_iload_1 255 rfl (dd_X12_test_2 23 _ _ _ rfl) ?_
                        refine m_iald 29 (u) (by omega) hg hM rfl (by omega) (z_lt (n2 := 12) rfl (by omega)) (by decide) 256 rfl (dd_X12_test_2 24 _ _ _ rfl) ?_
                        try simp (decide := true) only [zu2, false_and, and_false, and_true, true_and, and_self, if_true, if_false, reduceIte]
                        refine r_ireturn rfl rfl (dd_X12_test_2 25 _ _ _ rfl) ?_
                        exact k0 u _ _ rfl (by omega) (by unfold ztestOK; first | (rw [if_pos (by omega)]; omega) | (rw [if_neg (by omega)]; omega)) (by omega) (by unfold zback; first | (rw [if_pos (by omega)]; done) | (rw [if_neg (by omega)]; done) | (exfalso; omega)) (by unfold zuntil; first | (rw [if_pos (by omega), if_pos (by omega)]; done) | (rw [if_pos (by omega), if_neg (by omega)]; done) | (rw [if_neg (by omega), if_pos (by omega)]; done) | (rw [if_neg (by omega), if_neg (by omega)]; done) | (exfalso; omega)) _ hM
            · refine r_iconst 105 rfl (dd_X12_test_0 54 _ _ _ rfl) ?_
              refine r_goto 109 rfl (dd_X12_test_0 55 _ _ _ rfl) ?_
              refine r_callV1 (lvl := 10) (mc1 := 0) (ms1 := 0) 0 0 hg rfl md_X12_goesWell zc_X12 hM.kd wi_X12_goesWell wv_X12_goesWell (tb_6 197 _ rfl) (by decide) (by decide) rfl (Nat.le_of_ble_eq_true rfl) (by decide) (by decide) 112 rfl (dd_X12_test_0 57 _ _ _ rfl) ?_
              refine c_X12_goesWell hg hM (by decide) (fun q => absurd q (by decide)) (fun _ h135 hM => ?_)
              dsimp only [zCont, Option.toList, List.cons_append, List.nil_append]
              refine r_ifne (by omega) 115 rfl 117 rfl (dd_X12_test_0 58 _ _ _ rfl) (fun q => absurd q (by decide)) (fun _ => ?_)
              refine r_iconst 116 rfl (dd_X12_test_0 59 _ _ _ rfl) ?_
              refine r_ireturn rfl rfl (dd_X12_test_1 0 _ _ _ rfl) ?_
              first | exact k1 (by omega) _ hM | exact k2 u rfl (by omega) (by unfold ztestOK; first | (rw [if_pos (by omega)]; omega) | (rw [if_neg (by omega)]; omega)) _ hM | exact k3 u rfl (by omega) (by unfold ztestOK; first | (rw [if_pos (by omega)]; omega) | (rw [if_neg (by omega)]; omega)) (by omega) _ hM
          · dsimp only [zCont, Option.toList, List.cons_append, List.nil_append]
            refine r_ifeq (by omega) 67 rfl 71 rfl (dd_X12_test_0 34 _ _ _ rfl) (fun _ => ?_) (fun q => absurd q (by decide))
            refine r_iconst 72 rfl (dd_X12_test_0 37 _ _ _ rfl) ?_
            refine r_istore_6 74 rfl (by decide) rfl (dd_X12_test_0 38 _ _ _ rfl) ?_
            refine r_aload_0 75 rfl (dd_X12_test_0 39 _ _ _ rfl) ?_
            refine r_iload_5 77 rfl (dd_X12_test_0 40 _ _ _ rfl) ?_
            refine r_ifne (by omega) 80 rfl 84 rfl (dd_X12_test_0 41 _ _ _ rfl) (fun _ => ?_) (fun q => absurd q (by decide))
            refine r_iload_6 86 rfl (dd_X12_test_0 44 _ _ _ rfl) ?_
            refine r_ifne (by omega) 89 rfl 93 rfl (dd_X12_test_0 45 _ _ _ rfl) (fun q => absurd q (by decide)) (fun _ => ?_)
            refine r_iconst 90 rfl (dd_X12_test_0 46 _ _ _ rfl) ?_
            refine r_goto 109 rfl (dd_X12_test_0 47 _ _ _ rfl) ?_
            refine r_callV1 (lvl := 10) (mc1 := 0) (ms1 := 0) 0 0 hg rfl md_X12_goesWell zc_X12 hM.kd wi_X12_goesWell wv_X12_goesWell (tb_6 197 _ rfl) (by decide) (by decide) rfl (Nat.le_of_ble_eq_true rfl) (by decide) (by decide) 112 rfl (dd_X12_test_0 57 _ _ _ rfl) ?_
            refine c_X12_goesWell hg hM (by decide) (fun q => absurd q (by decide)) (fun _ h136 hM => ?_)
            dsimp only [zCont, Option.toList, List.cons_append, List.nil_append]
            refine r_ifne (by omega) 115 rfl 117 rfl (dd_X12_test_0 58 _ _ _ rfl) (fun q => absurd q (by decide)) (fun _ => ?_)
            refine r_iconst 116 rfl (dd_X12_test_0 59 _ _ _ rfl) ?_
            refine r_ireturn rfl rfl (dd_X12_test_1 0 _ _ _ rfl) ?_
            first | exact k1 (by omega) _ hM | exact k2 u rfl (by omega) (by unfold ztestOK; first | (rw [if_pos (by omega)]; omega) | (rw [if_neg (by omega)]; omega)) _ hM | exact k3 u rfl (by omega) (by unfold ztestOK; first | (rw [if_pos (by omega)]; omega) | (rw [if_neg (by omega)]; omega)) (by omega) _ hM
        · dsimp only [zCont, Option.toList, List.cons_append, List.nil_append]
          refine r_ifeq (by omega) 56 rfl 71 rfl (dd_X12_test_0 29 _ _ _ rfl) (fun _ => ?_) (fun q => absurd q (by decide))
          refine r_iconst 72 rfl (dd_X12_test_0 37 _ _ _ rfl) ?_
          refine r_istore_6 74 rfl (by decide) rfl (dd_X12_test_0 38 _ _ _ rfl) ?_
          refine r_aload_0 75 rfl (dd_X12_test_0 39 _ _ _ rfl) ?_
          refine r_iload_5 77 rfl (dd_X12_test_0 40 _ _ _ rfl) ?_
          refine r_ifne (by omega) 80 rfl 84 rfl (dd_X12_test_0 41 _ _ _ rfl) (fun _ => ?_) (fun q => absurd q (by decide))
          refine r_iload_6 86 rfl (dd_X12_test_0 44 _ _ _ rfl) ?_
          refine r_ifne (by omega) 89 rfl 93 rfl (dd_X12_test_0 45 _ _ _ rfl) (fun q => absurd q (by decide)) (fun _ => ?_)
          refine r_iconst 90 rfl (dd_X12_test_0 46 _ _ _ rfl) ?_
          refine r_goto 109 rfl (dd_X12_test_0 47 _ _ _ rfl) ?_
          refine r_callV1 (lvl := 10) (mc1 := 0) (ms1 := 0) 0 0 hg rfl md_X12_goesWell zc_X12 hM.kd wi_X12_goesWell wv_X12_goesWell (tb_6 197 _ rfl) (by decide) (by decide) rfl (Nat.le_of_ble_eq_true rfl) (by decide) (by decide) 112 rfl (dd_X12_test_0 57 _ _ _ rfl) ?_
          refine c_X12_goesWell hg hM (by decide) (fun q => absurd q (by decide)) (fun _ h137 hM => ?_)
          dsimp only [zCont, Option.toList, List.cons_append, List.nil_append]
          refine r_ifne (by omega) 115 rfl 117 rfl (dd_X12_test_0 58 _ _ _ rfl) (fun q => absurd q (by decide)) (fun _ => ?_)
          refine r_iconst 116 rfl (dd_X12_test_0 59 _ _ _ rfl) ?_
          refine r_ireturn rfl rfl (dd_X12_test_1 0 _ _ _ rfl) ?_
          first | exact k1 (by omega) _ hM | exact k2 u rfl (by omega) (by unfold ztestOK; first | (rw [if_pos (by omega)]; omega) | (rw [if_neg (by omega)]; omega)) _ hM | exact k3 u rfl (by omega) (by unfold ztestOK; first | (rw [if_pos (by omega)]; omega) | (rw [if_neg (by omega)]; omega)) (by omega) _ hM
      · dsimp only [zCont, Option.toList, List.cons_append, List.nil_append]
        refine r_ifeq (by omega) 47 rfl 71 rfl (dd_X12_test_0 24 _ _ _ rfl) (fun _ => ?_) (fun q => absurd q (by decide))
        refine r_iconst 72 rfl (dd_X12_test_0 37 _ _ _ rfl) ?_
        refine r_istore_6 74 rfl (by decide) rfl (dd_X12_test_0 38 _ _ _ rfl) ?_
        refine r_aload_0 75 rfl (dd_X12_test_0 39 _ _ _ rfl) ?_
        refine r_iload_5 77 rfl (dd_X12_test_0 40 _ _ _ rfl) ?_
        refine r_ifne (by omega) 80 rfl 84 rfl (dd_X12_test_0 41 _ _ _ rfl) (fun _ => ?_) (fun q => absurd q (by decide))
        refine r_iload_6 86 rfl (dd_X12_test_0 44 _ _ _ rfl) ?_
        refine r_ifne (by omega) 89 rfl 93 rfl (dd_X12_test_0 45 _ _ _ rfl) (fun q => absurd q (by decide)) (fun _ => ?_)
        refine r_iconst 90 rfl (dd_X12_test_0 46 _ _ _ rfl) ?_
        refine r_goto 109 rfl (dd_X12_test_0 47 _ _ _ rfl) ?_
        refine r_callV1 (lvl := 10) (mc1 := 0) (ms1 := 0) 0 0 hg rfl md_X12_goesWell zc_X12 hM.kd wi_X12_goesWell wv_X12_goesWell (tb_6 197 _ rfl) (by decide) (by decide) rfl (Nat.le_of_ble_eq_true rfl) (by decide) (by decide) 112 rfl (dd_X12_test_0 57 _ _ _ rfl) ?_
        refine c_X12_goesWell hg hM (by decide) (fun q => absurd q (by decide)) (fun _ h138 hM => ?_)
        dsimp only [zCont, Option.toList, List.cons_append, List.nil_append]
        refine r_ifne (by omega) 115 rfl 117 rfl (dd_X12_test_0 58 _ _ _ rfl) (fun q => absurd q (by decide)) (fun _ => ?_)
        refine r_iconst 116 rfl (dd_X12_test_0 59 _ _ _ rfl) ?_
        refine r_ireturn rfl rfl (dd_X12_test_1 0 _ _ _ rfl) ?_
        first | exact k1 (by omega) _ hM | exact k2 u rfl (by omega) (by unfold ztestOK; first | (rw [if_pos (by omega)]; omega) | (rw [if_neg (by omega)]; omega)) _ hM | exact k3 u rfl (by omega) (by unfold ztestOK; first | (rw [if_pos (by omega)]; omega) | (rw [if_neg (by omega)]; omega)) (by omega) _ hM
  · dsimp only [zCont, Option.toList, List.cons_append, List.nil_append]
    refine r_istore_5 7 rfl (by decide) rfl (dd_X12_test_0 3 _ _ _ rfl) ?_
    refine r_iload_5 9 rfl (dd_X12_test_0 4 _ _ _ rfl) ?_
    refine r_ifeq (by omega) 12 rfl 71 rfl (dd_X12_test_0 5 _ _ _ rfl) (fun _ => ?_) (fun q => absurd q (by decide))
    refine r_iconst 72 rfl (dd_X12_test_0 37 _ _ _ rfl) ?_
    refine r_istore_6 74 rfl (by decide) rfl (dd_X12_test_0 38 _ _ _ rfl) ?_
    refine r_aload_0 75 rfl (dd_X12_test_0 39 _ _ _ rfl) ?_
    refine r_iload_5 77 rfl (dd_X12_test_0 40 _ _ _ rfl) ?_
    refine r_ifne (by omega) 80 rfl 84 rfl (dd_X12_test_0 41 _ _ _ rfl) (fun q => absurd q (by decide)) (fun _ => ?_)
    refine r_iconst 81 rfl (dd_X12_test_0 42 _ _ _ rfl) ?_
    refine r_goto 109 rfl (dd_X12_test_0 43 _ _ _ rfl) ?_
    refine r_callV1 (lvl := 10) (mc1 := 0) (ms1 := 0) 0 0 hg rfl md_X12_goesWell zc_X12 hM.kd wi_X12_goesWell wv_X12_goesWell (tb_6 197 _ rfl) (by decide) (by decide) rfl (Nat.le_of_ble_eq_true rfl) (by decide) (by decide) 112 rfl (dd_X12_test_0 57 _ _ _ rfl) ?_
    refine c_X12_goesWell hg hM (by decide) (fun q => absurd q (by decide)) (fun _ h139 hM => ?_)
    dsimp only [zCont, Option.toList, List.cons_append, List.nil_append]
    refine r_ifne (by omega) 115 rfl 117 rfl (dd_X12_test_0 58 _ _ _ rfl) (fun q => absurd q (by decide)) (fun _ => ?_)
    refine r_iconst 116 rfl (dd_X12_test_0 59 _ _ _ rfl) ?_
    refine r_ireturn rfl rfl (dd_X12_test_1 0 _ _ _ rfl) ?_
    first | exact k1 (by omega) _ hM | exact k2 u rfl (by omega) (by unfold ztestOK; first | (rw [if_pos (by omega)]; omega) | (rw [if_neg (by omega)]; omega)) _ hM | exact k3 u rfl (by omega) (by unfold ztestOK; first | (rw [if_pos (by omega)]; omega) | (rw [if_neg (by omega)]; omega)) (by omega) _ hM

abbrev mX12_isSight : zM := (RX12, cX12_isSight, 3, (Option.some Jvm.ClassFile.FieldType.boolean), [], "isSight", 12)
set_option maxRecDepth 20000 in
theorem c_X12_isSight {g : zGT} {Q : zO → zH → Prop} {h : zH} (hg : zG g) {h0 : zH} {m : Nat} {A : Nat → Nat} {S : zS} {n : Nat} {t : Int} (hI : MInv n S) (hM : MI h0 m A S t h) (k1 : zsightOK S → Q (.inl (some (.int (zI 1)))) h) (k0 : ¬ zsightOK S → Q (.inl (some (.int (zI 0)))) h) : zC g (.code yX12_isSight cX12_isSight 3 (Option.some Jvm.ClassFile.FieldType.boolean)) yX12_isSight 12 0 0 [.ref m] h Q := by
  refine zC_of (M := mX12_isSight) (lv := [some (.ref m), none, none]) (by decide) rfl rfl (Nat.le_of_ble_eq_true rfl) rfl rfl ?_
  have e1 := hI.signs
  refine r_aload_0 1 rfl (dd_X12_isSight 0 _ _ _ rfl) ?_
  refine m_get 2 hg hM (by unfold z_free; decide) rfl (by decide) (tb_6 58 _ rfl) 4 rfl (dd_X12_isSight 1 _ _ _ rfl) ?_ (fun _ _ _ => rfl)
  refine r_iconst 5 rfl (dd_X12_isSight 2 _ _ _ rfl) ?_
  refine r_if_icmpne (by omega) (by omega) 8 rfl 12 rfl (dd_X12_isSight 3 _ _ _ rfl) (fun hc1 => ?_) (fun hc1 => ?_)
  · refine r_iconst 13 rfl (dd_X12_isSight 6 _ _ _ rfl) ?_
    refine r_istore_1 14 rfl (by decide) rfl (dd_X12_isSight 7 _ _ _ rfl) ?_
    refine r_iconst 15 rfl (dd_X12_isSight 8 _ _ _ rfl) ?_
    refine r_istore_2 16 rfl (by decide) rfl (dd_X12_isSight 9 _ _ _ rfl) ?_
    have L16 : ∀ (tt : Nat), ∀ (j : Nat) (b d : Int), 10 - j < tt → (b = j) → (j ≤ 4) → (0 ≤ d ∧ d ≤ 1) → (d = 1 → S.1 2 = 4 ∧ ∀ i, i < j → zbuf S i) → (d = 0 → ¬ zsightOK S) → zX g mX12_isSight 0 0 Q 16 [some (.ref m), some (.int (zI d)), some (.int (zI b))] [] h 0 0 := by
      intro tt16
      induction tt16 with
      | zero => intros; exfalso; omega
      | succ tt16 ih16 =>
        intro j b d hlt16 hb hj hd01 hd1 hd0
        subst hb
        have e2 := hI.buffer j
        refine r_iload_2 17 rfl (dd_X12_isSight 10 _ _ _ rfl) ?_
        refine r_iconst 18 rfl (dd_X12_isSight 11 _ _ _ rfl) ?_
        refine r_if_icmpge (by omega) (by omega) 21 rfl 84 rfl (dd_X12_isSight 12 _ _ _ rfl) (fun hc2 => ?_) (fun hc2 => ?_)
        · refine r_iload_1 85 rfl (dd_X12_isSight 45 _ _ _ rfl) ?_
          refine r_ireturn rfl (by rcases (show d = 0 ∨ d = 1 by omega) with q | q <;> rw [q] <;> rfl) (dd_X12_isSight 46 _ _ _ rfl) ?_
          rcases (show d = 0 ∨ d = 1 by omega) with rfl | rfl
          · exact k0 (hd0 rfl)
          · exact k1 (zsight_yes (hd1 rfl).1 (by have := (hd1 rfl).2; intro i hi; exact this i (by omega)))
        · refine r_iload_1 22 rfl (dd_X12_isSight 13 _ _ _ rfl) ?_
          refine r_ifeq (by omega) 25 rfl 76 rfl (dd_X12_isSight 14 _ _ _ rfl) (fun hc3 => ?_) (fun hc3 => ?_)
          · refine r_iconst 77 rfl (dd_X12_isSight 41 _ _ _ rfl) ?_
            refine r_istore_1 78 rfl (by decide) rfl (dd_X12_isSight 42 _ _ _ rfl) ?_
            refine r_iinc_2 81 rfl (by decide) rfl (dd_X12_isSight 43 _ _ _ rfl) ?_
            refine r_goto 16 rfl (dd_X12_isSight 44 _ _ _ rfl) ?_
            exact r_sub _ (z_s1 (z_s1 (z_s1 z_sN))) (ih16 (j + 1) _ _ (by omega) (by omega) (by omega) (by omega) (by first | exact fun q => absurd q (by decide) | exact fun _ => ⟨(hd1 (by omega)).1, lt_s (hd1 (by omega)).2 (by first | exact Or.inl (by omega) | (refine Or.inr ?_; first | (rw [if_pos (by omega)]; omega) | (rw [if_neg (by omega)]; omega)))⟩) (by first | exact fun q => absurd q (by decide) | exact fun _ q => hd0 (by omega) q | exact fun _ q => zsight_no (j := j) (by omega) q (fun z => by rcases z with z | z; exact absurd z (by omega); first | (rw [if_pos (by omega)] at z; omega) | (rw [if_neg (by omega)] at z; omega))))
          · refine r_aload_0 26 rfl (dd_X12_isSight 15 _ _ _ rfl) ?_
            refine m_arr 3 hg hM (by decide) (by decide) (tb_6 59 _ rfl) 29 rfl (dd_X12_isSight 16 _ _ _ rfl) ?_ (fun _ _ _ => rfl)
            refine r_iload_2 30 rfl (dd_X12_isSight 17 _ _ _ rfl) ?_
            refine m_cald 3 (j) (by omega) hg hM rfl (by omega) (z_lt (n2 := 8) rfl (by omega)) (by decide) 31 rfl (dd_X12_isSight 18 _ _ _ rfl) ?_
            refine r_bipush (by decide) 33 rfl (dd_X12_isSight 19 _ _ _ rfl) ?_
            refine r_if_icmpeq (by omega) (by omega) 36 rfl 72 rfl (dd_X12_isSight 20 _ _ _ rfl) (fun hc4 => ?_) (fun hc4 => ?_)
            · refine r_iconst 73 rfl (dd_X12_isSight 39 _ _ _ rfl) ?_
              refine r_goto 77 rfl (dd_X12_isSight 40 _ _ _ rfl) ?_
              refine r_istore_1 78 rfl (by decide) rfl (dd_X12_isSight 42 _ _ _ rfl) ?_
              refine r_iinc_2 81 rfl (by decide) rfl (dd_X12_isSight 43 _ _ _ rfl) ?_
              refine r_goto 16 rfl (dd_X12_isSight 44 _ _ _ rfl) ?_
              exact r_sub _ (z_s1 (z_s1 (z_s1 z_sN))) (ih16 (j + 1) _ _ (by omega) (by omega) (by omega) (by omega) (by first | exact fun q => absurd q (by decide) | exact fun _ => ⟨(hd1 (by omega)).1, lt_s (hd1 (by omega)).2 (by first | exact Or.inl (by omega) | (refine Or.inr ?_; first | (rw [if_pos (by omega)]; omega) | (rw [if_neg (by omega)]; omega)))⟩) (by first | exact fun q => absurd q (by decide) | exact fun _ q => hd0 (by omega) q | exact fun _ q => zsight_no (j := j) (by omega) q (fun z => by rcases z with z | z; exact absurd z (by omega); first | (rw [if_pos (by omega)] at z; omega) | (rw [if_neg (by omega)] at z; omega))))
            · refine r_iload_2 37 rfl (dd_X12_isSight 21 _ _ _ rfl) ?_
              refine r_iconst 38 rfl (dd_X12_isSight 22 _ _ _ rfl) ?_
              refine r_if_icmpge (by omega) (by omega) 41 rfl 56 rfl (dd_X12_isSight 23 _ _ _ rfl) (fun hc5 => ?_) (fun hc5 => ?_)
              · refine r_aload_0 57 rfl (dd_X12_isSight 31 _ _ _ rfl) ?_
                refine m_arr 3 hg hM (by decide) (by decide) (tb_6 59 _ rfl) 60 rfl (dd_X12_isSight 32 _ _ _ rfl) ?_ (fun _ _ _ => rfl)
                refine r_iload_2 61 rfl (dd_X12_isSight 33 _ _ _ rfl) ?_
                refine m_cald 3 (j) (by omega) hg hM rfl (by omega) (z_lt (n2 := 8) rfl (by omega)) (by decide) 62 rfl (dd_X12_isSight 34 _ _ _ rfl) ?_
                refine r_bipush (by decide) 64 rfl (dd_X12_isSight 35 _ _ _ rfl) ?_
                refine r_bipush (by decide) 66 rfl (dd_X12_isSight 36 _ _ _ rfl) ?_
                refine r_callS3 (lvl := 10) (mc1 := 0) (ms1 := 0) 0 0 hg rfl md_X12_in ws_X12_in (tb_6 209 _ rfl) (by decide) (by decide) rfl (Nat.le_of_ble_eq_true rfl) (by decide) (by decide) 69 rfl (dd_X12_isSight 37 _ _ _ rfl) ?_
                refine c_X12_in hg (by omega) (by omega) (by omega) (fun hb6 => ?_) (fun hb6 => ?_)
                · dsimp only [zCont, Option.toList, List.cons_append, List.nil_append]
                  refine r_ifeq (by omega) 72 rfl 76 rfl (dd_X12_isSight 38 _ _ _ rfl) (fun q => absurd q (by decide)) (fun _ => ?_)
                  refine r_iconst 73 rfl (dd_X12_isSight 39 _ _ _ rfl) ?_
                  refine r_goto 77 rfl (dd_X12_isSight 40 _ _ _ rfl) ?_
                  refine r_istore_1 78 rfl (by decide) rfl (dd_X12_isSight 42 _ _ _ rfl) ?_
                  refine r_iinc_2 81 rfl (by decide) rfl (dd_X12_isSight 43 _ _ _ rfl) ?_
                  refine r_goto 16 rfl (dd_X12_isSight 44 _ _ _ rfl) ?_
                  exact r_sub _ (z_s1 (z_s1 (z_s1 z_sN))) (ih16 (j + 1) _ _ (by omega) (by omega) (by omega) (by omega) (by first | exact fun q => absurd q (by decide) | exact fun _ => ⟨(hd1 (by omega)).1, lt_s (hd1 (by omega)).2 (by first | exact Or.inl (by omega) | (refine Or.inr ?_; first | (rw [if_pos (by omega)]; omega) | (rw [if_neg (by omega)]; omega)))⟩) (by first | exact fun q => absurd q (by decide) | exact fun _ q => hd0 (by omega) q | exact fun _ q => zsight_no (j := j) (by omega) q (fun z => by rcases z with z | z; exact absurd z (by omega); first | (rw [if_pos (by omega)] at z; omega) | (rw [if_neg (by omega)] at z; omega))))
                · dsimp only [zCont, Option.toList, List.cons_append, List.nil_append]
                  refine r_ifeq (by omega) 72 rfl 76 rfl (dd_X12_isSight 38 _ _ _ rfl) (fun _ => ?_) (fun q => absurd q (by decide))
                  refine r_iconst 77 rfl (dd_X12_isSight 41 _ _ _ rfl) ?_
                  refine r_istore_1 78 rfl (by decide) rfl (dd_X12_isSight 42 _ _ _ rfl) ?_
                  refine r_iinc_2 81 rfl (by decide) rfl (dd_X12_isSight 43 _ _ _ rfl) ?_
                  refine r_goto 16 rfl (dd_X12_isSight 44 _ _ _ rfl) ?_
                  exact r_sub _ (z_s1 (z_s1 (z_s1 z_sN))) (ih16 (j + 1) _ _ (by omega) (by omega) (by omega) (by omega) (by first | exact fun q => absurd q (by decide) | exact fun _ => ⟨(hd1 (by omega)).1, lt_s (hd1 (by omega)).2 (by first | exact Or.inl (by omega) | (refine Or.inr ?_; first | (rw [if_pos (by omega)]; omega) | (rw [if_neg (by omega)]; omega)))⟩) (by first | exact fun q => absurd q (by decide) | exact fun _ q => hd0 (by omega) q | exact fun _ q => zsight_no (j := j) (by omega) q (fun z => by rcases z with z | z; exact absurd z (by omega); first | (rw [if_pos (by omega)] at z; omega) | (rw [if_neg (by omega)] at z; omega))))
              · refine r_aload_0 42 rfl (dd_X12_isSight 24 _ _ _ rfl) ?_
                refine m_arr 3 hg hM (by decide) (by decide) (tb_6 59 _ rfl) 45 rfl (dd_X12_isSight 25 _ _ _ rfl) ?_ (fun _ _ _ => rfl)
                refine r_iload_2 46 rfl (dd_X12_isSight 26 _ _ _ rfl) ?_
                refine m_cald 3 (j) (by omega) hg hM rfl (by omega) (z_lt (n2 := 8) rfl (by omega)) (by decide) 47 rfl (dd_X12_isSight 27 _ _ _ rfl) ?_
                refine r_callS1 (lvl := 11) (mc1 := 0) (ms1 := 0) 0 0 hg rfl md_X12_isLetter ws_X12_isLetter (tb_7 36 _ rfl) (by decide) (by decide) rfl (Nat.le_of_ble_eq_true rfl) (by decide) (by decide) 50 rfl (dd_X12_isSight 28 _ _ _ rfl) ?_
                refine c_X12_isLetter hg (by omega) (fun hb7 => ?_) (fun hb7 => ?_)
                · dsimp only [zCont, Option.toList, List.cons_append, List.nil_append]
                  refine r_ifeq (by omega) 53 rfl 76 rfl (dd_X12_isSight 29 _ _ _ rfl) (fun q => absurd q (by decide)) (fun _ => ?_)
                  refine r_goto 72 rfl (dd_X12_isSight 30 _ _ _ rfl) ?_
                  refine r_iconst 73 rfl (dd_X12_isSight 39 _ _ _ rfl) ?_
                  refine r_goto 77 rfl (dd_X12_isSight 40 _ _ _ rfl) ?_
                  refine r_istore_1 78 rfl (by decide) rfl (dd_X12_isSight 42 _ _ _ rfl) ?_
                  refine r_iinc_2 81 rfl (by decide) rfl (dd_X12_isSight 43 _ _ _ rfl) ?_
                  refine r_goto 16 rfl (dd_X12_isSight 44 _ _ _ rfl) ?_
                  exact r_sub _ (z_s1 (z_s1 (z_s1 z_sN))) (ih16 (j + 1) _ _ (by omega) (by omega) (by omega) (by omega) (by first | exact fun q => absurd q (by decide) | exact fun _ => ⟨(hd1 (by omega)).1, lt_s (hd1 (by omega)).2 (by first | exact Or.inl (by omega) | (refine Or.inr ?_; first | (rw [if_pos (by omega)]; omega) | (rw [if_neg (by omega)]; omega)))⟩) (by first | exact fun q => absurd q (by decide) | exact fun _ q => hd0 (by omega) q | exact fun _ q => zsight_no (j := j) (by omega) q (fun z => by rcases z with z | z; exact absurd z (by omega); first | (rw [if_pos (by omega)] at z; omega) | (rw [if_neg (by omega)] at z; omega))))
                · dsimp only [zCont, Option.toList, List.cons_append, List.nil_append]
                  refine r_ifeq (by omega) 53 rfl 76 rfl (dd_X12_isSight 29 _ _ _ rfl) (fun _ => ?_) (fun q => absurd q (by decide))
                  refine r_iconst 77 rfl (dd_X12_isSight 41 _ _ _ rfl) ?_
                  refine r_istore_1 78 rfl (by decide) rfl (dd_X12_isSight 42 _ _ _ rfl) ?_
                  refine r_iinc_2 81 rfl (by decide) rfl (dd_X12_isSight 43 _ _ _ rfl) ?_
                  refine r_goto 16 rfl (dd_X12_isSight 44 _ _ _ rfl) ?_
                  exact r_sub _ (z_s1 (z_s1 (z_s1 z_sN))) (ih16 (j + 1) _ _ (by omega) (by omega) (by omega) (by omega) (by first | exact fun q => absurd q (by decide) | exact fun _ => ⟨(hd1 (by omega)).1, lt_s (hd1 (by omega)).2 (by first | exact Or.inl (by omega) | (refine Or.inr ?_; first | (rw [if_pos (by omega)]; omega) | (rw [if_neg (by omega)]; omega)))⟩) (by first | exact fun q => absurd q (by decide) | exact fun _ q => hd0 (by omega) q | exact fun _ q => zsight_no (j := j) (by omega) q (fun z => by rcases z with z | z; exact absurd z (by omega); first | (rw [if_pos (by omega)] at z; omega) | (rw [if_neg (by omega)] at z; omega))))
    exact r_sub _ (z_s1 (z_s1 (z_s1 z_sN))) (L16 1000000 0 _ _ (by omega) (by omega) (by omega) (by omega) (by first | exact fun _ => ⟨by omega, lt_0⟩ | exact fun q => absurd q (by decide)) (by first | exact fun q => absurd q (by decide) | exact fun _ q => absurd q.1 (by omega)))
  · refine r_iconst 9 rfl (dd_X12_isSight 4 _ _ _ rfl) ?_
    refine r_goto 13 rfl (dd_X12_isSight 5 _ _ _ rfl) ?_
    refine r_istore_1 14 rfl (by decide) rfl (dd_X12_isSight 7 _ _ _ rfl) ?_
    refine r_iconst 15 rfl (dd_X12_isSight 8 _ _ _ rfl) ?_
    refine r_istore_2 16 rfl (by decide) rfl (dd_X12_isSight 9 _ _ _ rfl) ?_
    have L16 : ∀ (tt : Nat), ∀ (j : Nat) (b d : Int), 10 - j < tt → (b = j) → (j ≤ 4) → (0 ≤ d ∧ d ≤ 1) → (d = 1 → S.1 2 = 4 ∧ ∀ i, i < j → zbuf S i) → (d = 0 → ¬ zsightOK S) → zX g mX12_isSight 0 0 Q 16 [some (.ref m), some (.int (zI d)), some (.int (zI b))] [] h 0 0 := by
      intro tt16
      induction tt16 with
      | zero => intros; exfalso; omega
      | succ tt16 ih16 =>
        intro j b d hlt16 hb hj hd01 hd1 hd0
        subst hb
        have e2 := hI.buffer j
        refine r_iload_2 17 rfl (dd_X12_isSight 10 _ _ _ rfl) ?_
        refine r_iconst 18 rfl (dd_X12_isSight 11 _ _ _ rfl) ?_
        refine r_if_icmpge (by omega) (by omega) 21 rfl 84 rfl (dd_X12_isSight 12 _ _ _ rfl) (fun hc8 => ?_) (fun hc8 => ?_)
        · refine r_iload_1 85 rfl (dd_X12_isSight 45 _ _ _ rfl) ?_
          refine r_ireturn rfl (by rcases (show d = 0 ∨ d = 1 by omega) with q | q <;> rw [q] <;> rfl) (dd_X12_isSight 46 _ _ _ rfl) ?_
          rcases (show d = 0 ∨ d = 1 by omega) with rfl | rfl
          · exact k0 (hd0 rfl)
          · exact k1 (zsight_yes (hd1 rfl).1 (by have := (hd1 rfl).2; intro i hi; exact this i (by omega)))
        · refine r_iload_1 22 rfl (dd_X12_isSight 13 _ _ _ rfl) ?_
          refine r_ifeq (by omega) 25 rfl 76 rfl (dd_X12_isSight 14 _ _ _ rfl) (fun hc9 => ?_) (fun hc9 => ?_)
          · refine r_iconst 77 rfl (dd_X12_isSight 41 _ _ _ rfl) ?_
            refine r_istore_1 78 rfl (by decide) rfl (dd_X12_isSight 42 _ _ _ rfl) ?_
            refine r_iinc_2 81 rfl (by decide) rfl (dd_X12_isSight 43 _ _ _ rfl) ?_
            refine r_goto 16 rfl (dd_X12_isSight 44 _ _ _ rfl) ?_
            exact r_sub _ (z_s1 (z_s1 (z_s1 z_sN))) (ih16 (j + 1) _ _ (by omega) (by omega) (by omega) (by omega) (by first | exact fun q => absurd q (by decide) | exact fun _ => ⟨(hd1 (by omega)).1, lt_s (hd1 (by omega)).2 (by first | exact Or.inl (by omega) | (refine Or.inr ?_; first | (rw [if_pos (by omega)]; omega) | (rw [if_neg (by omega)]; omega)))⟩) (by first | exact fun q => absurd q (by decide) | exact fun _ q => hd0 (by omega) q | exact fun _ q => zsight_no (j := j) (by omega) q (fun z => by rcases z with z | z; exact absurd z (by omega); first | (rw [if_pos (by omega)] at z; omega) | (rw [if_neg (by omega)] at z; omega))))
          · refine r_aload_0 26 rfl (dd_X12_isSight 15 _ _ _ rfl) ?_
            refine m_arr 3 hg hM (by decide) (by decide) (tb_6 59 _ rfl) 29 rfl (dd_X12_isSight 16 _ _ _ rfl) ?_ (fun _ _ _ => rfl)
            refine r_iload_2 30 rfl (dd_X12_isSight 17 _ _ _ rfl) ?_
            refine m_cald 3 (j) (by omega) hg hM rfl (by omega) (z_lt (n2 := 8) rfl (by omega)) (by decide) 31 rfl (dd_X12_isSight 18 _ _ _ rfl) ?_
            refine r_bipush (by decide) 33 rfl (dd_X12_isSight 19 _ _ _ rfl) ?_
            refine r_if_icmpeq (by omega) (by omega) 36 rfl 72 rfl (dd_X12_isSight 20 _ _ _ rfl) (fun hc10 => ?_) (fun hc10 => ?_)
            · refine r_iconst 73 rfl (dd_X12_isSight 39 _ _ _ rfl) ?_
              refine r_goto 77 rfl (dd_X12_isSight 40 _ _ _ rfl) ?_
              refine r_istore_1 78 rfl (by decide) rfl (dd_X12_isSight 42 _ _ _ rfl) ?_
              refine r_iinc_2 81 rfl (by decide) rfl (dd_X12_isSight 43 _ _ _ rfl) ?_
              refine r_goto 16 rfl (dd_X12_isSight 44 _ _ _ rfl) ?_
              exact r_sub _ (z_s1 (z_s1 (z_s1 z_sN))) (ih16 (j + 1) _ _ (by omega) (by omega) (by omega) (by omega) (by first | exact fun q => absurd q (by decide) | exact fun _ => ⟨(hd1 (by omega)).1, lt_s (hd1 (by omega)).2 (by first | exact Or.inl (by omega) | (refine Or.inr ?_; first | (rw [if_pos (by omega)]; omega) | (rw [if_neg (by omega)]; omega)))⟩) (by first | exact fun q => absurd q (by decide) | exact fun _ q => hd0 (by omega) q | exact fun _ q => zsight_no (j := j) (by omega) q (fun z => by rcases z with z | z; exact absurd z (by omega); first | (rw [if_pos (by omega)] at z; omega) | (rw [if_neg (by omega)] at z; omega))))
            · refine r_iload_2 37 rfl (dd_X12_isSight 21 _ _ _ rfl) ?_
              refine r_iconst 38 rfl (dd_X12_isSight 22 _ _ _ rfl) ?_
              refine r_if_icmpge (by omega) (by omega) 41 rfl 56 rfl (dd_X12_isSight 23 _ _ _ rfl) (fun hc11 => ?_) (fun hc11 => ?_)
              · refine r_aload_0 57 rfl (dd_X12_isSight 31 _ _ _ rfl) ?_
                refine m_arr 3 hg hM (by decide) (by decide) (tb_6 59 _ rfl) 60 rfl (dd_X12_isSight 32 _ _ _ rfl) ?_ (fun _ _ _ => rfl)
                refine r_iload_2 61 rfl (dd_X12_isSight 33 _ _ _ rfl) ?_
                refine m_cald 3 (j) (by omega) hg hM rfl (by omega) (z_lt (n2 := 8) rfl (by omega)) (by decide) 62 rfl (dd_X12_isSight 34 _ _ _ rfl) ?_
                refine r_bipush (by decide) 64 rfl (dd_X12_isSight 35 _ _ _ rfl) ?_
                refine r_bipush (by decide) 66 rfl (dd_X12_isSight 36 _ _ _ rfl) ?_
                refine r_callS3 (lvl := 10) (mc1 := 0) (ms1 := 0) 0 0 hg rfl md_X12_in ws_X12_in (tb_6 209 _ rfl) (by decide) (by decide) rfl (Nat.le_of_ble_eq_true rfl) (by decide) (by decide) 69 rfl (dd_X12_isSight 37 _ _ _ rfl) ?_
                refine c_X12_in hg (by omega) (by omega) (by omega) (fun hb12 => ?_) (fun hb12 => ?_)
                · dsimp only [zCont, Option.toList, List.cons_append, List.nil_append]
                  refine r_ifeq (by omega) 72 rfl 76 rfl (dd_X12_isSight 38 _ _ _ rfl) (fun q => absurd q (by decide)) (fun _ => ?_)
                  refine r_iconst 73 rfl (dd_X12_isSight 39 _ _ _ rfl) ?_
                  refine r_goto 77 rfl (dd_X12_isSight 40 _ _ _ rfl) ?_
                  refine r_istore_1 78 rfl (by decide) rfl (dd_X12_isSight 42 _ _ _ rfl) ?_
                  refine r_iinc_2 81 rfl (by decide) rfl (dd_X12_isSight 43 _ _ _ rfl) ?_
                  refine r_goto 16 rfl (dd_X12_isSight 44 _ _ _ rfl) ?_
                  exact r_sub _ (z_s1 (z_s1 (z_s1 z_sN))) (ih16 (j + 1) _ _ (by omega) (by omega) (by omega) (by omega) (by first | exact fun q => absurd q (by decide) | exact fun _ => ⟨(hd1 (by omega)).1, lt_s (hd1 (by omega)).2 (by first | exact Or.inl (by omega) | (refine Or.inr ?_; first | (rw [if_pos (by omega)]; omega) | (rw [if_neg (by omega)]; omega)))⟩) (by first | exact fun q => absurd q (by decide) | exact fun _ q => hd0 (by omega) q | exact fun _ q => zsight_no (j := j) (by omega) q (fun z => by rcases z with z | z; exact absurd z (by omega); first | (rw [if_pos (by omega)] at z; omega) | (rw [if_neg (by omega)] at z; omega))))
                · dsimp only [zCont, Option.toList, List.cons_append, List.nil_append]
                  refine r_ifeq (by omega) 72 rfl 76 rfl (dd_X12_isSight 38 _ _ _ rfl) (fun _ => ?_) (fun q => absurd q (by decide))
                  refine r_iconst 77 rfl (dd_X12_isSight 41 _ _ _ rfl) ?_
                  refine r_istore_1 78 rfl (by decide) rfl (dd_X12_isSight 42 _ _ _ rfl) ?_
                  refine r_iinc_2 81 rfl (by decide) rfl (dd_X12_isSight 43 _ _ _ rfl) ?_
                  refine r_goto 16 rfl (dd_X12_isSight 44 _ _ _ rfl) ?_
                  exact r_sub _ (z_s1 (z_s1 (z_s1 z_sN))) (ih16 (j + 1) _ _ (by omega) (by omega) (by omega) (by omega) (by first | exact fun q => absurd q (by decide) | exact fun _ => ⟨(hd1 (by omega)).1, lt_s (hd1 (by omega)).2 (by first | exact Or.inl (by omega) | (refine Or.inr ?_; first | (rw [if_pos (by omega)]; omega) | (rw [if_neg (by omega)]; omega)))⟩) (by first | exact fun q => absurd q (by decide) | exact fun _ q => hd0 (by omega) q | exact fun _ q => zsight_no (j := j) (by omega) q (fun z => by rcases z with z | z; exact absurd z (by omega); first | (rw [if_pos (by omega)] at z; omega) | (rw [if_neg (by omega)] at z; omega))))
              · refine r_aload_0 42 rfl (dd_X12_isSight 24 _ _ _ rfl) ?_
                refine m_arr 3 hg hM (by decide) (by decide) (tb_6 59 _ rfl) 45 rfl (dd_X12_isSight 25 _ _ _ rfl) ?_ (fun _ _ _ => rfl)
                refine r_iload_2 46 rfl (dd_X12_isSight 26 _ _ _ rfl) ?_
                refine m_cald 3 (j) (by omega) hg hM rfl (by omega) (z_lt (n2 := 8) rfl (by omega)) (by decide) 47 rfl (dd_X12_isSight 27 _ _ _ rfl) ?_
                refine r_callS1 (lvl := 11) (mc1 := 0) (ms1 := 0) 0 0 hg rfl md_X12_isLetter ws_X12_isLetter (tb_7 36 _ rfl) (by decide) (by decide) rfl (Nat.le_of_ble_eq_true rfl) (by decide) (by decide) 50 rfl (dd_X12_isSight 28 _ _ _ rfl) ?_
                refine c_X12_isLetter hg (by omega) (fun hb13 => ?_) (fun hb13 => ?_)
                · dsimp only [zCont, Option.toList, List.cons_append, List.nil_append]
                  refine r_ifeq (by omega) 53 rfl 76 rfl (dd_X12_isSight 29 _ _ _ rfl) (fun q => absurd q (by decide)) (fun _ => ?_)
                  refine r_goto 72 rfl (dd_X12_isSight 30 _ _ _ rfl) ?_
                  refine r_iconst 73 rfl (dd_X12_isSight 39 _ _ _ rfl) ?_
                  refine r_goto 77 rfl (dd_X12_isSight 40 _ _ _ rfl) ?_
                  refine r_istore_1 78 rfl (by decide) rfl (dd_X12_isSight 42 _ _ _ rfl) ?_
                  refine r_iinc_2 81 rfl (by decide) rfl (dd_X12_isSight 43 _ _ _ rfl) ?_
                  refine r_goto 16 rfl (dd_X12_isSight 44 _ _ _ rfl) ?_
                  exact r_sub _ (z_s1 (z_s1 (z_s1 z_sN))) (ih16 (j + 1) _ _ (by omega) (by omega) (by omega) (by omega) (by first | exact fun q => absurd q (by decide) | exact fun _ => ⟨(hd1 (by omega)).1, lt_s (hd1 (by omega)).2 (by first | exact Or.inl (by omega) | (refine Or.inr ?_; first | (rw [if_pos (by omega)]; omega) | (rw [if_neg (by omega)]; omega)))⟩) (by first | exact fun q => absurd q (by decide) | exact fun _ q => hd0 (by omega) q | exact fun _ q => zsight_no (j := j) (by omega) q (fun z => by rcases z with z | z; exact absurd z (by omega); first | (rw [if_pos (by omega)] at z; omega) | (rw [if_neg (by omega)] at z; omega))))
                · dsimp only [zCont, Option.toList, List.cons_append, List.nil_append]
                  refine r_ifeq (by omega) 53 rfl 76 rfl (dd_X12_isSight 29 _ _ _ rfl) (fun _ => ?_) (fun q => absurd q (by decide))
                  refine r_iconst 77 rfl (dd_X12_isSight 41 _ _ _ rfl) ?_
                  refine r_istore_1 78 rfl (by decide) rfl (dd_X12_isSight 42 _ _ _ rfl) ?_
                  refine r_iinc_2 81 rfl (by decide) rfl (dd_X12_isSight 43 _ _ _ rfl) ?_
                  refine r_goto 16 rfl (dd_X12_isSight 44 _ _ _ rfl) ?_
                  exact r_sub _ (z_s1 (z_s1 (z_s1 z_sN))) (ih16 (j + 1) _ _ (by omega) (by omega) (by omega) (by omega) (by first | exact fun q => absurd q (by decide) | exact fun _ => ⟨(hd1 (by omega)).1, lt_s (hd1 (by omega)).2 (by first | exact Or.inl (by omega) | (refine Or.inr ?_; first | (rw [if_pos (by omega)]; omega) | (rw [if_neg (by omega)]; omega)))⟩) (by first | exact fun q => absurd q (by decide) | exact fun _ q => hd0 (by omega) q | exact fun _ q => zsight_no (j := j) (by omega) q (fun z => by rcases z with z | z; exact absurd z (by omega); first | (rw [if_pos (by omega)] at z; omega) | (rw [if_neg (by omega)] at z; omega))))
    exact r_sub _ (z_s1 (z_s1 (z_s1 z_sN))) (L16 1000000 0 _ _ (by omega) (by omega) (by omega) (by omega) (by first | exact fun _ => ⟨by omega, lt_0⟩ | exact fun q => absurd q (by decide)) (by first | exact fun q => absurd q (by decide) | exact fun _ q => absurd q.1 (by omega)))

abbrev mX12_sight : zM := (RX12, cX12_sight, 5, (Option.some Jvm.ClassFile.FieldType.int), [], "sight", 13)
set_option maxRecDepth 20000 in
theorem c_X12_sight {g : zGT} {Q : zO → zH → Prop} {h : zH} (hg : zG g) {h0 : zH} {m : Nat} {A : Nat → Nat} {S : zS} {n : Nat} {t : Int} (hI : MInv n S) (hM : MI h0 m A S t h) {a c : Int} (ha : zR a) (hc9 : zR c) (k1 : ¬ (0 ≤ a ∧ a ≤ 9 ∧ 0 ≤ c ∧ c ≤ 1439) → ∀ h1, MI h0 m A S 1 h1 → Q (.inl (some (.int (zI 0)))) h1) (k2 : (0 ≤ a ∧ a ≤ 9 ∧ 0 ≤ c ∧ c ≤ 1439) → (¬ zsightOK S ∨ S.1 31 = 40) → ∀ h1, MI h0 m A S 2 h1 → Q (.inl (some (.int (zI 0)))) h1) (k0 : (0 ≤ a ∧ a ≤ 9 ∧ 0 ≤ c ∧ c ≤ 1439) → zsightOK S → S.1 31 ≠ 40 → ∀ h1, MI h0 m A (zu1 (zu1 S.1 2 0) 31 (S.1 31 + 1), zu2 (zu2 (zu2 (zcp S.2 (S.1 31).toNat 4) 33 (S.1 31).toNat a) 34 (S.1 31).toNat (S.1 1)) 35 (S.1 31).toNat c) 0 h1 → Q (.inl (some (.int (zI (S.1 31))))) h1) : zC g (.code yX12_sight cX12_sight 5 (Option.some Jvm.ClassFile.FieldType.int)) yX12_sight 13 0 0 [.ref m, .int (zI a), .int (zI c)] h Q := by
  refine zC_of (M := mX12_sight) (lv := [some (.ref m), some (.int (zI a)), some (.int (zI c)), none, none]) (by decide) rfl rfl (Nat.le_of_ble_eq_true rfl) rfl rfl ?_
  have e1 := hI.sightings
  have e2 := hI.today
  refine r_iload_1 1 rfl (dd_X12_sight_0 0 _ _ _ rfl) ?_
  refine r_iconst 2 rfl (dd_X12_sight_0 1 _ _ _ rfl) ?_
  refine r_bipush (by decide) 4 rfl (dd_X12_sight_0 2 _ _ _ rfl) ?_
  refine r_callS3 (lvl := 10) (mc1 := 0) (ms1 := 0) 0 0 hg rfl md_X12_in ws_X12_in (tb_6 209 _ rfl) (by decide) (by decide) rfl (Nat.le_of_ble_eq_true rfl) (by decide) (by decide) 7 rfl (dd_X12_sight_0 3 _ _ _ rfl) ?_
  refine c_X12_in hg (by omega) (by omega) (by omega) (fun hb1 => ?_) (fun hb1 => ?_)
  · dsimp only [zCont, Option.toList, List.cons_append, List.nil_append]
    refine r_ifeq (by omega) 10 rfl 25 rfl (dd_X12_sight_0 4 _ _ _ rfl) (fun q => absurd q (by decide)) (fun _ => ?_)
    refine r_iload_2 11 rfl (dd_X12_sight_0 5 _ _ _ rfl) ?_
    refine r_iconst 12 rfl (dd_X12_sight_0 6 _ _ _ rfl) ?_
    refine r_sipush (by decide) 15 rfl (dd_X12_sight_0 7 _ _ _ rfl) ?_
    refine r_callS3 (lvl := 10) (mc1 := 0) (ms1 := 0) 0 0 hg rfl md_X12_in ws_X12_in (tb_6 209 _ rfl) (by decide) (by decide) rfl (Nat.le_of_ble_eq_true rfl) (by decide) (by decide) 18 rfl (dd_X12_sight_0 8 _ _ _ rfl) ?_
    refine c_X12_in hg (by omega) (by omega) (by omega) (fun hb2 => ?_) (fun hb2 => ?_)
    · dsimp only [zCont, Option.toList, List.cons_append, List.nil_append]
      refine r_ifeq (by omega) 21 rfl 25 rfl (dd_X12_sight_0 9 _ _ _ rfl) (fun q => absurd q (by decide)) (fun _ => ?_)
      refine r_iconst 22 rfl (dd_X12_sight_0 10 _ _ _ rfl) ?_
      refine r_goto 26 rfl (dd_X12_sight_0 11 _ _ _ rfl) ?_
      refine r_istore_3 27 rfl (by decide) rfl (dd_X12_sight_0 13 _ _ _ rfl) ?_
      refine r_aload_0 28 rfl (dd_X12_sight_0 14 _ _ _ rfl) ?_
      refine r_iload_3 29 rfl (dd_X12_sight_0 15 _ _ _ rfl) ?_
      refine r_ifne (by omega) 32 rfl 36 rfl (dd_X12_sight_0 16 _ _ _ rfl) (fun _ => ?_) (fun q => absurd q (by decide))
      refine r_aload_0 37 rfl (dd_X12_sight_0 19 _ _ _ rfl) ?_
      refine r_callV0 (lvl := 12) (mc1 := 0) (ms1 := 0) 0 0 hg rfl md_X12_isSight zc_X12 hM.kd wi_X12_isSight wv_X12_isSight (tb_7 140 _ rfl) (by decide) (by decide) rfl (Nat.le_of_ble_eq_true rfl) (by decide) (by decide) 40 rfl (dd_X12_sight_0 20 _ _ _ rfl) ?_
      refine c_X12_isSight hg hI hM (fun hg3 => ?_) (fun hg3 => ?_)
      · have hsg := hg3
        dsimp only [zCont, Option.toList, List.cons_append, List.nil_append]
        refine r_ifeq (by omega) 43 rfl 52 rfl (dd_X12_sight_0 21 _ _ _ rfl) (fun q => absurd q (by decide)) (fun _ => ?_)
        refine r_aload_0 44 rfl (dd_X12_sight_0 22 _ _ _ rfl) ?_
        refine m_get 31 hg hM (by unfold z_free; decide) rfl (by decide) (tb_6 87 _ rfl) 47 rfl (dd_X12_sight_0 23 _ _ _ rfl) ?_ (fun _ _ _ => rfl)
        try simp (decide := true) only [zu1, if_true, if_false, reduceIte]
        refine r_bipush (by decide) 49 rfl (dd_X12_sight_0 24 _ _ _ rfl) ?_
        refine r_if_icmpne (by omega) (by omega) 52 rfl 56 rfl (dd_X12_sight_0 25 _ _ _ rfl) (fun hc4 => ?_) (fun hc4 => ?_)
        · refine r_iconst 57 rfl (dd_X12_sight_0 28 _ _ _ rfl) ?_
          refine r_callV1 (lvl := 10) (mc1 := 0) (ms1 := 0) 0 0 hg rfl md_X12_goesWell zc_X12 hM.kd wi_X12_goesWell wv_X12_goesWell (tb_6 197 _ rfl) (by decide) (by decide) rfl (Nat.le_of_ble_eq_true rfl) (by decide) (by decide) 60 rfl (dd_X12_sight_0 29 _ _ _ rfl) ?_
          refine c_X12_goesWell hg hM (by decide) (fun _ h5 hM => ?_) (fun q => absurd rfl q)
          dsimp only [zCont, Option.toList, List.cons_append, List.nil_append]
          refine r_ifne (by omega) 63 rfl 65 rfl (dd_X12_sight_0 30 _ _ _ rfl) (fun _ => ?_) (fun q => absurd q (by decide))
          refine r_iconst 66 rfl (dd_X12_sight_0 33 _ _ _ rfl) ?_
          refine r_istore_4 68 rfl (by decide) rfl (dd_X12_sight_0 34 _ _ _ rfl) ?_
          have L68 : ∀ (tt : Nat), ∀ (j : Nat) (b : Int) (h : zH), 10 - j < tt → (b = j) → (j ≤ 4) → (MI h0 m A (S.1, zcp S.2 (S.1 31).toNat j) 0 h) → zX g mX12_sight 0 0 Q 68 [some (.ref m), some (.int (zI a)), some (.int (zI c)), some (.int (zI 1)), some (.int (zI b))] [] h 0 0 := by
            intro tt68
            induction tt68 with
            | zero => intros; exfalso; omega
            | succ tt68 ih68 =>
              intro j b h hlt68 hb hj hM
              subst hb
              have e4 := hI.buffer j
              refine r_iload_4 70 rfl (dd_X12_sight_0 35 _ _ _ rfl) ?_
              refine r_iconst 71 rfl (dd_X12_sight_0 36 _ _ _ rfl) ?_
              refine r_if_icmpge (by omega) (by omega) 74 rfl 101 rfl (dd_X12_sight_0 37 _ _ _ rfl) (fun hc6 => ?_) (fun hc6 => ?_)
              · refine r_aload_0 102 rfl (dd_X12_sight_0 53 _ _ _ rfl) ?_
                refine r_iconst 103 rfl (dd_X12_sight_0 54 _ _ _ rfl) ?_
                refine m_put 2 hg hM rfl (by decide) (by decide) rfl (fun _ _ _ => rfl) rfl rfl (tb_6 58 _ rfl) 106 rfl (dd_X12_sight_0 55 _ _ _ rfl) (fun h8 hM => ?_)
                refine r_aload_0 107 rfl (dd_X12_sight_0 56 _ _ _ rfl) ?_
                refine m_arr 33 hg hM (by decide) (by decide) (tb_6 89 _ rfl) 110 rfl (dd_X12_sight_0 57 _ _ _ rfl) ?_ (fun _ _ _ => rfl)
                refine r_aload_0 111 rfl (dd_X12_sight_0 58 _ _ _ rfl) ?_
                refine m_get 31 hg hM (by unfold z_free; decide) rfl (by decide) (tb_6 87 _ rfl) 114 rfl (dd_X12_sight_0 59 _ _ _ rfl) ?_ (fun _ _ _ => rfl)
                try simp (decide := true) only [zu1, if_true, if_false, reduceIte]
                refine r_iload_1 115 rfl (dd_X12_sight_1 0 _ _ _ rfl) ?_
                refine m_iast 33 _ rfl hg hM rfl (by omega) (z_lt (n2 := 40) rfl (by omega)) (by decide) 116 rfl (dd_X12_sight_1 1 _ _ _ rfl) (fun h9 hM => ?_)
                refine r_aload_0 117 rfl (dd_X12_sight_1 2 _ _ _ rfl) ?_
                refine m_arr 34 hg hM (by decide) (by decide) (tb_6 90 _ rfl) 120 rfl (dd_X12_sight_1 3 _ _ _ rfl) ?_ (fun _ _ _ => rfl)
                refine r_aload_0 121 rfl (dd_X12_sight_1 4 _ _ _ rfl) ?_
                refine m_get 31 hg hM (by unfold z_free; decide) rfl (by decide) (tb_6 87 _ rfl) 124 rfl (dd_X12_sight_1 5 _ _ _ rfl) ?_ (fun _ _ _ => rfl)
                try simp (decide := true) only [zu1, if_true, if_false, reduceIte]
                refine r_aload_0 125 rfl (dd_X12_sight_1 6 _ _ _ rfl) ?_
                refine m_get 1 hg hM (by unfold z_free; decide) rfl (by decide) (tb_6 57 _ rfl) 128 rfl (dd_X12_sight_1 7 _ _ _ rfl) ?_ (fun _ _ _ => rfl)
                try simp (decide := true) only [zu1, if_true, if_false, reduceIte]
                refine m_iast 34 _ rfl hg hM rfl (by omega) (z_lt (n2 := 40) rfl (by omega)) (by decide) 129 rfl (dd_X12_sight_1 8 _ _ _ rfl) (fun h10 hM => ?_)
                refine r_aload_0 130 rfl (dd_X12_sight_1 9 _ _ _ rfl) ?_
                refine m_arr 35 hg hM (by decide) (by decide) (tb_6 91 _ rfl) 133 rfl (dd_X12_sight_1 10 _ _ _ rfl) ?_ (fun _ _ _ => rfl)
                refine r_aload_0 134 rfl (dd_X12_sight_1 11 _ _ _ rfl) ?_
                refine m_get 31 hg hM (by unfold z_free; decide) rfl (by decide) (tb_6 87 _ rfl) 137 rfl (dd_X12_sight_1 12 _ _ _ rfl) ?_ (fun _ _ _ => rfl)
                try simp (decide := true) only [zu1, if_true, if_false, reduceIte]
                refine r_iload_2 138 rfl (dd_X12_sight_1 13 _ _ _ rfl) ?_
                refine m_iast 35 _ rfl hg hM rfl (by omega) (z_lt (n2 := 40) rfl (by omega)) (by decide) 139 rfl (dd_X12_sight_1 14 _ _ _ rfl) (fun h11 hM => ?_)
                refine r_aload_0 140 rfl (dd_X12_sight_1 15 _ _ _ rfl) ?_
                refine r_dup rfl 141 rfl (dd_X12_sight_1 16 _ _ _ rfl) ?_
                refine m_get 31 hg hM (by unfold z_free; decide) rfl (by decide) (tb_6 87 _ rfl) 144 rfl (dd_X12_sight_1 17 _ _ _ rfl) ?_ (fun _ _ _ => rfl)
                try simp (decide := true) only [zu1, if_true, if_false, reduceIte]
                refine r_iconst 145 rfl (dd_X12_sight_1 18 _ _ _ rfl) ?_
                refine r_iadd 146 rfl (dd_X12_sight_1 19 _ _ _ rfl) ?_
                refine m_put 31 hg hM rfl (by decide) (by decide) rfl (fun _ _ _ => rfl) rfl rfl (tb_6 87 _ rfl) 149 rfl (dd_X12_sight_1 20 _ _ _ rfl) (fun h13 hM => ?_)
                refine r_aload_0 150 rfl (dd_X12_sight_1 21 _ _ _ rfl) ?_
                refine m_get 31 hg hM (by unfold z_free; decide) rfl (by decide) (tb_6 87 _ rfl) 153 rfl (dd_X12_sight_1 22 _ _ _ rfl) ?_ (fun _ _ _ => rfl)
                try simp (decide := true) only [zu1, if_true, if_false, reduceIte]
                refine r_iconst 154 rfl (dd_X12_sight_1 23 _ _ _ rfl) ?_
                refine r_isub 155 rfl (dd_X12_sight_1 24 _ _ _ rfl) ?_
                refine r_ireturn rfl rfl (dd_X12_sight_1 25 _ _ _ rfl) ?_
                have h4 : j = 4 := by omega
                subst h4
                have k := k0 (by omega) hsg (by omega) _ hM
                rw [Int.add_sub_cancel]
                exact k
              · refine r_aload_0 75 rfl (dd_X12_sight_0 38 _ _ _ rfl) ?_
                refine m_arr 32 hg hM (by decide) (by decide) (tb_6 88 _ rfl) 78 rfl (dd_X12_sight_0 39 _ _ _ rfl) ?_ (fun _ _ _ => rfl)
                refine r_iconst 79 rfl (dd_X12_sight_0 40 _ _ _ rfl) ?_
                refine r_aload_0 80 rfl (dd_X12_sight_0 41 _ _ _ rfl) ?_
                refine m_get 31 hg hM (by unfold z_free; decide) rfl (by decide) (tb_6 87 _ rfl) 83 rfl (dd_X12_sight_0 42 _ _ _ rfl) ?_ (fun _ _ _ => rfl)
                try simp (decide := true) only [zu1, if_true, if_false, reduceIte]
                refine r_imul 84 rfl (dd_X12_sight_0 43 _ _ _ rfl) ?_
                refine r_iload_4 86 rfl (dd_X12_sight_0 44 _ _ _ rfl) ?_
                refine r_iadd 87 rfl (dd_X12_sight_0 45 _ _ _ rfl) ?_
                refine r_aload_0 88 rfl (dd_X12_sight_0 46 _ _ _ rfl) ?_
                refine m_arr 3 hg hM (by decide) (by decide) (tb_6 59 _ rfl) 91 rfl (dd_X12_sight_0 47 _ _ _ rfl) ?_ (fun _ _ _ => rfl)
                refine r_iload_4 93 rfl (dd_X12_sight_0 48 _ _ _ rfl) ?_
                refine m_cald 3 (j) (by omega) hg hM rfl (by omega) (z_lt (n2 := 8) rfl (by omega)) (by decide) 94 rfl (dd_X12_sight_0 49 _ _ _ rfl) ?_
                try simp (decide := true) only [zu2, false_and, and_false, and_true, true_and, and_self, if_true, if_false, reduceIte]
                rw [zcp_other (by decide)]
                refine m_cast 32 (4 * (S.1 31).toNat + j) (by omega) hg hM rfl (by omega) (z_lt (n2 := 160) rfl (by omega)) (by decide) (z_nchar (by omega) (by omega)) 95 rfl (dd_X12_sight_0 50 _ _ _ rfl) (fun h14 hM => ?_)
                refine r_iinc_4 98 rfl (by decide) rfl (dd_X12_sight_0 51 _ _ _ rfl) ?_
                refine r_goto 68 rfl (dd_X12_sight_0 52 _ _ _ rfl) ?_
                exact r_sub _ (z_s1 (z_s1 (z_s1 (z_s1 (z_s1 z_sN))))) (ih68 (j + 1) _ _ (by omega) (by omega) (by omega) hM)
          exact r_sub _ (z_s1 (z_s1 (z_s1 (z_s1 (z_s1 z_sN))))) (L68 1000000 0 _ _ (by omega) (by omega) (by omega) hM)
        · refine r_iconst 53 rfl (dd_X12_sight_0 26 _ _ _ rfl) ?_
          refine r_goto 57 rfl (dd_X12_sight_0 27 _ _ _ rfl) ?_
          refine r_callV1 (lvl := 10) (mc1 := 0) (ms1 := 0) 0 0 hg rfl md_X12_goesWell zc_X12 hM.kd wi_X12_goesWell wv_X12_goesWell (tb_6 197 _ rfl) (by decide) (by decide) rfl (Nat.le_of_ble_eq_true rfl) (by decide) (by decide) 60 rfl (dd_X12_sight_0 29 _ _ _ rfl) ?_
          refine c_X12_goesWell hg hM (by decide) (fun q => absurd q (by decide)) (fun _ h15 hM => ?_)
          dsimp only [zCont, Option.toList, List.cons_append, List.nil_append]
          refine r_ifne (by omega) 63 rfl 65 rfl (dd_X12_sight_0 30 _ _ _ rfl) (fun q => absurd q (by decide)) (fun _ => ?_)
          refine r_iconst 64 rfl (dd_X12_sight_0 31 _ _ _ rfl) ?_
          refine r_ireturn rfl rfl (dd_X12_sight_0 32 _ _ _ rfl) ?_
          first | exact k1 (by omega) _ hM | exact k2 (by omega) (by first | exact Or.inl hsg | exact Or.inr (by omega)) _ hM
      · have hsg := hg3
        dsimp only [zCont, Option.toList, List.cons_append, List.nil_append]
        refine r_ifeq (by omega) 43 rfl 52 rfl (dd_X12_sight_0 21 _ _ _ rfl) (fun _ => ?_) (fun q => absurd q (by decide))
        refine r_iconst 53 rfl (dd_X12_sight_0 26 _ _ _ rfl) ?_
        refine r_goto 57 rfl (dd_X12_sight_0 27 _ _ _ rfl) ?_
        refine r_callV1 (lvl := 10) (mc1 := 0) (ms1 := 0) 0 0 hg rfl md_X12_goesWell zc_X12 hM.kd wi_X12_goesWell wv_X12_goesWell (tb_6 197 _ rfl) (by decide) (by decide) rfl (Nat.le_of_ble_eq_true rfl) (by decide) (by decide) 60 rfl (dd_X12_sight_0 29 _ _ _ rfl) ?_
        refine c_X12_goesWell hg hM (by decide) (fun q => absurd q (by decide)) (fun _ h16 hM => ?_)
        dsimp only [zCont, Option.toList, List.cons_append, List.nil_append]
        refine r_ifne (by omega) 63 rfl 65 rfl (dd_X12_sight_0 30 _ _ _ rfl) (fun q => absurd q (by decide)) (fun _ => ?_)
        refine r_iconst 64 rfl (dd_X12_sight_0 31 _ _ _ rfl) ?_
        refine r_ireturn rfl rfl (dd_X12_sight_0 32 _ _ _ rfl) ?_
        first | exact k1 (by omega) _ hM | exact k2 (by omega) (by first | exact Or.inl hsg | exact Or.inr (by omega)) _ hM
    · dsimp only [zCont, Option.toList, List.cons_append, List.nil_append]
      refine r_ifeq (by omega) 21 rfl 25 rfl (dd_X12_sight_0 9 _ _ _ rfl) (fun _ => ?_) (fun q => absurd q (by decide))
      refine r_iconst 26 rfl (dd_X12_sight_0 12 _ _ _ rfl) ?_
      refine r_istore_3 27 rfl (by decide) rfl (dd_X12_sight_0 13 _ _ _ rfl) ?_
      refine r_aload_0 28 rfl (dd_X12_sight_0 14 _ _ _ rfl) ?_
      refine r_iload_3 29 rfl (dd_X12_sight_0 15 _ _ _ rfl) ?_
      refine r_ifne (by omega) 32 rfl 36 rfl (dd_X12_sight_0 16 _ _ _ rfl) (fun q => absurd q (by decide)) (fun _ => ?_)
      refine r_iconst 33 rfl (dd_X12_sight_0 17 _ _ _ rfl) ?_
      refine r_goto 57 rfl (dd_X12_sight_0 18 _ _ _ rfl) ?_
      refine r_callV1 (lvl := 10) (mc1 := 0) (ms1 := 0) 0 0 hg rfl md_X12_goesWell zc_X12 hM.kd wi_X12_goesWell wv_X12_goesWell (tb_6 197 _ rfl) (by decide) (by decide) rfl (Nat.le_of_ble_eq_true rfl) (by decide) (by decide) 60 rfl (dd_X12_sight_0 29 _ _ _ rfl) ?_
      refine c_X12_goesWell hg hM (by decide) (fun q => absurd q (by decide)) (fun _ h17 hM => ?_)
      dsimp only [zCont, Option.toList, List.cons_append, List.nil_append]
      refine r_ifne (by omega) 63 rfl 65 rfl (dd_X12_sight_0 30 _ _ _ rfl) (fun q => absurd q (by decide)) (fun _ => ?_)
      refine r_iconst 64 rfl (dd_X12_sight_0 31 _ _ _ rfl) ?_
      refine r_ireturn rfl rfl (dd_X12_sight_0 32 _ _ _ rfl) ?_
      first | exact k1 (by omega) _ hM | exact k2 (by omega) (by first | exact Or.inl hsg | exact Or.inr (by omega)) _ hM
  · dsimp only [zCont, Option.toList, List.cons_append, List.nil_append]
    refine r_ifeq (by omega) 10 rfl 25 rfl (dd_X12_sight_0 4 _ _ _ rfl) (fun _ => ?_) (fun q => absurd q (by decide))
    refine r_iconst 26 rfl (dd_X12_sight_0 12 _ _ _ rfl) ?_
    refine r_istore_3 27 rfl (by decide) rfl (dd_X12_sight_0 13 _ _ _ rfl) ?_
    refine r_aload_0 28 rfl (dd_X12_sight_0 14 _ _ _ rfl) ?_
    refine r_iload_3 29 rfl (dd_X12_sight_0 15 _ _ _ rfl) ?_
    refine r_ifne (by omega) 32 rfl 36 rfl (dd_X12_sight_0 16 _ _ _ rfl) (fun q => absurd q (by decide)) (fun _ => ?_)
    refine r_iconst 33 rfl (dd_X12_sight_0 17 _ _ _ rfl) ?_
    refine r_goto 57 rfl (dd_X12_sight_0 18 _ _ _ rfl) ?_
    refine r_callV1 (lvl := 10) (mc1 := 0) (ms1 := 0) 0 0 hg rfl md_X12_goesWell zc_X12 hM.kd wi_X12_goesWell wv_X12_goesWell (tb_6 197 _ rfl) (by decide) (by decide) rfl (Nat.le_of_ble_eq_true rfl) (by decide) (by decide) 60 rfl (dd_X12_sight_0 29 _ _ _ rfl) ?_
    refine c_X12_goesWell hg hM (by decide) (fun q => absurd q (by decide)) (fun _ h18 hM => ?_)
    dsimp only [zCont, Option.toList, List.cons_append, List.nil_append]
    refine r_ifne (by omega) 63 rfl 65 rfl (dd_X12_sight_0 30 _ _ _ rfl) (fun q => absurd q (by decide)) (fun _ => ?_)
    refine r_iconst 64 rfl (dd_X12_sight_0 31 _ _ _ rfl) ?_
    refine r_ireturn rfl rfl (dd_X12_sight_0 32 _ _ _ rfl) ?_
    first | exact k1 (by omega) _ hM | exact k2 (by omega) (by first | exact Or.inl hsg | exact Or.inr (by omega)) _ hM

abbrev mX12_isWord : zM := (RX12, cX12_isWord, 6, (Option.some Jvm.ClassFile.FieldType.boolean), [], "isWord", 10)
set_option maxRecDepth 20000 in
theorem c_X12_isWord {g : zGT} {Q : zO → zH → Prop} {h : zH} (hg : zG g) {h0 : zH} {m : Nat} {A : Nat → Nat} {S : zS} {n : Nat} {t : Int} (hI : MInv n S) (hM : MI h0 m A S t h) {W : Int} {mn : Nat} (hW : 0 ≤ W ∧ W < 1099511627776) (hm : mn ≤ 8) (k1 : zwordOK S W mn → Q (.inl (some (.int (zI 1)))) h) (k0 : ¬ zwordOK S W mn → Q (.inl (some (.int (zI 0)))) h) : zC g (.code yX12_isWord cX12_isWord 6 (Option.some Jvm.ClassFile.FieldType.boolean)) yX12_isWord 10 0 0 [.ref m, .long (zL W), .int (zI (mn : Int))] h Q := by
  refine zC_of (M := mX12_isWord) (lv := [some (.ref m), some (.long (zL W)), none, some (.int (zI (mn : Int))), none, none]) (by decide) rfl rfl (Nat.le_of_ble_eq_true rfl) rfl rfl ?_
  have e1 := hI.signs
  refine r_aload_0 1 rfl (dd_X12_isWord 0 _ _ _ rfl) ?_
  refine m_get 2 hg hM (by unfold z_free; decide) rfl (by decide) (tb_6 58 _ rfl) 4 rfl (dd_X12_isWord 1 _ _ _ rfl) ?_ (fun _ _ _ => rfl)
  refine r_iload_3 5 rfl (dd_X12_isWord 2 _ _ _ rfl) ?_
  refine r_if_icmpne (by omega) (by omega) 8 rfl 12 rfl (dd_X12_isWord 3 _ _ _ rfl) (fun hc1 => ?_) (fun hc1 => ?_)
  · refine r_iconst 13 rfl (dd_X12_isWord 6 _ _ _ rfl) ?_
    refine r_istore_4 15 rfl (by decide) rfl (dd_X12_isWord 7 _ _ _ rfl) ?_
    refine r_iconst 16 rfl (dd_X12_isWord 8 _ _ _ rfl) ?_
    refine r_istore_5 18 rfl (by decide) rfl (dd_X12_isWord 9 _ _ _ rfl) ?_
    have L18 : ∀ (tt : Nat), ∀ (j : Nat) (b d : Int), 10 - j < tt → (b = j) → (j ≤ mn) → (0 ≤ d ∧ d ≤ 1) → (d = 1 → S.1 2 = mn ∧ ∀ i, i < j → S.2 3 i = 97 + W / 2 ^ (5 * i) % 32) → (d = 0 → ¬ zwordOK S W mn) → zX g mX12_isWord 0 0 Q 18 [some (.ref m), some (.long (zL W)), none, some (.int (zI (mn : Int))), some (.int (zI d)), some (.int (zI b))] [] h 0 0 := by
      intro tt18
      induction tt18 with
      | zero => intros; exfalso; omega
      | succ tt18 ih18 =>
        intro j b d hlt18 hb hj hd01 hd1 hd0
        subst hb
        have e2 := hI.buffer j
        have e3 : 0 ≤ W / 2 ^ (5 * j) % 32 ∧ W / 2 ^ (5 * j) % 32 < 32 := ⟨Int.emod_nonneg _ (by decide), Int.emod_lt_of_pos _ (by decide)⟩
        refine r_iload_5 20 rfl (dd_X12_isWord 10 _ _ _ rfl) ?_
        refine r_iload_3 21 rfl (dd_X12_isWord 11 _ _ _ rfl) ?_
        refine r_if_icmpge (by omega) (by omega) 24 rfl 66 rfl (dd_X12_isWord 12 _ _ _ rfl) (fun hc2 => ?_) (fun hc2 => ?_)
        · refine r_iload_4 68 rfl (dd_X12_isWord 36 _ _ _ rfl) ?_
          refine r_ireturn rfl (by rcases (show d = 0 ∨ d = 1 by omega) with q | q <;> rw [q] <;> rfl) (dd_X12_isWord 37 _ _ _ rfl) ?_
          rcases (show d = 0 ∨ d = 1 by omega) with rfl | rfl
          · exact k0 (hd0 rfl)
          · exact k1 ⟨(hd1 rfl).1, by have := (hd1 rfl).2; intro i hi; exact this i (by omega)⟩
        · refine r_iload_4 26 rfl (dd_X12_isWord 13 _ _ _ rfl) ?_
          refine r_ifeq (by omega) 29 rfl 66 rfl (dd_X12_isWord 14 _ _ _ rfl) (fun hc3 => ?_) (fun hc3 => ?_)
          · refine r_iload_4 68 rfl (dd_X12_isWord 36 _ _ _ rfl) ?_
            refine r_ireturn rfl (by rcases (show d = 0 ∨ d = 1 by omega) with q | q <;> rw [q] <;> rfl) (dd_X12_isWord 37 _ _ _ rfl) ?_
            rcases (show d = 0 ∨ d = 1 by omega) with rfl | rfl
            · exact k0 (hd0 rfl)
            · exact k1 ⟨(hd1 rfl).1, by have := (hd1 rfl).2; intro i hi; exact this i (by omega)⟩
          · refine r_aload_0 30 rfl (dd_X12_isWord 15 _ _ _ rfl) ?_
            refine m_arr 3 hg hM (by decide) (by decide) (tb_6 59 _ rfl) 33 rfl (dd_X12_isWord 16 _ _ _ rfl) ?_ (fun _ _ _ => rfl)
            refine r_iload_5 35 rfl (dd_X12_isWord 17 _ _ _ rfl) ?_
            refine m_cald 3 (j) (by omega) hg hM rfl (by omega) (z_lt (n2 := 8) rfl (by omega)) (by decide) 36 rfl (dd_X12_isWord 18 _ _ _ rfl) ?_
            refine r_bipush (by decide) 38 rfl (dd_X12_isWord 19 _ _ _ rfl) ?_
            refine r_lload_1 39 rfl (dd_X12_isWord 20 _ _ _ rfl) ?_
            refine r_iconst 40 rfl (dd_X12_isWord 21 _ _ _ rfl) ?_
            refine r_iload_5 42 rfl (dd_X12_isWord 22 _ _ _ rfl) ?_
            refine r_imul 43 rfl (dd_X12_isWord 23 _ _ _ rfl) ?_
            refine r_lshr 44 rfl (dd_X12_isWord 24 _ _ _ rfl) ?_
            refine r_ldc2 hg (tb_7 187 _ rfl) 47 rfl (dd_X12_isWord 25 _ _ _ rfl) ?_
            refine r_topl (31) rfl ?_
            refine r_land 48 rfl (dd_X12_isWord 26 _ _ _ rfl) ?_
            refine r_topl _ (z_w5 hW (by omega)) ?_
            refine r_l2iz (by omega) 49 rfl (dd_X12_isWord 27 _ _ _ rfl) ?_
            refine r_iadd 50 rfl (dd_X12_isWord 28 _ _ _ rfl) ?_
            refine r_if_icmpne (by omega) (by omega) 53 rfl 57 rfl (dd_X12_isWord 29 _ _ _ rfl) (fun hc4 => ?_) (fun hc4 => ?_)
            · refine r_iconst 58 rfl (dd_X12_isWord 32 _ _ _ rfl) ?_
              refine r_istore_4 60 rfl (by decide) rfl (dd_X12_isWord 33 _ _ _ rfl) ?_
              refine r_iinc_5 63 rfl (by decide) rfl (dd_X12_isWord 34 _ _ _ rfl) ?_
              refine r_goto 18 rfl (dd_X12_isWord 35 _ _ _ rfl) ?_
              exact r_sub _ (z_s1 (z_s1 (z_s0 (z_s1 (z_s1 (z_s1 z_sN)))))) (ih18 (j + 1) _ _ (by omega) (by omega) (by omega) (by omega) (by first | exact fun q => absurd q (by decide) | exact fun _ => ⟨(hd1 (by omega)).1, lt_s (hd1 (by omega)).2 (by assumption)⟩) (by first | exact fun q => absurd q (by decide) | exact fun _ q => hd0 (by omega) q | exact fun _ q => absurd (q.2 j (by omega)) (by assumption)))
            · refine r_iconst 54 rfl (dd_X12_isWord 30 _ _ _ rfl) ?_
              refine r_goto 58 rfl (dd_X12_isWord 31 _ _ _ rfl) ?_
              refine r_istore_4 60 rfl (by decide) rfl (dd_X12_isWord 33 _ _ _ rfl) ?_
              refine r_iinc_5 63 rfl (by decide) rfl (dd_X12_isWord 34 _ _ _ rfl) ?_
              refine r_goto 18 rfl (dd_X12_isWord 35 _ _ _ rfl) ?_
              exact r_sub _ (z_s1 (z_s1 (z_s0 (z_s1 (z_s1 (z_s1 z_sN)))))) (ih18 (j + 1) _ _ (by omega) (by omega) (by omega) (by omega) (by first | exact fun q => absurd q (by decide) | exact fun _ => ⟨(hd1 (by omega)).1, lt_s (hd1 (by omega)).2 (by assumption)⟩) (by first | exact fun q => absurd q (by decide) | exact fun _ q => hd0 (by omega) q | exact fun _ q => absurd (q.2 j (by omega)) (by assumption)))
    exact r_sub _ (z_s1 (z_s1 (z_s0 (z_s1 (z_s1 (z_s1 z_sN)))))) (L18 1000000 0 _ _ (by omega) (by omega) (by omega) (by omega) (by first | exact fun _ => ⟨by omega, lt_0⟩ | exact fun q => absurd q (by decide)) (by first | exact fun q => absurd q (by decide) | exact fun _ q => absurd q.1 (by omega)))
  · refine r_iconst 9 rfl (dd_X12_isWord 4 _ _ _ rfl) ?_
    refine r_goto 13 rfl (dd_X12_isWord 5 _ _ _ rfl) ?_
    refine r_istore_4 15 rfl (by decide) rfl (dd_X12_isWord 7 _ _ _ rfl) ?_
    refine r_iconst 16 rfl (dd_X12_isWord 8 _ _ _ rfl) ?_
    refine r_istore_5 18 rfl (by decide) rfl (dd_X12_isWord 9 _ _ _ rfl) ?_
    have L18 : ∀ (tt : Nat), ∀ (j : Nat) (b d : Int), 10 - j < tt → (b = j) → (j ≤ mn) → (0 ≤ d ∧ d ≤ 1) → (d = 1 → S.1 2 = mn ∧ ∀ i, i < j → S.2 3 i = 97 + W / 2 ^ (5 * i) % 32) → (d = 0 → ¬ zwordOK S W mn) → zX g mX12_isWord 0 0 Q 18 [some (.ref m), some (.long (zL W)), none, some (.int (zI (mn : Int))), some (.int (zI d)), some (.int (zI b))] [] h 0 0 := by
      intro tt18
      induction tt18 with
      | zero => intros; exfalso; omega
      | succ tt18 ih18 =>
        intro j b d hlt18 hb hj hd01 hd1 hd0
        subst hb
        have e2 := hI.buffer j
        have e3 : 0 ≤ W / 2 ^ (5 * j) % 32 ∧ W / 2 ^ (5 * j) % 32 < 32 := ⟨Int.emod_nonneg _ (by decide), Int.emod_lt_of_pos _ (by decide)⟩
        refine r_iload_5 20 rfl (dd_X12_isWord 10 _ _ _ rfl) ?_
        refine r_iload_3 21 rfl (dd_X12_isWord 11 _ _ _ rfl) ?_
        refine r_if_icmpge (by omega) (by omega) 24 rfl 66 rfl (dd_X12_isWord 12 _ _ _ rfl) (fun hc5 => ?_) (fun hc5 => ?_)
        · refine r_iload_4 68 rfl (dd_X12_isWord 36 _ _ _ rfl) ?_
          refine r_ireturn rfl (by rcases (show d = 0 ∨ d = 1 by omega) with q | q <;> rw [q] <;> rfl) (dd_X12_isWord 37 _ _ _ rfl) ?_
          rcases (show d = 0 ∨ d = 1 by omega) with rfl | rfl
          · exact k0 (hd0 rfl)
          · exact k1 ⟨(hd1 rfl).1, by have := (hd1 rfl).2; intro i hi; exact this i (by omega)⟩
        · refine r_iload_4 26 rfl (dd_X12_isWord 13 _ _ _ rfl) ?_
          refine r_ifeq (by omega) 29 rfl 66 rfl (dd_X12_isWord 14 _ _ _ rfl) (fun hc6 => ?_) (fun hc6 => ?_)
          · refine r_iload_4 68 rfl (dd_X12_isWord 36 _ _ _ rfl) ?_
            refine r_ireturn rfl (by rcases (show d = 0 ∨ d = 1 by omega) with q | q <;> rw [q] <;> rfl) (dd_X12_isWord 37 _ _ _ rfl) ?_
            rcases (show d = 0 ∨ d = 1 by omega) with rfl | rfl
            · exact k0 (hd0 rfl)
            · exact k1 ⟨(hd1 rfl).1, by have := (hd1 rfl).2; intro i hi; exact this i (by omega)⟩
          · refine r_aload_0 30 rfl (dd_X12_isWord 15 _ _ _ rfl) ?_
            refine m_arr 3 hg hM (by decide) (by decide) (tb_6 59 _ rfl) 33 rfl (dd_X12_isWord 16 _ _ _ rfl) ?_ (fun _ _ _ => rfl)
            refine r_iload_5 35 rfl (dd_X12_isWord 17 _ _ _ rfl) ?_
            refine m_cald 3 (j) (by omega) hg hM rfl (by omega) (z_lt (n2 := 8) rfl (by omega)) (by decide) 36 rfl (dd_X12_isWord 18 _ _ _ rfl) ?_
            refine r_bipush (by decide) 38 rfl (dd_X12_isWord 19 _ _ _ rfl) ?_
            refine r_lload_1 39 rfl (dd_X12_isWord 20 _ _ _ rfl) ?_
            refine r_iconst 40 rfl (dd_X12_isWord 21 _ _ _ rfl) ?_
            refine r_iload_5 42 rfl (dd_X12_isWord 22 _ _ _ rfl) ?_
            refine r_imul 43 rfl (dd_X12_isWord 23 _ _ _ rfl) ?_
            refine r_lshr 44 rfl (dd_X12_isWord 24 _ _ _ rfl) ?_
            refine r_ldc2 hg (tb_7 187 _ rfl) 47 rfl (dd_X12_isWord 25 _ _ _ rfl) ?_
            refine r_topl (31) rfl ?_
            refine r_land 48 rfl (dd_X12_isWord 26 _ _ _ rfl) ?_
            refine r_topl _ (z_w5 hW (by omega)) ?_
            refine r_l2iz (by omega) 49 rfl (dd_X12_isWord 27 _ _ _ rfl) ?_
            refine r_iadd 50 rfl (dd_X12_isWord 28 _ _ _ rfl) ?_
            refine r_if_icmpne (by omega) (by omega) 53 rfl 57 rfl (dd_X12_isWord 29 _ _ _ rfl) (fun hc7 => ?_) (fun hc7 => ?_)
            · refine r_iconst 58 rfl (dd_X12_isWord 32 _ _ _ rfl) ?_
              refine r_istore_4 60 rfl (by decide) rfl (dd_X12_isWord 33 _ _ _ rfl) ?_
              refine r_iinc_5 63 rfl (by decide) rfl (dd_X12_isWord 34 _ _ _ rfl) ?_
              refine r_goto 18 rfl (dd_X12_isWord 35 _ _ _ rfl) ?_
              exact r_sub _ (z_s1 (z_s1 (z_s0 (z_s1 (z_s1 (z_s1 z_sN)))))) (ih18 (j + 1) _ _ (by omega) (by omega) (by omega) (by omega) (by first | exact fun q => absurd q (by decide) | exact fun _ => ⟨(hd1 (by omega)).1, lt_s (hd1 (by omega)).2 (by assumption)⟩) (by first | exact fun q => absurd q (by decide) | exact fun _ q => hd0 (by omega) q | exact fun _ q => absurd (q.2 j (by omega)) (by assumption)))
            · refine r_iconst 54 rfl (dd_X12_isWord 30 _ _ _ rfl) ?_
              refine r_goto 58 rfl (dd_X12_isWord 31 _ _ _ rfl) ?_
              refine r_istore_4 60 rfl (by decide) rfl (dd_X12_isWord 33 _ _ _ rfl) ?_
              refine r_iinc_5 63 rfl (by decide) rfl (dd_X12_isWord 34 _ _ _ rfl) ?_
              refine r_goto 18 rfl (dd_X12_isWord 35 _ _ _ rfl) ?_
              exact r_sub _ (z_s1 (z_s1 (z_s0 (z_s1 (z_s1 (z_s1 z_sN)))))) (ih18 (j + 1) _ _ (by omega) (by omega) (by omega) (by omega) (by first | exact fun q => absurd q (by decide) | exact fun _ => ⟨(hd1 (by omega)).1, lt_s (hd1 (by omega)).2 (by assumption)⟩) (by first | exact fun q => absurd q (by decide) | exact fun _ q => hd0 (by omega) q | exact fun _ q => absurd (q.2 j (by omega)) (by assumption)))
    exact r_sub _ (z_s1 (z_s1 (z_s0 (z_s1 (z_s1 (z_s1 z_sN)))))) (L18 1000000 0 _ _ (by omega) (by omega) (by omega) (by omega) (by first | exact fun _ => ⟨by omega, lt_0⟩ | exact fun q => absurd q (by decide)) (by first | exact fun q => absurd q (by decide) | exact fun _ q => absurd q.1 (by omega)))
