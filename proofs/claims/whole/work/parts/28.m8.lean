abbrev mX12_tell : zM := (RX12, cX12_tell, 9, (Option.some Jvm.ClassFile.FieldType.int), [], "tell", 13)
set_option maxRecDepth 20000 in
theorem c_X12_tell {g : zGT} {Q : zO → zH → Prop} {h : zH} (hg : zG g) {h0 : zH} {m : Nat} {A : Nat → Nat} {S : zS} {n : Nat} {t : Int} (hI : MInv n S) (hM : MI h0 m A S t h) {v its what w : Int} (hv : zR v) (hi : zR its) (ha : zR what) (hw : zR w) (k1 : ¬ (0 ≤ v ∧ v < S.1 4 ∧ (0 ≤ its ∧ its ≤ 1 → 0 ≤ what ∧ what < S.1 12)) → ∀ h1, MI h0 m A S 1 h1 → Q (.inl (some (.int (zI 0)))) h1) (k2 : ∀ u : Nat, v = u → (0 ≤ v ∧ v < S.1 4 ∧ (0 ≤ its ∧ its ≤ 1 → 0 ≤ what ∧ what < S.1 12)) → ¬ (0 ≤ its ∧ its ≤ 7 ∧ (its ≤ 1 ∨ its = 7 ∧ 0 ≤ what ∧ what ≤ 3 ∨ its ≠ 7 ∧ what = 0) ∧ S.2 6 u ≤ w ∧ w ≤ S.1 1) → ∀ h1, MI h0 m A S 2 h1 → Q (.inl (some (.int (zI 0)))) h1) (k3 : ∀ u : Nat, v = u → (0 ≤ v ∧ v < S.1 4 ∧ (0 ≤ its ∧ its ≤ 1 → 0 ≤ what ∧ what < S.1 12)) → (0 ≤ its ∧ its ≤ 7 ∧ (its ≤ 1 ∨ its = 7 ∧ 0 ≤ what ∧ what ≤ 3 ∨ its ≠ 7 ∧ what = 0) ∧ S.2 6 u ≤ w ∧ w ≤ S.1 1) → S.2 8 u = 30 → ∀ h1, MI h0 m A S 3 h1 → Q (.inl (some (.int (zI 0)))) h1) (k0 : ∀ u p : Nat, v = u → (0 ≤ v ∧ v < S.1 4 ∧ (0 ≤ its ∧ its ≤ 1 → 0 ≤ what ∧ what < S.1 12)) → (0 ≤ its ∧ its ≤ 7 ∧ (its ≤ 1 ∨ its = 7 ∧ 0 ≤ what ∧ what ≤ 3 ∨ its ≠ 7 ∧ what = 0) ∧ S.2 6 u ≤ w ∧ w ≤ S.1 1) → S.2 8 u ≠ 30 → p = zpos S.2 (30 * u) w (S.2 8 u).toNat → ∀ h1, MI h0 m A (S.1, zu2 (zu2 (zu2 (zu2 (zsh S.2 (30 * u) p (S.2 8 u).toNat) 9 (30 * u + p) its) 10 (30 * u + p) what) 11 (30 * u + p) w) 8 u (S.2 8 u + 1)) 0 h1 → Q (.inl (some (.int (zI ((S.2 8 u).toNat - (p : Int)))))) h1) : zC g (.code yX12_tell cX12_tell 9 (Option.some Jvm.ClassFile.FieldType.int)) yX12_tell 13 0 0 [.ref m, .int (zI v), .int (zI its), .int (zI what), .int (zI w)] h Q := by
  refine zC_of (M := mX12_tell) (lv := [some (.ref m), some (.int (zI v)), some (.int (zI its)), some (.int (zI what)), some (.int (zI w)), none, none, none, none]) (by decide) rfl rfl (Nat.le_of_ble_eq_true rfl) rfl rfl ?_
  have e1 := hI.vehicles
  have e2 := hI.today
  have e3 := hI.people
  refine r_aload_0 1 rfl (dd_X12_tell_0 0 _ _ _ rfl) ?_
  refine r_iload_1 2 rfl (dd_X12_tell_0 1 _ _ _ rfl) ?_
  refine r_callV1 (lvl := 11) (mc1 := 0) (ms1 := 0) 0 0 hg rfl md_X12_isVehicle zc_X12 hM.kd wi_X12_isVehicle wv_X12_isVehicle (tb_7 0 _ rfl) (by decide) (by decide) rfl (Nat.le_of_ble_eq_true rfl) (by decide) (by decide) 5 rfl (dd_X12_tell_0 2 _ _ _ rfl) ?_
  refine c_X12_isVehicle hg hI hM (by omega) (fun hb1 => ?_) (fun hb1 => ?_)
  · obtain ⟨u, rfl⟩ := Int.eq_ofNat_of_zero_le hb1.1
    have e6 := hI.events u
    have e8 := hI.built u
    dsimp only [zCont, Option.toList, List.cons_append, List.nil_append]
    refine r_ifeq (by omega) 8 rfl 29 rfl (dd_X12_tell_0 3 _ _ _ rfl) (fun q => absurd q (by decide)) (fun _ => ?_)
    refine r_iload_2 9 rfl (dd_X12_tell_0 4 _ _ _ rfl) ?_
    refine r_iconst 10 rfl (dd_X12_tell_0 5 _ _ _ rfl) ?_
    refine r_iconst 11 rfl (dd_X12_tell_0 6 _ _ _ rfl) ?_
    refine r_callS3 (lvl := 10) (mc1 := 0) (ms1 := 0) 0 0 hg rfl md_X12_in ws_X12_in (tb_6 209 _ rfl) (by decide) (by decide) rfl (Nat.le_of_ble_eq_true rfl) (by decide) (by decide) 14 rfl (dd_X12_tell_0 7 _ _ _ rfl) ?_
    refine c_X12_in hg (by omega) (by omega) (by omega) (fun hb2 => ?_) (fun hb2 => ?_)
    · dsimp only [zCont, Option.toList, List.cons_append, List.nil_append]
      refine r_ifeq (by omega) 17 rfl 25 rfl (dd_X12_tell_0 8 _ _ _ rfl) (fun q => absurd q (by decide)) (fun _ => ?_)
      refine r_aload_0 18 rfl (dd_X12_tell_0 9 _ _ _ rfl) ?_
      refine r_iload_3 19 rfl (dd_X12_tell_0 10 _ _ _ rfl) ?_
      refine r_callV1 (lvl := 11) (mc1 := 0) (ms1 := 0) 0 0 hg rfl md_X12_isPerson zc_X12 hM.kd wi_X12_isPerson wv_X12_isPerson (tb_6 232 _ rfl) (by decide) (by decide) rfl (Nat.le_of_ble_eq_true rfl) (by decide) (by decide) 22 rfl (dd_X12_tell_0 11 _ _ _ rfl) ?_
      refine c_X12_isPerson hg hI hM (by omega) (fun hb3 => ?_) (fun hb3 => ?_)
      · dsimp only [zCont, Option.toList, List.cons_append, List.nil_append]
        refine r_ifeq (by omega) 25 rfl 29 rfl (dd_X12_tell_0 12 _ _ _ rfl) (fun q => absurd q (by decide)) (fun _ => ?_)
        refine r_iconst 26 rfl (dd_X12_tell_0 13 _ _ _ rfl) ?_
        refine r_goto 30 rfl (dd_X12_tell_0 14 _ _ _ rfl) ?_
        refine r_istore_5 32 rfl (by decide) rfl (dd_X12_tell_0 16 _ _ _ rfl) ?_
        refine r_iload_5 34 rfl (dd_X12_tell_0 17 _ _ _ rfl) ?_
        refine r_ifeq (by omega) 37 rfl 78 rfl (dd_X12_tell_0 18 _ _ _ rfl) (fun q => absurd q (by decide)) (fun _ => ?_)
        refine r_iload_2 38 rfl (dd_X12_tell_0 19 _ _ _ rfl) ?_
        refine r_iconst 39 rfl (dd_X12_tell_0 20 _ _ _ rfl) ?_
        refine r_bipush (by decide) 41 rfl (dd_X12_tell_0 21 _ _ _ rfl) ?_
        refine r_callS3 (lvl := 10) (mc1 := 0) (ms1 := 0) 0 0 hg rfl md_X12_in ws_X12_in (tb_6 209 _ rfl) (by decide) (by decide) rfl (Nat.le_of_ble_eq_true rfl) (by decide) (by decide) 44 rfl (dd_X12_tell_0 22 _ _ _ rfl) ?_
        refine c_X12_in hg (by omega) (by omega) (by omega) (fun hb4 => ?_) (fun hb4 => ?_)
        · dsimp only [zCont, Option.toList, List.cons_append, List.nil_append]
          refine r_ifeq (by omega) 47 rfl 78 rfl (dd_X12_tell_0 23 _ _ _ rfl) (fun q => absurd q (by decide)) (fun _ => ?_)
          refine r_aload_0 48 rfl (dd_X12_tell_0 24 _ _ _ rfl) ?_
          refine r_iload_2 49 rfl (dd_X12_tell_0 25 _ _ _ rfl) ?_
          refine r_iload_3 50 rfl (dd_X12_tell_0 26 _ _ _ rfl) ?_
          refine r_callV2 (lvl := 11) (mc1 := 0) (ms1 := 0) 0 0 hg rfl md_X12_isAbout zc_X12 hM.kd wi_X12_isAbout wv_X12_isAbout (tb_7 4 _ rfl) (by decide) (by decide) rfl (Nat.le_of_ble_eq_true rfl) (by decide) (by decide) 53 rfl (dd_X12_tell_0 27 _ _ _ rfl) ?_
          refine c_X12_isAbout hg hM (by omega) (by omega) (fun hb5 => ?_) (fun hb5 => ?_)
          · dsimp only [zCont, Option.toList, List.cons_append, List.nil_append]
            refine r_ifeq (by omega) 56 rfl 78 rfl (dd_X12_tell_0 28 _ _ _ rfl) (fun q => absurd q (by decide)) (fun _ => ?_)
            refine r_iload_4 58 rfl (dd_X12_tell_0 29 _ _ _ rfl) ?_
            refine r_aload_0 59 rfl (dd_X12_tell_0 30 _ _ _ rfl) ?_
            refine m_arr 6 hg hM (by decide) (by decide) (tb_6 62 _ rfl) 62 rfl (dd_X12_tell_0 31 _ _ _ rfl) ?_ (fun _ _ _ => rfl)
            refine r_iload_1 63 rfl (dd_X12_tell_0 32 _ _ _ rfl) ?_
            refine m_iald 6 (u) (by omega) hg hM rfl (by omega) (z_lt (n2 := 12) rfl (by omega)) (by decide) 64 rfl (dd_X12_tell_0 33 _ _ _ rfl) ?_
            refine r_aload_0 65 rfl (dd_X12_tell_0 34 _ _ _ rfl) ?_
            refine m_get 1 hg hM (by unfold z_free; decide) rfl (by decide) (tb_6 57 _ rfl) 68 rfl (dd_X12_tell_0 35 _ _ _ rfl) ?_ (fun _ _ _ => rfl)
            refine r_callS3 (lvl := 10) (mc1 := 0) (ms1 := 0) 0 0 hg rfl md_X12_in ws_X12_in (tb_6 209 _ rfl) (by decide) (by decide) rfl (Nat.le_of_ble_eq_true rfl) (by decide) (by decide) 71 rfl (dd_X12_tell_0 36 _ _ _ rfl) ?_
            refine c_X12_in hg (by omega) (by omega) (by omega) (fun hb6 => ?_) (fun hb6 => ?_)
            · dsimp only [zCont, Option.toList, List.cons_append, List.nil_append]
              refine r_ifeq (by omega) 74 rfl 78 rfl (dd_X12_tell_0 37 _ _ _ rfl) (fun q => absurd q (by decide)) (fun _ => ?_)
              refine r_iconst 75 rfl (dd_X12_tell_0 38 _ _ _ rfl) ?_
              refine r_goto 79 rfl (dd_X12_tell_0 39 _ _ _ rfl) ?_
              refine r_istore_6 81 rfl (by decide) rfl (dd_X12_tell_0 41 _ _ _ rfl) ?_
              refine r_aload_0 82 rfl (dd_X12_tell_0 42 _ _ _ rfl) ?_
              refine r_iload_5 84 rfl (dd_X12_tell_0 43 _ _ _ rfl) ?_
              refine r_ifne (by omega) 87 rfl 91 rfl (dd_X12_tell_0 44 _ _ _ rfl) (fun _ => ?_) (fun q => absurd q (by decide))
              refine r_iload_6 93 rfl (dd_X12_tell_0 47 _ _ _ rfl) ?_
              refine r_ifne (by omega) 96 rfl 100 rfl (dd_X12_tell_0 48 _ _ _ rfl) (fun _ => ?_) (fun q => absurd q (by decide))
              refine r_aload_0 101 rfl (dd_X12_tell_0 51 _ _ _ rfl) ?_
              refine m_arr 8 hg hM (by decide) (by decide) (tb_6 64 _ rfl) 104 rfl (dd_X12_tell_0 52 _ _ _ rfl) ?_ (fun _ _ _ => rfl)
              refine r_iload_1 105 rfl (dd_X12_tell_0 53 _ _ _ rfl) ?_
              refine m_iald 8 (u) (by omega) hg hM rfl (by omega) (z_lt (n2 := 12) rfl (by omega)) (by decide) 106 rfl (dd_X12_tell_0 54 _ _ _ rfl) ?_
              refine r_bipush (by decide) 108 rfl (dd_X12_tell_0 55 _ _ _ rfl) ?_
              refine r_if_icmpne (by omega) (by omega) 111 rfl 115 rfl (dd_X12_tell_0 56 _ _ _ rfl) (fun hc7 => ?_) (fun hc7 => ?_)
              · refine r_iconst 116 rfl (dd_X12_tell_0 59 _ _ _ rfl) ?_
                refine r_callV1 (lvl := 10) (mc1 := 0) (ms1 := 0) 0 0 hg rfl md_X12_goesWell zc_X12 hM.kd wi_X12_goesWell wv_X12_goesWell (tb_6 197 _ rfl) (by decide) (by decide) rfl (Nat.le_of_ble_eq_true rfl) (by decide) (by decide) 119 rfl (dd_X12_tell_1 0 _ _ _ rfl) ?_
                refine c_X12_goesWell hg hM (by decide) (fun _ h8 hM => ?_) (fun q => absurd rfl q)
                dsimp only [zCont, Option.toList, List.cons_append, List.nil_append]
                refine r_ifne (by omega) 122 rfl 124 rfl (dd_X12_tell_1 1 _ _ _ rfl) (fun _ => ?_) (fun q => absurd q (by decide))
                refine r_bipush (by decide) 126 rfl (dd_X12_tell_1 4 _ _ _ rfl) ?_
                refine r_iload_1 127 rfl (dd_X12_tell_1 5 _ _ _ rfl) ?_
                refine r_imul 128 rfl (dd_X12_tell_1 6 _ _ _ rfl) ?_
                refine r_aload_0 129 rfl (dd_X12_tell_1 7 _ _ _ rfl) ?_
                refine m_arr 8 hg hM (by decide) (by decide) (tb_6 64 _ rfl) 132 rfl (dd_X12_tell_1 8 _ _ _ rfl) ?_ (fun _ _ _ => rfl)
                refine r_iload_1 133 rfl (dd_X12_tell_1 9 _ _ _ rfl) ?_
                refine m_iald 8 (u) (by omega) hg hM rfl (by omega) (z_lt (n2 := 12) rfl (by omega)) (by decide) 134 rfl (dd_X12_tell_1 10 _ _ _ rfl) ?_
                refine r_iadd 135 rfl (dd_X12_tell_1 11 _ _ _ rfl) ?_
                refine r_istore_7 137 rfl (by decide) rfl (dd_X12_tell_1 12 _ _ _ rfl) ?_
                refine r_iconst 138 rfl (dd_X12_tell_1 13 _ _ _ rfl) ?_
                refine r_istore_8 140 rfl (by decide) rfl (dd_X12_tell_1 14 _ _ _ rfl) ?_
                have L140 : ∀ (tt : Nat), ∀ (q : Nat) (b c : Int) (h : zH), q < tt → (q ≤ (S.2 8 u).toNat) → (b = 30 * u + q) → (c = (S.2 8 u).toNat - (q : Int)) → (zpos S.2 (30 * u) w (S.2 8 u).toNat = zpos S.2 (30 * u) w q) → (MI h0 m A (S.1, zsh S.2 (30 * u) q (S.2 8 u).toNat) 0 h) → zX g mX12_tell 0 0 Q 140 [some (.ref m), some (.int (zI (u : Int))), some (.int (zI its)), some (.int (zI what)), some (.int (zI w)), some (.int (zI 1)), some (.int (zI 1)), some (.int (zI b)), some (.int (zI c))] [] h 0 0 := by
                  intro tt140
                  induction tt140 with
                  | zero => intros; exfalso; omega
                  | succ tt140 ih140 =>
                    intro q b c h hlt140 hq hb hc hz hM
                    refine r_iload_7 142 rfl (dd_X12_tell_1 15 _ _ _ rfl) ?_
                    refine r_bipush (by decide) 144 rfl (dd_X12_tell_1 16 _ _ _ rfl) ?_
                    refine r_iload_1 145 rfl (dd_X12_tell_1 17 _ _ _ rfl) ?_
                    refine r_imul 146 rfl (dd_X12_tell_1 18 _ _ _ rfl) ?_
                    refine r_if_icmple (by omega) (by omega) 149 rfl 220 rfl (dd_X12_tell_1 19 _ _ _ rfl) (fun hc9 => ?_) (fun hc9 => ?_)
                    · obtain ⟨p, hp⟩ : ∃ p, p = zpos S.2 (30 * u) w (S.2 8 u).toNat := ⟨_, rfl⟩
                      have hpq : p = q := by rw [hp, hz]; first | (show (if w < S.2 11 (30 * u + a) then zpos S.2 (30 * u) w a else a + 1) = _; exact if_neg (by omega)) | (rw [show q = 0 by omega]; rfl)
                      rw [← hpq] at hM
                      refine r_aload_0 221 rfl (dd_X12_tell_2 1 _ _ _ rfl) ?_
                      refine m_arr 9 hg hM (by decide) (by decide) (tb_6 65 _ rfl) 224 rfl (dd_X12_tell_2 2 _ _ _ rfl) ?_ (fun _ _ _ => rfl)
                      refine r_iload_7 226 rfl (dd_X12_tell_2 3 _ _ _ rfl) ?_
                      refine r_iload_2 227 rfl (dd_X12_tell_2 4 _ _ _ rfl) ?_
                      refine m_iast 9 (30 * u + p) (by omega) hg hM rfl (by omega) (z_lt (n2 := 360) rfl (by omega)) (by decide) 228 rfl (dd_X12_tell_2 5 _ _ _ rfl) (fun h10 hM => ?_)
                      refine r_aload_0 229 rfl (dd_X12_tell_2 6 _ _ _ rfl) ?_
                      refine m_arr 10 hg hM (by decide) (by decide) (tb_6 66 _ rfl) 232 rfl (dd_X12_tell_2 7 _ _ _ rfl) ?_ (fun _ _ _ => rfl)
                      refine r_iload_7 234 rfl (dd_X12_tell_2 8 _ _ _ rfl) ?_
                      refine r_iload_3 235 rfl (dd_X12_tell_2 9 _ _ _ rfl) ?_
                      refine m_iast 10 (30 * u + p) (by omega) hg hM rfl (by omega) (z_lt (n2 := 360) rfl (by omega)) (by decide) 236 rfl (dd_X12_tell_2 10 _ _ _ rfl) (fun h11 hM => ?_)
                      refine r_aload_0 237 rfl (dd_X12_tell_2 11 _ _ _ rfl) ?_
                      refine m_arr 11 hg hM (by decide) (by decide) (tb_6 67 _ rfl) 240 rfl (dd_X12_tell_2 12 _ _ _ rfl) ?_ (fun _ _ _ => rfl)
                      refine r_iload_7 242 rfl (dd_X12_tell_2 13 _ _ _ rfl) ?_
                      refine r_iload_4 244 rfl (dd_X12_tell_2 14 _ _ _ rfl) ?_
                      refine m_iast 11 (30 * u + p) (by omega) hg hM rfl (by omega) (z_lt (n2 := 360) rfl (by omega)) (by decide) 245 rfl (dd_X12_tell_2 15 _ _ _ rfl) (fun h12 hM => ?_)
                      refine r_aload_0 246 rfl (dd_X12_tell_2 16 _ _ _ rfl) ?_
                      refine m_arr 8 hg hM (by decide) (by decide) (tb_6 64 _ rfl) 249 rfl (dd_X12_tell_2 17 _ _ _ rfl) ?_ (fun _ _ _ => rfl)
                      refine r_iload_1 250 rfl (dd_X12_tell_2 18 _ _ _ rfl) ?_
                      refine r_dup2 rfl rfl 251 rfl (dd_X12_tell_2 19 _ _ _ rfl) ?_
                      refine m_iald 8 (u) (by omega) hg hM rfl (by omega) (z_lt (n2 := 12) rfl (by omega)) (by decide) 252 rfl (dd_X12_tell_2 20 _ _ _ rfl) ?_
                      rw [zu2_ne (by omega), zu2_ne (by omega), zu2_ne (by omega), zsh_other (by omega)]
                      refine r_iconst 253 rfl (dd_X12_tell_2 21 _ _ _ rfl) ?_
                      refine r_iadd 254 rfl (dd_X12_tell_2 22 _ _ _ rfl) ?_
                      refine m_iast 8 (u) (by omega) hg hM rfl (by omega) (z_lt (n2 := 12) rfl (by omega)) (by decide) 255 rfl (dd_X12_tell_2 23 _ _ _ rfl) (fun h13 hM => ?_)
                      refine r_iload_8 257 rfl (dd_X12_tell_2 24 _ _ _ rfl) ?_
                      refine r_ireturn rfl rfl (dd_X12_tell_2 25 _ _ _ rfl) ?_
                      have k := k0 u p rfl (by omega) (by omega) (by omega) hp _ hM
                      rw [show c = (S.2 8 u).toNat - (p : Int) by omega]
                      exact k
                    · obtain ⟨a, rfl⟩ : ∃ a, q = a + 1 := ⟨q - 1, by omega⟩
                      have e4 := hI.day (30 * u + a)
                      have e5 := hI.kind (30 * u + a)
                      have e7 := hI.about (30 * u + a)
                      refine r_aload_0 150 rfl (dd_X12_tell_1 20 _ _ _ rfl) ?_
                      refine m_arr 11 hg hM (by decide) (by decide) (tb_6 67 _ rfl) 153 rfl (dd_X12_tell_1 21 _ _ _ rfl) ?_ (fun _ _ _ => rfl)
                      refine r_iload_7 155 rfl (dd_X12_tell_1 22 _ _ _ rfl) ?_
                      refine r_iconst 156 rfl (dd_X12_tell_1 23 _ _ _ rfl) ?_
                      refine r_isub 157 rfl (dd_X12_tell_1 24 _ _ _ rfl) ?_
                      refine m_iald 11 (30 * u + a) (by omega) hg hM rfl (by omega) (z_lt (n2 := 360) rfl (by omega)) (by decide) 158 rfl (dd_X12_tell_1 25 _ _ _ rfl) ?_
                      rw [zsh_lo (by omega)]
                      refine r_iload_4 160 rfl (dd_X12_tell_1 26 _ _ _ rfl) ?_
                      refine r_if_icmple (by omega) (by omega) 163 rfl 220 rfl (dd_X12_tell_1 27 _ _ _ rfl) (fun hc14 => ?_) (fun hc14 => ?_)
                      · obtain ⟨p, hp⟩ : ∃ p, p = zpos S.2 (30 * u) w (S.2 8 u).toNat := ⟨_, rfl⟩
                        have hpq : p = a + 1 := by rw [hp, hz]; first | (show (if w < S.2 11 (30 * u + a) then zpos S.2 (30 * u) w a else a + 1) = _; exact if_neg (by omega)) | (rw [show a + 1 = 0 by omega]; rfl)
                        rw [← hpq] at hM
                        refine r_aload_0 221 rfl (dd_X12_tell_2 1 _ _ _ rfl) ?_
                        refine m_arr 9 hg hM (by decide) (by decide) (tb_6 65 _ rfl) 224 rfl (dd_X12_tell_2 2 _ _ _ rfl) ?_ (fun _ _ _ => rfl)
                        refine r_iload_7 226 rfl (dd_X12_tell_2 3 _ _ _ rfl) ?_
                        refine r_iload_2 227 rfl (dd_X12_tell_2 4 _ _ _ rfl) ?_
                        refine m_iast 9 (30 * u + p) (by omega) hg hM rfl (by omega) (z_lt (n2 := 360) rfl (by omega)) (by decide) 228 rfl (dd_X12_tell_2 5 _ _ _ rfl) (fun h15 hM => ?_)
                        refine r_aload_0 229 rfl (dd_X12_tell_2 6 _ _ _ rfl) ?_
                        refine m_arr 10 hg hM (by decide) (by decide) (tb_6 66 _ rfl) 232 rfl (dd_X12_tell_2 7 _ _ _ rfl) ?_ (fun _ _ _ => rfl)
                        refine r_iload_7 234 rfl (dd_X12_tell_2 8 _ _ _ rfl) ?_
                        refine r_iload_3 235 rfl (dd_X12_tell_2 9 _ _ _ rfl) ?_
                        refine m_iast 10 (30 * u + p) (by omega) hg hM rfl (by omega) (z_lt (n2 := 360) rfl (by omega)) (by decide) 236 rfl (dd_X12_tell_2 10 _ _ _ rfl) (fun h16 hM => ?_)
                        refine r_aload_0 237 rfl (dd_X12_tell_2 11 _ _ _ rfl) ?_
                        refine m_arr 11 hg hM (by decide) (by decide) (tb_6 67 _ rfl) 240 rfl (dd_X12_tell_2 12 _ _ _ rfl) ?_ (fun _ _ _ => rfl)
                        refine r_iload_7 242 rfl (dd_X12_tell_2 13 _ _ _ rfl) ?_
                        refine r_iload_4 244 rfl (dd_X12_tell_2 14 _ _ _ rfl) ?_
                        refine m_iast 11 (30 * u + p) (by omega) hg hM rfl (by omega) (z_lt (n2 := 360) rfl (by omega)) (by decide) 245 rfl (dd_X12_tell_2 15 _ _ _ rfl) (fun h17 hM => ?_)
                        refine r_aload_0 246 rfl (dd_X12_tell_2 16 _ _ _ rfl) ?_
                        refine m_arr 8 hg hM (by decide) (by decide) (tb_6 64 _ rfl) 249 rfl (dd_X12_tell_2 17 _ _ _ rfl) ?_ (fun _ _ _ => rfl)
                        refine r_iload_1 250 rfl (dd_X12_tell_2 18 _ _ _ rfl) ?_
                        refine r_dup2 rfl rfl 251 rfl (dd_X12_tell_2 19 _ _ _ rfl) ?_
                        refine m_iald 8 (u) (by omega) hg hM rfl (by omega) (z_lt (n2 := 12) rfl (by omega)) (by decide) 252 rfl (dd_X12_tell_2 20 _ _ _ rfl) ?_
                        rw [zu2_ne (by omega), zu2_ne (by omega), zu2_ne (by omega), zsh_other (by omega)]
                        refine r_iconst 253 rfl (dd_X12_tell_2 21 _ _ _ rfl) ?_
                        refine r_iadd 254 rfl (dd_X12_tell_2 22 _ _ _ rfl) ?_
                        refine m_iast 8 (u) (by omega) hg hM rfl (by omega) (z_lt (n2 := 12) rfl (by omega)) (by decide) 255 rfl (dd_X12_tell_2 23 _ _ _ rfl) (fun h18 hM => ?_)
                        refine r_iload_8 257 rfl (dd_X12_tell_2 24 _ _ _ rfl) ?_
                        refine r_ireturn rfl rfl (dd_X12_tell_2 25 _ _ _ rfl) ?_
                        have k := k0 u p rfl (by omega) (by omega) (by omega) hp _ hM
                        rw [show c = (S.2 8 u).toNat - (p : Int) by omega]
                        exact k
                      · have hzp : zpos S.2 (30 * u) w (a + 1) = zpos S.2 (30 * u) w a := by show (if w < S.2 11 (30 * u + a) then zpos S.2 (30 * u) w a else a + 1) = _; exact if_pos (by omega)
                        refine r_aload_0 164 rfl (dd_X12_tell_1 28 _ _ _ rfl) ?_
                        refine m_arr 9 hg hM (by decide) (by decide) (tb_6 65 _ rfl) 167 rfl (dd_X12_tell_1 29 _ _ _ rfl) ?_ (fun _ _ _ => rfl)
                        refine r_iload_7 169 rfl (dd_X12_tell_1 30 _ _ _ rfl) ?_
                        refine r_aload_0 170 rfl (dd_X12_tell_1 31 _ _ _ rfl) ?_
                        refine m_arr 9 hg hM (by decide) (by decide) (tb_6 65 _ rfl) 173 rfl (dd_X12_tell_1 32 _ _ _ rfl) ?_ (fun _ _ _ => rfl)
                        refine r_iload_7 175 rfl (dd_X12_tell_1 33 _ _ _ rfl) ?_
                        refine r_iconst 176 rfl (dd_X12_tell_1 34 _ _ _ rfl) ?_
                        refine r_isub 177 rfl (dd_X12_tell_1 35 _ _ _ rfl) ?_
                        refine m_iald 9 (30 * u + a) (by omega) hg hM rfl (by omega) (z_lt (n2 := 360) rfl (by omega)) (by decide) 178 rfl (dd_X12_tell_1 36 _ _ _ rfl) ?_
                        rw [zsh_lo (by omega)]
                        refine m_iast 9 (30 * u + (a + 1)) (by omega) hg hM rfl (by omega) (z_lt (n2 := 360) rfl (by omega)) (by decide) 179 rfl (dd_X12_tell_1 37 _ _ _ rfl) (fun h19 hM => ?_)
                        refine r_aload_0 180 rfl (dd_X12_tell_1 38 _ _ _ rfl) ?_
                        refine m_arr 10 hg hM (by decide) (by decide) (tb_6 66 _ rfl) 183 rfl (dd_X12_tell_1 39 _ _ _ rfl) ?_ (fun _ _ _ => rfl)
                        refine r_iload_7 185 rfl (dd_X12_tell_1 40 _ _ _ rfl) ?_
                        refine r_aload_0 186 rfl (dd_X12_tell_1 41 _ _ _ rfl) ?_
                        refine m_arr 10 hg hM (by decide) (by decide) (tb_6 66 _ rfl) 189 rfl (dd_X12_tell_1 42 _ _ _ rfl) ?_ (fun _ _ _ => rfl)
                        refine r_iload_7 191 rfl (dd_X12_tell_1 43 _ _ _ rfl) ?_
                        refine r_iconst 192 rfl (dd_X12_tell_1 44 _ _ _ rfl) ?_
                        refine r_isub 193 rfl (dd_X12_tell_1 45 _ _ _ rfl) ?_
                        refine m_iald 10 (30 * u + a) (by omega) hg hM rfl (by omega) (z_lt (n2 := 360) rfl (by omega)) (by decide) 194 rfl (dd_X12_tell_1 46 _ _ _ rfl) ?_
                        rw [zu2_ne (by omega), zsh_lo (by omega)]
                        refine m_iast 10 (30 * u + (a + 1)) (by omega) hg hM rfl (by omega) (z_lt (n2 := 360) rfl (by omega)) (by decide) 195 rfl (dd_X12_tell_1 47 _ _ _ rfl) (fun h20 hM => ?_)
                        refine r_aload_0 196 rfl (dd_X12_tell_1 48 _ _ _ rfl) ?_
                        refine m_arr 11 hg hM (by decide) (by decide) (tb_6 67 _ rfl) 199 rfl (dd_X12_tell_1 49 _ _ _ rfl) ?_ (fun _ _ _ => rfl)
                        refine r_iload_7 201 rfl (dd_X12_tell_1 50 _ _ _ rfl) ?_
                        refine r_aload_0 202 rfl (dd_X12_tell_1 51 _ _ _ rfl) ?_
                        refine m_arr 11 hg hM (by decide) (by decide) (tb_6 67 _ rfl) 205 rfl (dd_X12_tell_1 52 _ _ _ rfl) ?_ (fun _ _ _ => rfl)
                        refine r_iload_7 207 rfl (dd_X12_tell_1 53 _ _ _ rfl) ?_
                        refine r_iconst 208 rfl (dd_X12_tell_1 54 _ _ _ rfl) ?_
                        refine r_isub 209 rfl (dd_X12_tell_1 55 _ _ _ rfl) ?_
                        refine m_iald 11 (30 * u + a) (by omega) hg hM rfl (by omega) (z_lt (n2 := 360) rfl (by omega)) (by decide) 210 rfl (dd_X12_tell_1 56 _ _ _ rfl) ?_
                        rw [zu2_ne (by omega), zu2_ne (by omega), zsh_lo (by omega)]
                        refine m_iast 11 (30 * u + (a + 1)) (by omega) hg hM rfl (by omega) (z_lt (n2 := 360) rfl (by omega)) (by decide) 211 rfl (dd_X12_tell_1 57 _ _ _ rfl) (fun h21 hM => ?_)
                        refine r_iinc_7 214 rfl (by decide) rfl (dd_X12_tell_1 58 _ _ _ rfl) ?_
                        refine r_iinc_8 217 rfl (by decide) rfl (dd_X12_tell_1 59 _ _ _ rfl) ?_
                        refine r_goto 140 rfl (dd_X12_tell_2 0 _ _ _ rfl) ?_
                        exact r_sub _ (z_s1 (z_s1 (z_s1 (z_s1 (z_s1 (z_s1 (z_s1 (z_s1 (z_s1 z_sN))))))))) (ih140 a _ _ _ (by omega) (by omega) (by omega) (by omega) (by rw [hz, hzp]) (by rw [← zsh_step (by omega)]; exact hM))
                exact r_sub _ (z_s1 (z_s1 (z_s1 (z_s1 (z_s1 (z_s1 (z_s1 (z_s1 (z_s1 z_sN))))))))) (L140 1000000 (S.2 8 u).toNat _ _ _ (by omega) (by omega) (by omega) (by omega) rfl (by rw [zsh_0]; exact hM))
              · refine r_iconst 112 rfl (dd_X12_tell_0 57 _ _ _ rfl) ?_
                refine r_goto 116 rfl (dd_X12_tell_0 58 _ _ _ rfl) ?_
                refine r_callV1 (lvl := 10) (mc1 := 0) (ms1 := 0) 0 0 hg rfl md_X12_goesWell zc_X12 hM.kd wi_X12_goesWell wv_X12_goesWell (tb_6 197 _ rfl) (by decide) (by decide) rfl (Nat.le_of_ble_eq_true rfl) (by decide) (by decide) 119 rfl (dd_X12_tell_1 0 _ _ _ rfl) ?_
                refine c_X12_goesWell hg hM (by decide) (fun q => absurd q (by decide)) (fun _ h22 hM => ?_)
                dsimp only [zCont, Option.toList, List.cons_append, List.nil_append]
                refine r_ifne (by omega) 122 rfl 124 rfl (dd_X12_tell_1 1 _ _ _ rfl) (fun q => absurd q (by decide)) (fun _ => ?_)
                refine r_iconst 123 rfl (dd_X12_tell_1 2 _ _ _ rfl) ?_
                refine r_ireturn rfl rfl (dd_X12_tell_1 3 _ _ _ rfl) ?_
                first | exact k1 (by omega) _ hM | exact k2 u rfl (by omega) (by omega) _ hM | exact k3 u rfl (by omega) (by omega) (by omega) _ hM
            · dsimp only [zCont, Option.toList, List.cons_append, List.nil_append]
              refine r_ifeq (by omega) 74 rfl 78 rfl (dd_X12_tell_0 37 _ _ _ rfl) (fun _ => ?_) (fun q => absurd q (by decide))
              refine r_iconst 79 rfl (dd_X12_tell_0 40 _ _ _ rfl) ?_
              refine r_istore_6 81 rfl (by decide) rfl (dd_X12_tell_0 41 _ _ _ rfl) ?_
              refine r_aload_0 82 rfl (dd_X12_tell_0 42 _ _ _ rfl) ?_
              refine r_iload_5 84 rfl (dd_X12_tell_0 43 _ _ _ rfl) ?_
              refine r_ifne (by omega) 87 rfl 91 rfl (dd_X12_tell_0 44 _ _ _ rfl) (fun _ => ?_) (fun q => absurd q (by decide))
              refine r_iload_6 93 rfl (dd_X12_tell_0 47 _ _ _ rfl) ?_
              refine r_ifne (by omega) 96 rfl 100 rfl (dd_X12_tell_0 48 _ _ _ rfl) (fun q => absurd q (by decide)) (fun _ => ?_)
              refine r_iconst 97 rfl (dd_X12_tell_0 49 _ _ _ rfl) ?_
              refine r_goto 116 rfl (dd_X12_tell_0 50 _ _ _ rfl) ?_
              refine r_callV1 (lvl := 10) (mc1 := 0) (ms1 := 0) 0 0 hg rfl md_X12_goesWell zc_X12 hM.kd wi_X12_goesWell wv_X12_goesWell (tb_6 197 _ rfl) (by decide) (by decide) rfl (Nat.le_of_ble_eq_true rfl) (by decide) (by decide) 119 rfl (dd_X12_tell_1 0 _ _ _ rfl) ?_
              refine c_X12_goesWell hg hM (by decide) (fun q => absurd q (by decide)) (fun _ h23 hM => ?_)
              dsimp only [zCont, Option.toList, List.cons_append, List.nil_append]
              refine r_ifne (by omega) 122 rfl 124 rfl (dd_X12_tell_1 1 _ _ _ rfl) (fun q => absurd q (by decide)) (fun _ => ?_)
              refine r_iconst 123 rfl (dd_X12_tell_1 2 _ _ _ rfl) ?_
              refine r_ireturn rfl rfl (dd_X12_tell_1 3 _ _ _ rfl) ?_
              first | exact k1 (by omega) _ hM | exact k2 u rfl (by omega) (by omega) _ hM | exact k3 u rfl (by omega) (by omega) (by omega) _ hM
          · dsimp only [zCont, Option.toList, List.cons_append, List.nil_append]
            refine r_ifeq (by omega) 56 rfl 78 rfl (dd_X12_tell_0 28 _ _ _ rfl) (fun _ => ?_) (fun q => absurd q (by decide))
            refine r_iconst 79 rfl (dd_X12_tell_0 40 _ _ _ rfl) ?_
            refine r_istore_6 81 rfl (by decide) rfl (dd_X12_tell_0 41 _ _ _ rfl) ?_
            refine r_aload_0 82 rfl (dd_X12_tell_0 42 _ _ _ rfl) ?_
            refine r_iload_5 84 rfl (dd_X12_tell_0 43 _ _ _ rfl) ?_
            refine r_ifne (by omega) 87 rfl 91 rfl (dd_X12_tell_0 44 _ _ _ rfl) (fun _ => ?_) (fun q => absurd q (by decide))
            refine r_iload_6 93 rfl (dd_X12_tell_0 47 _ _ _ rfl) ?_
            refine r_ifne (by omega) 96 rfl 100 rfl (dd_X12_tell_0 48 _ _ _ rfl) (fun q => absurd q (by decide)) (fun _ => ?_)
            refine r_iconst 97 rfl (dd_X12_tell_0 49 _ _ _ rfl) ?_
            refine r_goto 116 rfl (dd_X12_tell_0 50 _ _ _ rfl) ?_
            refine r_callV1 (lvl := 10) (mc1 := 0) (ms1 := 0) 0 0 hg rfl md_X12_goesWell zc_X12 hM.kd wi_X12_goesWell wv_X12_goesWell (tb_6 197 _ rfl) (by decide) (by decide) rfl (Nat.le_of_ble_eq_true rfl) (by decide) (by decide) 119 rfl (dd_X12_tell_1 0 _ _ _ rfl) ?_
            refine c_X12_goesWell hg hM (by decide) (fun q => absurd q (by decide)) (fun _ h24 hM => ?_)
            dsimp only [zCont, Option.toList, List.cons_append, List.nil_append]
            refine r_ifne (by omega) 122 rfl 124 rfl (dd_X12_tell_1 1 _ _ _ rfl) (fun q => absurd q (by decide)) (fun _ => ?_)
            refine r_iconst 123 rfl (dd_X12_tell_1 2 _ _ _ rfl) ?_
            refine r_ireturn rfl rfl (dd_X12_tell_1 3 _ _ _ rfl) ?_
            first | exact k1 (by omega) _ hM | exact k2 u rfl (by omega) (by omega) _ hM | exact k3 u rfl (by omega) (by omega) (by omega) _ hM
        · dsimp only [zCont, Option.toList, List.cons_append, List.nil_append]
          refine r_ifeq (by omega) 47 rfl 78 rfl (dd_X12_tell_0 23 _ _ _ rfl) (fun _ => ?_) (fun q => absurd q (by decide))
          refine r_iconst 79 rfl (dd_X12_tell_0 40 _ _ _ rfl) ?_
          refine r_istore_6 81 rfl (by decide) rfl (dd_X12_tell_0 41 _ _ _ rfl) ?_
          refine r_aload_0 82 rfl (dd_X12_tell_0 42 _ _ _ rfl) ?_
          refine r_iload_5 84 rfl (dd_X12_tell_0 43 _ _ _ rfl) ?_
          refine r_ifne (by omega) 87 rfl 91 rfl (dd_X12_tell_0 44 _ _ _ rfl) (fun _ => ?_) (fun q => absurd q (by decide))
          refine r_iload_6 93 rfl (dd_X12_tell_0 47 _ _ _ rfl) ?_
          refine r_ifne (by omega) 96 rfl 100 rfl (dd_X12_tell_0 48 _ _ _ rfl) (fun q => absurd q (by decide)) (fun _ => ?_)
          refine r_iconst 97 rfl (dd_X12_tell_0 49 _ _ _ rfl) ?_
          refine r_goto 116 rfl (dd_X12_tell_0 50 _ _ _ rfl) ?_
          refine r_callV1 (lvl := 10) (mc1 := 0) (ms1 := 0) 0 0 hg rfl md_X12_goesWell zc_X12 hM.kd wi_X12_goesWell wv_X12_goesWell (tb_6 197 _ rfl) (by decide) (by decide) rfl (Nat.le_of_ble_eq_true rfl) (by decide) (by decide) 119 rfl (dd_X12_tell_1 0 _ _ _ rfl) ?_
          refine c_X12_goesWell hg hM (by decide) (fun q => absurd q (by decide)) (fun _ h25 hM => ?_)
          dsimp only [zCont, Option.toList, List.cons_append, List.nil_append]
          refine r_ifne (by omega) 122 rfl 124 rfl (dd_X12_tell_1 1 _ _ _ rfl) (fun q => absurd q (by decide)) (fun _ => ?_)
          refine r_iconst 123 rfl (dd_X12_tell_1 2 _ _ _ rfl) ?_
          refine r_ireturn rfl rfl (dd_X12_tell_1 3 _ _ _ rfl) ?_
          first | exact k1 (by omega) _ hM | exact k2 u rfl (by omega) (by omega) _ hM | exact k3 u rfl (by omega) (by omega) (by omega) _ hM
      · dsimp only [zCont, Option.toList, List.cons_append, List.nil_append]
        refine r_ifeq (by omega) 25 rfl 29 rfl (dd_X12_tell_0 12 _ _ _ rfl) (fun _ => ?_) (fun q => absurd q (by decide))
        refine r_iconst 30 rfl (dd_X12_tell_0 15 _ _ _ rfl) ?_
        refine r_istore_5 32 rfl (by decide) rfl (dd_X12_tell_0 16 _ _ _ rfl) ?_
        refine r_iload_5 34 rfl (dd_X12_tell_0 17 _ _ _ rfl) ?_
        refine r_ifeq (by omega) 37 rfl 78 rfl (dd_X12_tell_0 18 _ _ _ rfl) (fun _ => ?_) (fun q => absurd q (by decide))
        refine r_iconst 79 rfl (dd_X12_tell_0 40 _ _ _ rfl) ?_
        refine r_istore_6 81 rfl (by decide) rfl (dd_X12_tell_0 41 _ _ _ rfl) ?_
        refine r_aload_0 82 rfl (dd_X12_tell_0 42 _ _ _ rfl) ?_
        refine r_iload_5 84 rfl (dd_X12_tell_0 43 _ _ _ rfl) ?_
        refine r_ifne (by omega) 87 rfl 91 rfl (dd_X12_tell_0 44 _ _ _ rfl) (fun q => absurd q (by decide)) (fun _ => ?_)
        refine r_iconst 88 rfl (dd_X12_tell_0 45 _ _ _ rfl) ?_
        refine r_goto 116 rfl (dd_X12_tell_0 46 _ _ _ rfl) ?_
        refine r_callV1 (lvl := 10) (mc1 := 0) (ms1 := 0) 0 0 hg rfl md_X12_goesWell zc_X12 hM.kd wi_X12_goesWell wv_X12_goesWell (tb_6 197 _ rfl) (by decide) (by decide) rfl (Nat.le_of_ble_eq_true rfl) (by decide) (by decide) 119 rfl (dd_X12_tell_1 0 _ _ _ rfl) ?_
        refine c_X12_goesWell hg hM (by decide) (fun q => absurd q (by decide)) (fun _ h26 hM => ?_)
        dsimp only [zCont, Option.toList, List.cons_append, List.nil_append]
        refine r_ifne (by omega) 122 rfl 124 rfl (dd_X12_tell_1 1 _ _ _ rfl) (fun q => absurd q (by decide)) (fun _ => ?_)
        refine r_iconst 123 rfl (dd_X12_tell_1 2 _ _ _ rfl) ?_
        refine r_ireturn rfl rfl (dd_X12_tell_1 3 _ _ _ rfl) ?_
        first | exact k1 (by omega) _ hM | exact k2 u rfl (by omega) (by omega) _ hM | exact k3 u rfl (by omega) (by omega) (by omega) _ hM
    · dsimp only [zCont, Option.toList, List.cons_append, List.nil_append]
      refine r_ifeq (by omega) 17 rfl 25 rfl (dd_X12_tell_0 8 _ _ _ rfl) (fun _ => ?_) (fun q => absurd q (by decide))
      refine r_iconst 26 rfl (dd_X12_tell_0 13 _ _ _ rfl) ?_
      refine r_goto 30 rfl (dd_X12_tell_0 14 _ _ _ rfl) ?_
      refine r_istore_5 32 rfl (by decide) rfl (dd_X12_tell_0 16 _ _ _ rfl) ?_
      refine r_iload_5 34 rfl (dd_X12_tell_0 17 _ _ _ rfl) ?_
      refine r_ifeq (by omega) 37 rfl 78 rfl (dd_X12_tell_0 18 _ _ _ rfl) (fun q => absurd q (by decide)) (fun _ => ?_)
      refine r_iload_2 38 rfl (dd_X12_tell_0 19 _ _ _ rfl) ?_
      refine r_iconst 39 rfl (dd_X12_tell_0 20 _ _ _ rfl) ?_
      refine r_bipush (by decide) 41 rfl (dd_X12_tell_0 21 _ _ _ rfl) ?_
      refine r_callS3 (lvl := 10) (mc1 := 0) (ms1 := 0) 0 0 hg rfl md_X12_in ws_X12_in (tb_6 209 _ rfl) (by decide) (by decide) rfl (Nat.le_of_ble_eq_true rfl) (by decide) (by decide) 44 rfl (dd_X12_tell_0 22 _ _ _ rfl) ?_
      refine c_X12_in hg (by omega) (by omega) (by omega) (fun hb27 => ?_) (fun hb27 => ?_)
      · dsimp only [zCont, Option.toList, List.cons_append, List.nil_append]
        refine r_ifeq (by omega) 47 rfl 78 rfl (dd_X12_tell_0 23 _ _ _ rfl) (fun q => absurd q (by decide)) (fun _ => ?_)
        refine r_aload_0 48 rfl (dd_X12_tell_0 24 _ _ _ rfl) ?_
        refine r_iload_2 49 rfl (dd_X12_tell_0 25 _ _ _ rfl) ?_
        refine r_iload_3 50 rfl (dd_X12_tell_0 26 _ _ _ rfl) ?_
        refine r_callV2 (lvl := 11) (mc1 := 0) (ms1 := 0) 0 0 hg rfl md_X12_isAbout zc_X12 hM.kd wi_X12_isAbout wv_X12_isAbout (tb_7 4 _ rfl) (by decide) (by decide) rfl (Nat.le_of_ble_eq_true rfl) (by decide) (by decide) 53 rfl (dd_X12_tell_0 27 _ _ _ rfl) ?_
        refine c_X12_isAbout hg hM (by omega) (by omega) (fun hb28 => ?_) (fun hb28 => ?_)
        · dsimp only [zCont, Option.toList, List.cons_append, List.nil_append]
          refine r_ifeq (by omega) 56 rfl 78 rfl (dd_X12_tell_0 28 _ _ _ rfl) (fun q => absurd q (by decide)) (fun _ => ?_)
          refine r_iload_4 58 rfl (dd_X12_tell_0 29 _ _ _ rfl) ?_
          refine r_aload_0 59 rfl (dd_X12_tell_0 30 _ _ _ rfl) ?_
          refine m_arr 6 hg hM (by decide) (by decide) (tb_6 62 _ rfl) 62 rfl (dd_X12_tell_0 31 _ _ _ rfl) ?_ (fun _ _ _ => rfl)
          refine r_iload_1 63 rfl (dd_X12_tell_0 32 _ _ _ rfl) ?_
          refine m_iald 6 (u) (by omega) hg hM rfl (by omega) (z_lt (n2 := 12) rfl (by omega)) (by decide) 64 rfl (dd_X12_tell_0 33 _ _ _ rfl) ?_
          refine r_aload_0 65 rfl (dd_X12_tell_0 34 _ _ _ rfl) ?_
          refine m_get 1 hg hM (by unfold z_free; decide) rfl (by decide) (tb_6 57 _ rfl) 68 rfl (dd_X12_tell_0 35 _ _ _ rfl) ?_ (fun _ _ _ => rfl)
          refine r_callS3 (lvl := 10) (mc1 := 0) (ms1 := 0) 0 0 hg rfl md_X12_in ws_X12_in (tb_6 209 _ rfl) (by decide) (by decide) rfl (Nat.le_of_ble_eq_true rfl) (by decide) (by decide) 71 rfl (dd_X12_tell_0 36 _ _ _ rfl) ?_
          refine c_X12_in hg (by omega) (by omega) (by omega) (fun hb29 => ?_) (fun hb29 => ?_)
          · dsimp only [zCont, Option.toList, List.cons_append, List.nil_append]
            refine r_ifeq (by omega) 74 rfl 78 rfl (dd_X12_tell_0 37 _ _ _ rfl) (fun q => absurd q (by decide)) (fun _ => ?_)
            refine r_iconst 75 rfl (dd_X12_tell_0 38 _ _ _ rfl) ?_
            refine r_goto 79 rfl (dd_X12_tell_0 39 _ _ _ rfl) ?_
            refine r_istore_6 81 rfl (by decide) rfl (dd_X12_tell_0 41 _ _ _ rfl) ?_
            refine r_aload_0 82 rfl (dd_X12_tell_0 42 _ _ _ rfl) ?_
            refine r_iload_5 84 rfl (dd_X12_tell_0 43 _ _ _ rfl) ?_
            refine r_ifne (by omega) 87 rfl 91 rfl (dd_X12_tell_0 44 _ _ _ rfl) (fun _ => ?_) (fun q => absurd q (by decide))
            refine r_iload_6 93 rfl (dd_X12_tell_0 47 _ _ _ rfl) ?_
            refine r_ifne (by omega) 96 rfl 100 rfl (dd_X12_tell_0 48 _ _ _ rfl) (fun _ => ?_) (fun q => absurd q (by decide))
            refine r_aload_0 101 rfl (dd_X12_tell_0 51 _ _ _ rfl) ?_
            refine m_arr 8 hg hM (by decide) (by decide) (tb_6 64 _ rfl) 104 rfl (dd_X12_tell_0 52 _ _ _ rfl) ?_ (fun _ _ _ => rfl)
            refine r_iload_1 105 rfl (dd_X12_tell_0 53 _ _ _ rfl) ?_
            refine m_iald 8 (u) (by omega) hg hM rfl (by omega) (z_lt (n2 := 12) rfl (by omega)) (by decide) 106 rfl (dd_X12_tell_0 54 _ _ _ rfl) ?_
            refine r_bipush (by decide) 108 rfl (dd_X12_tell_0 55 _ _ _ rfl) ?_
            refine r_if_icmpne (by omega) (by omega) 111 rfl 115 rfl (dd_X12_tell_0 56 _ _ _ rfl) (fun hc30 => ?_) (fun hc30 => ?_)
            · refine r_iconst 116 rfl (dd_X12_tell_0 59 _ _ _ rfl) ?_
              refine r_callV1 (lvl := 10) (mc1 := 0) (ms1 := 0) 0 0 hg rfl md_X12_goesWell zc_X12 hM.kd wi_X12_goesWell wv_X12_goesWell (tb_6 197 _ rfl) (by decide) (by decide) rfl (Nat.le_of_ble_eq_true rfl) (by decide) (by decide) 119 rfl (dd_X12_tell_1 0 _ _ _ rfl) ?_
              refine c_X12_goesWell hg hM (by decide) (fun _ h31 hM => ?_) (fun q => absurd rfl q)
              dsimp only [zCont, Option.toList, List.cons_append, List.nil_append]
              refine r_ifne (by omega) 122 rfl 124 rfl (dd_X12_tell_1 1 _ _ _ rfl) (fun _ => ?_) (fun q => absurd q (by decide))
              refine r_bipush (by decide) 126 rfl (dd_X12_tell_1 4 _ _ _ rfl) ?_
              refine r_iload_1 127 rfl (dd_X12_tell_1 5 _ _ _ rfl) ?_
              refine r_imul 128 rfl (dd_X12_tell_1 6 _ _ _ rfl) ?_
              refine r_aload_0 129 rfl (dd_X12_tell_1 7 _ _ _ rfl) ?_
              refine m_arr 8 hg hM (by decide) (by decide) (tb_6 64 _ rfl) 132 rfl (dd_X12_tell_1 8 _ _ _ rfl) ?_ (fun _ _ _ => rfl)
              refine r_iload_1 133 rfl (dd_X12_tell_1 9 _ _ _ rfl) ?_
              refine m_iald 8 (u) (by omega) hg hM rfl (by omega) (z_lt (n2 := 12) rfl (by omega)) (by decide) 134 rfl (dd_X12_tell_1 10 _ _ _ rfl) ?_
              refine r_iadd 135 rfl (dd_X12_tell_1 11 _ _ _ rfl) ?_
              refine r_istore_7 137 rfl (by decide) rfl (dd_X12_tell_1 12 _ _ _ rfl) ?_
              refine r_iconst 138 rfl (dd_X12_tell_1 13 _ _ _ rfl) ?_
              refine r_istore_8 140 rfl (by decide) rfl (dd_X12_tell_1 14 _ _ _ rfl) ?_
              have L140 : ∀ (tt : Nat), ∀ (q : Nat) (b c : Int) (h : zH), q < tt → (q ≤ (S.2 8 u).toNat) → (b = 30 * u + q) → (c = (S.2 8 u).toNat - (q : Int)) → (zpos S.2 (30 * u) w (S.2 8 u).toNat = zpos S.2 (30 * u) w q) → (MI h0 m A (S.1, zsh S.2 (30 * u) q (S.2 8 u).toNat) 0 h) → zX g mX12_tell 0 0 Q 140 [some (.ref m), some (.int (zI (u : Int))), some (.int (zI its)), some (.int (zI what)), some (.int (zI w)), some (.int (zI 1)), some (.int (zI 1)), some (.int (zI b)), some (.int (zI c))] [] h 0 0 := by
                intro tt140
                induction tt140 with
                | zero => intros; exfalso; omega
                | succ tt140 ih140 =>
                  intro q b c h hlt140 hq hb hc hz hM
                  refine r_iload_7 142 rfl (dd_X12_tell_1 15 _ _ _ rfl) ?_
                  refine r_bipush (by decide) 144 rfl (dd_X12_tell_1 16 _ _ _ rfl) ?_
                  refine r_iload_1 145 rfl (dd_X12_tell_1 17 _ _ _ rfl) ?_
                  refine r_imul 146 rfl (dd_X12_tell_1 18 _ _ _ rfl) ?_
                  refine r_if_icmple (by omega) (by omega) 149 rfl 220 rfl (dd_X12_tell_1 19 _ _ _ rfl) (fun hc32 => ?_) (fun hc32 => ?_)
                  · obtain ⟨p, hp⟩ : ∃ p, p = zpos S.2 (30 * u) w (S.2 8 u).toNat := ⟨_, rfl⟩
                    have hpq : p = q := by rw [hp, hz]; first | (show (if w < S.2 11 (30 * u + a) then zpos S.2 (30 * u) w a else a + 1) = _; exact if_neg (by omega)) | (rw [show q = 0 by omega]; rfl)
                    rw [← hpq] at hM
                    refine r_aload_0 221 rfl (dd_X12_tell_2 1 _ _ _ rfl) ?_
                    refine m_arr 9 hg hM (by decide) (by decide) (tb_6 65 _ rfl) 224 rfl (dd_X12_tell_2 2 _ _ _ rfl) ?_ (fun _ _ _ => rfl)
                    refine r_iload_7 226 rfl (dd_X12_tell_2 3 _ _ _ rfl) ?_
                    refine r_iload_2 227 rfl (dd_X12_tell_2 4 _ _ _ rfl) ?_
                    refine m_iast 9 (30 * u + p) (by omega) hg hM rfl (by omega) (z_lt (n2 := 360) rfl (by omega)) (by decide) 228 rfl (dd_X12_tell_2 5 _ _ _ rfl) (fun h33 hM => ?_)
                    refine r_aload_0 229 rfl (dd_X12_tell_2 6 _ _ _ rfl) ?_
                    refine m_arr 10 hg hM (by decide) (by decide) (tb_6 66 _ rfl) 232 rfl (dd_X12_tell_2 7 _ _ _ rfl) ?_ (fun _ _ _ => rfl)
                    refine r_iload_7 234 rfl (dd_X12_tell_2 8 _ _ _ rfl) ?_
                    refine r_iload_3 235 rfl (dd_X12_tell_2 9 _ _ _ rfl) ?_
                    refine m_iast 10 (30 * u + p) (by omega) hg hM rfl (by omega) (z_lt (n2 := 360) rfl (by omega)) (by decide) 236 rfl (dd_X12_tell_2 10 _ _ _ rfl) (fun h34 hM => ?_)
                    refine r_aload_0 237 rfl (dd_X12_tell_2 11 _ _ _ rfl) ?_
                    refine m_arr 11 hg hM (by decide) (by decide) (tb_6 67 _ rfl) 240 rfl (dd_X12_tell_2 12 _ _ _ rfl) ?_ (fun _ _ _ => rfl)
                    refine r_iload_7 242 rfl (dd_X12_tell_2 13 _ _ _ rfl) ?_
                    refine r_iload_4 244 rfl (dd_X12_tell_2 14 _ _ _ rfl) ?_
                    refine m_iast 11 (30 * u + p) (by omega) hg hM rfl (by omega) (z_lt (n2 := 360) rfl (by omega)) (by decide) 245 rfl (dd_X12_tell_2 15 _ _ _ rfl) (fun h35 hM => ?_)
                    refine r_aload_0 246 rfl (dd_X12_tell_2 16 _ _ _ rfl) ?_
                    refine m_arr 8 hg hM (by decide) (by decide) (tb_6 64 _ rfl) 249 rfl (dd_X12_tell_2 17 _ _ _ rfl) ?_ (fun _ _ _ => rfl)
                    refine r_iload_1 250 rfl (dd_X12_tell_2 18 _ _ _ rfl) ?_
                    refine r_dup2 rfl rfl 251 rfl (dd_X12_tell_2 19 _ _ _ rfl) ?_
                    refine m_iald 8 (u) (by omega) hg hM rfl (by omega) (z_lt (n2 := 12) rfl (by omega)) (by decide) 252 rfl (dd_X12_tell_2 20 _ _ _ rfl) ?_
                    rw [zu2_ne (by omega), zu2_ne (by omega), zu2_ne (by omega), zsh_other (by omega)]
                    refine r_iconst 253 rfl (dd_X12_tell_2 21 _ _ _ rfl) ?_
                    refine r_iadd 254 rfl (dd_X12_tell_2 22 _ _ _ rfl) ?_
                    refine m_iast 8 (u) (by omega) hg hM rfl (by omega) (z_lt (n2 := 12) rfl (by omega)) (by decide) 255 rfl (dd_X12_tell_2 23 _ _ _ rfl) (fun h36 hM => ?_)
                    refine r_iload_8 257 rfl (dd_X12_tell_2 24 _ _ _ rfl) ?_
                    refine r_ireturn rfl rfl (dd_X12_tell_2 25 _ _ _ rfl) ?_
                    have k := k0 u p rfl (by omega) (by omega) (by omega) hp _ hM
                    rw [show c = (S.2 8 u).toNat - (p : Int) by omega]
                    exact k
                  · obtain ⟨a, rfl⟩ : ∃ a, q = a + 1 := ⟨q - 1, by omega⟩
                    have e4 := hI.day (30 * u + a)
                    have e5 := hI.kind (30 * u + a)
                    have e7 := hI.about (30 * u + a)
                    refine r_aload_0 150 rfl (dd_X12_tell_1 20 _ _ _ rfl) ?_
                    refine m_arr 11 hg hM (by decide) (by decide) (tb_6 67 _ rfl) 153 rfl (dd_X12_tell_1 21 _ _ _ rfl) ?_ (fun _ _ _ => rfl)
                    refine r_iload_7 155 rfl (dd_X12_tell_1 22 _ _ _ rfl) ?_
                    refine r_iconst 156 rfl (dd_X12_tell_1 23 _ _ _ rfl) ?_
                    refine r_isub 157 rfl (dd_X12_tell_1 24 _ _ _ rfl) ?_
                    refine m_iald 11 (30 * u + a) (by omega) hg hM rfl (by omega) (z_lt (n2 := 360) rfl (by omega)) (by decide) 158 rfl (dd_X12_tell_1 25 _ _ _ rfl) ?_
                    rw [zsh_lo (by omega)]
                    refine r_iload_4 160 rfl (dd_X12_tell_1 26 _ _ _ rfl) ?_
                    refine r_if_icmple (by omega) (by omega) 163 rfl 220 rfl (dd_X12_tell_1 27 _ _ _ rfl) (fun hc37 => ?_) (fun hc37 => ?_)
                    · obtain ⟨p, hp⟩ : ∃ p, p = zpos S.2 (30 * u) w (S.2 8 u).toNat := ⟨_, rfl⟩
                      have hpq : p = a + 1 := by rw [hp, hz]; first | (show (if w < S.2 11 (30 * u + a) then zpos S.2 (30 * u) w a else a + 1) = _; exact if_neg (by omega)) | (rw [show a + 1 = 0 by omega]; rfl)
                      rw [← hpq] at hM
                      refine r_aload_0 221 rfl (dd_X12_tell_2 1 _ _ _ rfl) ?_
                      refine m_arr 9 hg hM (by decide) (by decide) (tb_6 65 _ rfl) 224 rfl (dd_X12_tell_2 2 _ _ _ rfl) ?_ (fun _ _ _ => rfl)
                      refine r_iload_7 226 rfl (dd_X12_tell_2 3 _ _ _ rfl) ?_
                      refine r_iload_2 227 rfl (dd_X12_tell_2 4 _ _ _ rfl) ?_
                      refine m_iast 9 (30 * u + p) (by omega) hg hM rfl (by omega) (z_lt (n2 := 360) rfl (by omega)) (by decide) 228 rfl (dd_X12_tell_2 5 _ _ _ rfl) (fun h38 hM => ?_)
                      refine r_aload_0 229 rfl (dd_X12_tell_2 6 _ _ _ rfl) ?_
                      refine m_arr 10 hg hM (by decide) (by decide) (tb_6 66 _ rfl) 232 rfl (dd_X12_tell_2 7 _ _ _ rfl) ?_ (fun _ _ _ => rfl)
                      refine r_iload_7 234 rfl (dd_X12_tell_2 8 _ _ _ rfl) ?_
                      refine r_iload_3 235 rfl (dd_X12_tell_2 9 _ _ _ rfl) ?_
                      refine m_iast 10 (30 * u + p) (by omega) hg hM rfl (by omega) (z_lt (n2 := 360) rfl (by omega)) (by decide) 236 rfl (dd_X12_tell_2 10 _ _ _ rfl) (fun h39 hM => ?_)
                      refine r_aload_0 237 rfl (dd_X12_tell_2 11 _ _ _ rfl) ?_
                      refine m_arr 11 hg hM (by decide) (by decide) (tb_6 67 _ rfl) 240 rfl (dd_X12_tell_2 12 _ _ _ rfl) ?_ (fun _ _ _ => rfl)
                      refine r_iload_7 242 rfl (dd_X12_tell_2 13 _ _ _ rfl) ?_
                      refine r_iload_4 244 rfl (dd_X12_tell_2 14 _ _ _ rfl) ?_
                      refine m_iast 11 (30 * u + p) (by omega) hg hM rfl (by omega) (z_lt (n2 := 360) rfl (by omega)) (by decide) 245 rfl (dd_X12_tell_2 15 _ _ _ rfl) (fun h40 hM => ?_)
                      refine r_aload_0 246 rfl (dd_X12_tell_2 16 _ _ _ rfl) ?_
                      refine m_arr 8 hg hM (by decide) (by decide) (tb_6 64 _ rfl) 249 rfl (dd_X12_tell_2 17 _ _ _ rfl) ?_ (fun _ _ _ => rfl)
                      refine r_iload_1 250 rfl (dd_X12_tell_2 18 _ _ _ rfl) ?_
                      refine r_dup2 rfl rfl 251 rfl (dd_X12_tell_2 19 _ _ _ rfl) ?_
                      refine m_iald 8 (u) (by omega) hg hM rfl (by omega) (z_lt (n2 := 12) rfl (by omega)) (by decide) 252 rfl (dd_X12_tell_2 20 _ _ _ rfl) ?_
                      rw [zu2_ne (by omega), zu2_ne (by omega), zu2_ne (by omega), zsh_other (by omega)]
                      refine r_iconst 253 rfl (dd_X12_tell_2 21 _ _ _ rfl) ?_
                      refine r_iadd 254 rfl (dd_X12_tell_2 22 _ _ _ rfl) ?_
                      refine m_iast 8 (u) (by omega) hg hM rfl (by omega) (z_lt (n2 := 12) rfl (by omega)) (by decide) 255 rfl (dd_X12_tell_2 23 _ _ _ rfl) (fun h41 hM => ?_)
                      refine r_iload_8 257 rfl (dd_X12_tell_2 24 _ _ _ rfl) ?_
                      refine r_ireturn rfl rfl (dd_X12_tell_2 25 _ _ _ rfl) ?_
                      have k := k0 u p rfl (by omega) (by omega) (by omega) hp _ hM
                      rw [show c = (S.2 8 u).toNat - (p : Int) by omega]
                      exact k
                    · have hzp : zpos S.2 (30 * u) w (a + 1) = zpos S.2 (30 * u) w a := by show (if w < S.2 11 (30 * u + a) then zpos S.2 (30 * u) w a else a + 1) = _; exact if_pos (by omega)
                      refine r_aload_0 164 rfl (dd_X12_tell_1 28 _ _ _ rfl) ?_
                      refine m_arr 9 hg hM (by decide) (by decide) (tb_6 65 _ rfl) 167 rfl (dd_X12_tell_1 29 _ _ _ rfl) ?_ (fun _ _ _ => rfl)
                      refine r_iload_7 169 rfl (dd_X12_tell_1 30 _ _ _ rfl) ?_
                      refine r_aload_0 170 rfl (dd_X12_tell_1 31 _ _ _ rfl) ?_
                      refine m_arr 9 hg hM (by decide) (by decide) (tb_6 65 _ rfl) 173 rfl (dd_X12_tell_1 32 _ _ _ rfl) ?_ (fun _ _ _ => rfl)
                      refine r_iload_7 175 rfl (dd_X12_tell_1 33 _ _ _ rfl) ?_
                      refine r_iconst 176 rfl (dd_X12_tell_1 34 _ _ _ rfl) ?_
                      refine r_isub 177 rfl (dd_X12_tell_1 35 _ _ _ rfl) ?_
                      refine m_iald 9 (30 * u + a) (by omega) hg hM rfl (by omega) (z_lt (n2 := 360) rfl (by omega)) (by decide) 178 rfl (dd_X12_tell_1 36 _ _ _ rfl) ?_
                      rw [zsh_lo (by omega)]
                      refine m_iast 9 (30 * u + (a + 1)) (by omega) hg hM rfl (by omega) (z_lt (n2 := 360) rfl (by omega)) (by decide) 179 rfl (dd_X12_tell_1 37 _ _ _ rfl) (fun h42 hM => ?_)
                      refine r_aload_0 180 rfl (dd_X12_tell_1 38 _ _ _ rfl) ?_
                      refine m_arr 10 hg hM (by decide) (by decide) (tb_6 66 _ rfl) 183 rfl (dd_X12_tell_1 39 _ _ _ rfl) ?_ (fun _ _ _ => rfl)
                      refine r_iload_7 185 rfl (dd_X12_tell_1 40 _ _ _ rfl) ?_
                      refine r_aload_0 186 rfl (dd_X12_tell_1 41 _ _ _ rfl) ?_
                      refine m_arr 10 hg hM (by decide) (by decide) (tb_6 66 _ rfl) 189 rfl (dd_X12_tell_1 42 _ _ _ rfl) ?_ (fun _ _ _ => rfl)
                      refine r_iload_7 191 rfl (dd_X12_tell_1 43 _ _ _ rfl) ?_
                      refine r_iconst 192 rfl (dd_X12_tell_1 44 _ _ _ rfl) ?_
                      refine r_isub 193 rfl (dd_X12_tell_1 45 _ _ _ rfl) ?_
                      refine m_iald 10 (30 * u + a) (by omega) hg hM rfl (by omega) (z_lt (n2 := 360) rfl (by omega)) (by decide) 194 rfl (dd_X12_tell_1 46 _ _ _ rfl) ?_
                      rw [zu2_ne (by omega), zsh_lo (by omega)]
                      refine m_iast 10 (30 * u + (a + 1)) (by omega) hg hM rfl (by omega) (z_lt (n2 := 360) rfl (by omega)) (by decide) 195 rfl (dd_X12_tell_1 47 _ _ _ rfl) (fun h43 hM => ?_)
                      refine r_aload_0 196 rfl (dd_X12_tell_1 48 _ _ _ rfl) ?_
                      refine m_arr 11 hg hM (by decide) (by decide) (tb_6 67 _ rfl) 199 rfl (dd_X12_tell_1 49 _ _ _ rfl) ?_ (fun _ _ _ => rfl)
                      refine r_iload_7 201 rfl (dd_X12_tell_1 50 _ _ _ rfl) ?_
                      refine r_aload_0 202 rfl (dd_X12_tell_1 51 _ _ _ rfl) ?_
                      refine m_arr 11 hg hM (by decide) (by decide) (tb_6 67 _ rfl) 205 rfl (dd_X12_tell_1 52 _ _ _ rfl) ?_ (fun _ _ _ => rfl)
                      refine r_iload_7 207 rfl (dd_X12_tell_1 53 _ _ _ rfl) ?_
                      refine r_iconst 208 rfl (dd_X12_tell_1 54 _ _ _ rfl) ?_
                      refine r_isub 209 rfl (dd_X12_tell_1 55 _ _ _ rfl) ?_
                      refine m_iald 11 (30 * u + a) (by omega) hg hM rfl (by omega) (z_lt (n2 := 360) rfl (by omega)) (by decide) 210 rfl (dd_X12_tell_1 56 _ _ _ rfl) ?_
                      rw [zu2_ne (by omega), zu2_ne (by omega), zsh_lo (by omega)]
                      refine m_iast 11 (30 * u + (a + 1)) (by omega) hg hM rfl (by omega) (z_lt (n2 := 360) rfl (by omega)) (by decide) 211 rfl (dd_X12_tell_1 57 _ _ _ rfl) (fun h44 hM => ?_)
                      refine r_iinc_7 214 rfl (by decide) rfl (dd_X12_tell_1 58 _ _ _ rfl) ?_
                      refine r_iinc_8 217 rfl (by decide) rfl (dd_X12_tell_1 59 _ _ _ rfl) ?_
                      refine r_goto 140 rfl (dd_X12_tell_2 0 _ _ _ rfl) ?_
                      exact r_sub _ (z_s1 (z_s1 (z_s1 (z_s1 (z_s1 (z_s1 (z_s1 (z_s1 (z_s1 z_sN))))))))) (ih140 a _ _ _ (by omega) (by omega) (by omega) (by omega) (by rw [hz, hzp]) (by rw [← zsh_step (by omega)]; exact hM))
              exact r_sub _ (z_s1 (z_s1 (z_s1 (z_s1 (z_s1 (z_s1 (z_s1 (z_s1 (z_s1 z_sN))))))))) (L140 1000000 (S.2 8 u).toNat _ _ _ (by omega) (by omega) (by omega) (by omega) rfl (by rw [zsh_0]; exact hM))
            · refine r_iconst 112 rfl (dd_X12_tell_0 57 _ _ _ rfl) ?_
              refine r_goto 116 rfl (dd_X12_tell_0 58 _ _ _ rfl) ?_
              refine r_callV1 (lvl := 10) (mc1 := 0) (ms1 := 0) 0 0 hg rfl md_X12_goesWell zc_X12 hM.kd wi_X12_goesWell wv_X12_goesWell (tb_6 197 _ rfl) (by decide) (by decide) rfl (Nat.le_of_ble_eq_true rfl) (by decide) (by decide) 119 rfl (dd_X12_tell_1 0 _ _ _ rfl) ?_
              refine c_X12_goesWell hg hM (by decide) (fun q => absurd q (by decide)) (fun _ h45 hM => ?_)
              dsimp only [zCont, Option.toList, List.cons_append, List.nil_append]
              refine r_ifne (by omega) 122 rfl 124 rfl (dd_X12_tell_1 1 _ _ _ rfl) (fun q => absurd q (by decide)) (fun _ => ?_)
              refine r_iconst 123 rfl (dd_X12_tell_1 2 _ _ _ rfl) ?_
              refine r_ireturn rfl rfl (dd_X12_tell_1 3 _ _ _ rfl) ?_
              first | exact k1 (by omega) _ hM | exact k2 u rfl (by omega) (by omega) _ hM | exact k3 u rfl (by omega) (by omega) (by omega) _ hM
          · dsimp only [zCont, Option.toList, List.cons_append, List.nil_append]
            refine r_ifeq (by omega) 74 rfl 78 rfl (dd_X12_tell_0 37 _ _ _ rfl) (fun _ => ?_) (fun q => absurd q (by decide))
            refine r_iconst 79 rfl (dd_X12_tell_0 40 _ _ _ rfl) ?_
            refine r_istore_6 81 rfl (by decide) rfl (dd_X12_tell_0 41 _ _ _ rfl) ?_
            refine r_aload_0 82 rfl (dd_X12_tell_0 42 _ _ _ rfl) ?_
            refine r_iload_5 84 rfl (dd_X12_tell_0 43 _ _ _ rfl) ?_
            refine r_ifne (by omega) 87 rfl 91 rfl (dd_X12_tell_0 44 _ _ _ rfl) (fun _ => ?_) (fun q => absurd q (by decide))
            refine r_iload_6 93 rfl (dd_X12_tell_0 47 _ _ _ rfl) ?_
            refine r_ifne (by omega) 96 rfl 100 rfl (dd_X12_tell_0 48 _ _ _ rfl) (fun q => absurd q (by decide)) (fun _ => ?_)
            refine r_iconst 97 rfl (dd_X12_tell_0 49 _ _ _ rfl) ?_
            refine r_goto 116 rfl (dd_X12_tell_0 50 _ _ _ rfl) ?_
            refine r_callV1 (lvl := 10) (mc1 := 0) (ms1 := 0) 0 0 hg rfl md_X12_goesWell zc_X12 hM.kd wi_X12_goesWell wv_X12_goesWell (tb_6 197 _ rfl) (by decide) (by decide) rfl (Nat.le_of_ble_eq_true rfl) (by decide) (by decide) 119 rfl (dd_X12_tell_1 0 _ _ _ rfl) ?_
            refine c_X12_goesWell hg hM (by decide) (fun q => absurd q (by decide)) (fun _ h46 hM => ?_)
            dsimp only [zCont, Option.toList, List.cons_append, List.nil_append]
            refine r_ifne (by omega) 122 rfl 124 rfl (dd_X12_tell_1 1 _ _ _ rfl) (fun q => absurd q (by decide)) (fun _ => ?_)
            refine r_iconst 123 rfl (dd_X12_tell_1 2 _ _ _ rfl) ?_
            refine r_ireturn rfl rfl (dd_X12_tell_1 3 _ _ _ rfl) ?_
            first | exact k1 (by omega) _ hM | exact k2 u rfl (by omega) (by omega) _ hM | exact k3 u rfl (by omega) (by omega) (by omega) _ hM
        · dsimp only [zCont, Option.toList, List.cons_append, List.nil_append]
          refine r_ifeq (by omega) 56 rfl 78 rfl (dd_X12_tell_0 28 _ _ _ rfl) (fun _ => ?_) (fun q => absurd q (by decide))
          refine r_iconst 79 rfl (dd_X12_tell_0 40 _ _ _ rfl) ?_
          refine r_istore_6 81 rfl (by decide) rfl (dd_X12_tell_0 41 _ _ _ rfl) ?_
          refine r_aload_0 82 rfl (dd_X12_tell_0 42 _ _ _ rfl) ?_
          refine r_iload_5 84 rfl (dd_X12_tell_0 43 _ _ _ rfl) ?_
          refine r_ifne (by omega) 87 rfl 91 rfl (dd_X12_tell_0 44 _ _ _ rfl) (fun _ => ?_) (fun q => absurd q (by decide))
          refine r_iload_6 93 rfl (dd_X12_tell_0 47 _ _ _ rfl) ?_
          refine r_ifne (by omega) 96 rfl 100 rfl (dd_X12_tell_0 48 _ _ _ rfl) (fun q => absurd q (by decide)) (fun _ => ?_)
          refine r_iconst 97 rfl (dd_X12_tell_0 49 _ _ _ rfl) ?_
          refine r_goto 116 rfl (dd_X12_tell_0 50 _ _ _ rfl) ?_
          refine r_callV1 (lvl := 10) (mc1 := 0) (ms1 := 0) 0 0 hg rfl md_X12_goesWell zc_X12 hM.kd wi_X12_goesWell wv_X12_goesWell (tb_6 197 _ rfl) (by decide) (by decide) rfl (Nat.le_of_ble_eq_true rfl) (by decide) (by decide) 119 rfl (dd_X12_tell_1 0 _ _ _ rfl) ?_
          refine c_X12_goesWell hg hM (by decide) (fun q => absurd q (by decide)) (fun _ h47 hM => ?_)
          dsimp only [zCont, Option.toList, List.cons_append, List.nil_append]
          refine r_ifne (by omega) 122 rfl 124 rfl (dd_X12_tell_1 1 _ _ _ rfl) (fun q => absurd q (by decide)) (fun _ => ?_)
          refine r_iconst 123 rfl (dd_X12_tell_1 2 _ _ _ rfl) ?_
          refine r_ireturn rfl rfl (dd_X12_tell_1 3 _ _ _ rfl) ?_
          first | exact k1 (by omega) _ hM | exact k2 u rfl (by omega) (by omega) _ hM | exact k3 u rfl (by omega) (by omega) (by omega) _ hM
      · dsimp only [zCont, Option.toList, List.cons_append, List.nil_append]
        refine r_ifeq (by omega) 47 rfl 78 rfl (dd_X12_tell_0 23 _ _ _ rfl) (fun _ => ?_) (fun q => absurd q (by decide))
        refine r_iconst 79 rfl (dd_X12_tell_0 40 _ _ _ rfl) ?_
        refine r_istore_6 81 rfl (by decide) rfl (dd_X12_tell_0 41 _ _ _ rfl) ?_
        refine r_aload_0 82 rfl (dd_X12_tell_0 42 _ _ _ rfl) ?_
        refine r_iload_5 84 rfl (dd_X12_tell_0 43 _ _ _ rfl) ?_
        refine r_ifne (by omega) 87 rfl 91 rfl (dd_X12_tell_0 44 _ _ _ rfl) (fun _ => ?_) (fun q => absurd q (by decide))
        refine r_iload_6 93 rfl (dd_X12_tell_0 47 _ _ _ rfl) ?_
        refine r_ifne (by omega) 96 rfl 100 rfl (dd_X12_tell_0 48 _ _ _ rfl) (fun q => absurd q (by decide)) (fun _ => ?_)
        refine r_iconst 97 rfl (dd_X12_tell_0 49 _ _ _ rfl) ?_
        refine r_goto 116 rfl (dd_X12_tell_0 50 _ _ _ rfl) ?_
        refine r_callV1 (lvl := 10) (mc1 := 0) (ms1 := 0) 0 0 hg rfl md_X12_goesWell zc_X12 hM.kd wi_X12_goesWell wv_X12_goesWell (tb_6 197 _ rfl) (by decide) (by decide) rfl (Nat.le_of_ble_eq_true rfl) (by decide) (by decide) 119 rfl (dd_X12_tell_1 0 _ _ _ rfl) ?_
        refine c_X12_goesWell hg hM (by decide) (fun q => absurd q (by decide)) (fun _ h48 hM => ?_)
        dsimp only [zCont, Option.toList, List.cons_append, List.nil_append]
        refine r_ifne (by omega) 122 rfl 124 rfl (dd_X12_tell_1 1 _ _ _ rfl) (fun q => absurd q (by decide)) (fun _ => ?_)
        refine r_iconst 123 rfl (dd_X12_tell_1 2 _ _ _ rfl) ?_
        refine r_ireturn rfl rfl (dd_X12_tell_1 3 _ _ _ rfl) ?_
        first | exact k1 (by omega) _ hM | exact k2 u rfl (by omega) (by omega) _ hM | exact k3 u rfl (by omega) (by omega) (by omega) _ hM
  · dsimp only [zCont, Option.toList, List.cons_append, List.nil_append]
    refine r_ifeq (by omega) 8 rfl 29 rfl (dd_X12_tell_0 3 _ _ _ rfl) (fun _ => ?_) (fun q => absurd q (by decide))
    refine r_iconst 30 rfl (dd_X12_tell_0 15 _ _ _ rfl) ?_
    refine r_istore_5 32 rfl (by decide) rfl (dd_X12_tell_0 16 _ _ _ rfl) ?_
    refine r_iload_5 34 rfl (dd_X12_tell_0 17 _ _ _ rfl) ?_
    refine r_ifeq (by omega) 37 rfl 78 rfl (dd_X12_tell_0 18 _ _ _ rfl) (fun _ => ?_) (fun q => absurd q (by decide))
    refine r_iconst 79 rfl (dd_X12_tell_0 40 _ _ _ rfl) ?_
    refine r_istore_6 81 rfl (by decide) rfl (dd_X12_tell_0 41 _ _ _ rfl) ?_
    refine r_aload_0 82 rfl (dd_X12_tell_0 42 _ _ _ rfl) ?_
    refine r_iload_5 84 rfl (dd_X12_tell_0 43 _ _ _ rfl) ?_
    refine r_ifne (by omega) 87 rfl 91 rfl (dd_X12_tell_0 44 _ _ _ rfl) (fun q => absurd q (by decide)) (fun _ => ?_)
    refine r_iconst 88 rfl (dd_X12_tell_0 45 _ _ _ rfl) ?_
    refine r_goto 116 rfl (dd_X12_tell_0 46 _ _ _ rfl) ?_
    refine r_callV1 (lvl := 10) (mc1 := 0) (ms1 := 0) 0 0 hg rfl md_X12_goesWell zc_X12 hM.kd wi_X12_goesWell wv_X12_goesWell (tb_6 197 _ rfl) (by decide) (by decide) rfl (Nat.le_of_ble_eq_true rfl) (by decide) (by decide) 119 rfl (dd_X12_tell_1 0 _ _ _ rfl) ?_
    refine c_X12_goesWell hg hM (by decide) (fun q => absurd q (by decide)) (fun _ h49 hM => ?_)
    dsimp only [zCont, Option.toList, List.cons_append, List.nil_append]
    refine r_ifne (by omega) 122 rfl 124 rfl (dd_X12_tell_1 1 _ _ _ rfl) (fun q => absurd q (by decide)) (fun _ => ?_)
    refine r_iconst 123 rfl (dd_X12_tell_1 2 _ _ _ rfl) ?_
    refine r_ireturn rfl rfl (dd_X12_tell_1 3 _ _ _ rfl) ?_
    first | exact k1 (by omega) _ hM | exact k2 u rfl (by omega) (by omega) _ hM | exact k3 u rfl (by omega) (by omega) (by omega) _ hM
