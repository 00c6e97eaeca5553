abbrev mX12_in : zM := (RX12, cX12_in, 3, (Option.some Jvm.ClassFile.FieldType.boolean), [], "in", 10)
set_option maxRecDepth 20000 in
theorem c_X12_in {g : zGT} {Q : zO → zH → Prop} {h : zH} (hg : zG g) {a b c : Int} (ha : zR a) (hb : zR b) (hc : zR c) (k1 : b ≤ a ∧ a ≤ c → Q (.inl (some (.int (zI 1)))) h) (k0 : ¬ (b ≤ a ∧ a ≤ c) → Q (.inl (some (.int (zI 0)))) h) : zC g (.code yX12_in cX12_in 3 (Option.some Jvm.ClassFile.FieldType.boolean)) yX12_in 10 0 0 [.int (zI a), .int (zI b), .int (zI c)] h Q := by
  refine zC_of (M := mX12_in) (lv := [some (.int (zI a)), some (.int (zI b)), some (.int (zI c))]) (by decide) rfl rfl (Nat.le_of_ble_eq_true rfl) rfl rfl ?_
  refine r_iload_0 1 rfl (dd_X12_in 0 _ _ _ rfl) ?_
  refine r_iload_1 2 rfl (dd_X12_in 1 _ _ _ rfl) ?_
  refine r_if_icmplt (by omega) (by omega) 5 rfl 14 rfl (dd_X12_in 2 _ _ _ rfl) (fun hc1 => ?_) (fun hc1 => ?_)
  · refine r_iconst 15 rfl (dd_X12_in 8 _ _ _ rfl) ?_
    refine r_ireturn rfl rfl (dd_X12_in 9 _ _ _ rfl) ?_
    exact k0 (by omega)
  · refine r_iload_0 6 rfl (dd_X12_in 3 _ _ _ rfl) ?_
    refine r_iload_2 7 rfl (dd_X12_in 4 _ _ _ rfl) ?_
    refine r_if_icmpgt (by omega) (by omega) 10 rfl 14 rfl (dd_X12_in 5 _ _ _ rfl) (fun hc2 => ?_) (fun hc2 => ?_)
    · refine r_iconst 15 rfl (dd_X12_in 8 _ _ _ rfl) ?_
      refine r_ireturn rfl rfl (dd_X12_in 9 _ _ _ rfl) ?_
      exact k0 (by omega)
    · refine r_iconst 11 rfl (dd_X12_in 6 _ _ _ rfl) ?_
      refine r_goto 15 rfl (dd_X12_in 7 _ _ _ rfl) ?_
      refine r_ireturn rfl rfl (dd_X12_in 9 _ _ _ rfl) ?_
      exact k1 (by omega)

abbrev mX12_isVehicle : zM := (RX12, cX12_isVehicle, 2, (Option.some Jvm.ClassFile.FieldType.boolean), [], "isVehicle", 11)
set_option maxRecDepth 20000 in
theorem c_X12_isVehicle {g : zGT} {Q : zO → zH → Prop} {h : zH} (hg : zG g) {h0 : zH} {m : Nat} {A : Nat → Nat} {S : zS} {n : Nat} {t : Int} (hI : MInv n S) (hM : MI h0 m A S t h) {a : Int} (ha : zR a) (k1 : 0 ≤ a ∧ a < S.1 4 → Q (.inl (some (.int (zI 1)))) h) (k0 : ¬ (0 ≤ a ∧ a < S.1 4) → Q (.inl (some (.int (zI 0)))) h) : zC g (.code yX12_isVehicle cX12_isVehicle 2 (Option.some Jvm.ClassFile.FieldType.boolean)) yX12_isVehicle 11 0 0 [.ref m, .int (zI a)] h Q := by
  refine zC_of (M := mX12_isVehicle) (lv := [some (.ref m), some (.int (zI a))]) (by decide) rfl rfl (Nat.le_of_ble_eq_true rfl) rfl rfl ?_
  have e1 := hI.vehicles
  refine r_iload_1 1 rfl (dd_X12_isVehicle 0 _ _ _ rfl) ?_
  refine r_iconst 2 rfl (dd_X12_isVehicle 1 _ _ _ rfl) ?_
  refine r_aload_0 3 rfl (dd_X12_isVehicle 2 _ _ _ rfl) ?_
  refine m_get 4 hg hM (by unfold z_free; decide) rfl (by decide) (tb_6 60 _ rfl) 6 rfl (dd_X12_isVehicle 3 _ _ _ rfl) ?_ (fun _ _ _ => rfl)
  refine r_iconst 7 rfl (dd_X12_isVehicle 4 _ _ _ rfl) ?_
  refine r_isub 8 rfl (dd_X12_isVehicle 5 _ _ _ rfl) ?_
  refine r_callS3 (lvl := 10) (mc1 := 0) (ms1 := 0) 0 0 hg rfl md_X12_in ws_X12_in (tb_6 209 _ rfl) (by decide) (by decide) rfl (Nat.le_of_ble_eq_true rfl) (by decide) (by decide) 11 rfl (dd_X12_isVehicle 6 _ _ _ rfl) ?_
  refine c_X12_in hg (by omega) (by omega) (by omega) (fun hb1 => ?_) (fun hb1 => ?_)
  · dsimp only [zCont, Option.toList, List.cons_append, List.nil_append]
    refine r_ireturn rfl rfl (dd_X12_isVehicle 7 _ _ _ rfl) ?_
    exact k1 (by omega)
  · dsimp only [zCont, Option.toList, List.cons_append, List.nil_append]
    refine r_ireturn rfl rfl (dd_X12_isVehicle 7 _ _ _ rfl) ?_
    exact k0 (by omega)

abbrev mX12_isPerson : zM := (RX12, cX12_isPerson, 2, (Option.some Jvm.ClassFile.FieldType.boolean), [], "isPerson", 11)
set_option maxRecDepth 20000 in
theorem c_X12_isPerson {g : zGT} {Q : zO → zH → Prop} {h : zH} (hg : zG g) {h0 : zH} {m : Nat} {A : Nat → Nat} {S : zS} {n : Nat} {t : Int} (hI : MInv n S) (hM : MI h0 m A S t h) {a : Int} (ha : zR a) (k1 : 0 ≤ a ∧ a < S.1 12 → Q (.inl (some (.int (zI 1)))) h) (k0 : ¬ (0 ≤ a ∧ a < S.1 12) → Q (.inl (some (.int (zI 0)))) h) : zC g (.code yX12_isPerson cX12_isPerson 2 (Option.some Jvm.ClassFile.FieldType.boolean)) yX12_isPerson 11 0 0 [.ref m, .int (zI a)] h Q := by
  refine zC_of (M := mX12_isPerson) (lv := [some (.ref m), some (.int (zI a))]) (by decide) rfl rfl (Nat.le_of_ble_eq_true rfl) rfl rfl ?_
  have e1 := hI.people
  refine r_iload_1 1 rfl (dd_X12_isPerson 0 _ _ _ rfl) ?_
  refine r_iconst 2 rfl (dd_X12_isPerson 1 _ _ _ rfl) ?_
  refine r_aload_0 3 rfl (dd_X12_isPerson 2 _ _ _ rfl) ?_
  refine m_get 12 hg hM (by unfold z_free; decide) rfl (by decide) (tb_6 68 _ rfl) 6 rfl (dd_X12_isPerson 3 _ _ _ rfl) ?_ (fun _ _ _ => rfl)
  refine r_iconst 7 rfl (dd_X12_isPerson 4 _ _ _ rfl) ?_
  refine r_isub 8 rfl (dd_X12_isPerson 5 _ _ _ rfl) ?_
  refine r_callS3 (lvl := 10) (mc1 := 0) (ms1 := 0) 0 0 hg rfl md_X12_in ws_X12_in (tb_6 209 _ rfl) (by decide) (by decide) rfl (Nat.le_of_ble_eq_true rfl) (by decide) (by decide) 11 rfl (dd_X12_isPerson 6 _ _ _ rfl) ?_
  refine c_X12_in hg (by omega) (by omega) (by omega) (fun hb1 => ?_) (fun hb1 => ?_)
  · dsimp only [zCont, Option.toList, List.cons_append, List.nil_append]
    refine r_ireturn rfl rfl (dd_X12_isPerson 7 _ _ _ rfl) ?_
    exact k1 (by omega)
  · dsimp only [zCont, Option.toList, List.cons_append, List.nil_append]
    refine r_ireturn rfl rfl (dd_X12_isPerson 7 _ _ _ rfl) ?_
    exact k0 (by omega)

abbrev mX12_isSighting : zM := (RX12, cX12_isSighting, 2, (Option.some Jvm.ClassFile.FieldType.boolean), [], "isSighting", 11)
set_option maxRecDepth 20000 in
theorem c_X12_isSighting {g : zGT} {Q : zO → zH → Prop} {h : zH} (hg : zG g) {h0 : zH} {m : Nat} {A : Nat → Nat} {S : zS} {n : Nat} {t : Int} (hI : MInv n S) (hM : MI h0 m A S t h) {a : Int} (ha : zR a) (k1 : 0 ≤ a ∧ a < S.1 31 → Q (.inl (some (.int (zI 1)))) h) (k0 : ¬ (0 ≤ a ∧ a < S.1 31) → Q (.inl (some (.int (zI 0)))) h) : zC g (.code yX12_isSighting cX12_isSighting 2 (Option.some Jvm.ClassFile.FieldType.boolean)) yX12_isSighting 11 0 0 [.ref m, .int (zI a)] h Q := by
  refine zC_of (M := mX12_isSighting) (lv := [some (.ref m), some (.int (zI a))]) (by decide) rfl rfl (Nat.le_of_ble_eq_true rfl) rfl rfl ?_
  have e1 := hI.sightings
  refine r_iload_1 1 rfl (dd_X12_isSighting 0 _ _ _ rfl) ?_
  refine r_iconst 2 rfl (dd_X12_isSighting 1 _ _ _ rfl) ?_
  refine r_aload_0 3 rfl (dd_X12_isSighting 2 _ _ _ rfl) ?_
  refine m_get 31 hg hM (by unfold z_free; decide) rfl (by decide) (tb_6 87 _ rfl) 6 rfl (dd_X12_isSighting 3 _ _ _ rfl) ?_ (fun _ _ _ => rfl)
  refine r_iconst 7 rfl (dd_X12_isSighting 4 _ _ _ rfl) ?_
  refine r_isub 8 rfl (dd_X12_isSighting 5 _ _ _ rfl) ?_
  refine r_callS3 (lvl := 10) (mc1 := 0) (ms1 := 0) 0 0 hg rfl md_X12_in ws_X12_in (tb_6 209 _ rfl) (by decide) (by decide) rfl (Nat.le_of_ble_eq_true rfl) (by decide) (by decide) 11 rfl (dd_X12_isSighting 6 _ _ _ rfl) ?_
  refine c_X12_in hg (by omega) (by omega) (by omega) (fun hb1 => ?_) (fun hb1 => ?_)
  · dsimp only [zCont, Option.toList, List.cons_append, List.nil_append]
    refine r_ireturn rfl rfl (dd_X12_isSighting 7 _ _ _ rfl) ?_
    exact k1 (by omega)
  · dsimp only [zCont, Option.toList, List.cons_append, List.nil_append]
    refine r_ireturn rfl rfl (dd_X12_isSighting 7 _ _ _ rfl) ?_
    exact k0 (by omega)

abbrev mX12_isFine : zM := (RX12, cX12_isFine, 2, (Option.some Jvm.ClassFile.FieldType.boolean), [], "isFine", 11)
set_option maxRecDepth 20000 in
theorem c_X12_isFine {g : zGT} {Q : zO → zH → Prop} {h : zH} (hg : zG g) {h0 : zH} {m : Nat} {A : Nat → Nat} {S : zS} {n : Nat} {t : Int} (hI : MInv n S) (hM : MI h0 m A S t h) {a : Int} (ha : zR a) (k1 : 0 ≤ a ∧ a < S.1 36 → Q (.inl (some (.int (zI 1)))) h) (k0 : ¬ (0 ≤ a ∧ a < S.1 36) → Q (.inl (some (.int (zI 0)))) h) : zC g (.code yX12_isFine cX12_isFine 2 (Option.some Jvm.ClassFile.FieldType.boolean)) yX12_isFine 11 0 0 [.ref m, .int (zI a)] h Q := by
  refine zC_of (M := mX12_isFine) (lv := [some (.ref m), some (.int (zI a))]) (by decide) rfl rfl (Nat.le_of_ble_eq_true rfl) rfl rfl ?_
  have e1 := hI.fines
  refine r_iload_1 1 rfl (dd_X12_isFine 0 _ _ _ rfl) ?_
  refine r_iconst 2 rfl (dd_X12_isFine 1 _ _ _ rfl) ?_
  refine r_aload_0 3 rfl (dd_X12_isFine 2 _ _ _ rfl) ?_
  refine m_get 36 hg hM (by unfold z_free; decide) rfl (by decide) (tb_6 92 _ rfl) 6 rfl (dd_X12_isFine 3 _ _ _ rfl) ?_ (fun _ _ _ => rfl)
  refine r_iconst 7 rfl (dd_X12_isFine 4 _ _ _ rfl) ?_
  refine r_isub 8 rfl (dd_X12_isFine 5 _ _ _ rfl) ?_
  refine r_callS3 (lvl := 10) (mc1 := 0) (ms1 := 0) 0 0 hg rfl md_X12_in ws_X12_in (tb_6 209 _ rfl) (by decide) (by decide) rfl (Nat.le_of_ble_eq_true rfl) (by decide) (by decide) 11 rfl (dd_X12_isFine 6 _ _ _ rfl) ?_
  refine c_X12_in hg (by omega) (by omega) (by omega) (fun hb1 => ?_) (fun hb1 => ?_)
  · dsimp only [zCont, Option.toList, List.cons_append, List.nil_append]
    refine r_ireturn rfl rfl (dd_X12_isFine 7 _ _ _ rfl) ?_
    exact k1 (by omega)
  · dsimp only [zCont, Option.toList, List.cons_append, List.nil_append]
    refine r_ireturn rfl rfl (dd_X12_isFine 7 _ _ _ rfl) ?_
    exact k0 (by omega)

abbrev mX12_goesWell : zM := (RX12, cX12_goesWell, 2, (Option.some Jvm.ClassFile.FieldType.boolean), [], "goesWell", 10)
set_option maxRecDepth 20000 in
theorem c_X12_goesWell {g : zGT} {Q : zO → zH → Prop} {h : zH} (hg : zG g) {h0 : zH} {m : Nat} {A : Nat → Nat} {S : zS} {t : Int} (hM : MI h0 m A S t h) {w : Int} (hw : zR w) (k1 : w = 0 → ∀ h1, MI h0 m A S w h1 → Q (.inl (some (.int (zI 1)))) h1) (k0 : w ≠ 0 → ∀ h1, MI h0 m A S w h1 → Q (.inl (some (.int (zI 0)))) h1) : zC g (.code yX12_goesWell cX12_goesWell 2 (Option.some Jvm.ClassFile.FieldType.boolean)) yX12_goesWell 10 0 0 [.ref m, .int (zI w)] h Q := by
  refine zC_of (M := mX12_goesWell) (lv := [some (.ref m), some (.int (zI w))]) (by decide) rfl rfl (Nat.le_of_ble_eq_true rfl) rfl rfl ?_
  refine r_aload_0 1 rfl (dd_X12_goesWell 0 _ _ _ rfl) ?_
  refine r_iload_1 2 rfl (dd_X12_goesWell 1 _ _ _ rfl) ?_
  refine m_putt hg hM (tb_6 56 _ rfl) 5 rfl (dd_X12_goesWell 2 _ _ _ rfl) (fun h1 hM => ?_)
  refine r_iload_1 6 rfl (dd_X12_goesWell 3 _ _ _ rfl) ?_
  refine r_ifne (by omega) 9 rfl 13 rfl (dd_X12_goesWell 4 _ _ _ rfl) (fun hc2 => ?_) (fun hc2 => ?_)
  · refine r_iconst 14 rfl (dd_X12_goesWell 7 _ _ _ rfl) ?_
    refine r_ireturn rfl rfl (dd_X12_goesWell 8 _ _ _ rfl) ?_
    exact k0 (by omega) _ hM
  · refine r_iconst 10 rfl (dd_X12_goesWell 5 _ _ _ rfl) ?_
    refine r_goto 14 rfl (dd_X12_goesWell 6 _ _ _ rfl) ?_
    refine r_ireturn rfl rfl (dd_X12_goesWell 8 _ _ _ rfl) ?_
    exact k1 (by omega) _ hM

abbrev mX12_check : zM := (RX12, cX12_check, 1, (Option.some Jvm.ClassFile.FieldType.int), [], "check", 10)
set_option maxRecDepth 20000 in
theorem c_X12_check {g : zGT} {Q : zO → zH → Prop} {h : zH} (hg : zG g) {a : Int} (ha : 0 ≤ a) (hb : a ≤ 100000) (k : Q (.inl (some (.int (zI (zdigit a))))) h) : zC g (.code yX12_check cX12_check 1 (Option.some Jvm.ClassFile.FieldType.int)) yX12_check 10 0 0 [.int (zI a)] h Q := by
  refine zC_of (M := mX12_check) (lv := [some (.int (zI a))]) (by decide) rfl rfl (Nat.le_of_ble_eq_true rfl) rfl rfl ?_
  refine r_iload_0 1 rfl (dd_X12_check 0 _ _ _ rfl) ?_
  refine r_sipush (by decide) 4 rfl (dd_X12_check 1 _ _ _ rfl) ?_
  refine r_idiv (by omega) (by omega) (by omega) (by omega) 5 rfl (dd_X12_check 2 _ _ _ rfl) ?_
  refine r_iconst 6 rfl (dd_X12_check 3 _ _ _ rfl) ?_
  refine r_imul 7 rfl (dd_X12_check 4 _ _ _ rfl) ?_
  refine r_iload_0 8 rfl (dd_X12_check 5 _ _ _ rfl) ?_
  refine r_bipush (by decide) 10 rfl (dd_X12_check 6 _ _ _ rfl) ?_
  refine r_idiv (by omega) (by omega) (by omega) (by omega) 11 rfl (dd_X12_check 7 _ _ _ rfl) ?_
  refine r_bipush (by decide) 13 rfl (dd_X12_check 8 _ _ _ rfl) ?_
  refine r_irem (by omega) (by omega) (by omega) (by omega) 14 rfl (dd_X12_check 9 _ _ _ rfl) ?_
  refine r_iconst 15 rfl (dd_X12_check 10 _ _ _ rfl) ?_
  refine r_imul 16 rfl (dd_X12_check 11 _ _ _ rfl) ?_
  refine r_iadd 17 rfl (dd_X12_check 12 _ _ _ rfl) ?_
  refine r_iload_0 18 rfl (dd_X12_check 13 _ _ _ rfl) ?_
  refine r_bipush (by decide) 20 rfl (dd_X12_check 14 _ _ _ rfl) ?_
  refine r_idiv (by omega) (by omega) (by omega) (by omega) 21 rfl (dd_X12_check 15 _ _ _ rfl) ?_
  refine r_bipush (by decide) 23 rfl (dd_X12_check 16 _ _ _ rfl) ?_
  refine r_irem (by omega) (by omega) (by omega) (by omega) 24 rfl (dd_X12_check 17 _ _ _ rfl) ?_
  refine r_iconst 25 rfl (dd_X12_check 18 _ _ _ rfl) ?_
  refine r_imul 26 rfl (dd_X12_check 19 _ _ _ rfl) ?_
  refine r_iadd 27 rfl (dd_X12_check 20 _ _ _ rfl) ?_
  refine r_iload_0 28 rfl (dd_X12_check 21 _ _ _ rfl) ?_
  refine r_bipush (by decide) 30 rfl (dd_X12_check 22 _ _ _ rfl) ?_
  refine r_irem (by omega) (by omega) (by omega) (by omega) 31 rfl (dd_X12_check 23 _ _ _ rfl) ?_
  refine r_iconst 32 rfl (dd_X12_check 24 _ _ _ rfl) ?_
  refine r_imul 33 rfl (dd_X12_check 25 _ _ _ rfl) ?_
  refine r_iadd 34 rfl (dd_X12_check 26 _ _ _ rfl) ?_
  refine r_bipush (by decide) 36 rfl (dd_X12_check 27 _ _ _ rfl) ?_
  refine r_irem (by omega) (by omega) (by omega) (by omega) 37 rfl (dd_X12_check 28 _ _ _ rfl) ?_
  refine r_ireturn rfl rfl (dd_X12_check 29 _ _ _ rfl) ?_
  exact k

abbrev mX12_isLetter : zM := (RX12, cX12_isLetter, 1, (Option.some Jvm.ClassFile.FieldType.boolean), [], "isLetter", 11)
set_option maxRecDepth 20000 in
theorem c_X12_isLetter {g : zGT} {Q : zO → zH → Prop} {h : zH} (hg : zG g) {a : Int} (ha : zR a) (k1 : 65 ≤ a ∧ a ≤ 90 → Q (.inl (some (.int (zI 1)))) h) (k0 : ¬ (65 ≤ a ∧ a ≤ 90) → Q (.inl (some (.int (zI 0)))) h) : zC g (.code yX12_isLetter cX12_isLetter 1 (Option.some Jvm.ClassFile.FieldType.boolean)) yX12_isLetter 11 0 0 [.int (zI a)] h Q := by
  refine zC_of (M := mX12_isLetter) (lv := [some (.int (zI a))]) (by decide) rfl rfl (Nat.le_of_ble_eq_true rfl) rfl rfl ?_
  refine r_iload_0 1 rfl (dd_X12_isLetter 0 _ _ _ rfl) ?_
  refine r_bipush (by decide) 3 rfl (dd_X12_isLetter 1 _ _ _ rfl) ?_
  refine r_bipush (by decide) 5 rfl (dd_X12_isLetter 2 _ _ _ rfl) ?_
  refine r_callS3 (lvl := 10) (mc1 := 0) (ms1 := 0) 0 0 hg rfl md_X12_in ws_X12_in (tb_6 209 _ rfl) (by decide) (by decide) rfl (Nat.le_of_ble_eq_true rfl) (by decide) (by decide) 8 rfl (dd_X12_isLetter 3 _ _ _ rfl) ?_
  refine c_X12_in hg (by omega) (by omega) (by omega) (fun hb1 => ?_) (fun hb1 => ?_)
  · dsimp only [zCont, Option.toList, List.cons_append, List.nil_append]
    refine r_ireturn rfl rfl (dd_X12_isLetter 4 _ _ _ rfl) ?_
    exact k1 (by omega)
  · dsimp only [zCont, Option.toList, List.cons_append, List.nil_append]
    refine r_ireturn rfl rfl (dd_X12_isLetter 4 _ _ _ rfl) ?_
    exact k0 (by omega)

abbrev mX12_isAbout : zM := (RX12, cX12_isAbout, 3, (Option.some Jvm.ClassFile.FieldType.boolean), [], "isAbout", 11)
set_option maxRecDepth 20000 in
theorem c_X12_isAbout {g : zGT} {Q : zO → zH → Prop} {h : zH} (hg : zG g) {h0 : zH} {m : Nat} {A : Nat → Nat} {S : zS} {t : Int} (hM : MI h0 m A S t h) {a b : Int} (ha : zR a) (hb : zR b) (k1 : a ≤ 1 ∨ a = 7 ∧ 0 ≤ b ∧ b ≤ 3 ∨ a ≠ 7 ∧ b = 0 → Q (.inl (some (.int (zI 1)))) h) (k0 : ¬ (a ≤ 1 ∨ a = 7 ∧ 0 ≤ b ∧ b ≤ 3 ∨ a ≠ 7 ∧ b = 0) → Q (.inl (some (.int (zI 0)))) h) : zC g (.code yX12_isAbout cX12_isAbout 3 (Option.some Jvm.ClassFile.FieldType.boolean)) yX12_isAbout 11 0 0 [.ref m, .int (zI a), .int (zI b)] h Q := by
  refine zC_of (M := mX12_isAbout) (lv := [some (.ref m), some (.int (zI a)), some (.int (zI b))]) (by decide) rfl rfl (Nat.le_of_ble_eq_true rfl) rfl rfl ?_
  refine r_iload_1 1 rfl (dd_X12_isAbout 0 _ _ _ rfl) ?_
  refine r_iconst 2 rfl (dd_X12_isAbout 1 _ _ _ rfl) ?_
  refine r_if_icmple (by omega) (by omega) 5 rfl 27 rfl (dd_X12_isAbout 2 _ _ _ rfl) (fun hc1 => ?_) (fun hc1 => ?_)
  · refine r_iconst 28 rfl (dd_X12_isAbout 14 _ _ _ rfl) ?_
    refine r_goto 32 rfl (dd_X12_isAbout 15 _ _ _ rfl) ?_
    refine r_ireturn rfl rfl (dd_X12_isAbout 17 _ _ _ rfl) ?_
    exact k1 (by omega)
  · refine r_iload_1 6 rfl (dd_X12_isAbout 3 _ _ _ rfl) ?_
    refine r_bipush (by decide) 8 rfl (dd_X12_isAbout 4 _ _ _ rfl) ?_
    refine r_if_icmpne (by omega) (by omega) 11 rfl 23 rfl (dd_X12_isAbout 5 _ _ _ rfl) (fun hc2 => ?_) (fun hc2 => ?_)
    · refine r_iload_2 24 rfl (dd_X12_isAbout 12 _ _ _ rfl) ?_
      refine r_ifne (by omega) 27 rfl 31 rfl (dd_X12_isAbout 13 _ _ _ rfl) (fun hc3 => ?_) (fun hc3 => ?_)
      · refine r_iconst 32 rfl (dd_X12_isAbout 16 _ _ _ rfl) ?_
        refine r_ireturn rfl rfl (dd_X12_isAbout 17 _ _ _ rfl) ?_
        exact k0 (by omega)
      · refine r_iconst 28 rfl (dd_X12_isAbout 14 _ _ _ rfl) ?_
        refine r_goto 32 rfl (dd_X12_isAbout 15 _ _ _ rfl) ?_
        refine r_ireturn rfl rfl (dd_X12_isAbout 17 _ _ _ rfl) ?_
        exact k1 (by omega)
    · refine r_iload_2 12 rfl (dd_X12_isAbout 6 _ _ _ rfl) ?_
      refine r_iconst 13 rfl (dd_X12_isAbout 7 _ _ _ rfl) ?_
      refine r_iconst 14 rfl (dd_X12_isAbout 8 _ _ _ rfl) ?_
      refine r_callS3 (lvl := 10) (mc1 := 0) (ms1 := 0) 0 0 hg rfl md_X12_in ws_X12_in (tb_6 209 _ rfl) (by decide) (by decide) rfl (Nat.le_of_ble_eq_true rfl) (by decide) (by decide) 17 rfl (dd_X12_isAbout 9 _ _ _ rfl) ?_
      refine c_X12_in hg (by omega) (by omega) (by omega) (fun hb4 => ?_) (fun hb4 => ?_)
      · dsimp only [zCont, Option.toList, List.cons_append, List.nil_append]
        refine r_ifeq (by omega) 20 rfl 31 rfl (dd_X12_isAbout 10 _ _ _ rfl) (fun q => absurd q (by decide)) (fun _ => ?_)
        refine r_goto 27 rfl (dd_X12_isAbout 11 _ _ _ rfl) ?_
        refine r_iconst 28 rfl (dd_X12_isAbout 14 _ _ _ rfl) ?_
        refine r_goto 32 rfl (dd_X12_isAbout 15 _ _ _ rfl) ?_
        refine r_ireturn rfl rfl (dd_X12_isAbout 17 _ _ _ rfl) ?_
        exact k1 (by omega)
      · dsimp only [zCont, Option.toList, List.cons_append, List.nil_append]
        refine r_ifeq (by omega) 20 rfl 31 rfl (dd_X12_isAbout 10 _ _ _ rfl) (fun _ => ?_) (fun q => absurd q (by decide))
        refine r_iconst 32 rfl (dd_X12_isAbout 16 _ _ _ rfl) ?_
        refine r_ireturn rfl rfl (dd_X12_isAbout 17 _ _ _ rfl) ?_
        exact k0 (by omega)

abbrev mX12_thrown : zM := (RX12, cX12_thrown, 1, (Option.some Jvm.ClassFile.FieldType.int), [], "thrown", 10)
set_option maxRecDepth 20000 in
theorem c_X12_thrown {g : zGT} {Q : zO → zH → Prop} {h : zH} (hg : zG g) {h0 : zH} {m : Nat} {A : Nat → Nat} {S : zS} {t : Int} (hM : MI h0 m A S t h)  (k : Q (.inl (some (.int (zI t)))) h) : zC g (.code yX12_thrown cX12_thrown 1 (Option.some Jvm.ClassFile.FieldType.int)) yX12_thrown 10 0 0 [.ref m] h Q := by
  refine zC_of (M := mX12_thrown) (lv := [some (.ref m)]) (by decide) rfl rfl (Nat.le_of_ble_eq_true rfl) rfl rfl ?_
  refine r_aload_0 1 rfl (dd_X12_thrown 0 _ _ _ rfl) ?_
  refine m_getx 0 hg hM hM.2.2 (by decide) (tb_6 56 _ rfl) 4 rfl (dd_X12_thrown 1 _ _ _ rfl) ?_ (fun _ _ _ => rfl)
  refine r_ireturn rfl rfl (dd_X12_thrown 2 _ _ _ rfl) ?_
  exact k

abbrev mX12_clear : zM := (RX12, cX12_clear, 2, (Option.some Jvm.ClassFile.FieldType.int), [], "clear", 10)
set_option maxRecDepth 20000 in
theorem c_X12_clear {g : zGT} {Q : zO → zH → Prop} {h : zH} (hg : zG g) {h0 : zH} {m : Nat} {A : Nat → Nat} {S : zS} {n : Nat} {t : Int} (hI : MInv n S) (hM : MI h0 m A S t h) (k : ∀ h1, MI h0 m A (zu1 S.1 2 0, S.2) 0 h1 → Q (.inl (some (.int (zI (S.1 2))))) h1) : zC g (.code yX12_clear cX12_clear 2 (Option.some Jvm.ClassFile.FieldType.int)) yX12_clear 10 0 0 [.ref m] h Q := by
  refine zC_of (M := mX12_clear) (lv := [some (.ref m), none]) (by decide) rfl rfl (Nat.le_of_ble_eq_true rfl) rfl rfl ?_
  refine r_aload_0 1 rfl (dd_X12_clear 0 _ _ _ rfl) ?_
  refine r_iconst 2 rfl (dd_X12_clear 1 _ _ _ rfl) ?_
  refine m_putt hg hM (tb_6 56 _ rfl) 5 rfl (dd_X12_clear 2 _ _ _ rfl) (fun h1 hM => ?_)
  refine r_aload_0 6 rfl (dd_X12_clear 3 _ _ _ rfl) ?_
  refine m_get 2 hg hM (by unfold z_free; decide) rfl (by decide) (tb_6 58 _ rfl) 9 rfl (dd_X12_clear 4 _ _ _ rfl) ?_ (fun _ _ _ => rfl)
  refine r_istore_1 10 rfl (by decide) rfl (dd_X12_clear 5 _ _ _ rfl) ?_
  refine r_aload_0 11 rfl (dd_X12_clear 6 _ _ _ rfl) ?_
  refine r_iconst 12 rfl (dd_X12_clear 7 _ _ _ rfl) ?_
  refine m_put 2 hg hM rfl (by decide) (by decide) rfl (fun _ _ _ => rfl) rfl rfl (tb_6 58 _ rfl) 15 rfl (dd_X12_clear 8 _ _ _ rfl) (fun h3 hM => ?_)
  refine r_iload_1 16 rfl (dd_X12_clear 9 _ _ _ rfl) ?_
  refine r_ireturn rfl rfl (dd_X12_clear 10 _ _ _ rfl) ?_
  exact k _ hM

abbrev mX12_type : zM := (RX12, cX12_type, 2, (Option.some Jvm.ClassFile.FieldType.int), [], "type", 12)
set_option maxRecDepth 20000 in
theorem c_X12_type {g : zGT} {Q : zO → zH → Prop} {h : zH} (hg : zG g) {h0 : zH} {m : Nat} {A : Nat → Nat} {S : zS} {n : Nat} {t : Int} (hI : MInv n S) (hM : MI h0 m A S t h) {a : Int} (ha : 0 ≤ a) (hb : a < 65536) (k0 : S.1 2 = 8 → ∀ h1, MI h0 m A S 1 h1 → Q (.inl (some (.int (zI 0)))) h1) (k1 : S.1 2 ≠ 8 → ∀ h1, MI h0 m A (zu1 S.1 2 (S.1 2 + 1), zu2 S.2 3 (S.1 2).toNat a) 0 h1 → Q (.inl (some (.int (zI (S.1 2 + 1))))) h1) : zC g (.code yX12_type cX12_type 2 (Option.some Jvm.ClassFile.FieldType.int)) yX12_type 12 0 0 [.ref m, .int (zI a)] h Q := by
  refine zC_of (M := mX12_type) (lv := [some (.ref m), some (.int (zI a))]) (by decide) rfl rfl (Nat.le_of_ble_eq_true rfl) rfl rfl ?_
  have e1 := hI.signs
  refine r_aload_0 1 rfl (dd_X12_type 0 _ _ _ rfl) ?_
  refine r_aload_0 2 rfl (dd_X12_type 1 _ _ _ rfl) ?_
  refine m_get 2 hg hM (by unfold z_free; decide) rfl (by decide) (tb_6 58 _ rfl) 5 rfl (dd_X12_type 2 _ _ _ rfl) ?_ (fun _ _ _ => rfl)
  refine r_bipush (by decide) 7 rfl (dd_X12_type 3 _ _ _ rfl) ?_
  refine r_if_icmpne (by omega) (by omega) 10 rfl 14 rfl (dd_X12_type 4 _ _ _ rfl) (fun hc1 => ?_) (fun hc1 => ?_)
  · refine r_iconst 15 rfl (dd_X12_type 7 _ _ _ rfl) ?_
    refine r_callV1 (lvl := 10) (mc1 := 0) (ms1 := 0) 0 0 hg rfl md_X12_goesWell zc_X12 hM.kd wi_X12_goesWell wv_X12_goesWell (tb_6 197 _ rfl) (by decide) (by decide) rfl (Nat.le_of_ble_eq_true rfl) (by decide) (by decide) 18 rfl (dd_X12_type 8 _ _ _ rfl) ?_
    refine c_X12_goesWell hg hM (by decide) (fun _ h2 hM => ?_) (fun q => absurd rfl q)
    dsimp only [zCont, Option.toList, List.cons_append, List.nil_append]
    refine r_ifne (by omega) 21 rfl 23 rfl (dd_X12_type 9 _ _ _ rfl) (fun _ => ?_) (fun q => absurd q (by decide))
    refine r_aload_0 24 rfl (dd_X12_type 12 _ _ _ rfl) ?_
    refine m_arr 3 hg hM (by decide) (by decide) (tb_6 59 _ rfl) 27 rfl (dd_X12_type 13 _ _ _ rfl) ?_ (fun _ _ _ => rfl)
    refine r_aload_0 28 rfl (dd_X12_type 14 _ _ _ rfl) ?_
    refine m_get 2 hg hM (by unfold z_free; decide) rfl (by decide) (tb_6 58 _ rfl) 31 rfl (dd_X12_type 15 _ _ _ rfl) ?_ (fun _ _ _ => rfl)
    refine r_iload_1 32 rfl (dd_X12_type 16 _ _ _ rfl) ?_
    refine m_cast 3 _ rfl hg hM rfl (by omega) (z_lt (n2 := 8) rfl (by omega)) (by decide) (z_nchar (by omega) (by omega)) 33 rfl (dd_X12_type 17 _ _ _ rfl) (fun h3 hM => ?_)
    refine r_aload_0 34 rfl (dd_X12_type 18 _ _ _ rfl) ?_
    refine r_dup rfl 35 rfl (dd_X12_type 19 _ _ _ rfl) ?_
    refine m_get 2 hg hM (by unfold z_free; decide) rfl (by decide) (tb_6 58 _ rfl) 38 rfl (dd_X12_type 20 _ _ _ rfl) ?_ (fun _ _ _ => rfl)
    refine r_iconst 39 rfl (dd_X12_type 21 _ _ _ rfl) ?_
    refine r_iadd 40 rfl (dd_X12_type 22 _ _ _ rfl) ?_
    refine m_put 2 hg hM rfl (by decide) (by decide) rfl (fun _ _ _ => rfl) rfl rfl (tb_6 58 _ rfl) 43 rfl (dd_X12_type 23 _ _ _ rfl) (fun h5 hM => ?_)
    refine r_aload_0 44 rfl (dd_X12_type 24 _ _ _ rfl) ?_
    refine m_get 2 hg hM (by unfold z_free; decide) rfl (by decide) (tb_6 58 _ rfl) 47 rfl (dd_X12_type 25 _ _ _ rfl) ?_ (fun _ _ _ => rfl)
    refine r_ireturn rfl rfl (dd_X12_type 26 _ _ _ rfl) ?_
    exact k1 (by omega) _ hM
  · refine r_iconst 11 rfl (dd_X12_type 5 _ _ _ rfl) ?_
    refine r_goto 15 rfl (dd_X12_type 6 _ _ _ rfl) ?_
    refine r_callV1 (lvl := 10) (mc1 := 0) (ms1 := 0) 0 0 hg rfl md_X12_goesWell zc_X12 hM.kd wi_X12_goesWell wv_X12_goesWell (tb_6 197 _ rfl) (by decide) (by decide) rfl (Nat.le_of_ble_eq_true rfl) (by decide) (by decide) 18 rfl (dd_X12_type 8 _ _ _ rfl) ?_
    refine c_X12_goesWell hg hM (by decide) (fun q => absurd q (by decide)) (fun _ h6 hM => ?_)
    dsimp only [zCont, Option.toList, List.cons_append, List.nil_append]
    refine r_ifne (by omega) 21 rfl 23 rfl (dd_X12_type 9 _ _ _ rfl) (fun q => absurd q (by decide)) (fun _ => ?_)
    refine r_iconst 22 rfl (dd_X12_type 10 _ _ _ rfl) ?_
    refine r_ireturn rfl rfl (dd_X12_type 11 _ _ _ rfl) ?_
    exact k0 (by omega) _ hM
