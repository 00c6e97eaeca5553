abbrev mX11_isWithin : zM := (RX11, cX11_isWithin, 3, (Option.some Jvm.ClassFile.FieldType.boolean), [], "isWithin", 10)
set_option maxRecDepth 20000 in
theorem c_X11_isWithin {g : zGT} {Q : zO → zH → Prop} {h : zH} (hg : zG g) {a b c : Int} (ha : zR a) (hb : zR b) (hc : zR c) (k1 : b ≤ a ∧ a ≤ c → Q (.inl (some (.int (zI 1)))) h) (k0 : ¬ (b ≤ a ∧ a ≤ c) → Q (.inl (some (.int (zI 0)))) h) : zC g (.code yX11_isWithin cX11_isWithin 3 (Option.some Jvm.ClassFile.FieldType.boolean)) yX11_isWithin 10 0 0 [.int (zI a), .int (zI b), .int (zI c)] h Q := by
  refine zC_of (M := mX11_isWithin) (lv := [some (.int (zI a)), some (.int (zI b)), some (.int (zI c))]) (by decide) rfl rfl (Nat.le_of_ble_eq_true rfl) rfl rfl ?_
  refine r_iload_0 1 rfl (dd_X11_isWithin 0 _ _ _ rfl) ?_
  refine r_iload_1 2 rfl (dd_X11_isWithin 1 _ _ _ rfl) ?_
  refine r_if_icmplt (by omega) (by omega) 5 rfl 14 rfl (dd_X11_isWithin 2 _ _ _ rfl) (fun hc1 => ?_) (fun hc1 => ?_)
  · refine r_iconst 15 rfl (dd_X11_isWithin 8 _ _ _ rfl) ?_
    refine r_ireturn rfl rfl (dd_X11_isWithin 9 _ _ _ rfl) ?_
    exact k0 (by omega)
  · refine r_iload_0 6 rfl (dd_X11_isWithin 3 _ _ _ rfl) ?_
    refine r_iload_2 7 rfl (dd_X11_isWithin 4 _ _ _ rfl) ?_
    refine r_if_icmpgt (by omega) (by omega) 10 rfl 14 rfl (dd_X11_isWithin 5 _ _ _ rfl) (fun hc2 => ?_) (fun hc2 => ?_)
    · refine r_iconst 15 rfl (dd_X11_isWithin 8 _ _ _ rfl) ?_
      refine r_ireturn rfl rfl (dd_X11_isWithin 9 _ _ _ rfl) ?_
      exact k0 (by omega)
    · refine r_iconst 11 rfl (dd_X11_isWithin 6 _ _ _ rfl) ?_
      refine r_goto 15 rfl (dd_X11_isWithin 7 _ _ _ rfl) ?_
      refine r_ireturn rfl rfl (dd_X11_isWithin 9 _ _ _ rfl) ?_
      exact k1 (by omega)

abbrev mX11_isClass : zM := (RX11, cX11_isClass, 1, (Option.some Jvm.ClassFile.FieldType.boolean), [], "isClass", 11)
set_option maxRecDepth 20000 in
theorem c_X11_isClass {g : zGT} {Q : zO → zH → Prop} {h : zH} (hg : zG g) {a : Int} (ha : zR a) (k1 : 0 ≤ a ∧ a ≤ 3 → Q (.inl (some (.int (zI 1)))) h) (k0 : ¬ (0 ≤ a ∧ a ≤ 3) → Q (.inl (some (.int (zI 0)))) h) : zC g (.code yX11_isClass cX11_isClass 1 (Option.some Jvm.ClassFile.FieldType.boolean)) yX11_isClass 11 0 0 [.int (zI a)] h Q := by
  refine zC_of (M := mX11_isClass) (lv := [some (.int (zI a))]) (by decide) rfl rfl (Nat.le_of_ble_eq_true rfl) rfl rfl ?_
  refine r_iload_0 1 rfl (dd_X11_isClass 0 _ _ _ rfl) ?_
  refine r_iconst 2 rfl (dd_X11_isClass 1 _ _ _ rfl) ?_
  refine r_iconst 3 rfl (dd_X11_isClass 2 _ _ _ rfl) ?_
  refine r_callS3 (lvl := 10) (mc1 := 0) (ms1 := 0) 0 0 hg rfl md_X11_isWithin ws_X11_isWithin (tb_1 171 _ rfl) (by decide) (by decide) rfl (Nat.le_of_ble_eq_true rfl) (Nat.le_of_ble_eq_true rfl) (Nat.le_of_ble_eq_true rfl) 6 rfl (dd_X11_isClass 3 _ _ _ rfl) ?_
  refine c_X11_isWithin hg (by omega) (by omega) (by omega) (fun hb1 => ?_) (fun hb1 => ?_)
  · dsimp only [zCont, Option.toList, List.cons_append, List.nil_append]
    refine r_ireturn rfl rfl (dd_X11_isClass 4 _ _ _ rfl) ?_
    exact k1 (by omega)
  · dsimp only [zCont, Option.toList, List.cons_append, List.nil_append]
    refine r_ireturn rfl rfl (dd_X11_isClass 4 _ _ _ rfl) ?_
    exact k0 (by omega)

abbrev mX11_isLetter : zM := (RX11, cX11_isLetter, 1, (Option.some Jvm.ClassFile.FieldType.boolean), [], "isLetter", 10)
set_option maxRecDepth 20000 in
theorem c_X11_isLetter {g : zGT} {Q : zO → zH → Prop} {h : zH} (hg : zG g) {a : Int} (ha : zR a) (k1 : 65 ≤ a ∧ a ≤ 90 → Q (.inl (some (.int (zI 1)))) h) (k0 : ¬ (65 ≤ a ∧ a ≤ 90) → Q (.inl (some (.int (zI 0)))) h) : zC g (.code yX11_isLetter cX11_isLetter 1 (Option.some Jvm.ClassFile.FieldType.boolean)) yX11_isLetter 10 0 0 [.int (zI a)] h Q := by
  refine zC_of (M := mX11_isLetter) (lv := [some (.int (zI a))]) (by decide) rfl rfl (Nat.le_of_ble_eq_true rfl) rfl rfl ?_
  refine r_iload_0 1 rfl (dd_X11_isLetter 0 _ _ _ rfl) ?_
  refine r_bipush (by decide) 3 rfl (dd_X11_isLetter 1 _ _ _ rfl) ?_
  refine r_if_icmplt (by omega) (by omega) 6 rfl 16 rfl (dd_X11_isLetter 2 _ _ _ rfl) (fun hc1 => ?_) (fun hc1 => ?_)
  · refine r_iconst 17 rfl (dd_X11_isLetter 8 _ _ _ rfl) ?_
    refine r_ireturn rfl rfl (dd_X11_isLetter 9 _ _ _ rfl) ?_
    exact k0 (by omega)
  · refine r_iload_0 7 rfl (dd_X11_isLetter 3 _ _ _ rfl) ?_
    refine r_bipush (by decide) 9 rfl (dd_X11_isLetter 4 _ _ _ rfl) ?_
    refine r_if_icmpgt (by omega) (by omega) 12 rfl 16 rfl (dd_X11_isLetter 5 _ _ _ rfl) (fun hc2 => ?_) (fun hc2 => ?_)
    · refine r_iconst 17 rfl (dd_X11_isLetter 8 _ _ _ rfl) ?_
      refine r_ireturn rfl rfl (dd_X11_isLetter 9 _ _ _ rfl) ?_
      exact k0 (by omega)
    · refine r_iconst 13 rfl (dd_X11_isLetter 6 _ _ _ rfl) ?_
      refine r_goto 17 rfl (dd_X11_isLetter 7 _ _ _ rfl) ?_
      refine r_ireturn rfl rfl (dd_X11_isLetter 9 _ _ _ rfl) ?_
      exact k1 (by omega)

abbrev mX11_isDigit : zM := (RX11, cX11_isDigit, 1, (Option.some Jvm.ClassFile.FieldType.boolean), [], "isDigit", 10)
set_option maxRecDepth 20000 in
theorem c_X11_isDigit {g : zGT} {Q : zO → zH → Prop} {h : zH} (hg : zG g) {a : Int} (ha : zR a) (k1 : 48 ≤ a ∧ a ≤ 57 → Q (.inl (some (.int (zI 1)))) h) (k0 : ¬ (48 ≤ a ∧ a ≤ 57) → Q (.inl (some (.int (zI 0)))) h) : zC g (.code yX11_isDigit cX11_isDigit 1 (Option.some Jvm.ClassFile.FieldType.boolean)) yX11_isDigit 10 0 0 [.int (zI a)] h Q := by
  refine zC_of (M := mX11_isDigit) (lv := [some (.int (zI a))]) (by decide) rfl rfl (Nat.le_of_ble_eq_true rfl) rfl rfl ?_
  refine r_iload_0 1 rfl (dd_X11_isDigit 0 _ _ _ rfl) ?_
  refine r_bipush (by decide) 3 rfl (dd_X11_isDigit 1 _ _ _ rfl) ?_
  refine r_if_icmplt (by omega) (by omega) 6 rfl 16 rfl (dd_X11_isDigit 2 _ _ _ rfl) (fun hc1 => ?_) (fun hc1 => ?_)
  · refine r_iconst 17 rfl (dd_X11_isDigit 8 _ _ _ rfl) ?_
    refine r_ireturn rfl rfl (dd_X11_isDigit 9 _ _ _ rfl) ?_
    exact k0 (by omega)
  · refine r_iload_0 7 rfl (dd_X11_isDigit 3 _ _ _ rfl) ?_
    refine r_bipush (by decide) 9 rfl (dd_X11_isDigit 4 _ _ _ rfl) ?_
    refine r_if_icmpgt (by omega) (by omega) 12 rfl 16 rfl (dd_X11_isDigit 5 _ _ _ rfl) (fun hc2 => ?_) (fun hc2 => ?_)
    · refine r_iconst 17 rfl (dd_X11_isDigit 8 _ _ _ rfl) ?_
      refine r_ireturn rfl rfl (dd_X11_isDigit 9 _ _ _ rfl) ?_
      exact k0 (by omega)
    · refine r_iconst 13 rfl (dd_X11_isDigit 6 _ _ _ rfl) ?_
      refine r_goto 17 rfl (dd_X11_isDigit 7 _ _ _ rfl) ?_
      refine r_ireturn rfl rfl (dd_X11_isDigit 9 _ _ _ rfl) ?_
      exact k1 (by omega)

abbrev mX11_fitsPlate : zM := (RX11, cX11_fitsPlate, 2, (Option.some Jvm.ClassFile.FieldType.boolean), [], "fitsPlate", 11)
set_option maxRecDepth 20000 in
theorem c_X11_fitsPlate {g : zGT} {Q : zO → zH → Prop} {h : zH} (hg : zG g) {a p : Int} (ha : zR a) (hp : zR p) (k1 : (p < 2 ∧ 65 ≤ a ∧ a ≤ 90 ∨ 2 ≤ p ∧ 48 ≤ a ∧ a ≤ 57) → Q (.inl (some (.int (zI 1)))) h) (k0 : ¬ ((p < 2 ∧ 65 ≤ a ∧ a ≤ 90 ∨ 2 ≤ p ∧ 48 ≤ a ∧ a ≤ 57)) → Q (.inl (some (.int (zI 0)))) h) : zC g (.code yX11_fitsPlate cX11_fitsPlate 2 (Option.some Jvm.ClassFile.FieldType.boolean)) yX11_fitsPlate 11 0 0 [.int (zI a), .int (zI p)] h Q := by
  refine zC_of (M := mX11_fitsPlate) (lv := [some (.int (zI a)), some (.int (zI p))]) (by decide) rfl rfl (Nat.le_of_ble_eq_true rfl) rfl rfl ?_
  refine r_iload_1 1 rfl (dd_X11_fitsPlate 0 _ _ _ rfl) ?_
  refine r_iconst 2 rfl (dd_X11_fitsPlate 1 _ _ _ rfl) ?_
  refine r_if_icmpge (by omega) (by omega) 5 rfl 12 rfl (dd_X11_fitsPlate 2 _ _ _ rfl) (fun hc1 => ?_) (fun hc1 => ?_)
  · refine r_iload_0 13 rfl (dd_X11_fitsPlate 6 _ _ _ rfl) ?_
    refine r_callS1 (lvl := 10) (mc1 := 0) (ms1 := 0) 0 0 hg rfl md_X11_isDigit ws_X11_isDigit (tb_4 218 _ rfl) (by decide) (by decide) rfl (Nat.le_of_ble_eq_true rfl) (Nat.le_of_ble_eq_true rfl) (Nat.le_of_ble_eq_true rfl) 16 rfl (dd_X11_fitsPlate 7 _ _ _ rfl) ?_
    refine c_X11_isDigit hg (by omega) (fun hb2 => ?_) (fun hb2 => ?_)
    · dsimp only [zCont, Option.toList, List.cons_append, List.nil_append]
      refine r_ireturn rfl rfl (dd_X11_fitsPlate 8 _ _ _ rfl) ?_
      exact k1 (by omega)
    · dsimp only [zCont, Option.toList, List.cons_append, List.nil_append]
      refine r_ireturn rfl rfl (dd_X11_fitsPlate 8 _ _ _ rfl) ?_
      exact k0 (by omega)
  · refine r_iload_0 6 rfl (dd_X11_fitsPlate 3 _ _ _ rfl) ?_
    refine r_callS1 (lvl := 10) (mc1 := 0) (ms1 := 0) 0 0 hg rfl md_X11_isLetter ws_X11_isLetter (tb_4 118 _ rfl) (by decide) (by decide) rfl (Nat.le_of_ble_eq_true rfl) (Nat.le_of_ble_eq_true rfl) (Nat.le_of_ble_eq_true rfl) 9 rfl (dd_X11_fitsPlate 4 _ _ _ rfl) ?_
    refine c_X11_isLetter hg (by omega) (fun hb3 => ?_) (fun hb3 => ?_)
    · dsimp only [zCont, Option.toList, List.cons_append, List.nil_append]
      refine r_goto 16 rfl (dd_X11_fitsPlate 5 _ _ _ rfl) ?_
      refine r_ireturn rfl rfl (dd_X11_fitsPlate 8 _ _ _ rfl) ?_
      exact k1 (by omega)
    · dsimp only [zCont, Option.toList, List.cons_append, List.nil_append]
      refine r_goto 16 rfl (dd_X11_fitsPlate 5 _ _ _ rfl) ?_
      refine r_ireturn rfl rfl (dd_X11_fitsPlate 8 _ _ _ rfl) ?_
      exact k0 (by omega)

abbrev mX11_checkDigit : zM := (RX11, cX11_checkDigit, 2, (Option.some Jvm.ClassFile.FieldType.int), [], "checkDigit", 10)
set_option maxRecDepth 20000 in
theorem c_X11_checkDigit {g : zGT} {Q : zO → zH → Prop} {h : zH} (hg : zG g) {a : Int} (ha : 0 ≤ a) (hb : a ≤ 100000) (k : Q (.inl (some (.int (zI (zdigit a))))) h) : zC g (.code yX11_checkDigit cX11_checkDigit 2 (Option.some Jvm.ClassFile.FieldType.int)) yX11_checkDigit 10 0 0 [.int (zI a)] h Q := by
  refine zC_of (M := mX11_checkDigit) (lv := [some (.int (zI a)), none]) (by decide) rfl rfl (Nat.le_of_ble_eq_true rfl) rfl rfl ?_
  refine r_iload_0 1 rfl (dd_X11_checkDigit 0 _ _ _ rfl) ?_
  refine r_sipush (by decide) 4 rfl (dd_X11_checkDigit 1 _ _ _ rfl) ?_
  refine r_idiv (by omega) (by omega) (by omega) (by omega) 5 rfl (dd_X11_checkDigit 2 _ _ _ rfl) ?_
  refine r_iconst 6 rfl (dd_X11_checkDigit 3 _ _ _ rfl) ?_
  refine r_imul 7 rfl (dd_X11_checkDigit 4 _ _ _ rfl) ?_
  refine r_iload_0 8 rfl (dd_X11_checkDigit 5 _ _ _ rfl) ?_
  refine r_bipush (by decide) 10 rfl (dd_X11_checkDigit 6 _ _ _ rfl) ?_
  refine r_idiv (by omega) (by omega) (by omega) (by omega) 11 rfl (dd_X11_checkDigit 7 _ _ _ rfl) ?_
  refine r_bipush (by decide) 13 rfl (dd_X11_checkDigit 8 _ _ _ rfl) ?_
  refine r_irem (by omega) (by omega) (by omega) (by omega) 14 rfl (dd_X11_checkDigit 9 _ _ _ rfl) ?_
  refine r_iconst 15 rfl (dd_X11_checkDigit 10 _ _ _ rfl) ?_
  refine r_imul 16 rfl (dd_X11_checkDigit 11 _ _ _ rfl) ?_
  refine r_iadd 17 rfl (dd_X11_checkDigit 12 _ _ _ rfl) ?_
  refine r_iload_0 18 rfl (dd_X11_checkDigit 13 _ _ _ rfl) ?_
  refine r_bipush (by decide) 20 rfl (dd_X11_checkDigit 14 _ _ _ rfl) ?_
  refine r_idiv (by omega) (by omega) (by omega) (by omega) 21 rfl (dd_X11_checkDigit 15 _ _ _ rfl) ?_
  refine r_bipush (by decide) 23 rfl (dd_X11_checkDigit 16 _ _ _ rfl) ?_
  refine r_irem (by omega) (by omega) (by omega) (by omega) 24 rfl (dd_X11_checkDigit 17 _ _ _ rfl) ?_
  refine r_iconst 25 rfl (dd_X11_checkDigit 18 _ _ _ rfl) ?_
  refine r_imul 26 rfl (dd_X11_checkDigit 19 _ _ _ rfl) ?_
  refine r_iadd 27 rfl (dd_X11_checkDigit 20 _ _ _ rfl) ?_
  refine r_iload_0 28 rfl (dd_X11_checkDigit 21 _ _ _ rfl) ?_
  refine r_bipush (by decide) 30 rfl (dd_X11_checkDigit 22 _ _ _ rfl) ?_
  refine r_irem (by omega) (by omega) (by omega) (by omega) 31 rfl (dd_X11_checkDigit 23 _ _ _ rfl) ?_
  refine r_iconst 32 rfl (dd_X11_checkDigit 24 _ _ _ rfl) ?_
  refine r_imul 33 rfl (dd_X11_checkDigit 25 _ _ _ rfl) ?_
  refine r_iadd 34 rfl (dd_X11_checkDigit 26 _ _ _ rfl) ?_
  refine r_istore_1 35 rfl (by decide) rfl (dd_X11_checkDigit 27 _ _ _ rfl) ?_
  refine r_iload_1 36 rfl (dd_X11_checkDigit 28 _ _ _ rfl) ?_
  refine r_bipush (by decide) 38 rfl (dd_X11_checkDigit 29 _ _ _ rfl) ?_
  refine r_irem (by omega) (by omega) (by omega) (by omega) 39 rfl (dd_X11_checkDigit 30 _ _ _ rfl) ?_
  refine r_ireturn rfl rfl (dd_X11_checkDigit 31 _ _ _ rfl) ?_
  exact k

abbrev mX11_stampedNumber : zM := (RX11, cX11_stampedNumber, 2, (Option.some Jvm.ClassFile.FieldType.int), [], "stampedNumber", 11)
set_option maxRecDepth 20000 in
theorem c_X11_stampedNumber {g : zGT} {Q : zO → zH → Prop} {h : zH} (hg : zG g) {a : Int} (ha : 0 ≤ a) (hb : a ≤ 100000) (k : Q (.inl (some (.int (zI (if zdigit a = 10 then -1 else a * 10 + zdigit a))))) h) : zC g (.code yX11_stampedNumber cX11_stampedNumber 2 (Option.some Jvm.ClassFile.FieldType.int)) yX11_stampedNumber 11 0 0 [.int (zI a)] h Q := by
  refine zC_of (M := mX11_stampedNumber) (lv := [some (.int (zI a)), none]) (by decide) rfl rfl (Nat.le_of_ble_eq_true rfl) rfl rfl ?_
  have hd := zdigit_range a
  refine r_iload_0 1 rfl (dd_X11_stampedNumber 0 _ _ _ rfl) ?_
  refine r_callS1 (lvl := 10) (mc1 := 0) (ms1 := 0) 0 0 hg rfl md_X11_checkDigit ws_X11_checkDigit (tb_1 177 _ rfl) (by decide) (by decide) rfl (Nat.le_of_ble_eq_true rfl) (Nat.le_of_ble_eq_true rfl) (Nat.le_of_ble_eq_true rfl) 4 rfl (dd_X11_stampedNumber 1 _ _ _ rfl) ?_
  refine c_X11_checkDigit hg (by omega) (by omega) ?_
  dsimp only [zCont, Option.toList, List.cons_append, List.nil_append]
  refine r_istore_1 5 rfl (by decide) rfl (dd_X11_stampedNumber 2 _ _ _ rfl) ?_
  refine r_iload_1 6 rfl (dd_X11_stampedNumber 3 _ _ _ rfl) ?_
  refine r_bipush (by decide) 8 rfl (dd_X11_stampedNumber 4 _ _ _ rfl) ?_
  refine r_if_icmpne (by omega) (by omega) 11 rfl 15 rfl (dd_X11_stampedNumber 5 _ _ _ rfl) (fun hc1 => ?_) (fun hc1 => ?_)
  · refine r_iload_0 16 rfl (dd_X11_stampedNumber 8 _ _ _ rfl) ?_
    refine r_bipush (by decide) 18 rfl (dd_X11_stampedNumber 9 _ _ _ rfl) ?_
    refine r_imul 19 rfl (dd_X11_stampedNumber 10 _ _ _ rfl) ?_
    refine r_iload_1 20 rfl (dd_X11_stampedNumber 11 _ _ _ rfl) ?_
    refine r_iadd 21 rfl (dd_X11_stampedNumber 12 _ _ _ rfl) ?_
    refine r_ireturn rfl rfl (dd_X11_stampedNumber 13 _ _ _ rfl) ?_
    first | (rw [if_pos (by omega)] at k; exact k) | (rw [if_neg (by omega)] at k; exact k)
  · refine r_iconst 12 rfl (dd_X11_stampedNumber 6 _ _ _ rfl) ?_
    refine r_goto 21 rfl (dd_X11_stampedNumber 7 _ _ _ rfl) ?_
    refine r_ireturn rfl rfl (dd_X11_stampedNumber 13 _ _ _ rfl) ?_
    first | (rw [if_pos (by omega)] at k; exact k) | (rw [if_neg (by omega)] at k; exact k)

abbrev mX11_fitsKind : zM := (RX11, cX11_fitsKind, 2, (Option.some Jvm.ClassFile.FieldType.boolean), [], "fitsKind", 12)
set_option maxRecDepth 20000 in
theorem c_X11_fitsKind {g : zGT} {Q : zO → zH → Prop} {h : zH} (hg : zG g) {a b : Int} (ha : zR a) (hb : zR b) (k1 : (a = 0 ∨ a = 1 ∨ a = 7 ∧ 0 ≤ b ∧ b ≤ 3 ∨ a ≠ 0 ∧ a ≠ 1 ∧ a ≠ 7 ∧ b = 0) → Q (.inl (some (.int (zI 1)))) h) (k0 : ¬ ((a = 0 ∨ a = 1 ∨ a = 7 ∧ 0 ≤ b ∧ b ≤ 3 ∨ a ≠ 0 ∧ a ≠ 1 ∧ a ≠ 7 ∧ b = 0)) → Q (.inl (some (.int (zI 0)))) h) : zC g (.code yX11_fitsKind cX11_fitsKind 2 (Option.some Jvm.ClassFile.FieldType.boolean)) yX11_fitsKind 12 0 0 [.int (zI a), .int (zI b)] h Q := by
  refine zC_of (M := mX11_fitsKind) (lv := [some (.int (zI a)), some (.int (zI b))]) (by decide) rfl rfl (Nat.le_of_ble_eq_true rfl) rfl rfl ?_
  refine r_iload_0 1 rfl (dd_X11_fitsKind 0 _ _ _ rfl) ?_
  refine r_ifeq (by omega) 4 rfl 9 rfl (dd_X11_fitsKind 1 _ _ _ rfl) (fun hc1 => ?_) (fun hc1 => ?_)
  · refine r_iconst 10 rfl (dd_X11_fitsKind 5 _ _ _ rfl) ?_
    refine r_ireturn rfl rfl (dd_X11_fitsKind 6 _ _ _ rfl) ?_
    exact k1 (by omega)
  · refine r_iload_0 5 rfl (dd_X11_fitsKind 2 _ _ _ rfl) ?_
    refine r_iconst 6 rfl (dd_X11_fitsKind 3 _ _ _ rfl) ?_
    refine r_if_icmpne (by omega) (by omega) 9 rfl 11 rfl (dd_X11_fitsKind 4 _ _ _ rfl) (fun hc2 => ?_) (fun hc2 => ?_)
    · refine r_iload_0 12 rfl (dd_X11_fitsKind 7 _ _ _ rfl) ?_
      refine r_bipush (by decide) 14 rfl (dd_X11_fitsKind 8 _ _ _ rfl) ?_
      refine r_if_icmpne (by omega) (by omega) 17 rfl 24 rfl (dd_X11_fitsKind 9 _ _ _ rfl) (fun hc3 => ?_) (fun hc3 => ?_)
      · refine r_iload_1 25 rfl (dd_X11_fitsKind 13 _ _ _ rfl) ?_
        refine r_ifne (by omega) 28 rfl 32 rfl (dd_X11_fitsKind 14 _ _ _ rfl) (fun hc4 => ?_) (fun hc4 => ?_)
        · refine r_iconst 33 rfl (dd_X11_fitsKind 17 _ _ _ rfl) ?_
          refine r_ireturn rfl rfl (dd_X11_fitsKind 18 _ _ _ rfl) ?_
          exact k0 (by omega)
        · refine r_iconst 29 rfl (dd_X11_fitsKind 15 _ _ _ rfl) ?_
          refine r_goto 33 rfl (dd_X11_fitsKind 16 _ _ _ rfl) ?_
          refine r_ireturn rfl rfl (dd_X11_fitsKind 18 _ _ _ rfl) ?_
          exact k1 (by omega)
      · refine r_iload_1 18 rfl (dd_X11_fitsKind 10 _ _ _ rfl) ?_
        refine r_callS1 (lvl := 11) (mc1 := 0) (ms1 := 0) 0 0 hg rfl md_X11_isClass ws_X11_isClass (tb_1 174 _ rfl) (by decide) (by decide) rfl (Nat.le_of_ble_eq_true rfl) (Nat.le_of_ble_eq_true rfl) (Nat.le_of_ble_eq_true rfl) 21 rfl (dd_X11_fitsKind 11 _ _ _ rfl) ?_
        refine c_X11_isClass hg (by omega) (fun hb5 => ?_) (fun hb5 => ?_)
        · dsimp only [zCont, Option.toList, List.cons_append, List.nil_append]
          refine r_goto 33 rfl (dd_X11_fitsKind 12 _ _ _ rfl) ?_
          refine r_ireturn rfl rfl (dd_X11_fitsKind 18 _ _ _ rfl) ?_
          exact k1 (by omega)
        · dsimp only [zCont, Option.toList, List.cons_append, List.nil_append]
          refine r_goto 33 rfl (dd_X11_fitsKind 12 _ _ _ rfl) ?_
          refine r_ireturn rfl rfl (dd_X11_fitsKind 18 _ _ _ rfl) ?_
          exact k0 (by omega)
    · refine r_iconst 10 rfl (dd_X11_fitsKind 5 _ _ _ rfl) ?_
      refine r_ireturn rfl rfl (dd_X11_fitsKind 6 _ _ _ rfl) ?_
      exact k1 (by omega)

abbrev mX11_signOf : zM := (RX11, cX11_signOf, 2, (Option.some Jvm.ClassFile.FieldType.char), [], "signOf", 10)
set_option maxRecDepth 20000 in
theorem c_X11_signOf {g : zGT} {Q : zO → zH → Prop} {h : zH} (hg : zG g) {p q : Int} (hp : 0 ≤ p) (h2 : p < 67600) (hq : 0 ≤ q ∧ q ≤ 3) (k : Q (.inl (some (.int (zI (zsign p q))))) h) : zC g (.code yX11_signOf cX11_signOf 2 (Option.some Jvm.ClassFile.FieldType.char)) yX11_signOf 10 0 0 [.int (zI p), .int (zI q)] h Q := by
  refine zC_of (M := mX11_signOf) (lv := [some (.int (zI p)), some (.int (zI q))]) (by decide) rfl rfl (Nat.le_of_ble_eq_true rfl) rfl rfl ?_
  refine r_iload_1 1 rfl (dd_X11_signOf 0 _ _ _ rfl) ?_
  refine r_ifne (by omega) 4 rfl 14 rfl (dd_X11_signOf 1 _ _ _ rfl) (fun hc1 => ?_) (fun hc1 => ?_)
  · refine r_iload_1 15 rfl (dd_X11_signOf 9 _ _ _ rfl) ?_
    refine r_iconst 16 rfl (dd_X11_signOf 10 _ _ _ rfl) ?_
    refine r_if_icmpne (by omega) (by omega) 19 rfl 31 rfl (dd_X11_signOf 11 _ _ _ rfl) (fun hc2 => ?_) (fun hc2 => ?_)
    · refine r_bipush (by decide) 33 rfl (dd_X11_signOf 21 _ _ _ rfl) ?_
      refine r_iload_1 34 rfl (dd_X11_signOf 22 _ _ _ rfl) ?_
      refine r_iconst 35 rfl (dd_X11_signOf 23 _ _ _ rfl) ?_
      refine r_if_icmpne (by omega) (by omega) 38 rfl 48 rfl (dd_X11_signOf 24 _ _ _ rfl) (fun hc3 => ?_) (fun hc3 => ?_)
      · refine r_iload_0 49 rfl (dd_X11_signOf 31 _ _ _ rfl) ?_
        refine r_bipush (by decide) 51 rfl (dd_X11_signOf 32 _ _ _ rfl) ?_
        refine r_irem (by omega) (by omega) (by omega) (by omega) 52 rfl (dd_X11_signOf 33 _ _ _ rfl) ?_
        refine r_iadd 53 rfl (dd_X11_signOf 34 _ _ _ rfl) ?_
        refine r_i2c (by omega) (by omega) 54 rfl (dd_X11_signOf 35 _ _ _ rfl) ?_
        refine r_ireturn rfl (z_nchar (by omega) (by omega)) (dd_X11_signOf 36 _ _ _ rfl) ?_
        unfold zsign at k
        first | (rw [if_pos (by omega)] at k; exact k) | (rw [if_neg (by omega), if_pos (by omega)] at k; exact k) | (rw [if_neg (by omega), if_neg (by omega), if_pos (by omega)] at k; exact k) | (rw [if_neg (by omega), if_neg (by omega), if_neg (by omega)] at k; exact k)
      · refine r_iload_0 39 rfl (dd_X11_signOf 25 _ _ _ rfl) ?_
        refine r_bipush (by decide) 41 rfl (dd_X11_signOf 26 _ _ _ rfl) ?_
        refine r_idiv (by omega) (by omega) (by omega) (by omega) 42 rfl (dd_X11_signOf 27 _ _ _ rfl) ?_
        refine r_bipush (by decide) 44 rfl (dd_X11_signOf 28 _ _ _ rfl) ?_
        refine r_irem (by omega) (by omega) (by omega) (by omega) 45 rfl (dd_X11_signOf 29 _ _ _ rfl) ?_
        refine r_goto 52 rfl (dd_X11_signOf 30 _ _ _ rfl) ?_
        refine r_iadd 53 rfl (dd_X11_signOf 34 _ _ _ rfl) ?_
        refine r_i2c (by omega) (by omega) 54 rfl (dd_X11_signOf 35 _ _ _ rfl) ?_
        refine r_ireturn rfl (z_nchar (by omega) (by omega)) (dd_X11_signOf 36 _ _ _ rfl) ?_
        unfold zsign at k
        first | (rw [if_pos (by omega)] at k; exact k) | (rw [if_neg (by omega), if_pos (by omega)] at k; exact k) | (rw [if_neg (by omega), if_neg (by omega), if_pos (by omega)] at k; exact k) | (rw [if_neg (by omega), if_neg (by omega), if_neg (by omega)] at k; exact k)
    · refine r_bipush (by decide) 21 rfl (dd_X11_signOf 12 _ _ _ rfl) ?_
      refine r_iload_0 22 rfl (dd_X11_signOf 13 _ _ _ rfl) ?_
      refine r_bipush (by decide) 24 rfl (dd_X11_signOf 14 _ _ _ rfl) ?_
      refine r_idiv (by omega) (by omega) (by omega) (by omega) 25 rfl (dd_X11_signOf 15 _ _ _ rfl) ?_
      refine r_bipush (by decide) 27 rfl (dd_X11_signOf 16 _ _ _ rfl) ?_
      refine r_irem (by omega) (by omega) (by omega) (by omega) 28 rfl (dd_X11_signOf 17 _ _ _ rfl) ?_
      refine r_iadd 29 rfl (dd_X11_signOf 18 _ _ _ rfl) ?_
      refine r_i2c (by omega) (by omega) 30 rfl (dd_X11_signOf 19 _ _ _ rfl) ?_
      refine r_ireturn rfl (z_nchar (by omega) (by omega)) (dd_X11_signOf 20 _ _ _ rfl) ?_
      unfold zsign at k
      first | (rw [if_pos (by omega)] at k; exact k) | (rw [if_neg (by omega), if_pos (by omega)] at k; exact k) | (rw [if_neg (by omega), if_neg (by omega), if_pos (by omega)] at k; exact k) | (rw [if_neg (by omega), if_neg (by omega), if_neg (by omega)] at k; exact k)
  · refine r_bipush (by decide) 6 rfl (dd_X11_signOf 2 _ _ _ rfl) ?_
    refine r_iload_0 7 rfl (dd_X11_signOf 3 _ _ _ rfl) ?_
    refine r_sipush (by decide) 10 rfl (dd_X11_signOf 4 _ _ _ rfl) ?_
    refine r_idiv (by omega) (by omega) (by omega) (by omega) 11 rfl (dd_X11_signOf 5 _ _ _ rfl) ?_
    refine r_iadd 12 rfl (dd_X11_signOf 6 _ _ _ rfl) ?_
    refine r_i2c (by omega) (by omega) 13 rfl (dd_X11_signOf 7 _ _ _ rfl) ?_
    refine r_ireturn rfl (z_nchar (by omega) (by omega)) (dd_X11_signOf 8 _ _ _ rfl) ?_
    unfold zsign at k
    first | (rw [if_pos (by omega)] at k; exact k) | (rw [if_neg (by omega), if_pos (by omega)] at k; exact k) | (rw [if_neg (by omega), if_neg (by omega), if_pos (by omega)] at k; exact k) | (rw [if_neg (by omega), if_neg (by omega), if_neg (by omega)] at k; exact k)

abbrev mX1_init : zM := (RX1, cX1_init, 1, (Option.none : Option Jvm.ClassFile.FieldType), [], "<init>", 10)
set_option maxRecDepth 20000 in
theorem c_X1_init {g : zGT} {Q : zO → zH → Prop} {h : zH} (hg : zG g) {o : Nat → Nat} {r : Nat} {b : Nat} (hk : kd_ h b = 5) (ho : o b = r) (k : ∀ o1 h1, (∀ d, CoSem o1 r h1 b 0 d (fun _ => (-1, d))) → zStep (fun q => q = r) o h o1 h1 → Q (.inl none) h1) : zC g (.code yX1_init cX1_init 1 (Option.none : Option Jvm.ClassFile.FieldType)) yX1_init 10 2 8 [.ref b] h Q := by
  refine zC_of (M := mX1_init) (lv := [some (.ref b)]) (by decide) rfl rfl (Nat.le_of_ble_eq_true rfl) rfl rfl ?_
  refine r_aload_0 1 rfl (dd_X1_init 0 _ _ _ rfl) ?_
  refine r_objInit hg (tb_1 109 _ rfl) (tb_1 41 _ rfl) (tb_1 42 _ rfl) (Nat.le_of_ble_eq_true rfl) (by decide) 4 rfl (dd_X1_init 1 _ _ _ rfl) ?_
  refine r_aload_0 5 rfl (dd_X1_init 2 _ _ _ rfl) ?_
  refine r_iconst 6 rfl (dd_X1_init 3 _ _ _ rfl) ?_
  refine r_newarray 20 1 4 hg (by decide) (by decide) rfl (tb_1 120 _ rfl) (by omega) (by omega) (Nat.le_of_ble_eq_true rfl) (Nat.le_of_ble_eq_true rfl) 8 rfl (dd_X1_init 4 _ _ _ rfl) (fun e hz_e => ?_)
  have hbe : b ≠ e := fun q => by rw [q, hz_e] at hk; cases hk
  replace hk : kd_ (nar h e 20 (4 : Int).toNat) b = 5 := (zu1_ne hbe).trans hk
  refine r_putr hg zc_X1 0 (by decide) rfl (fun _ _ _ => rfl) rfl rfl (by decide) hk (Or.inl rfl) (tb_1 110 _ rfl) 11 rfl (dd_X1_init 5 _ _ _ rfl) ?_
  have hst1 : zStep (fun q => q = r) o h (zu1 o e r) (sfr (nar h e 20 (4 : Int).toNat) b 0 (some e)) := (step_nar hz_e).trans (step_sfr ((zu1_ne hbe).trans ho))
  have hke : kd_ (sfr (nar h e 20 (4 : Int).toNat) b 0 (some e)) e = 20 := zu1_at
  have hle : ln_ (sfr (nar h e 20 (4 : Int).toNat) b 0 (some e)) e = 4 := zu1_at
  have hf0 : fr_ (sfr (nar h e 20 (4 : Int).toNat) b 0 (some e)) b 0 = some e := zu2_at
  replace hk : kd_ (sfr (nar h e 20 (4 : Int).toNat) b 0 (some e)) b = 5 := hk
  generalize sfr (nar h e 20 (4 : Int).toNat) b 0 (some e) = h2 at hst1 hke hle hf0 hk ⊢
  refine r_aload_0 12 rfl (dd_X1_init 6 _ _ _ rfl) ?_
  refine r_iconst 13 rfl (dd_X1_init 7 _ _ _ rfl) ?_
  refine r_newarray 20 0 0 hg (by decide) (by decide) rfl (tb_1 120 _ rfl) (by omega) (by omega) (Nat.le_of_ble_eq_true rfl) (Nat.le_of_ble_eq_true rfl) 15 rfl (dd_X1_init 8 _ _ _ rfl) (fun e2 hz_e2 => ?_)
  have hbe2 : b ≠ e2 := fun q => by rw [q, hz_e2] at hk; cases hk
  have hee2 : e ≠ e2 := fun q => by rw [q, hz_e2] at hke; cases hke
  replace hk : kd_ (nar h2 e2 20 (4 : Int).toNat) b = 5 := (zu1_ne hbe2).trans hk
  refine r_putr hg zc_X1 1 (by decide) rfl (fun _ _ _ => rfl) rfl rfl (by decide) hk (Or.inl rfl) (tb_1 111 _ rfl) 18 rfl (dd_X1_init 9 _ _ _ rfl) ?_
  refine r_aload_0 19 rfl (dd_X1_init 10 _ _ _ rfl) ?_
  refine r_iconst 20 rfl (dd_X1_init 11 _ _ _ rfl) ?_
  refine r_puti hg zc_X1 2 (by decide) rfl (fun _ _ _ => rfl) rfl rfl (by decide) hk (Or.inl rfl) (tb_1 112 _ rfl) 23 rfl (dd_X1_init 12 _ _ _ rfl) ?_
  refine r_vreturn rfl (dd_X1_init 13 _ _ _ rfl) ?_
  have hob : zu1 (zu1 o e r) e2 r b = r := (zu1_ne hbe2).trans ((zu1_ne hbe).trans ho)
  refine k (zu1 (zu1 o e r) e2 r) _ (fun d => ⟨e, e2, fun _ => 0, fun _ => 0, 0, ⟨hk, hob, (zu2_ne (fun q => by omega)).trans hf0, zu2_at, zu2_at, (zu1_ne hee2).trans hke, zu1_at, (zu1_ne hee2).trans zu1_at, zu1_at, hee2, by omega, ?_, ?_, ?_, fun i hi => absurd hi (by omega), fun i hi => absurd hi (by omega)⟩, ⟨fun i j _ hj => absurd hj (by omega), fun i hi => absurd hi (by omega), by omega⟩, fun w => rfl⟩) (hst1.trans ((step_nar hz_e2).trans ((step_sfr hob).trans (step_sfi hob))))
  · exact zu1_at.trans ((zu1_ne hee2).trans hle).symm
  · show 4 ≤ ln_ (nar h2 e2 20 4) e; rw [show ln_ (nar h2 e2 20 4) e = 4 from (zu1_ne hee2).trans hle]; omega
  · show ln_ (nar h2 e2 20 4) e ≤ _; rw [show ln_ (nar h2 e2 20 4) e = 4 from (zu1_ne hee2).trans hle]; omega

abbrev mX1_rowOn : zM := (RX1, cX1_rowOn, 3, (Option.some Jvm.ClassFile.FieldType.int), [], "rowOn", 10)
set_option maxRecDepth 20000 in
theorem c_X1_rowOn {g : zGT} {Q : zO → zH → Prop} {h : zH} (hg : zG g) {o : Nat → Nat} {r a ef ev c n : Nat} {F V : Nat → Int} (x : CoRep o r h a ef ev F V c) (ok : CoOK F V c n) {w : Int} (hw : zR w) (hc : c ≤ 1000) (k : Q (.inl (some (.int (zI (zrow F w c))))) h) : zC g (.code yX1_rowOn cX1_rowOn 3 (Option.some Jvm.ClassFile.FieldType.int)) yX1_rowOn 10 0 0 [.ref a, .int (zI w)] h Q := by
  refine zC_of (M := mX1_rowOn) (lv := [some (.ref a), some (.int (zI w)), none]) (by decide) rfl rfl (Nat.le_of_ble_eq_true rfl) rfl rfl ?_
  obtain ⟨x1, x2, x3, x4, x5, x6, x7, x8, x9, x10, x11, x12, x13, x14, x15, x16⟩ := id x
  refine r_aload_0 1 rfl (dd_X1_rowOn 0 _ _ _ rfl) ?_
  refine r_geti hg zc_X1 2 (by decide) (fun _ _ _ => rfl) x5 x1 (Or.inl rfl) (tb_1 112 _ rfl) 4 rfl (dd_X1_rowOn 1 _ _ _ rfl) ?_
  refine r_iconst 5 rfl (dd_X1_rowOn 2 _ _ _ rfl) ?_
  refine r_isub 6 rfl (dd_X1_rowOn 3 _ _ _ rfl) ?_
  refine r_istore_2 7 rfl (by decide) rfl (dd_X1_rowOn 4 _ _ _ rfl) ?_
  have L7 : ∀ (tt : Nat), ∀ (j : Nat) (b : Int), j < tt → (j ≤ c) → (b = (j : Int) - 1) → (zrow F w c = zrow F w j) → zX g mX1_rowOn 0 0 Q 7 [some (.ref a), some (.int (zI w)), some (.int (zI b))] [] h 0 0 := by
    intro tt7
    induction tt7 with
    | zero => intros; exfalso; omega
    | succ tt7 ih7 =>
      intro j b hlt7 hj hb hz
      refine r_iload_2 8 rfl (dd_X1_rowOn 5 _ _ _ rfl) ?_
      refine r_iflt (by omega) 11 rfl 29 rfl (dd_X1_rowOn 6 _ _ _ rfl) (fun hc1 => ?_) (fun hc1 => ?_)
      · refine r_iconst 30 rfl (dd_X1_rowOn 17 _ _ _ rfl) ?_
        refine r_ireturn rfl rfl (dd_X1_rowOn 18 _ _ _ rfl) ?_
        first | (obtain rfl : j = 0 := (by omega); rw [hz] at k; exact k) | (rw [hz, show zrow F w (j + 1) = (j : Int) from if_pos (by omega), show (j : Int) = b by omega] at k; exact k)
      · obtain ⟨j, rfl⟩ : ∃ i, j = i + 1 := ⟨j - 1, by omega⟩
        have hF := ok.2.1 j (by omega)
        refine r_aload_0 12 rfl (dd_X1_rowOn 7 _ _ _ rfl) ?_
        refine r_getr hg zc_X1 0 (by decide) (fun _ _ _ => rfl) x3 x1 (Or.inl rfl) (tb_1 110 _ rfl) 15 rfl (dd_X1_rowOn 8 _ _ _ rfl) ?_
        refine r_iload_2 16 rfl (dd_X1_rowOn 9 _ _ _ rfl) ?_
        refine r_iaload hg x6 (by omega) (by omega) (by omega) 17 rfl (dd_X1_rowOn 10 _ _ _ rfl) ?_
        rw [show (b).toNat = j by omega, x15 j (by omega)]
        refine r_iload_1 18 rfl (dd_X1_rowOn 11 _ _ _ rfl) ?_
        refine r_if_icmpgt (by omega) (by omega) 21 rfl 23 rfl (dd_X1_rowOn 12 _ _ _ rfl) (fun hc2 => ?_) (fun hc2 => ?_)
        · refine r_iinc_2 26 rfl (by decide) rfl (dd_X1_rowOn 15 _ _ _ rfl) ?_
          refine r_goto 7 rfl (dd_X1_rowOn 16 _ _ _ rfl) ?_
          exact r_sub _ (z_s1 (z_s1 (z_s1 z_sN))) (ih7 j _ (by omega) (by omega) (by omega) (hz.trans (if_neg (by omega))))
        · refine r_iload_2 22 rfl (dd_X1_rowOn 13 _ _ _ rfl) ?_
          refine r_ireturn rfl rfl (dd_X1_rowOn 14 _ _ _ rfl) ?_
          first | (obtain rfl : j = 0 := (by omega); rw [hz] at k; exact k) | (rw [hz, show zrow F w (j + 1) = (j : Int) from if_pos (by omega), show (j : Int) = b by omega] at k; exact k)
  exact r_sub _ (z_s1 (z_s1 (z_s1 z_sN))) (L7 1000000 c _ (by omega) (by omega) (by omega) rfl)

abbrev mX1_valueOn : zM := (RX1, cX1_valueOn, 4, (Option.some Jvm.ClassFile.FieldType.int), [], "valueOn", 11)
set_option maxRecDepth 20000 in
theorem c_X1_valueOn {g : zGT} {Q : zO → zH → Prop} {h : zH} (hg : zG g) {o : Nat → Nat} {r a ef ev c n : Nat} {F V : Nat → Int} (x : CoRep o r h a ef ev F V c) (ok : CoOK F V c n) {w d : Int} (hw : zR w) (hc : c ≤ 1000) (k : Q (.inl (some (.int (zI (zcp1 F V d w c).2)))) h) : zC g (.code yX1_valueOn cX1_valueOn 4 (Option.some Jvm.ClassFile.FieldType.int)) yX1_valueOn 11 0 0 [.ref a, .int (zI w), .int (zI d)] h Q := by
  refine zC_of (M := mX1_valueOn) (lv := [some (.ref a), some (.int (zI w)), some (.int (zI d)), none]) (by decide) rfl rfl (Nat.le_of_ble_eq_true rfl) rfl rfl ?_
  obtain ⟨x1, x2, x3, x4, x5, x6, x7, x8, x9, x10, x11, x12, x13, x14, x15, x16⟩ := id x
  have hz := zrow_range (F := F) (w := w) c
  refine r_aload_0 1 rfl (dd_X1_valueOn 0 _ _ _ rfl) ?_
  refine r_iload_1 2 rfl (dd_X1_valueOn 1 _ _ _ rfl) ?_
  refine r_callV1 (lvl := 10) (mc1 := 0) (ms1 := 0) 0 0 hg rfl md_X1_rowOn zc_X1 x1 wi_X1_rowOn wv_X1_rowOn (tb_4 161 _ rfl) (by decide) (by decide) rfl (Nat.le_of_ble_eq_true rfl) (Nat.le_of_ble_eq_true rfl) (Nat.le_of_ble_eq_true rfl) 5 rfl (dd_X1_valueOn 2 _ _ _ rfl) ?_
  refine c_X1_rowOn hg x ok (by omega) (by omega) ?_
  dsimp only [zCont, Option.toList, List.cons_append, List.nil_append]
  refine r_istore_3 6 rfl (by decide) rfl (dd_X1_valueOn 3 _ _ _ rfl) ?_
  refine r_iload_3 7 rfl (dd_X1_valueOn 4 _ _ _ rfl) ?_
  refine r_ifge (by omega) 10 rfl 14 rfl (dd_X1_valueOn 5 _ _ _ rfl) (fun hc1 => ?_) (fun hc1 => ?_)
  · refine r_aload_0 15 rfl (dd_X1_valueOn 8 _ _ _ rfl) ?_
    refine r_getr hg zc_X1 1 (by decide) (fun _ _ _ => rfl) x4 x1 (Or.inl rfl) (tb_1 111 _ rfl) 18 rfl (dd_X1_valueOn 9 _ _ _ rfl) ?_
    refine r_iload_3 19 rfl (dd_X1_valueOn 10 _ _ _ rfl) ?_
    refine r_iaload hg x7 (by omega) (by omega) (by omega) 20 rfl (dd_X1_valueOn 11 _ _ _ rfl) ?_
    rw [x16 _ (by omega)]
    refine r_ireturn rfl rfl (dd_X1_valueOn 12 _ _ _ rfl) ?_
    first | (rw [zcp1_row.1 (by omega)] at k; exact k) | (rw [zcp1_row.2 (by omega)] at k; exact k)
  · refine r_iload_2 11 rfl (dd_X1_valueOn 6 _ _ _ rfl) ?_
    refine r_goto 20 rfl (dd_X1_valueOn 7 _ _ _ rfl) ?_
    refine r_ireturn rfl rfl (dd_X1_valueOn 12 _ _ _ rfl) ?_
    first | (rw [zcp1_row.1 (by omega)] at k; exact k) | (rw [zcp1_row.2 (by omega)] at k; exact k)

theorem c_X1_valueOnS {g : zGT} {Q : zO → zH → Prop} {h : zH} (hg : zG g) {o : Nat → Nat} {r a n : Nat} {d : Int} {R : Int → Int × Int} (x : CoSem o r h a n d R) {w : Int} (hw : zR w) (hn : n ≤ 1000) (k : Q (.inl (some (.int (zI (R w).2)))) h) : zC g (.code yX1_valueOn cX1_valueOn 4 (Option.some Jvm.ClassFile.FieldType.int)) yX1_valueOn 11 0 0 [.ref a, .int (zI w), .int (zI d)] h Q := by
  obtain ⟨ef, ev, F, V, c, x, ok, hR⟩ := x
  refine c_X1_valueOn hg x ok hw (by have := ok.2.2; omega) ?_
  rw [hR w]
  exact k
/-- a course while room is made at the row p: the rows from j on are behind their places -/
def CoMid (o : Nat → Nat) (r : Nat) (h : zH) (a ef ev : Nat) (F V : Nat → Int) (c j : Nat) : Prop := kd_ h a = 5 ∧ o a = r ∧ fr_ h a 0 = some ef ∧ fr_ h a 1 = some ev ∧ fi_ h a 2 = (c : Int) ∧ kd_ h ef = 20 ∧ kd_ h ev = 20 ∧ o ef = r ∧ o ev = r ∧ ef ≠ ev ∧ c < ln_ h ef ∧ ln_ h ev = ln_ h ef ∧ 4 ≤ ln_ h ef ∧ ln_ h ef ≤ 6 + 2 * c ∧ (∀ i, i < j → ai_ h ef i = F i) ∧ (∀ i, i < j → ai_ h ev i = V i) ∧ (∀ i, j < i → i ≤ c → ai_ h ef i = F (i - 1)) ∧ (∀ i, j < i → i ≤ c → ai_ h ev i = V (i - 1))
theorem CoMid.step {o : Nat → Nat} {r : Nat} {h : zH} {a ef ev : Nat} {F V : Nat → Int} {c j : Nat} (x : CoMid o r h a ef ev F V c (j + 1)) : CoMid o r (sai (sai h ef (j + 1) (F j)) ev (j + 1) (V j)) a ef ev F V c j ∧ zStep (fun q => q = r) o h o (sai (sai h ef (j + 1) (F j)) ev (j + 1) (V j)) := by
  obtain ⟨x1, x2, x3, x4, x5, x6, x7, x8, x9, x10, x11, x12, x13, x14, x15, x16, x17, x18⟩ := x
  refine ⟨⟨x1, x2, x3, x4, x5, x6, x7, x8, x9, x10, x11, x12, x13, x14, fun i hi => ?_, fun i hi => ?_, fun i hi hc => ?_, fun i hi hc => ?_⟩, (step_sai x8).trans (step_sai x9)⟩
  · exact ((zu2_ne (fun q => x10 q.1)).trans (zu2_ne (fun q => by omega))).trans (x15 i (by omega))
  · exact ((zu2_ne (fun q => by omega)).trans (zu2_ne (fun q => x10 q.1.symm))).trans (x16 i (by omega))
  · refine (zu2_ne (fun q => x10 q.1)).trans ?_
    by_cases hq : i = j + 1
    · subst hq; exact zu2_at
    · exact (zu2_ne (fun q => hq q.2)).trans (x17 i (by omega) hc)
  · by_cases hq : i = j + 1
    · subst hq; exact zu2_at
    · exact ((zu2_ne (fun q => hq q.2)).trans (zu2_ne (fun q => x10 q.1.symm))).trans (x18 i (by omega) hc)
theorem CoMid.fin {o : Nat → Nat} {r : Nat} {h : zH} {a ef ev : Nat} {F V : Nat → Int} {c p : Nat} {t v : Int} (x : CoMid o r h a ef ev F V c p) (hp : p ≤ c) : CoRep o r (sai (sai (sfi h a 2 ((c : Int) + 1)) ef p t) ev p v) a ef ev (fun i => if i < p then F i else if i = p then t else F (i - 1)) (fun i => if i < p then V i else if i = p then v else V (i - 1)) (c + 1) ∧ zStep (fun q => q = r) o (sfi h a 2 ((c : Int) + 1)) o (sai (sai (sfi h a 2 ((c : Int) + 1)) ef p t) ev p v) := by
  obtain ⟨x1, x2, x3, x4, x5, x6, x7, x8, x9, x10, x11, x12, x13, x14, x15, x16, x17, x18⟩ := x
  refine ⟨⟨x1, x2, x3, x4, zu2_at, x6, x7, x8, x9, x10, x11, x12, x13, ?_, fun i hi => ?_, fun i hi => ?_⟩, (step_sai x8).trans (step_sai x9)⟩
  · show ln_ h ef ≤ _; omega
  · refine (zu2_ne (fun q => x10 q.1)).trans ?_
    show _ = if i < p then F i else if i = p then t else F (i - 1)
    by_cases hq : i = p
    · subst hq; rw [if_neg (by omega), if_pos rfl]; exact zu2_at
    · refine (zu2_ne (fun q => hq q.2)).trans ?_
      by_cases h1 : i < p
      · rw [if_pos h1]; exact x15 i h1
      · rw [if_neg h1, if_neg hq]; exact x17 i (by omega) (by omega)
  · show _ = if i < p then V i else if i = p then v else V (i - 1)
    by_cases hq : i = p
    · subst hq; rw [if_neg (by omega), if_pos rfl]; exact zu2_at
    · refine ((zu2_ne (fun q => hq q.2)).trans (zu2_ne (fun q => x10 q.1.symm))).trans ?_
      by_cases h1 : i < p
      · rw [if_pos h1]; exact x16 i h1
      · rw [if_neg h1, if_neg hq]; exact x18 i (by omega) (by omega)
theorem CoRep.mid {o : Nat → Nat} {r : Nat} {h : zH} {a ef ev : Nat} {F V : Nat → Int} {c : Nat} (x : CoRep o r h a ef ev F V c) (hc : c < ln_ h ef) : CoMid o r h a ef ev F V c c := by
  obtain ⟨x1, x2, x3, x4, x5, x6, x7, x8, x9, x10, x11, x12, x13, x14, x15, x16⟩ := x
  exact ⟨x1, x2, x3, x4, x5, x6, x7, x8, x9, x10, hc, x12, x13, by omega, x15, x16, fun i h1 h2 => by omega, fun i h1 h2 => by omega⟩
theorem CoRep.set {o : Nat → Nat} {r : Nat} {h : zH} {a ef ev : Nat} {F V : Nat → Int} {c p : Nat} {v : Int} (x : CoRep o r h a ef ev F V c) : CoRep o r (sai h ev p v) a ef ev F (fun i => if i = p then v else V i) c ∧ zStep (fun q => q = r) o h o (sai h ev p v) := by
  obtain ⟨x1, x2, x3, x4, x5, x6, x7, x8, x9, x10, x11, x12, x13, x14, x15, x16⟩ := x
  refine ⟨⟨x1, x2, x3, x4, x5, x6, x7, x8, x9, x10, x11, x12, x13, x14, fun i hi => (zu2_ne (fun q => x10 q.1)).trans (x15 i hi), fun i hi => ?_⟩, step_sai x9⟩
  show _ = if i = p then v else V i
  by_cases hq : i = p
  · subst hq; rw [if_pos rfl]; exact zu2_at
  · rw [if_neg hq]; exact (zu2_ne (fun q => hq q.2)).trans (x16 i hi)
theorem CoRep.grow {o : Nat → Nat} {r : Nat} {h h1 h2 : zH} {a ef ev e1 e2 : Nat} {F V : Nat → Int} {c : Nat} (x : CoRep o r h a ef ev F V c) (hc : ln_ h ef ≤ c) {n : Int} (hn : n = (c : Int) * 2) (b1 : kd_ h e1 = 0) (b2 : kd_ h1 e1 = 20) (b3 : ln_ h1 e1 = n.toNat) (b4 : ∀ i, i < ln_ h ef → ai_ h1 e1 i = ai_ h ef i) (b5 : z_agree (fun _ => False) h h1) (d1 : kd_ (sfr h1 a 0 (some e1)) e2 = 0) (d2 : kd_ h2 e2 = 20) (d3 : ln_ h2 e2 = n.toNat) (d4 : ∀ i, i < ln_ (sfr h1 a 0 (some e1)) ev → ai_ h2 e2 i = ai_ (sfr h1 a 0 (some e1)) ev i) (d5 : z_agree (fun _ => False) (sfr h1 a 0 (some e1)) h2) : CoMid (zu1 (zu1 o e1 r) e2 r) r (sfr h2 a 1 (some e2)) a e1 e2 F V c c ∧ zStep (fun q => q = r) o h (zu1 (zu1 o e1 r) e2 r) (sfr h2 a 1 (some e2)) := by
  obtain ⟨x1, x2, x3, x4, x5, x6, x7, x8, x9, x10, x11, x12, x13, x14, x15, x16⟩ := x
  have ha1 : a ≠ e1 := fun q => by rw [q, b1] at x1; cases x1
  have s1 : zStep (fun q => q = r) o h (zu1 o e1 r) (sfr h1 a 0 (some e1)) := (step_new b1 b5).trans (step_sfr ((zu1_ne ha1).trans x2))
  have ha2 : a ≠ e2 := fun q => by have t3 : kd_ h1 a = 5 := s1.kd x1 (by omega); have t2 : kd_ h1 e2 = 0 := d1; rw [q, t2] at t3; cases t3
  have he1 : kd_ (sfr h1 a 0 (some e1)) e1 = 20 := b2
  have h12 : e1 ≠ e2 := fun q => by have t3 : kd_ h1 e1 = 20 := he1; have t2 : kd_ h1 e2 = 0 := d1; rw [q, t2] at t3; cases t3
  have s2 : zStep (fun q => q = r) (zu1 o e1 r) (sfr h1 a 0 (some e1)) (zu1 (zu1 o e1 r) e2 r) h2 := step_new d1 d5
  have hoa : zu1 (zu1 o e1 r) e2 r a = r := (zu1_ne ha2).trans ((zu1_ne ha1).trans x2)
  obtain ⟨y1, y2, y3, y4, y5, y6, y7, y8⟩ := b5 a id (by omega)
  obtain ⟨z1, z2, z3, z4, z5, z6, z7, z8⟩ := d5 a id (by rw [s1.kd x1 (by omega)]; omega)
  obtain ⟨w1, w2, w3, w4, w5, w6, w7, w8⟩ := d5 e1 id (by rw [he1]; omega)
  obtain ⟨v1, v2, v3, v4, v5, v6, v7, v8⟩ := b5 ev id (by omega)
  have hle : ln_ h2 e1 = n.toNat := w2.trans b3
  refine ⟨⟨z1.trans (y1.trans x1), hoa, ?_, zu2_at, ?_, w1.trans he1, d2, (zu1_ne h12).trans zu1_at, zu1_at, h12, ?_, ?_, ?_, ?_, fun i hi => ?_, fun i hi => ?_, fun i h3 h4 => by omega, fun i h3 h4 => by omega⟩, s1.trans (s2.trans (step_sfr hoa))⟩
  · exact (zu2_ne (fun q => by omega)).trans ((z5 0).trans zu2_at)
  · exact (z3 2).trans ((y3 2).trans x5)
  · show c < ln_ h2 e1; omega
  · show ln_ h2 e2 = ln_ h2 e1; omega
  · show 4 ≤ ln_ h2 e1; omega
  · show ln_ h2 e1 ≤ _; omega
  · exact (w6 i).trans ((b4 i (by omega)).trans (x15 i hi))
  · refine (d4 i ?_).trans ((v6 i).trans (x16 i hi))
    show i < ln_ h1 ev
    omega