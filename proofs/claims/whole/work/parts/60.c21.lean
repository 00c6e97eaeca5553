/-- what a wrapper makes of its method's end -/
def zWe (Q : zO → zH → Prop) (E : String) (h1 : zH) : List (String × Int) → Prop
  | [] => False
  | e :: es => (E = e.1 ∧ Q (.inl (some (.int (zI e.2)))) h1) ∨ zWe Q E h1 es
def zWi (out : Nat) (es : List (String × Int)) (Q : zO → zH → Prop) : zO → zH → Prop := fun o h1 => match o with
  | .inl r => ∃ a : Int, r = some (.int (zI a)) ∧ zR a ∧ kd_ h1 out = 23 ∧ ln_ h1 out = 1 ∧ Q (.inl (some (.int (zI 0)))) (saj h1 out 0 a)
  | .inr E => zWe Q E h1 es
def zWz (out : Nat) (es : List (String × Int)) (Q : zO → zH → Prop) : zO → zH → Prop := fun o h1 => match o with
  | .inl r => ∃ a : Int, r = some (.int (zI a)) ∧ (a = 0 ∨ a = 1) ∧ kd_ h1 out = 23 ∧ ln_ h1 out = 1 ∧ Q (.inl (some (.int (zI 0)))) (saj h1 out 0 a)
  | .inr E => zWe Q E h1 es
def zWl (out : Nat) (es : List (String × Int)) (Q : zO → zH → Prop) : zO → zH → Prop := fun o h1 => match o with
  | .inl r => ∃ a : Int, r = some (.long (zL a)) ∧ kd_ h1 out = 23 ∧ ln_ h1 out = 1 ∧ Q (.inl (some (.int (zI 0)))) (saj h1 out 0 a)
  | .inr E => zWe Q E h1 es
set_option maxRecDepth 20000
theorem w_type {g : zGT} {Q : zO → zH → Prop} {h : zH} (hg : zG g) (hnx : zNX g) {x out : Nat} (hk : kd_ h x = 15) {v0 : Int} (hX : ∀ Q1 : zO → zH → Prop, (∀ r h1, zWi out [(nISE, 1)] Q r h1 → Q1 r h1) → zC g (.code yX11_type cX11_type 2 (Option.some Jvm.ClassFile.FieldType.int)) yX11_type 14 4 40 [.ref x, .int (zI v0)] h Q1) : zC g (.codeWith yL_type cL_type 4 (Option.some Jvm.ClassFile.FieldType.int) [(0, 9, 12, 13)]) yL_type 15 4 40 [.ref x, .int (zI v0), .ref out] h Q := by
  refine zC_ofH (M := (RL, cL_type, 4, (Option.some Jvm.ClassFile.FieldType.int), tableOf [(0, 9, 12, 13)], "type", 15)) (hh := [(0, 9, 12, 13)]) (lv := [some (.ref x), some (.int (zI v0)), some (.ref out), none]) hg (tb_1 163 _ rfl) (by decide) rfl rfl (Nat.le_of_ble_eq_true rfl) rfl rfl ?_
  refine r_aload_2 1 rfl (dd_L_type 0 _ _ _ rfl) ?_
  refine r_iconst 2 rfl (dd_L_type 1 _ _ _ rfl) ?_
  refine r_aload_0 3 rfl (dd_L_type 2 _ _ _ rfl) ?_
  refine r_iload_1 4 rfl (dd_L_type 3 _ _ _ rfl) ?_
  refine r_callVH (lvl := 14) (mc1 := 4) (ms1 := 40) (As := [.int (zI v0)]) 0 0 hg md_X11_type zc_X11 hk wi_X11_type wv_X11_type (tb_1 165 _ rfl) (by decide) (by decide) rfl (Nat.le_of_ble_eq_true rfl) (Nat.le_of_ble_eq_true rfl) (Nat.le_of_ble_eq_true rfl) rfl 7 rfl (dd_L_type 4 _ _ _ rfl) ?_
  refine hX _ (fun r h1 hq => ?_)
  cases r with
  | inl r =>
    obtain ⟨a, rfl, ha, hk1, hl1, hq⟩ := hq
    dsimp only [zContH, Option.toList, List.cons_append, List.nil_append]
    refine r_i2l ha 8 rfl (dd_L_type 5 _ _ _ rfl) ?_
    refine r_lastore hg hk1 (by decide) (by decide) (by rw [hl1]; decide) 9 rfl (dd_L_type 6 _ _ _ rfl) ?_
    refine r_goto 15 rfl (dd_L_type 7 _ _ _ rfl) ?_
    refine r_iconst 16 rfl (dd_L_type 11 _ _ _ rfl) ?_
    refine r_ireturn rfl rfl (dd_L_type 12 _ _ _ rfl) ?_
    exact hq
  | inr E =>
    rcases hq with ⟨rfl, hq⟩ | hq
    · refine ⟨12, ⟨[], ⟨0, 9, 12, 13⟩, [], rfl, rfl, rfl, by decide, (tb_1 164 _ rfl), (tb_1 175 _ rfl), (fun _ hz => nomatch hz)⟩, fun q9 => ?_⟩
      refine r_astore_3 13 rfl (Nat.le_of_ble_eq_true rfl) rfl (dd_L_type 8 _ _ _ rfl) ?_
      refine r_iconst 14 rfl (dd_L_type 9 _ _ _ rfl) ?_
      refine r_ireturn rfl rfl (dd_L_type 10 _ _ _ rfl) ?_
      exact hq
    · exact absurd hq id
theorem w_vehicle {g : zGT} {Q : zO → zH → Prop} {h : zH} (hg : zG g) (hnx : zNX g) {x out : Nat} (hk : kd_ h x = 15) {v0 v1 v2 : Int} (hX : ∀ Q1 : zO → zH → Prop, (∀ r h1, zWi out [(nIAE, 1), (nISE, 2)] Q r h1 → Q1 r h1) → zC g (.code yX11_vehicle cX11_vehicle 4 (Option.some Jvm.ClassFile.FieldType.int)) yX11_vehicle 17 20 300 [.ref x, .int (zI v0), .int (zI v1), .int (zI v2)] h Q1) : zC g (.codeWith yL_vehicle cL_vehicle 6 (Option.some Jvm.ClassFile.FieldType.int) [(0, 12, 15, 19), (0, 12, 19, 13)]) yL_vehicle 18 20 300 [.ref x, .int (zI v0), .int (zI v1), .int (zI v2), .ref out] h Q := by
  refine zC_ofH (M := (RL, cL_vehicle, 6, (Option.some Jvm.ClassFile.FieldType.int), tableOf [(0, 12, 15, 19), (0, 12, 19, 13)], "vehicle", 18)) (hh := [(0, 12, 15, 19), (0, 12, 19, 13)]) (lv := [some (.ref x), some (.int (zI v0)), some (.int (zI v1)), some (.int (zI v2)), some (.ref out), none]) hg (tb_1 239 _ rfl) (by decide) rfl rfl (Nat.le_of_ble_eq_true rfl) rfl rfl ?_
  refine r_aload_4 2 rfl (dd_L_vehicle 0 _ _ _ rfl) ?_
  refine r_iconst 3 rfl (dd_L_vehicle 1 _ _ _ rfl) ?_
  refine r_aload_0 4 rfl (dd_L_vehicle 2 _ _ _ rfl) ?_
  refine r_iload_1 5 rfl (dd_L_vehicle 3 _ _ _ rfl) ?_
  refine r_iload_2 6 rfl (dd_L_vehicle 4 _ _ _ rfl) ?_
  refine r_iload_3 7 rfl (dd_L_vehicle 5 _ _ _ rfl) ?_
  refine r_callVH (lvl := 17) (mc1 := 20) (ms1 := 300) (As := [.int (zI v0), .int (zI v1), .int (zI v2)]) 0 0 hg md_X11_vehicle zc_X11 hk wi_X11_vehicle wv_X11_vehicle (tb_2 1 _ rfl) (by decide) (by decide) rfl (Nat.le_of_ble_eq_true rfl) (Nat.le_of_ble_eq_true rfl) (Nat.le_of_ble_eq_true rfl) rfl 10 rfl (dd_L_vehicle 6 _ _ _ rfl) ?_
  refine hX _ (fun r h1 hq => ?_)
  cases r with
  | inl r =>
    obtain ⟨a, rfl, ha, hk1, hl1, hq⟩ := hq
    dsimp only [zContH, Option.toList, List.cons_append, List.nil_append]
    refine r_i2l ha 11 rfl (dd_L_vehicle 7 _ _ _ rfl) ?_
    refine r_lastore hg hk1 (by decide) (by decide) (by rw [hl1]; decide) 12 rfl (dd_L_vehicle 8 _ _ _ rfl) ?_
    refine r_goto 23 rfl (dd_L_vehicle 9 _ _ _ rfl) ?_
    refine r_iconst 24 rfl (dd_L_vehicle 16 _ _ _ rfl) ?_
    refine r_ireturn rfl rfl (dd_L_vehicle 17 _ _ _ rfl) ?_
    exact hq
  | inr E =>
    rcases hq with ⟨rfl, hq⟩ | ⟨rfl, hq⟩ | hq
    · refine ⟨15, ⟨[], ⟨0, 12, 15, 19⟩, [⟨0, 12, 19, 13⟩], rfl, rfl, rfl, by decide, (tb_2 0 _ rfl), (tb_2 16 _ rfl), (fun _ hz => nomatch hz)⟩, fun q9 => ?_⟩
      refine r_astore_5 17 rfl (Nat.le_of_ble_eq_true rfl) rfl (dd_L_vehicle 10 _ _ _ rfl) ?_
      refine r_iconst 18 rfl (dd_L_vehicle 11 _ _ _ rfl) ?_
      refine r_ireturn rfl rfl (dd_L_vehicle 12 _ _ _ rfl) ?_
      exact hq
    · refine ⟨19, ⟨[⟨0, 12, 15, 19⟩], ⟨0, 12, 19, 13⟩, [], rfl, rfl, rfl, by decide, (tb_1 164 _ rfl), (tb_1 175 _ rfl), List.forall_mem_cons.mpr ⟨⟨by decide, nIAE, (tb_2 0 _ rfl), hnx.1⟩, (fun _ hz => nomatch hz)⟩⟩, fun q9 => ?_⟩
      refine r_astore_5 21 rfl (Nat.le_of_ble_eq_true rfl) rfl (dd_L_vehicle 13 _ _ _ rfl) ?_
      refine r_iconst 22 rfl (dd_L_vehicle 14 _ _ _ rfl) ?_
      refine r_ireturn rfl rfl (dd_L_vehicle 15 _ _ _ rfl) ?_
      exact hq
    · exact absurd hq id
theorem w_stamped {g : zGT} {Q : zO → zH → Prop} {h : zH} (hg : zG g) (hnx : zNX g) {x out : Nat} (hk : kd_ h x = 15) {v0 : Int} (hX : ∀ Q1 : zO → zH → Prop, (∀ r h1, zWi out [(nIAE, 1)] Q r h1 → Q1 r h1) → zC g (.code yX11_stamped cX11_stamped 2 (Option.some Jvm.ClassFile.FieldType.int)) yX11_stamped 14 4 40 [.ref x, .int (zI v0)] h Q1) : zC g (.codeWith yL_stamped cL_stamped 4 (Option.some Jvm.ClassFile.FieldType.int) [(0, 9, 12, 19)]) yL_stamped 15 4 40 [.ref x, .int (zI v0), .ref out] h Q := by
  refine zC_ofH (M := (RL, cL_stamped, 4, (Option.some Jvm.ClassFile.FieldType.int), tableOf [(0, 9, 12, 19)], "stamped", 15)) (hh := [(0, 9, 12, 19)]) (lv := [some (.ref x), some (.int (zI v0)), some (.ref out), none]) hg (tb_2 225 _ rfl) (by decide) rfl rfl (Nat.le_of_ble_eq_true rfl) rfl rfl ?_
  refine r_aload_2 1 rfl (dd_L_stamped 0 _ _ _ rfl) ?_
  refine r_iconst 2 rfl (dd_L_stamped 1 _ _ _ rfl) ?_
  refine r_aload_0 3 rfl (dd_L_stamped 2 _ _ _ rfl) ?_
  refine r_iload_1 4 rfl (dd_L_stamped 3 _ _ _ rfl) ?_
  refine r_callVH (lvl := 14) (mc1 := 4) (ms1 := 40) (As := [.int (zI v0)]) 0 0 hg md_X11_stamped zc_X11 hk wi_X11_stamped wv_X11_stamped (tb_2 226 _ rfl) (by decide) (by decide) rfl (Nat.le_of_ble_eq_true rfl) (Nat.le_of_ble_eq_true rfl) (Nat.le_of_ble_eq_true rfl) rfl 7 rfl (dd_L_stamped 4 _ _ _ rfl) ?_
  refine hX _ (fun r h1 hq => ?_)
  cases r with
  | inl r =>
    obtain ⟨a, rfl, ha, hk1, hl1, hq⟩ := hq
    dsimp only [zContH, Option.toList, List.cons_append, List.nil_append]
    refine r_i2l ha 8 rfl (dd_L_stamped 5 _ _ _ rfl) ?_
    refine r_lastore hg hk1 (by decide) (by decide) (by rw [hl1]; decide) 9 rfl (dd_L_stamped 6 _ _ _ rfl) ?_
    refine r_goto 15 rfl (dd_L_stamped 7 _ _ _ rfl) ?_
    refine r_iconst 16 rfl (dd_L_stamped 11 _ _ _ rfl) ?_
    refine r_ireturn rfl rfl (dd_L_stamped 12 _ _ _ rfl) ?_
    exact hq
  | inr E =>
    rcases hq with ⟨rfl, hq⟩ | hq
    · refine ⟨12, ⟨[], ⟨0, 9, 12, 19⟩, [], rfl, rfl, rfl, by decide, (tb_2 0 _ rfl), (tb_2 16 _ rfl), (fun _ hz => nomatch hz)⟩, fun q9 => ?_⟩
      refine r_astore_3 13 rfl (Nat.le_of_ble_eq_true rfl) rfl (dd_L_stamped 8 _ _ _ rfl) ?_
      refine r_iconst 14 rfl (dd_L_stamped 9 _ _ _ rfl) ?_
      refine r_ireturn rfl rfl (dd_L_stamped 10 _ _ _ rfl) ?_
      exact hq
    · exact absurd hq id
theorem w_person {g : zGT} {Q : zO → zH → Prop} {h : zH} (hg : zG g) (hnx : zNX g) {x out : Nat} (hk : kd_ h x = 15) (hX : ∀ Q1 : zO → zH → Prop, (∀ r h1, zWi out [(nISE, 1)] Q r h1 → Q1 r h1) → zC g (.code yX11_person cX11_person 1 (Option.some Jvm.ClassFile.FieldType.int)) yX11_person 17 6 150 [.ref x] h Q1) : zC g (.codeWith yL_person cL_person 3 (Option.some Jvm.ClassFile.FieldType.int) [(0, 8, 11, 13)]) yL_person 18 6 150 [.ref x, .ref out] h Q := by
  refine zC_ofH (M := (RL, cL_person, 3, (Option.some Jvm.ClassFile.FieldType.int), tableOf [(0, 8, 11, 13)], "person", 18)) (hh := [(0, 8, 11, 13)]) (lv := [some (.ref x), some (.ref out), none]) hg (tb_2 236 _ rfl) (by decide) rfl rfl (Nat.le_of_ble_eq_true rfl) rfl rfl ?_
  refine r_aload_1 1 rfl (dd_L_person 0 _ _ _ rfl) ?_
  refine r_iconst 2 rfl (dd_L_person 1 _ _ _ rfl) ?_
  refine r_aload_0 3 rfl (dd_L_person 2 _ _ _ rfl) ?_
  refine r_callVH (lvl := 17) (mc1 := 6) (ms1 := 150) (As := []) 0 0 hg md_X11_person zc_X11 hk wi_X11_person wv_X11_person (tb_2 237 _ rfl) (by decide) (by decide) rfl (Nat.le_of_ble_eq_true rfl) (Nat.le_of_ble_eq_true rfl) (Nat.le_of_ble_eq_true rfl) rfl 6 rfl (dd_L_person 3 _ _ _ rfl) ?_
  refine hX _ (fun r h1 hq => ?_)
  cases r with
  | inl r =>
    obtain ⟨a, rfl, ha, hk1, hl1, hq⟩ := hq
    dsimp only [zContH, Option.toList, List.cons_append, List.nil_append]
    refine r_i2l ha 7 rfl (dd_L_person 4 _ _ _ rfl) ?_
    refine r_lastore hg hk1 (by decide) (by decide) (by rw [hl1]; decide) 8 rfl (dd_L_person 5 _ _ _ rfl) ?_
    refine r_goto 14 rfl (dd_L_person 6 _ _ _ rfl) ?_
    refine r_iconst 15 rfl (dd_L_person 10 _ _ _ rfl) ?_
    refine r_ireturn rfl rfl (dd_L_person 11 _ _ _ rfl) ?_
    exact hq
  | inr E =>
    rcases hq with ⟨rfl, hq⟩ | hq
    · refine ⟨11, ⟨[], ⟨0, 8, 11, 13⟩, [], rfl, rfl, rfl, by decide, (tb_1 164 _ rfl), (tb_1 175 _ rfl), (fun _ hz => nomatch hz)⟩, fun q9 => ?_⟩
      refine r_astore_2 12 rfl (Nat.le_of_ble_eq_true rfl) rfl (dd_L_person 7 _ _ _ rfl) ?_
      refine r_iconst 13 rfl (dd_L_person 8 _ _ _ rfl) ?_
      refine r_ireturn rfl rfl (dd_L_person 9 _ _ _ rfl) ?_
      exact hq
    · exact absurd hq id
theorem w_protect {g : zGT} {Q : zO → zH → Prop} {h : zH} (hg : zG g) (hnx : zNX g) {x out : Nat} (hk : kd_ h x = 15) {v0 v1 : Int} (hX : ∀ Q1 : zO → zH → Prop, (∀ r h1, zWz out [(nIOE, 1)] Q r h1 → Q1 r h1) → zC g (.code yX11_protect cX11_protect 5 (Option.some Jvm.ClassFile.FieldType.boolean)) yX11_protect 14 4 40 [.ref x, .int (zI v0), .int (zI v1)] h Q1) : zC g (.codeWith yL_protect cL_protect 5 (Option.some Jvm.ClassFile.FieldType.int) [(0, 17, 20, 33)]) yL_protect 15 4 40 [.ref x, .int (zI v0), .int (zI v1), .ref out] h Q := by
  refine zC_ofH (M := (RL, cL_protect, 5, (Option.some Jvm.ClassFile.FieldType.int), tableOf [(0, 17, 20, 33)], "protect", 15)) (hh := [(0, 17, 20, 33)]) (lv := [some (.ref x), some (.int (zI v0)), some (.int (zI v1)), some (.ref out), none]) hg (tb_3 18 _ rfl) (by decide) rfl rfl (Nat.le_of_ble_eq_true rfl) rfl rfl ?_
  refine r_aload_3 1 rfl (dd_L_protect 0 _ _ _ rfl) ?_
  refine r_iconst 2 rfl (dd_L_protect 1 _ _ _ rfl) ?_
  refine r_aload_0 3 rfl (dd_L_protect 2 _ _ _ rfl) ?_
  refine r_iload_1 4 rfl (dd_L_protect 3 _ _ _ rfl) ?_
  refine r_iload_2 5 rfl (dd_L_protect 4 _ _ _ rfl) ?_
  refine r_callVH (lvl := 14) (mc1 := 4) (ms1 := 40) (As := [.int (zI v0), .int (zI v1)]) 0 0 hg md_X11_protect zc_X11 hk wi_X11_protect wv_X11_protect (tb_3 20 _ rfl) (by decide) (by decide) rfl (Nat.le_of_ble_eq_true rfl) (Nat.le_of_ble_eq_true rfl) (Nat.le_of_ble_eq_true rfl) rfl 8 rfl (dd_L_protect 5 _ _ _ rfl) ?_
  refine hX _ (fun r h1 hq => ?_)
  cases r with
  | inl r =>
    obtain ⟨a, rfl, hz, hk1, hl1, hq⟩ := hq
    dsimp only [zContH, Option.toList, List.cons_append, List.nil_append]
    refine r_ifeq (by rcases hz with hz | hz <;> (subst hz; decide)) 11 rfl 15 rfl (dd_L_protect 6 _ _ _ rfl) (fun hc => ?_) (fun hc => ?_)
    · subst hc
      refine r_lconst0 16 rfl (dd_L_protect 9 _ _ _ rfl) ?_
      refine r_lastore hg hk1 (by decide) (by decide) (by rw [hl1]; decide) 17 rfl (dd_L_protect 10 _ _ _ rfl) ?_
      refine r_goto 24 rfl (dd_L_protect 11 _ _ _ rfl) ?_
      refine r_iconst 25 rfl (dd_L_protect 15 _ _ _ rfl) ?_
      refine r_ireturn rfl rfl (dd_L_protect 16 _ _ _ rfl) ?_
      exact hq
    · obtain rfl : a = 1 := by omega
      refine r_lconst1 12 rfl (dd_L_protect 7 _ _ _ rfl) ?_
      refine r_goto 16 rfl (dd_L_protect 8 _ _ _ rfl) ?_
      refine r_lastore hg hk1 (by decide) (by decide) (by rw [hl1]; decide) 17 rfl (dd_L_protect 10 _ _ _ rfl) ?_
      refine r_goto 24 rfl (dd_L_protect 11 _ _ _ rfl) ?_
      refine r_iconst 25 rfl (dd_L_protect 15 _ _ _ rfl) ?_
      refine r_ireturn rfl rfl (dd_L_protect 16 _ _ _ rfl) ?_
      exact hq
  | inr E =>
    rcases hq with ⟨rfl, hq⟩ | hq
    · refine ⟨20, ⟨[], ⟨0, 17, 20, 33⟩, [], rfl, rfl, rfl, by decide, (tb_3 19 _ rfl), (tb_3 30 _ rfl), (fun _ hz => nomatch hz)⟩, fun q9 => ?_⟩
      refine r_astore_4 22 rfl (Nat.le_of_ble_eq_true rfl) rfl (dd_L_protect 12 _ _ _ rfl) ?_
      refine r_iconst 23 rfl (dd_L_protect 13 _ _ _ rfl) ?_
      refine r_ireturn rfl rfl (dd_L_protect 14 _ _ _ rfl) ?_
      exact hq
    · exact absurd hq id
theorem w_tell {g : zGT} {Q : zO → zH → Prop} {h : zH} (hg : zG g) (hnx : zNX g) {x out : Nat} (hk : kd_ h x = 15) {v0 v1 v2 v3 : Int} (hX : ∀ Q1 : zO → zH → Prop, (∀ r h1, zWi out [(nIOE, 1), (nIAE, 2), (nISE, 3)] Q r h1 → Q1 r h1) → zC g (.code yX11_tell cX11_tell 6 (Option.some Jvm.ClassFile.FieldType.int)) yX11_tell 18 12 200 [.ref x, .int (zI v0), .int (zI v1), .int (zI v2), .int (zI v3)] h Q1) : zC g (.codeWith yL_tell cL_tell 7 (Option.some Jvm.ClassFile.FieldType.int) [(0, 14, 17, 33), (0, 14, 21, 19), (0, 14, 25, 13)]) yL_tell 19 12 200 [.ref x, .int (zI v0), .int (zI v1), .int (zI v2), .int (zI v3), .ref out] h Q := by
  refine zC_ofH (M := (RL, cL_tell, 7, (Option.some Jvm.ClassFile.FieldType.int), tableOf [(0, 14, 17, 33), (0, 14, 21, 19), (0, 14, 25, 13)], "tell", 19)) (hh := [(0, 14, 17, 33), (0, 14, 21, 19), (0, 14, 25, 13)]) (lv := [some (.ref x), some (.int (zI v0)), some (.int (zI v1)), some (.int (zI v2)), some (.int (zI v3)), some (.ref out), none]) hg (tb_3 45 _ rfl) (by decide) rfl rfl (Nat.le_of_ble_eq_true rfl) rfl rfl ?_
  refine r_aload_5 2 rfl (dd_L_tell 0 _ _ _ rfl) ?_
  refine r_iconst 3 rfl (dd_L_tell 1 _ _ _ rfl) ?_
  refine r_aload_0 4 rfl (dd_L_tell 2 _ _ _ rfl) ?_
  refine r_iload_1 5 rfl (dd_L_tell 3 _ _ _ rfl) ?_
  refine r_iload_2 6 rfl (dd_L_tell 4 _ _ _ rfl) ?_
  refine r_iload_3 7 rfl (dd_L_tell 5 _ _ _ rfl) ?_
  refine r_iload_4 9 rfl (dd_L_tell 6 _ _ _ rfl) ?_
  refine r_callVH (lvl := 18) (mc1 := 12) (ms1 := 200) (As := [.int (zI v0), .int (zI v1), .int (zI v2), .int (zI v3)]) 0 0 hg md_X11_tell zc_X11 hk wi_X11_tell wv_X11_tell (tb_3 46 _ rfl) (by decide) (by decide) rfl (Nat.le_of_ble_eq_true rfl) (Nat.le_of_ble_eq_true rfl) (Nat.le_of_ble_eq_true rfl) rfl 12 rfl (dd_L_tell 7 _ _ _ rfl) ?_
  refine hX _ (fun r h1 hq => ?_)
  cases r with
  | inl r =>
    obtain ⟨a, rfl, ha, hk1, hl1, hq⟩ := hq
    dsimp only [zContH, Option.toList, List.cons_append, List.nil_append]
    refine r_i2l ha 13 rfl (dd_L_tell 8 _ _ _ rfl) ?_
    refine r_lastore hg hk1 (by decide) (by decide) (by rw [hl1]; decide) 14 rfl (dd_L_tell 9 _ _ _ rfl) ?_
    refine r_goto 29 rfl (dd_L_tell 10 _ _ _ rfl) ?_
    refine r_iconst 30 rfl (dd_L_tell 20 _ _ _ rfl) ?_
    refine r_ireturn rfl rfl (dd_L_tell 21 _ _ _ rfl) ?_
    exact hq
  | inr E =>
    rcases hq with ⟨rfl, hq⟩ | ⟨rfl, hq⟩ | ⟨rfl, hq⟩ | hq
    · refine ⟨17, ⟨[], ⟨0, 14, 17, 33⟩, [⟨0, 14, 21, 19⟩, ⟨0, 14, 25, 13⟩], rfl, rfl, rfl, by decide, (tb_3 19 _ rfl), (tb_3 30 _ rfl), (fun _ hz => nomatch hz)⟩, fun q9 => ?_⟩
      refine r_astore_6 19 rfl (Nat.le_of_ble_eq_true rfl) rfl (dd_L_tell 11 _ _ _ rfl) ?_
      refine r_iconst 20 rfl (dd_L_tell 12 _ _ _ rfl) ?_
      refine r_ireturn rfl rfl (dd_L_tell 13 _ _ _ rfl) ?_
      exact hq
    · refine ⟨21, ⟨[⟨0, 14, 17, 33⟩], ⟨0, 14, 21, 19⟩, [⟨0, 14, 25, 13⟩], rfl, rfl, rfl, by decide, (tb_2 0 _ rfl), (tb_2 16 _ rfl), List.forall_mem_cons.mpr ⟨⟨by decide, nIOE, (tb_3 19 _ rfl), hnx.2.2.1⟩, (fun _ hz => nomatch hz)⟩⟩, fun q9 => ?_⟩
      refine r_astore_6 23 rfl (Nat.le_of_ble_eq_true rfl) rfl (dd_L_tell 14 _ _ _ rfl) ?_
      refine r_iconst 24 rfl (dd_L_tell 15 _ _ _ rfl) ?_
      refine r_ireturn rfl rfl (dd_L_tell 16 _ _ _ rfl) ?_
      exact hq
    · refine ⟨25, ⟨[⟨0, 14, 17, 33⟩, ⟨0, 14, 21, 19⟩], ⟨0, 14, 25, 13⟩, [], rfl, rfl, rfl, by decide, (tb_1 164 _ rfl), (tb_1 175 _ rfl), List.forall_mem_cons.mpr ⟨⟨by decide, nIOE, (tb_3 19 _ rfl), hnx.2.1⟩, List.forall_mem_cons.mpr ⟨⟨by decide, nIAE, (tb_2 0 _ rfl), hnx.1⟩, (fun _ hz => nomatch hz)⟩⟩⟩, fun q9 => ?_⟩
      refine r_astore_6 27 rfl (Nat.le_of_ble_eq_true rfl) rfl (dd_L_tell 17 _ _ _ rfl) ?_
      refine r_iconst 28 rfl (dd_L_tell 18 _ _ _ rfl) ?_
      refine r_ireturn rfl rfl (dd_L_tell 19 _ _ _ rfl) ?_
      exact hq
    · exact absurd hq id
theorem w_on {g : zGT} {Q : zO → zH → Prop} {h : zH} (hg : zG g) (hnx : zNX g) {x out : Nat} (hk : kd_ h x = 15) {v0 v1 v2 : Int} (hX : ∀ Q1 : zO → zH → Prop, (∀ r h1, zWi out [(nIOE, 1), (nIAE, 2)] Q r h1 → Q1 r h1) → zC g (.code yX11_on cX11_on 5 (Option.some Jvm.ClassFile.FieldType.int)) yX11_on 15 4 40 [.ref x, .int (zI v0), .int (zI v1), .int (zI v2)] h Q1) : zC g (.codeWith yL_on cL_on 6 (Option.some Jvm.ClassFile.FieldType.int) [(0, 12, 15, 33), (0, 12, 19, 19)]) yL_on 16 4 40 [.ref x, .int (zI v0), .int (zI v1), .int (zI v2), .ref out] h Q := by
  refine zC_ofH (M := (RL, cL_on, 6, (Option.some Jvm.ClassFile.FieldType.int), tableOf [(0, 12, 15, 33), (0, 12, 19, 19)], "on", 16)) (hh := [(0, 12, 15, 33), (0, 12, 19, 19)]) (lv := [some (.ref x), some (.int (zI v0)), some (.int (zI v1)), some (.int (zI v2)), some (.ref out), none]) hg (tb_4 134 _ rfl) (by decide) rfl rfl (Nat.le_of_ble_eq_true rfl) rfl rfl ?_
  refine r_aload_4 2 rfl (dd_L_on 0 _ _ _ rfl) ?_
  refine r_iconst 3 rfl (dd_L_on 1 _ _ _ rfl) ?_
  refine r_aload_0 4 rfl (dd_L_on 2 _ _ _ rfl) ?_
  refine r_iload_1 5 rfl (dd_L_on 3 _ _ _ rfl) ?_
  refine r_iload_2 6 rfl (dd_L_on 4 _ _ _ rfl) ?_
  refine r_iload_3 7 rfl (dd_L_on 5 _ _ _ rfl) ?_
  refine r_callVH (lvl := 15) (mc1 := 4) (ms1 := 40) (As := [.int (zI v0), .int (zI v1), .int (zI v2)]) 0 0 hg md_X11_on zc_X11 hk wi_X11_on wv_X11_on (tb_4 135 _ rfl) (by decide) (by decide) rfl (Nat.le_of_ble_eq_true rfl) (Nat.le_of_ble_eq_true rfl) (Nat.le_of_ble_eq_true rfl) rfl 10 rfl (dd_L_on 6 _ _ _ rfl) ?_
  refine hX _ (fun r h1 hq => ?_)
  cases r with
  | inl r =>
    obtain ⟨a, rfl, ha, hk1, hl1, hq⟩ := hq
    dsimp only [zContH, Option.toList, List.cons_append, List.nil_append]
    refine r_i2l ha 11 rfl (dd_L_on 7 _ _ _ rfl) ?_
    refine r_lastore hg hk1 (by decide) (by decide) (by rw [hl1]; decide) 12 rfl (dd_L_on 8 _ _ _ rfl) ?_
    refine r_goto 23 rfl (dd_L_on 9 _ _ _ rfl) ?_
    refine r_iconst 24 rfl (dd_L_on 16 _ _ _ rfl) ?_
    refine r_ireturn rfl rfl (dd_L_on 17 _ _ _ rfl) ?_
    exact hq
  | inr E =>
    rcases hq with ⟨rfl, hq⟩ | ⟨rfl, hq⟩ | hq
    · refine ⟨15, ⟨[], ⟨0, 12, 15, 33⟩, [⟨0, 12, 19, 19⟩], rfl, rfl, rfl, by decide, (tb_3 19 _ rfl), (tb_3 30 _ rfl), (fun _ hz => nomatch hz)⟩, fun q9 => ?_⟩
      refine r_astore_5 17 rfl (Nat.le_of_ble_eq_true rfl) rfl (dd_L_on 10 _ _ _ rfl) ?_
      refine r_iconst 18 rfl (dd_L_on 11 _ _ _ rfl) ?_
      refine r_ireturn rfl rfl (dd_L_on 12 _ _ _ rfl) ?_
      exact hq
    · refine ⟨19, ⟨[⟨0, 12, 15, 33⟩], ⟨0, 12, 19, 19⟩, [], rfl, rfl, rfl, by decide, (tb_2 0 _ rfl), (tb_2 16 _ rfl), List.forall_mem_cons.mpr ⟨⟨by decide, nIOE, (tb_3 19 _ rfl), hnx.2.2.1⟩, (fun _ hz => nomatch hz)⟩⟩, fun q9 => ?_⟩
      refine r_astore_5 21 rfl (Nat.le_of_ble_eq_true rfl) rfl (dd_L_on 13 _ _ _ rfl) ?_
      refine r_iconst 22 rfl (dd_L_on 14 _ _ _ rfl) ?_
      refine r_ireturn rfl rfl (dd_L_on 15 _ _ _ rfl) ?_
      exact hq
    · exact absurd hq id
theorem w_onAnew {g : zGT} {Q : zO → zH → Prop} {h : zH} (hg : zG g) (hnx : zNX g) {x out : Nat} (hk : kd_ h x = 15) {v0 v1 v2 : Int} (hX : ∀ Q1 : zO → zH → Prop, (∀ r h1, zWi out [(nIOE, 1), (nIAE, 2)] Q r h1 → Q1 r h1) → zC g (.code yX11_onAnew cX11_onAnew 5 (Option.some Jvm.ClassFile.FieldType.int)) yX11_onAnew 15 4 40 [.ref x, .int (zI v0), .int (zI v1), .int (zI v2)] h Q1) : zC g (.codeWith yL_onAnew cL_onAnew 6 (Option.some Jvm.ClassFile.FieldType.int) [(0, 12, 15, 33), (0, 12, 19, 19)]) yL_onAnew 16 4 40 [.ref x, .int (zI v0), .int (zI v1), .int (zI v2), .ref out] h Q := by
  refine zC_ofH (M := (RL, cL_onAnew, 6, (Option.some Jvm.ClassFile.FieldType.int), tableOf [(0, 12, 15, 33), (0, 12, 19, 19)], "onAnew", 16)) (hh := [(0, 12, 15, 33), (0, 12, 19, 19)]) (lv := [some (.ref x), some (.int (zI v0)), some (.int (zI v1)), some (.int (zI v2)), some (.ref out), none]) hg (tb_4 153 _ rfl) (by decide) rfl rfl (Nat.le_of_ble_eq_true rfl) rfl rfl ?_
  refine r_aload_4 2 rfl (dd_L_onAnew 0 _ _ _ rfl) ?_
  refine r_iconst 3 rfl (dd_L_onAnew 1 _ _ _ rfl) ?_
  refine r_aload_0 4 rfl (dd_L_onAnew 2 _ _ _ rfl) ?_
  refine r_iload_1 5 rfl (dd_L_onAnew 3 _ _ _ rfl) ?_
  refine r_iload_2 6 rfl (dd_L_onAnew 4 _ _ _ rfl) ?_
  refine r_iload_3 7 rfl (dd_L_onAnew 5 _ _ _ rfl) ?_
  refine r_callVH (lvl := 15) (mc1 := 4) (ms1 := 40) (As := [.int (zI v0), .int (zI v1), .int (zI v2)]) 0 0 hg md_X11_onAnew zc_X11 hk wi_X11_onAnew wv_X11_onAnew (tb_4 154 _ rfl) (by decide) (by decide) rfl (Nat.le_of_ble_eq_true rfl) (Nat.le_of_ble_eq_true rfl) (Nat.le_of_ble_eq_true rfl) rfl 10 rfl (dd_L_onAnew 6 _ _ _ rfl) ?_
  refine hX _ (fun r h1 hq => ?_)
  cases r with
  | inl r =>
    obtain ⟨a, rfl, ha, hk1, hl1, hq⟩ := hq
    dsimp only [zContH, Option.toList, List.cons_append, List.nil_append]
    refine r_i2l ha 11 rfl (dd_L_onAnew 7 _ _ _ rfl) ?_
    refine r_lastore hg hk1 (by decide) (by decide) (by rw [hl1]; decide) 12 rfl (dd_L_onAnew 8 _ _ _ rfl) ?_
    refine r_goto 23 rfl (dd_L_onAnew 9 _ _ _ rfl) ?_
    refine r_iconst 24 rfl (dd_L_onAnew 16 _ _ _ rfl) ?_
    refine r_ireturn rfl rfl (dd_L_onAnew 17 _ _ _ rfl) ?_
    exact hq
  | inr E =>
    rcases hq with ⟨rfl, hq⟩ | ⟨rfl, hq⟩ | hq
    · refine ⟨15, ⟨[], ⟨0, 12, 15, 33⟩, [⟨0, 12, 19, 19⟩], rfl, rfl, rfl, by decide, (tb_3 19 _ rfl), (tb_3 30 _ rfl), (fun _ hz => nomatch hz)⟩, fun q9 => ?_⟩
      refine r_astore_5 17 rfl (Nat.le_of_ble_eq_true rfl) rfl (dd_L_onAnew 10 _ _ _ rfl) ?_
      refine r_iconst 18 rfl (dd_L_onAnew 11 _ _ _ rfl) ?_
      refine r_ireturn rfl rfl (dd_L_onAnew 12 _ _ _ rfl) ?_
      exact hq
    · refine ⟨19, ⟨[⟨0, 12, 15, 33⟩], ⟨0, 12, 19, 19⟩, [], rfl, rfl, rfl, by decide, (tb_2 0 _ rfl), (tb_2 16 _ rfl), List.forall_mem_cons.mpr ⟨⟨by decide, nIOE, (tb_3 19 _ rfl), hnx.2.2.1⟩, (fun _ hz => nomatch hz)⟩⟩, fun q9 => ?_⟩
      refine r_astore_5 21 rfl (Nat.le_of_ble_eq_true rfl) rfl (dd_L_onAnew 13 _ _ _ rfl) ?_
      refine r_iconst 22 rfl (dd_L_onAnew 14 _ _ _ rfl) ?_
      refine r_ireturn rfl rfl (dd_L_onAnew 15 _ _ _ rfl) ?_
      exact hq
    · exact absurd hq id
theorem w_bar {g : zGT} {Q : zO → zH → Prop} {h : zH} (hg : zG g) (hnx : zNX g) {x out : Nat} (hk : kd_ h x = 15) {v0 v1 v2 : Int} (hX : ∀ Q1 : zO → zH → Prop, (∀ r h1, zWz out [(nIAE, 1)] Q r h1 → Q1 r h1) → zC g (.code yX11_bar cX11_bar 4 (Option.some Jvm.ClassFile.FieldType.boolean)) yX11_bar 14 4 40 [.ref x, .int (zI v0), .int (zI v1), .int (zI v2)] h Q1) : zC g (.codeWith yL_bar cL_bar 6 (Option.some Jvm.ClassFile.FieldType.int) [(0, 19, 22, 19)]) yL_bar 15 4 40 [.ref x, .int (zI v0), .int (zI v1), .int (zI v2), .ref out] h Q := by
  refine zC_ofH (M := (RL, cL_bar, 6, (Option.some Jvm.ClassFile.FieldType.int), tableOf [(0, 19, 22, 19)], "bar", 15)) (hh := [(0, 19, 22, 19)]) (lv := [some (.ref x), some (.int (zI v0)), some (.int (zI v1)), some (.int (zI v2)), some (.ref out), none]) hg (tb_4 164 _ rfl) (by decide) rfl rfl (Nat.le_of_ble_eq_true rfl) rfl rfl ?_
  refine r_aload_4 2 rfl (dd_L_bar 0 _ _ _ rfl) ?_
  refine r_iconst 3 rfl (dd_L_bar 1 _ _ _ rfl) ?_
  refine r_aload_0 4 rfl (dd_L_bar 2 _ _ _ rfl) ?_
  refine r_iload_1 5 rfl (dd_L_bar 3 _ _ _ rfl) ?_
  refine r_iload_2 6 rfl (dd_L_bar 4 _ _ _ rfl) ?_
  refine r_iload_3 7 rfl (dd_L_bar 5 _ _ _ rfl) ?_
  refine r_callVH (lvl := 14) (mc1 := 4) (ms1 := 40) (As := [.int (zI v0), .int (zI v1), .int (zI v2)]) 0 0 hg md_X11_bar zc_X11 hk wi_X11_bar wv_X11_bar (tb_4 165 _ rfl) (by decide) (by decide) rfl (Nat.le_of_ble_eq_true rfl) (Nat.le_of_ble_eq_true rfl) (Nat.le_of_ble_eq_true rfl) rfl 10 rfl (dd_L_bar 6 _ _ _ rfl) ?_
  refine hX _ (fun r h1 hq => ?_)
  cases r with
  | inl r =>
    obtain ⟨a, rfl, hz, hk1, hl1, hq⟩ := hq
    dsimp only [zContH, Option.toList, List.cons_append, List.nil_append]
    refine r_ifeq (by rcases hz with hz | hz <;> (subst hz; decide)) 13 rfl 17 rfl (dd_L_bar 7 _ _ _ rfl) (fun hc => ?_) (fun hc => ?_)
    · subst hc
      refine r_lconst0 18 rfl (dd_L_bar 10 _ _ _ rfl) ?_
      refine r_lastore hg hk1 (by decide) (by decide) (by rw [hl1]; decide) 19 rfl (dd_L_bar 11 _ _ _ rfl) ?_
      refine r_goto 26 rfl (dd_L_bar 12 _ _ _ rfl) ?_
      refine r_iconst 27 rfl (dd_L_bar 16 _ _ _ rfl) ?_
      refine r_ireturn rfl rfl (dd_L_bar 17 _ _ _ rfl) ?_
      exact hq
    · obtain rfl : a = 1 := by omega
      refine r_lconst1 14 rfl (dd_L_bar 8 _ _ _ rfl) ?_
      refine r_goto 18 rfl (dd_L_bar 9 _ _ _ rfl) ?_
      refine r_lastore hg hk1 (by decide) (by decide) (by rw [hl1]; decide) 19 rfl (dd_L_bar 11 _ _ _ rfl) ?_
      refine r_goto 26 rfl (dd_L_bar 12 _ _ _ rfl) ?_
      refine r_iconst 27 rfl (dd_L_bar 16 _ _ _ rfl) ?_
      refine r_ireturn rfl rfl (dd_L_bar 17 _ _ _ rfl) ?_
      exact hq
  | inr E =>
    rcases hq with ⟨rfl, hq⟩ | hq
    · refine ⟨22, ⟨[], ⟨0, 19, 22, 19⟩, [], rfl, rfl, rfl, by decide, (tb_2 0 _ rfl), (tb_2 16 _ rfl), (fun _ hz => nomatch hz)⟩, fun q9 => ?_⟩
      refine r_astore_5 24 rfl (Nat.le_of_ble_eq_true rfl) rfl (dd_L_bar 13 _ _ _ rfl) ?_
      refine r_iconst 25 rfl (dd_L_bar 14 _ _ _ rfl) ?_
      refine r_ireturn rfl rfl (dd_L_bar 15 _ _ _ rfl) ?_
      exact hq
    · exact absurd hq id
theorem w_allot {g : zGT} {Q : zO → zH → Prop} {h : zH} (hg : zG g) (hnx : zNX g) {x out : Nat} (hk : kd_ h x = 15) {v0 : Int} (hX : ∀ Q1 : zO → zH → Prop, (∀ r h1, zWi out [(nIOE, 1), (nISE, 2)] Q r h1 → Q1 r h1) → zC g (.code yX11_allot cX11_allot 4 (Option.some Jvm.ClassFile.FieldType.int)) yX11_allot 15 8 4300 [.ref x, .int (zI v0)] h Q1) : zC g (.codeWith yL_allot cL_allot 4 (Option.some Jvm.ClassFile.FieldType.int) [(0, 9, 12, 33), (0, 9, 15, 13)]) yL_allot 16 8 4300 [.ref x, .int (zI v0), .ref out] h Q := by
  refine zC_ofH (M := (RL, cL_allot, 4, (Option.some Jvm.ClassFile.FieldType.int), tableOf [(0, 9, 12, 33), (0, 9, 15, 13)], "allot", 16)) (hh := [(0, 9, 12, 33), (0, 9, 15, 13)]) (lv := [some (.ref x), some (.int (zI v0)), some (.ref out), none]) hg (tb_4 178 _ rfl) (by decide) rfl rfl (Nat.le_of_ble_eq_true rfl) rfl rfl ?_
  refine r_aload_2 1 rfl (dd_L_allot 0 _ _ _ rfl) ?_
  refine r_iconst 2 rfl (dd_L_allot 1 _ _ _ rfl) ?_
  refine r_aload_0 3 rfl (dd_L_allot 2 _ _ _ rfl) ?_
  refine r_iload_1 4 rfl (dd_L_allot 3 _ _ _ rfl) ?_
  refine r_callVH (lvl := 15) (mc1 := 8) (ms1 := 4300) (As := [.int (zI v0)]) 0 0 hg md_X11_allot zc_X11 hk wi_X11_allot wv_X11_allot (tb_4 179 _ rfl) (by decide) (by decide) rfl (Nat.le_of_ble_eq_true rfl) (Nat.le_of_ble_eq_true rfl) (Nat.le_of_ble_eq_true rfl) rfl 7 rfl (dd_L_allot 4 _ _ _ rfl) ?_
  refine hX _ (fun r h1 hq => ?_)
  cases r with
  | inl r =>
    obtain ⟨a, rfl, ha, hk1, hl1, hq⟩ := hq
    dsimp only [zContH, Option.toList, List.cons_append, List.nil_append]
    refine r_i2l ha 8 rfl (dd_L_allot 5 _ _ _ rfl) ?_
    refine r_lastore hg hk1 (by decide) (by decide) (by rw [hl1]; decide) 9 rfl (dd_L_allot 6 _ _ _ rfl) ?_
    refine r_goto 18 rfl (dd_L_allot 7 _ _ _ rfl) ?_
    refine r_iconst 19 rfl (dd_L_allot 14 _ _ _ rfl) ?_
    refine r_ireturn rfl rfl (dd_L_allot 15 _ _ _ rfl) ?_
    exact hq
  | inr E =>
    rcases hq with ⟨rfl, hq⟩ | ⟨rfl, hq⟩ | hq
    · refine ⟨12, ⟨[], ⟨0, 9, 12, 33⟩, [⟨0, 9, 15, 13⟩], rfl, rfl, rfl, by decide, (tb_3 19 _ rfl), (tb_3 30 _ rfl), (fun _ hz => nomatch hz)⟩, fun q9 => ?_⟩
      refine r_astore_3 13 rfl (Nat.le_of_ble_eq_true rfl) rfl (dd_L_allot 8 _ _ _ rfl) ?_
      refine r_iconst 14 rfl (dd_L_allot 9 _ _ _ rfl) ?_
      refine r_ireturn rfl rfl (dd_L_allot 10 _ _ _ rfl) ?_
      exact hq
    · refine ⟨15, ⟨[⟨0, 9, 12, 33⟩], ⟨0, 9, 15, 13⟩, [], rfl, rfl, rfl, by decide, (tb_1 164 _ rfl), (tb_1 175 _ rfl), List.forall_mem_cons.mpr ⟨⟨by decide, nIOE, (tb_3 19 _ rfl), hnx.2.1⟩, (fun _ hz => nomatch hz)⟩⟩, fun q9 => ?_⟩
      refine r_astore_3 16 rfl (Nat.le_of_ble_eq_true rfl) rfl (dd_L_allot 11 _ _ _ rfl) ?_
      refine r_iconst 17 rfl (dd_L_allot 12 _ _ _ rfl) ?_
      refine r_ireturn rfl rfl (dd_L_allot 13 _ _ _ rfl) ?_
      exact hq
    · exact absurd hq id
theorem w_wish {g : zGT} {Q : zO → zH → Prop} {h : zH} (hg : zG g) (hnx : zNX g) {x out : Nat} (hk : kd_ h x = 15) {v0 : Int} (hX : ∀ Q1 : zO → zH → Prop, (∀ r h1, zWi out [(nIOE, 1), (nISE, 2)] Q r h1 → Q1 r h1) → zC g (.code yX11_wish cX11_wish 4 (Option.some Jvm.ClassFile.FieldType.int)) yX11_wish 15 8 4300 [.ref x, .int (zI v0)] h Q1) : zC g (.codeWith yL_wish cL_wish 4 (Option.some Jvm.ClassFile.FieldType.int) [(0, 9, 12, 33), (0, 9, 15, 13)]) yL_wish 16 8 4300 [.ref x, .int (zI v0), .ref out] h Q := by
  refine zC_ofH (M := (RL, cL_wish, 4, (Option.some Jvm.ClassFile.FieldType.int), tableOf [(0, 9, 12, 33), (0, 9, 15, 13)], "wish", 16)) (hh := [(0, 9, 12, 33), (0, 9, 15, 13)]) (lv := [some (.ref x), some (.int (zI v0)), some (.ref out), none]) hg (tb_4 226 _ rfl) (by decide) rfl rfl (Nat.le_of_ble_eq_true rfl) rfl rfl ?_
  refine r_aload_2 1 rfl (dd_L_wish 0 _ _ _ rfl) ?_
  refine r_iconst 2 rfl (dd_L_wish 1 _ _ _ rfl) ?_
  refine r_aload_0 3 rfl (dd_L_wish 2 _ _ _ rfl) ?_
  refine r_iload_1 4 rfl (dd_L_wish 3 _ _ _ rfl) ?_
  refine r_callVH (lvl := 15) (mc1 := 8) (ms1 := 4300) (As := [.int (zI v0)]) 0 0 hg md_X11_wish zc_X11 hk wi_X11_wish wv_X11_wish (tb_4 227 _ rfl) (by decide) (by decide) rfl (Nat.le_of_ble_eq_true rfl) (Nat.le_of_ble_eq_true rfl) (Nat.le_of_ble_eq_true rfl) rfl 7 rfl (dd_L_wish 4 _ _ _ rfl) ?_
  refine hX _ (fun r h1 hq => ?_)
  cases r with
  | inl r =>
    obtain ⟨a, rfl, ha, hk1, hl1, hq⟩ := hq
    dsimp only [zContH, Option.toList, List.cons_append, List.nil_append]
    refine r_i2l ha 8 rfl (dd_L_wish 5 _ _ _ rfl) ?_
    refine r_lastore hg hk1 (by decide) (by decide) (by rw [hl1]; decide) 9 rfl (dd_L_wish 6 _ _ _ rfl) ?_
    refine r_goto 18 rfl (dd_L_wish 7 _ _ _ rfl) ?_
    refine r_iconst 19 rfl (dd_L_wish 14 _ _ _ rfl) ?_
    refine r_ireturn rfl rfl (dd_L_wish 15 _ _ _ rfl) ?_
    exact hq
  | inr E =>
    rcases hq with ⟨rfl, hq⟩ | ⟨rfl, hq⟩ | hq
    · refine ⟨12, ⟨[], ⟨0, 9, 12, 33⟩, [⟨0, 9, 15, 13⟩], rfl, rfl, rfl, by decide, (tb_3 19 _ rfl), (tb_3 30 _ rfl), (fun _ hz => nomatch hz)⟩, fun q9 => ?_⟩
      refine r_astore_3 13 rfl (Nat.le_of_ble_eq_true rfl) rfl (dd_L_wish 8 _ _ _ rfl) ?_
      refine r_iconst 14 rfl (dd_L_wish 9 _ _ _ rfl) ?_
      refine r_ireturn rfl rfl (dd_L_wish 10 _ _ _ rfl) ?_
      exact hq
    · refine ⟨15, ⟨[⟨0, 9, 12, 33⟩], ⟨0, 9, 15, 13⟩, [], rfl, rfl, rfl, by decide, (tb_1 164 _ rfl), (tb_1 175 _ rfl), List.forall_mem_cons.mpr ⟨⟨by decide, nIOE, (tb_3 19 _ rfl), hnx.2.1⟩, (fun _ hz => nomatch hz)⟩⟩, fun q9 => ?_⟩
      refine r_astore_3 16 rfl (Nat.le_of_ble_eq_true rfl) rfl (dd_L_wish 11 _ _ _ rfl) ?_
      refine r_iconst 17 rfl (dd_L_wish 12 _ _ _ rfl) ?_
      refine r_ireturn rfl rfl (dd_L_wish 13 _ _ _ rfl) ?_
      exact hq
    · exact absurd hq id
theorem w_plate {g : zGT} {Q : zO → zH → Prop} {h : zH} (hg : zG g) (hnx : zNX g) {x out : Nat} (hk : kd_ h x = 15) {v0 v1 v2 : Int} (hX : ∀ Q1 : zO → zH → Prop, (∀ r h1, zWi out [(nIOE, 1), (nIAE, 2)] Q r h1 → Q1 r h1) → zC g (.code yX11_plate cX11_plate 6 (Option.some Jvm.ClassFile.FieldType.char)) yX11_plate 15 4 40 [.ref x, .int (zI v0), .int (zI v1), .int (zI v2)] h Q1) : zC g (.codeWith yL_plate cL_plate 6 (Option.some Jvm.ClassFile.FieldType.int) [(0, 12, 15, 33), (0, 12, 19, 19)]) yL_plate 16 4 40 [.ref x, .int (zI v0), .int (zI v1), .int (zI v2), .ref out] h Q := by
  refine zC_ofH (M := (RL, cL_plate, 6, (Option.some Jvm.ClassFile.FieldType.int), tableOf [(0, 12, 15, 33), (0, 12, 19, 19)], "plate", 16)) (hh := [(0, 12, 15, 33), (0, 12, 19, 19)]) (lv := [some (.ref x), some (.int (zI v0)), some (.int (zI v1)), some (.int (zI v2)), some (.ref out), none]) hg (tb_5 8 _ rfl) (by decide) rfl rfl (Nat.le_of_ble_eq_true rfl) rfl rfl ?_
  refine r_aload_4 2 rfl (dd_L_plate 0 _ _ _ rfl) ?_
  refine r_iconst 3 rfl (dd_L_plate 1 _ _ _ rfl) ?_
  refine r_aload_0 4 rfl (dd_L_plate 2 _ _ _ rfl) ?_
  refine r_iload_1 5 rfl (dd_L_plate 3 _ _ _ rfl) ?_
  refine r_iload_2 6 rfl (dd_L_plate 4 _ _ _ rfl) ?_
  refine r_iload_3 7 rfl (dd_L_plate 5 _ _ _ rfl) ?_
  refine r_callVH (lvl := 15) (mc1 := 4) (ms1 := 40) (As := [.int (zI v0), .int (zI v1), .int (zI v2)]) 0 0 hg md_X11_plate zc_X11 hk wi_X11_plate wv_X11_plate (tb_5 9 _ rfl) (by decide) (by decide) rfl (Nat.le_of_ble_eq_true rfl) (Nat.le_of_ble_eq_true rfl) (Nat.le_of_ble_eq_true rfl) rfl 10 rfl (dd_L_plate 6 _ _ _ rfl) ?_
  refine hX _ (fun r h1 hq => ?_)
  cases r with
  | inl r =>
    obtain ⟨a, rfl, ha, hk1, hl1, hq⟩ := hq
    dsimp only [zContH, Option.toList, List.cons_append, List.nil_append]
    refine r_i2l ha 11 rfl (dd_L_plate 7 _ _ _ rfl) ?_
    refine r_lastore hg hk1 (by decide) (by decide) (by rw [hl1]; decide) 12 rfl (dd_L_plate 8 _ _ _ rfl) ?_
    refine r_goto 23 rfl (dd_L_plate 9 _ _ _ rfl) ?_
    refine r_iconst 24 rfl (dd_L_plate 16 _ _ _ rfl) ?_
    refine r_ireturn rfl rfl (dd_L_plate 17 _ _ _ rfl) ?_
    exact hq
  | inr E =>
    rcases hq with ⟨rfl, hq⟩ | ⟨rfl, hq⟩ | hq
    · refine ⟨15, ⟨[], ⟨0, 12, 15, 33⟩, [⟨0, 12, 19, 19⟩], rfl, rfl, rfl, by decide, (tb_3 19 _ rfl), (tb_3 30 _ rfl), (fun _ hz => nomatch hz)⟩, fun q9 => ?_⟩
      refine r_astore_5 17 rfl (Nat.le_of_ble_eq_true rfl) rfl (dd_L_plate 10 _ _ _ rfl) ?_
      refine r_iconst 18 rfl (dd_L_plate 11 _ _ _ rfl) ?_
      refine r_ireturn rfl rfl (dd_L_plate 12 _ _ _ rfl) ?_
      exact hq
    · refine ⟨19, ⟨[⟨0, 12, 15, 33⟩], ⟨0, 12, 19, 19⟩, [], rfl, rfl, rfl, by decide, (tb_2 0 _ rfl), (tb_2 16 _ rfl), List.forall_mem_cons.mpr ⟨⟨by decide, nIOE, (tb_3 19 _ rfl), hnx.2.2.1⟩, (fun _ hz => nomatch hz)⟩⟩, fun q9 => ?_⟩
      refine r_astore_5 21 rfl (Nat.le_of_ble_eq_true rfl) rfl (dd_L_plate 13 _ _ _ rfl) ?_
      refine r_iconst 22 rfl (dd_L_plate 14 _ _ _ rfl) ?_
      refine r_ireturn rfl rfl (dd_L_plate 15 _ _ _ rfl) ?_
      exact hq
    · exact absurd hq id
theorem w_rate {g : zGT} {Q : zO → zH → Prop} {h : zH} (hg : zG g) (hnx : zNX g) {x out : Nat} (hk : kd_ h x = 15) {v0 v1 v2 : Int} (hX : ∀ Q1 : zO → zH → Prop, (∀ r h1, zWi out [(nIAE, 1), (nISE, 2)] Q r h1 → Q1 r h1) → zC g (.code yX11_rate cX11_rate 4 (Option.some Jvm.ClassFile.FieldType.int)) yX11_rate 15 6 4300 [.ref x, .int (zI v0), .int (zI v1), .int (zI v2)] h Q1) : zC g (.codeWith yL_rate cL_rate 6 (Option.some Jvm.ClassFile.FieldType.int) [(0, 12, 15, 19), (0, 12, 19, 13)]) yL_rate 16 6 4300 [.ref x, .int (zI v0), .int (zI v1), .int (zI v2), .ref out] h Q := by
  refine zC_ofH (M := (RL, cL_rate, 6, (Option.some Jvm.ClassFile.FieldType.int), tableOf [(0, 12, 15, 19), (0, 12, 19, 13)], "rate", 16)) (hh := [(0, 12, 15, 19), (0, 12, 19, 13)]) (lv := [some (.ref x), some (.int (zI v0)), some (.int (zI v1)), some (.int (zI v2)), some (.ref out), none]) hg (tb_5 22 _ rfl) (by decide) rfl rfl (Nat.le_of_ble_eq_true rfl) rfl rfl ?_
  refine r_aload_4 2 rfl (dd_L_rate 0 _ _ _ rfl) ?_
  refine r_iconst 3 rfl (dd_L_rate 1 _ _ _ rfl) ?_
  refine r_aload_0 4 rfl (dd_L_rate 2 _ _ _ rfl) ?_
  refine r_iload_1 5 rfl (dd_L_rate 3 _ _ _ rfl) ?_
  refine r_iload_2 6 rfl (dd_L_rate 4 _ _ _ rfl) ?_
  refine r_iload_3 7 rfl (dd_L_rate 5 _ _ _ rfl) ?_
  refine r_callVH (lvl := 15) (mc1 := 6) (ms1 := 4300) (As := [.int (zI v0), .int (zI v1), .int (zI v2)]) 0 0 hg md_X11_rate zc_X11 hk wi_X11_rate wv_X11_rate (tb_5 23 _ rfl) (by decide) (by decide) rfl (Nat.le_of_ble_eq_true rfl) (Nat.le_of_ble_eq_true rfl) (Nat.le_of_ble_eq_true rfl) rfl 10 rfl (dd_L_rate 6 _ _ _ rfl) ?_
  refine hX _ (fun r h1 hq => ?_)
  cases r with
  | inl r =>
    obtain ⟨a, rfl, ha, hk1, hl1, hq⟩ := hq
    dsimp only [zContH, Option.toList, List.cons_append, List.nil_append]
    refine r_i2l ha 11 rfl (dd_L_rate 7 _ _ _ rfl) ?_
    refine r_lastore hg hk1 (by decide) (by decide) (by rw [hl1]; decide) 12 rfl (dd_L_rate 8 _ _ _ rfl) ?_
    refine r_goto 23 rfl (dd_L_rate 9 _ _ _ rfl) ?_
    refine r_iconst 24 rfl (dd_L_rate 16 _ _ _ rfl) ?_
    refine r_ireturn rfl rfl (dd_L_rate 17 _ _ _ rfl) ?_
    exact hq
  | inr E =>
    rcases hq with ⟨rfl, hq⟩ | ⟨rfl, hq⟩ | hq
    · refine ⟨15, ⟨[], ⟨0, 12, 15, 19⟩, [⟨0, 12, 19, 13⟩], rfl, rfl, rfl, by decide, (tb_2 0 _ rfl), (tb_2 16 _ rfl), (fun _ hz => nomatch hz)⟩, fun q9 => ?_⟩
      refine r_astore_5 17 rfl (Nat.le_of_ble_eq_true rfl) rfl (dd_L_rate 10 _ _ _ rfl) ?_
      refine r_iconst 18 rfl (dd_L_rate 11 _ _ _ rfl) ?_
      refine r_ireturn rfl rfl (dd_L_rate 12 _ _ _ rfl) ?_
      exact hq
    · refine ⟨19, ⟨[⟨0, 12, 15, 19⟩], ⟨0, 12, 19, 13⟩, [], rfl, rfl, rfl, by decide, (tb_1 164 _ rfl), (tb_1 175 _ rfl), List.forall_mem_cons.mpr ⟨⟨by decide, nIAE, (tb_2 0 _ rfl), hnx.1⟩, (fun _ hz => nomatch hz)⟩⟩, fun q9 => ?_⟩
      refine r_astore_5 21 rfl (Nat.le_of_ble_eq_true rfl) rfl (dd_L_rate 13 _ _ _ rfl) ?_
      refine r_iconst 22 rfl (dd_L_rate 14 _ _ _ rfl) ?_
      refine r_ireturn rfl rfl (dd_L_rate 15 _ _ _ rfl) ?_
      exact hq
    · exact absurd hq id
theorem w_pay {g : zGT} {Q : zO → zH → Prop} {h : zH} (hg : zG g) (hnx : zNX g) {x out : Nat} (hk : kd_ h x = 15) {v0 v1 : Int} (hX : ∀ Q1 : zO → zH → Prop, (∀ r h1, zWl out [(nIOE, 1), (nIAE, 2)] Q r h1 → Q1 r h1) → zC g (.code yX11_pay cX11_pay 4 (Option.some Jvm.ClassFile.FieldType.long)) yX11_pay 17 4 40 [.ref x, .int (zI v0), .int (zI v1)] h Q1) : zC g (.codeWith yL_pay cL_pay 5 (Option.some Jvm.ClassFile.FieldType.int) [(0, 9, 12, 33), (0, 9, 16, 19)]) yL_pay 18 4 40 [.ref x, .int (zI v0), .int (zI v1), .ref out] h Q := by
  refine zC_ofH (M := (RL, cL_pay, 5, (Option.some Jvm.ClassFile.FieldType.int), tableOf [(0, 9, 12, 33), (0, 9, 16, 19)], "pay", 18)) (hh := [(0, 9, 12, 33), (0, 9, 16, 19)]) (lv := [some (.ref x), some (.int (zI v0)), some (.int (zI v1)), some (.ref out), none]) hg (tb_5 30 _ rfl) (by decide) rfl rfl (Nat.le_of_ble_eq_true rfl) rfl rfl ?_
  refine r_aload_3 1 rfl (dd_L_pay 0 _ _ _ rfl) ?_
  refine r_iconst 2 rfl (dd_L_pay 1 _ _ _ rfl) ?_
  refine r_aload_0 3 rfl (dd_L_pay 2 _ _ _ rfl) ?_
  refine r_iload_1 4 rfl (dd_L_pay 3 _ _ _ rfl) ?_
  refine r_iload_2 5 rfl (dd_L_pay 4 _ _ _ rfl) ?_
  refine r_callVH (lvl := 17) (mc1 := 4) (ms1 := 40) (As := [.int (zI v0), .int (zI v1)]) 0 0 hg md_X11_pay zc_X11 hk wi_X11_pay wv_X11_pay (tb_5 31 _ rfl) (by decide) (by decide) rfl (Nat.le_of_ble_eq_true rfl) (Nat.le_of_ble_eq_true rfl) (Nat.le_of_ble_eq_true rfl) rfl 8 rfl (dd_L_pay 5 _ _ _ rfl) ?_
  refine hX _ (fun r h1 hq => ?_)
  cases r with
  | inl r =>
    obtain ⟨a, rfl, hk1, hl1, hq⟩ := hq
    dsimp only [zContH, Option.toList, List.cons_append, List.nil_append]
    refine r_lastore hg hk1 (by decide) (by decide) (by rw [hl1]; decide) 9 rfl (dd_L_pay 6 _ _ _ rfl) ?_
    refine r_goto 20 rfl (dd_L_pay 7 _ _ _ rfl) ?_
    refine r_iconst 21 rfl (dd_L_pay 14 _ _ _ rfl) ?_
    refine r_ireturn rfl rfl (dd_L_pay 15 _ _ _ rfl) ?_
    exact hq
  | inr E =>
    rcases hq with ⟨rfl, hq⟩ | ⟨rfl, hq⟩ | hq
    · refine ⟨12, ⟨[], ⟨0, 9, 12, 33⟩, [⟨0, 9, 16, 19⟩], rfl, rfl, rfl, by decide, (tb_3 19 _ rfl), (tb_3 30 _ rfl), (fun _ hz => nomatch hz)⟩, fun q9 => ?_⟩
      refine r_astore_4 14 rfl (Nat.le_of_ble_eq_true rfl) rfl (dd_L_pay 8 _ _ _ rfl) ?_
      refine r_iconst 15 rfl (dd_L_pay 9 _ _ _ rfl) ?_
      refine r_ireturn rfl rfl (dd_L_pay 10 _ _ _ rfl) ?_
      exact hq
    · refine ⟨16, ⟨[⟨0, 9, 12, 33⟩], ⟨0, 9, 16, 19⟩, [], rfl, rfl, rfl, by decide, (tb_2 0 _ rfl), (tb_2 16 _ rfl), List.forall_mem_cons.mpr ⟨⟨by decide, nIOE, (tb_3 19 _ rfl), hnx.2.2.1⟩, (fun _ hz => nomatch hz)⟩⟩, fun q9 => ?_⟩
      refine r_astore_4 18 rfl (Nat.le_of_ble_eq_true rfl) rfl (dd_L_pay 11 _ _ _ rfl) ?_
      refine r_iconst 19 rfl (dd_L_pay 12 _ _ _ rfl) ?_
      refine r_ireturn rfl rfl (dd_L_pay 13 _ _ _ rfl) ?_
      exact hq
    · exact absurd hq id
theorem w_owes {g : zGT} {Q : zO → zH → Prop} {h : zH} (hg : zG g) (hnx : zNX g) {x out : Nat} (hk : kd_ h x = 15) {v0 : Int} (hX : ∀ Q1 : zO → zH → Prop, (∀ r h1, zWl out [(nIOE, 1)] Q r h1 → Q1 r h1) → zC g (.code yX11_owes cX11_owes 3 (Option.some Jvm.ClassFile.FieldType.long)) yX11_owes 16 4 40 [.ref x, .int (zI v0)] h Q1) : zC g (.codeWith yL_owes cL_owes 4 (Option.some Jvm.ClassFile.FieldType.int) [(0, 8, 11, 33)]) yL_owes 17 4 40 [.ref x, .int (zI v0), .ref out] h Q := by
  refine zC_ofH (M := (RL, cL_owes, 4, (Option.some Jvm.ClassFile.FieldType.int), tableOf [(0, 8, 11, 33)], "owes", 17)) (hh := [(0, 8, 11, 33)]) (lv := [some (.ref x), some (.int (zI v0)), some (.ref out), none]) hg (tb_5 54 _ rfl) (by decide) rfl rfl (Nat.le_of_ble_eq_true rfl) rfl rfl ?_
  refine r_aload_2 1 rfl (dd_L_owes 0 _ _ _ rfl) ?_
  refine r_iconst 2 rfl (dd_L_owes 1 _ _ _ rfl) ?_
  refine r_aload_0 3 rfl (dd_L_owes 2 _ _ _ rfl) ?_
  refine r_iload_1 4 rfl (dd_L_owes 3 _ _ _ rfl) ?_
  refine r_callVH (lvl := 16) (mc1 := 4) (ms1 := 40) (As := [.int (zI v0)]) 0 0 hg md_X11_owes zc_X11 hk wi_X11_owes wv_X11_owes (tb_5 55 _ rfl) (by decide) (by decide) rfl (Nat.le_of_ble_eq_true rfl) (Nat.le_of_ble_eq_true rfl) (Nat.le_of_ble_eq_true rfl) rfl 7 rfl (dd_L_owes 4 _ _ _ rfl) ?_
  refine hX _ (fun r h1 hq => ?_)
  cases r with
  | inl r =>
    obtain ⟨a, rfl, hk1, hl1, hq⟩ := hq
    dsimp only [zContH, Option.toList, List.cons_append, List.nil_append]
    refine r_lastore hg hk1 (by decide) (by decide) (by rw [hl1]; decide) 8 rfl (dd_L_owes 5 _ _ _ rfl) ?_
    refine r_goto 14 rfl (dd_L_owes 6 _ _ _ rfl) ?_
    refine r_iconst 15 rfl (dd_L_owes 10 _ _ _ rfl) ?_
    refine r_ireturn rfl rfl (dd_L_owes 11 _ _ _ rfl) ?_
    exact hq
  | inr E =>
    rcases hq with ⟨rfl, hq⟩ | hq
    · refine ⟨11, ⟨[], ⟨0, 8, 11, 33⟩, [], rfl, rfl, rfl, by decide, (tb_3 19 _ rfl), (tb_3 30 _ rfl), (fun _ hz => nomatch hz)⟩, fun q9 => ?_⟩
      refine r_astore_3 12 rfl (Nat.le_of_ble_eq_true rfl) rfl (dd_L_owes 7 _ _ _ rfl) ?_
      refine r_iconst 13 rfl (dd_L_owes 8 _ _ _ rfl) ?_
      refine r_ireturn rfl rfl (dd_L_owes 9 _ _ _ rfl) ?_
      exact hq
    · exact absurd hq id
theorem w_test {g : zGT} {Q : zO → zH → Prop} {h : zH} (hg : zG g) (hnx : zNX g) {x out : Nat} (hk : kd_ h x = 15) {v0 v1 v2 v3 : Int} (hX : ∀ Q1 : zO → zH → Prop, (∀ r h1, zWi out [(nIOE, 1), (nIAE, 2), (nISE, 3)] Q r h1 → Q1 r h1) → zC g (.code yX11_test cX11_test 6 (Option.some Jvm.ClassFile.FieldType.int)) yX11_test 15 4 40 [.ref x, .int (zI v0), .int (zI v1), .int (zI v2), .int (zI v3)] h Q1) : zC g (.codeWith yL_test cL_test 7 (Option.some Jvm.ClassFile.FieldType.int) [(0, 14, 17, 33), (0, 14, 21, 19), (0, 14, 25, 13)]) yL_test 16 4 40 [.ref x, .int (zI v0), .int (zI v1), .int (zI v2), .int (zI v3), .ref out] h Q := by
  refine zC_ofH (M := (RL, cL_test, 7, (Option.some Jvm.ClassFile.FieldType.int), tableOf [(0, 14, 17, 33), (0, 14, 21, 19), (0, 14, 25, 13)], "test", 16)) (hh := [(0, 14, 17, 33), (0, 14, 21, 19), (0, 14, 25, 13)]) (lv := [some (.ref x), some (.int (zI v0)), some (.int (zI v1)), some (.int (zI v2)), some (.int (zI v3)), some (.ref out), none]) hg (tb_5 61 _ rfl) (by decide) rfl rfl (Nat.le_of_ble_eq_true rfl) rfl rfl ?_
  refine r_aload_5 2 rfl (dd_L_test 0 _ _ _ rfl) ?_
  refine r_iconst 3 rfl (dd_L_test 1 _ _ _ rfl) ?_
  refine r_aload_0 4 rfl (dd_L_test 2 _ _ _ rfl) ?_
  refine r_iload_1 5 rfl (dd_L_test 3 _ _ _ rfl) ?_
  refine r_iload_2 6 rfl (dd_L_test 4 _ _ _ rfl) ?_
  refine r_iload_3 7 rfl (dd_L_test 5 _ _ _ rfl) ?_
  refine r_iload_4 9 rfl (dd_L_test 6 _ _ _ rfl) ?_
  refine r_callVH (lvl := 15) (mc1 := 4) (ms1 := 40) (As := [.int (zI v0), .int (zI v1), .int (zI v2), .int (zI v3)]) 0 0 hg md_X11_test zc_X11 hk wi_X11_test wv_X11_test (tb_5 62 _ rfl) (by decide) (by decide) rfl (Nat.le_of_ble_eq_true rfl) (Nat.le_of_ble_eq_true rfl) (Nat.le_of_ble_eq_true rfl) rfl 12 rfl (dd_L_test 7 _ _ _ rfl) ?_
  refine hX _ (fun r h1 hq => ?_)
  cases r with
  | inl r =>
    obtain ⟨a, rfl, ha, hk1, hl1, hq⟩ := hq
    dsimp only [zContH, Option.toList, List.cons_append, List.nil_append]
    refine r_i2l ha 13 rfl (dd_L_test 8 _ _ _ rfl) ?_
    refine r_lastore hg hk1 (by decide) (by decide) (by rw [hl1]; decide) 14 rfl (dd_L_test 9 _ _ _ rfl) ?_
    refine r_goto 29 rfl (dd_L_test 10 _ _ _ rfl) ?_
    refine r_iconst 30 rfl (dd_L_test 20 _ _ _ rfl) ?_
    refine r_ireturn rfl rfl (dd_L_test 21 _ _ _ rfl) ?_
    exact hq
  | inr E =>
    rcases hq with ⟨rfl, hq⟩ | ⟨rfl, hq⟩ | ⟨rfl, hq⟩ | hq
    · refine ⟨17, ⟨[], ⟨0, 14, 17, 33⟩, [⟨0, 14, 21, 19⟩, ⟨0, 14, 25, 13⟩], rfl, rfl, rfl, by decide, (tb_3 19 _ rfl), (tb_3 30 _ rfl), (fun _ hz => nomatch hz)⟩, fun q9 => ?_⟩
      refine r_astore_6 19 rfl (Nat.le_of_ble_eq_true rfl) rfl (dd_L_test 11 _ _ _ rfl) ?_
      refine r_iconst 20 rfl (dd_L_test 12 _ _ _ rfl) ?_
      refine r_ireturn rfl rfl (dd_L_test 13 _ _ _ rfl) ?_
      exact hq
    · refine ⟨21, ⟨[⟨0, 14, 17, 33⟩], ⟨0, 14, 21, 19⟩, [⟨0, 14, 25, 13⟩], rfl, rfl, rfl, by decide, (tb_2 0 _ rfl), (tb_2 16 _ rfl), List.forall_mem_cons.mpr ⟨⟨by decide, nIOE, (tb_3 19 _ rfl), hnx.2.2.1⟩, (fun _ hz => nomatch hz)⟩⟩, fun q9 => ?_⟩
      refine r_astore_6 23 rfl (Nat.le_of_ble_eq_true rfl) rfl (dd_L_test 14 _ _ _ rfl) ?_
      refine r_iconst 24 rfl (dd_L_test 15 _ _ _ rfl) ?_
      refine r_ireturn rfl rfl (dd_L_test 16 _ _ _ rfl) ?_
      exact hq
    · refine ⟨25, ⟨[⟨0, 14, 17, 33⟩, ⟨0, 14, 21, 19⟩], ⟨0, 14, 25, 13⟩, [], rfl, rfl, rfl, by decide, (tb_1 164 _ rfl), (tb_1 175 _ rfl), List.forall_mem_cons.mpr ⟨⟨by decide, nIOE, (tb_3 19 _ rfl), hnx.2.1⟩, List.forall_mem_cons.mpr ⟨⟨by decide, nIAE, (tb_2 0 _ rfl), hnx.1⟩, (fun _ hz => nomatch hz)⟩⟩⟩, fun q9 => ?_⟩
      refine r_astore_6 27 rfl (Nat.le_of_ble_eq_true rfl) rfl (dd_L_test 17 _ _ _ rfl) ?_
      refine r_iconst 28 rfl (dd_L_test 18 _ _ _ rfl) ?_
      refine r_ireturn rfl rfl (dd_L_test 19 _ _ _ rfl) ?_
      exact hq
    · exact absurd hq id
theorem w_insure {g : zGT} {Q : zO → zH → Prop} {h : zH} (hg : zG g) (hnx : zNX g) {x out : Nat} (hk : kd_ h x = 15) {v0 v1 : Int} (hX : ∀ Q1 : zO → zH → Prop, (∀ r h1, zWz out [(nIOE, 1), (nIAE, 2)] Q r h1 → Q1 r h1) → zC g (.code yX11_insure cX11_insure 5 (Option.some Jvm.ClassFile.FieldType.boolean)) yX11_insure 15 6 4300 [.ref x, .int (zI v0), .int (zI v1)] h Q1) : zC g (.codeWith yL_insure cL_insure 5 (Option.some Jvm.ClassFile.FieldType.int) [(0, 17, 20, 33), (0, 17, 24, 19)]) yL_insure 16 6 4300 [.ref x, .int (zI v0), .int (zI v1), .ref out] h Q := by
  refine zC_ofH (M := (RL, cL_insure, 5, (Option.some Jvm.ClassFile.FieldType.int), tableOf [(0, 17, 20, 33), (0, 17, 24, 19)], "insure", 16)) (hh := [(0, 17, 20, 33), (0, 17, 24, 19)]) (lv := [some (.ref x), some (.int (zI v0)), some (.int (zI v1)), some (.ref out), none]) hg (tb_5 75 _ rfl) (by decide) rfl rfl (Nat.le_of_ble_eq_true rfl) rfl rfl ?_
  refine r_aload_3 1 rfl (dd_L_insure 0 _ _ _ rfl) ?_
  refine r_iconst 2 rfl (dd_L_insure 1 _ _ _ rfl) ?_
  refine r_aload_0 3 rfl (dd_L_insure 2 _ _ _ rfl) ?_
  refine r_iload_1 4 rfl (dd_L_insure 3 _ _ _ rfl) ?_
  refine r_iload_2 5 rfl (dd_L_insure 4 _ _ _ rfl) ?_
  refine r_callVH (lvl := 15) (mc1 := 6) (ms1 := 4300) (As := [.int (zI v0), .int (zI v1)]) 0 0 hg md_X11_insure zc_X11 hk wi_X11_insure wv_X11_insure (tb_5 76 _ rfl) (by decide) (by decide) rfl (Nat.le_of_ble_eq_true rfl) (Nat.le_of_ble_eq_true rfl) (Nat.le_of_ble_eq_true rfl) rfl 8 rfl (dd_L_insure 5 _ _ _ rfl) ?_
  refine hX _ (fun r h1 hq => ?_)
  cases r with
  | inl r =>
    obtain ⟨a, rfl, hz, hk1, hl1, hq⟩ := hq
    dsimp only [zContH, Option.toList, List.cons_append, List.nil_append]
    refine r_ifeq (by rcases hz with hz | hz <;> (subst hz; decide)) 11 rfl 15 rfl (dd_L_insure 6 _ _ _ rfl) (fun hc => ?_) (fun hc => ?_)
    · subst hc
      refine r_lconst0 16 rfl (dd_L_insure 9 _ _ _ rfl) ?_
      refine r_lastore hg hk1 (by decide) (by decide) (by rw [hl1]; decide) 17 rfl (dd_L_insure 10 _ _ _ rfl) ?_
      refine r_goto 28 rfl (dd_L_insure 11 _ _ _ rfl) ?_
      refine r_iconst 29 rfl (dd_L_insure 18 _ _ _ rfl) ?_
      refine r_ireturn rfl rfl (dd_L_insure 19 _ _ _ rfl) ?_
      exact hq
    · obtain rfl : a = 1 := by omega
      refine r_lconst1 12 rfl (dd_L_insure 7 _ _ _ rfl) ?_
      refine r_goto 16 rfl (dd_L_insure 8 _ _ _ rfl) ?_
      refine r_lastore hg hk1 (by decide) (by decide) (by rw [hl1]; decide) 17 rfl (dd_L_insure 10 _ _ _ rfl) ?_
      refine r_goto 28 rfl (dd_L_insure 11 _ _ _ rfl) ?_
      refine r_iconst 29 rfl (dd_L_insure 18 _ _ _ rfl) ?_
      refine r_ireturn rfl rfl (dd_L_insure 19 _ _ _ rfl) ?_
      exact hq
  | inr E =>
    rcases hq with ⟨rfl, hq⟩ | ⟨rfl, hq⟩ | hq
    · refine ⟨20, ⟨[], ⟨0, 17, 20, 33⟩, [⟨0, 17, 24, 19⟩], rfl, rfl, rfl, by decide, (tb_3 19 _ rfl), (tb_3 30 _ rfl), (fun _ hz => nomatch hz)⟩, fun q9 => ?_⟩
      refine r_astore_4 22 rfl (Nat.le_of_ble_eq_true rfl) rfl (dd_L_insure 12 _ _ _ rfl) ?_
      refine r_iconst 23 rfl (dd_L_insure 13 _ _ _ rfl) ?_
      refine r_ireturn rfl rfl (dd_L_insure 14 _ _ _ rfl) ?_
      exact hq
    · refine ⟨24, ⟨[⟨0, 17, 20, 33⟩], ⟨0, 17, 24, 19⟩, [], rfl, rfl, rfl, by decide, (tb_2 0 _ rfl), (tb_2 16 _ rfl), List.forall_mem_cons.mpr ⟨⟨by decide, nIOE, (tb_3 19 _ rfl), hnx.2.2.1⟩, (fun _ hz => nomatch hz)⟩⟩, fun q9 => ?_⟩
      refine r_astore_4 26 rfl (Nat.le_of_ble_eq_true rfl) rfl (dd_L_insure 15 _ _ _ rfl) ?_
      refine r_iconst 27 rfl (dd_L_insure 16 _ _ _ rfl) ?_
      refine r_ireturn rfl rfl (dd_L_insure 17 _ _ _ rfl) ?_
      exact hq
    · exact absurd hq id
theorem w_ofVehicle {g : zGT} {Q : zO → zH → Prop} {h : zH} (hg : zG g) (hnx : zNX g) {x out : Nat} (hk : kd_ h x = 15) {v0 v1 : Int} (hX : ∀ Q1 : zO → zH → Prop, (∀ r h1, zWi out [(nIOE, 1), (nIAE, 2)] Q r h1 → Q1 r h1) → zC g (.code yX11_ofVehicle cX11_ofVehicle 4 (Option.some Jvm.ClassFile.FieldType.int)) yX11_ofVehicle 17 4 40 [.ref x, .int (zI v0), .int (zI v1)] h Q1) : zC g (.codeWith yL_ofVehicle cL_ofVehicle 5 (Option.some Jvm.ClassFile.FieldType.int) [(0, 10, 13, 33), (0, 10, 17, 19)]) yL_ofVehicle 18 4 40 [.ref x, .int (zI v0), .int (zI v1), .ref out] h Q := by
  refine zC_ofH (M := (RL, cL_ofVehicle, 5, (Option.some Jvm.ClassFile.FieldType.int), tableOf [(0, 10, 13, 33), (0, 10, 17, 19)], "ofVehicle", 18)) (hh := [(0, 10, 13, 33), (0, 10, 17, 19)]) (lv := [some (.ref x), some (.int (zI v0)), some (.int (zI v1)), some (.ref out), none]) hg (tb_5 82 _ rfl) (by decide) rfl rfl (Nat.le_of_ble_eq_true rfl) rfl rfl ?_
  refine r_aload_3 1 rfl (dd_L_ofVehicle 0 _ _ _ rfl) ?_
  refine r_iconst 2 rfl (dd_L_ofVehicle 1 _ _ _ rfl) ?_
  refine r_aload_0 3 rfl (dd_L_ofVehicle 2 _ _ _ rfl) ?_
  refine r_iload_1 4 rfl (dd_L_ofVehicle 3 _ _ _ rfl) ?_
  refine r_iload_2 5 rfl (dd_L_ofVehicle 4 _ _ _ rfl) ?_
  refine r_callVH (lvl := 17) (mc1 := 4) (ms1 := 40) (As := [.int (zI v0), .int (zI v1)]) 0 0 hg md_X11_ofVehicle zc_X11 hk wi_X11_ofVehicle wv_X11_ofVehicle (tb_5 83 _ rfl) (by decide) (by decide) rfl (Nat.le_of_ble_eq_true rfl) (Nat.le_of_ble_eq_true rfl) (Nat.le_of_ble_eq_true rfl) rfl 8 rfl (dd_L_ofVehicle 5 _ _ _ rfl) ?_
  refine hX _ (fun r h1 hq => ?_)
  cases r with
  | inl r =>
    obtain ⟨a, rfl, ha, hk1, hl1, hq⟩ := hq
    dsimp only [zContH, Option.toList, List.cons_append, List.nil_append]
    refine r_i2l ha 9 rfl (dd_L_ofVehicle 6 _ _ _ rfl) ?_
    refine r_lastore hg hk1 (by decide) (by decide) (by rw [hl1]; decide) 10 rfl (dd_L_ofVehicle 7 _ _ _ rfl) ?_
    refine r_goto 21 rfl (dd_L_ofVehicle 8 _ _ _ rfl) ?_
    refine r_iconst 22 rfl (dd_L_ofVehicle 15 _ _ _ rfl) ?_
    refine r_ireturn rfl rfl (dd_L_ofVehicle 16 _ _ _ rfl) ?_
    exact hq
  | inr E =>
    rcases hq with ⟨rfl, hq⟩ | ⟨rfl, hq⟩ | hq
    · refine ⟨13, ⟨[], ⟨0, 10, 13, 33⟩, [⟨0, 10, 17, 19⟩], rfl, rfl, rfl, by decide, (tb_3 19 _ rfl), (tb_3 30 _ rfl), (fun _ hz => nomatch hz)⟩, fun q9 => ?_⟩
      refine r_astore_4 15 rfl (Nat.le_of_ble_eq_true rfl) rfl (dd_L_ofVehicle 9 _ _ _ rfl) ?_
      refine r_iconst 16 rfl (dd_L_ofVehicle 10 _ _ _ rfl) ?_
      refine r_ireturn rfl rfl (dd_L_ofVehicle 11 _ _ _ rfl) ?_
      exact hq
    · refine ⟨17, ⟨[⟨0, 10, 13, 33⟩], ⟨0, 10, 17, 19⟩, [], rfl, rfl, rfl, by decide, (tb_2 0 _ rfl), (tb_2 16 _ rfl), List.forall_mem_cons.mpr ⟨⟨by decide, nIOE, (tb_3 19 _ rfl), hnx.2.2.1⟩, (fun _ hz => nomatch hz)⟩⟩, fun q9 => ?_⟩
      refine r_astore_4 19 rfl (Nat.le_of_ble_eq_true rfl) rfl (dd_L_ofVehicle 12 _ _ _ rfl) ?_
      refine r_iconst 20 rfl (dd_L_ofVehicle 13 _ _ _ rfl) ?_
      refine r_ireturn rfl rfl (dd_L_ofVehicle 14 _ _ _ rfl) ?_
      exact hq
    · exact absurd hq id
theorem w_sight {g : zGT} {Q : zO → zH → Prop} {h : zH} (hg : zG g) (hnx : zNX g) {x out : Nat} (hk : kd_ h x = 15) {v0 v1 : Int} (hX : ∀ Q1 : zO → zH → Prop, (∀ r h1, zWi out [(nIAE, 1), (nISE, 2)] Q r h1 → Q1 r h1) → zC g (.code yX11_sight cX11_sight 4 (Option.some Jvm.ClassFile.FieldType.int)) yX11_sight 18 14 300 [.ref x, .int (zI v0), .int (zI v1)] h Q1) : zC g (.codeWith yL_sight cL_sight 5 (Option.some Jvm.ClassFile.FieldType.int) [(0, 10, 13, 19), (0, 10, 17, 13)]) yL_sight 19 14 300 [.ref x, .int (zI v0), .int (zI v1), .ref out] h Q := by
  refine zC_ofH (M := (RL, cL_sight, 5, (Option.some Jvm.ClassFile.FieldType.int), tableOf [(0, 10, 13, 19), (0, 10, 17, 13)], "sight", 19)) (hh := [(0, 10, 13, 19), (0, 10, 17, 13)]) (lv := [some (.ref x), some (.int (zI v0)), some (.int (zI v1)), some (.ref out), none]) hg (tb_5 120 _ rfl) (by decide) rfl rfl (Nat.le_of_ble_eq_true rfl) rfl rfl ?_
  refine r_aload_3 1 rfl (dd_L_sight 0 _ _ _ rfl) ?_
  refine r_iconst 2 rfl (dd_L_sight 1 _ _ _ rfl) ?_
  refine r_aload_0 3 rfl (dd_L_sight 2 _ _ _ rfl) ?_
  refine r_iload_1 4 rfl (dd_L_sight 3 _ _ _ rfl) ?_
  refine r_iload_2 5 rfl (dd_L_sight 4 _ _ _ rfl) ?_
  refine r_callVH (lvl := 18) (mc1 := 14) (ms1 := 300) (As := [.int (zI v0), .int (zI v1)]) 0 0 hg md_X11_sight zc_X11 hk wi_X11_sight wv_X11_sight (tb_5 121 _ rfl) (by decide) (by decide) rfl (Nat.le_of_ble_eq_true rfl) (Nat.le_of_ble_eq_true rfl) (Nat.le_of_ble_eq_true rfl) rfl 8 rfl (dd_L_sight 5 _ _ _ rfl) ?_
  refine hX _ (fun r h1 hq => ?_)
  cases r with
  | inl r =>
    obtain ⟨a, rfl, ha, hk1, hl1, hq⟩ := hq
    dsimp only [zContH, Option.toList, List.cons_append, List.nil_append]
    refine r_i2l ha 9 rfl (dd_L_sight 6 _ _ _ rfl) ?_
    refine r_lastore hg hk1 (by decide) (by decide) (by rw [hl1]; decide) 10 rfl (dd_L_sight 7 _ _ _ rfl) ?_
    refine r_goto 21 rfl (dd_L_sight 8 _ _ _ rfl) ?_
    refine r_iconst 22 rfl (dd_L_sight 15 _ _ _ rfl) ?_
    refine r_ireturn rfl rfl (dd_L_sight 16 _ _ _ rfl) ?_
    exact hq
  | inr E =>
    rcases hq with ⟨rfl, hq⟩ | ⟨rfl, hq⟩ | hq
    · refine ⟨13, ⟨[], ⟨0, 10, 13, 19⟩, [⟨0, 10, 17, 13⟩], rfl, rfl, rfl, by decide, (tb_2 0 _ rfl), (tb_2 16 _ rfl), (fun _ hz => nomatch hz)⟩, fun q9 => ?_⟩
      refine r_astore_4 15 rfl (Nat.le_of_ble_eq_true rfl) rfl (dd_L_sight 9 _ _ _ rfl) ?_
      refine r_iconst 16 rfl (dd_L_sight 10 _ _ _ rfl) ?_
      refine r_ireturn rfl rfl (dd_L_sight 11 _ _ _ rfl) ?_
      exact hq
    · refine ⟨17, ⟨[⟨0, 10, 13, 19⟩], ⟨0, 10, 17, 13⟩, [], rfl, rfl, rfl, by decide, (tb_1 164 _ rfl), (tb_1 175 _ rfl), List.forall_mem_cons.mpr ⟨⟨by decide, nIAE, (tb_2 0 _ rfl), hnx.1⟩, (fun _ hz => nomatch hz)⟩⟩, fun q9 => ?_⟩
      refine r_astore_4 19 rfl (Nat.le_of_ble_eq_true rfl) rfl (dd_L_sight 12 _ _ _ rfl) ?_
      refine r_iconst 20 rfl (dd_L_sight 13 _ _ _ rfl) ?_
      refine r_ireturn rfl rfl (dd_L_sight 14 _ _ _ rfl) ?_
      exact hq
    · exact absurd hq id
theorem w_seen {g : zGT} {Q : zO → zH → Prop} {h : zH} (hg : zG g) (hnx : zNX g) {x out : Nat} (hk : kd_ h x = 15) {v0 : Int} (hX : ∀ Q1 : zO → zH → Prop, (∀ r h1, zWi out [(nIOE, 1)] Q r h1 → Q1 r h1) → zC g (.code yX11_seen cX11_seen 2 (Option.some Jvm.ClassFile.FieldType.int)) yX11_seen 16 4 40 [.ref x, .int (zI v0)] h Q1) : zC g (.codeWith yL_seen cL_seen 4 (Option.some Jvm.ClassFile.FieldType.int) [(0, 9, 12, 33)]) yL_seen 17 4 40 [.ref x, .int (zI v0), .ref out] h Q := by
  refine zC_ofH (M := (RL, cL_seen, 4, (Option.some Jvm.ClassFile.FieldType.int), tableOf [(0, 9, 12, 33)], "seen", 17)) (hh := [(0, 9, 12, 33)]) (lv := [some (.ref x), some (.int (zI v0)), some (.ref out), none]) hg (tb_5 158 _ rfl) (by decide) rfl rfl (Nat.le_of_ble_eq_true rfl) rfl rfl ?_
  refine r_aload_2 1 rfl (dd_L_seen 0 _ _ _ rfl) ?_
  refine r_iconst 2 rfl (dd_L_seen 1 _ _ _ rfl) ?_
  refine r_aload_0 3 rfl (dd_L_seen 2 _ _ _ rfl) ?_
  refine r_iload_1 4 rfl (dd_L_seen 3 _ _ _ rfl) ?_
  refine r_callVH (lvl := 16) (mc1 := 4) (ms1 := 40) (As := [.int (zI v0)]) 0 0 hg md_X11_seen zc_X11 hk wi_X11_seen wv_X11_seen (tb_5 159 _ rfl) (by decide) (by decide) rfl (Nat.le_of_ble_eq_true rfl) (Nat.le_of_ble_eq_true rfl) (Nat.le_of_ble_eq_true rfl) rfl 7 rfl (dd_L_seen 4 _ _ _ rfl) ?_
  refine hX _ (fun r h1 hq => ?_)
  cases r with
  | inl r =>
    obtain ⟨a, rfl, ha, hk1, hl1, hq⟩ := hq
    dsimp only [zContH, Option.toList, List.cons_append, List.nil_append]
    refine r_i2l ha 8 rfl (dd_L_seen 5 _ _ _ rfl) ?_
    refine r_lastore hg hk1 (by decide) (by decide) (by rw [hl1]; decide) 9 rfl (dd_L_seen 6 _ _ _ rfl) ?_
    refine r_goto 15 rfl (dd_L_seen 7 _ _ _ rfl) ?_
    refine r_iconst 16 rfl (dd_L_seen 11 _ _ _ rfl) ?_
    refine r_ireturn rfl rfl (dd_L_seen 12 _ _ _ rfl) ?_
    exact hq
  | inr E =>
    rcases hq with ⟨rfl, hq⟩ | hq
    · refine ⟨12, ⟨[], ⟨0, 9, 12, 33⟩, [], rfl, rfl, rfl, by decide, (tb_3 19 _ rfl), (tb_3 30 _ rfl), (fun _ hz => nomatch hz)⟩, fun q9 => ?_⟩
      refine r_astore_3 13 rfl (Nat.le_of_ble_eq_true rfl) rfl (dd_L_seen 8 _ _ _ rfl) ?_
      refine r_iconst 14 rfl (dd_L_seen 9 _ _ _ rfl) ?_
      refine r_ireturn rfl rfl (dd_L_seen 10 _ _ _ rfl) ?_
      exact hq
    · exact absurd hq id
theorem w_fine {g : zGT} {Q : zO → zH → Prop} {h : zH} (hg : zG g) (hnx : zNX g) {x out : Nat} (hk : kd_ h x = 15) {v0 v1 : Int} (hX : ∀ Q1 : zO → zH → Prop, (∀ r h1, zWi out [(nIOE, 1), (nIAE, 2), (nISE, 3)] Q r h1 → Q1 r h1) → zC g (.code yX11_fine cX11_fine 4 (Option.some Jvm.ClassFile.FieldType.int)) yX11_fine 17 6 150 [.ref x, .int (zI v0), .int (zI v1)] h Q1) : zC g (.codeWith yL_fine cL_fine 5 (Option.some Jvm.ClassFile.FieldType.int) [(0, 10, 13, 33), (0, 10, 17, 19), (0, 10, 21, 13)]) yL_fine 18 6 150 [.ref x, .int (zI v0), .int (zI v1), .ref out] h Q := by
  refine zC_ofH (M := (RL, cL_fine, 5, (Option.some Jvm.ClassFile.FieldType.int), tableOf [(0, 10, 13, 33), (0, 10, 17, 19), (0, 10, 21, 13)], "fine", 18)) (hh := [(0, 10, 13, 33), (0, 10, 17, 19), (0, 10, 21, 13)]) (lv := [some (.ref x), some (.int (zI v0)), some (.int (zI v1)), some (.ref out), none]) hg (tb_5 169 _ rfl) (by decide) rfl rfl (Nat.le_of_ble_eq_true rfl) rfl rfl ?_
  refine r_aload_3 1 rfl (dd_L_fine 0 _ _ _ rfl) ?_
  refine r_iconst 2 rfl (dd_L_fine 1 _ _ _ rfl) ?_
  refine r_aload_0 3 rfl (dd_L_fine 2 _ _ _ rfl) ?_
  refine r_iload_1 4 rfl (dd_L_fine 3 _ _ _ rfl) ?_
  refine r_iload_2 5 rfl (dd_L_fine 4 _ _ _ rfl) ?_
  refine r_callVH (lvl := 17) (mc1 := 6) (ms1 := 150) (As := [.int (zI v0), .int (zI v1)]) 0 0 hg md_X11_fine zc_X11 hk wi_X11_fine wv_X11_fine (tb_5 170 _ rfl) (by decide) (by decide) rfl (Nat.le_of_ble_eq_true rfl) (Nat.le_of_ble_eq_true rfl) (Nat.le_of_ble_eq_true rfl) rfl 8 rfl (dd_L_fine 5 _ _ _ rfl) ?_
  refine hX _ (fun r h1 hq => ?_)
  cases r with
  | inl r =>
    obtain ⟨a, rfl, ha, hk1, hl1, hq⟩ := hq
    dsimp only [zContH, Option.toList, List.cons_append, List.nil_append]
    refine r_i2l ha 9 rfl (dd_L_fine 6 _ _ _ rfl) ?_
    refine r_lastore hg hk1 (by decide) (by decide) (by rw [hl1]; decide) 10 rfl (dd_L_fine 7 _ _ _ rfl) ?_
    refine r_goto 25 rfl (dd_L_fine 8 _ _ _ rfl) ?_
    refine r_iconst 26 rfl (dd_L_fine 18 _ _ _ rfl) ?_
    refine r_ireturn rfl rfl (dd_L_fine 19 _ _ _ rfl) ?_
    exact hq
  | inr E =>
    rcases hq with ⟨rfl, hq⟩ | ⟨rfl, hq⟩ | ⟨rfl, hq⟩ | hq
    · refine ⟨13, ⟨[], ⟨0, 10, 13, 33⟩, [⟨0, 10, 17, 19⟩, ⟨0, 10, 21, 13⟩], rfl, rfl, rfl, by decide, (tb_3 19 _ rfl), (tb_3 30 _ rfl), (fun _ hz => nomatch hz)⟩, fun q9 => ?_⟩
      refine r_astore_4 15 rfl (Nat.le_of_ble_eq_true rfl) rfl (dd_L_fine 9 _ _ _ rfl) ?_
      refine r_iconst 16 rfl (dd_L_fine 10 _ _ _ rfl) ?_
      refine r_ireturn rfl rfl (dd_L_fine 11 _ _ _ rfl) ?_
      exact hq
    · refine ⟨17, ⟨[⟨0, 10, 13, 33⟩], ⟨0, 10, 17, 19⟩, [⟨0, 10, 21, 13⟩], rfl, rfl, rfl, by decide, (tb_2 0 _ rfl), (tb_2 16 _ rfl), List.forall_mem_cons.mpr ⟨⟨by decide, nIOE, (tb_3 19 _ rfl), hnx.2.2.1⟩, (fun _ hz => nomatch hz)⟩⟩, fun q9 => ?_⟩
      refine r_astore_4 19 rfl (Nat.le_of_ble_eq_true rfl) rfl (dd_L_fine 12 _ _ _ rfl) ?_
      refine r_iconst 20 rfl (dd_L_fine 13 _ _ _ rfl) ?_
      refine r_ireturn rfl rfl (dd_L_fine 14 _ _ _ rfl) ?_
      exact hq
    · refine ⟨21, ⟨[⟨0, 10, 13, 33⟩, ⟨0, 10, 17, 19⟩], ⟨0, 10, 21, 13⟩, [], rfl, rfl, rfl, by decide, (tb_1 164 _ rfl), (tb_1 175 _ rfl), List.forall_mem_cons.mpr ⟨⟨by decide, nIOE, (tb_3 19 _ rfl), hnx.2.1⟩, List.forall_mem_cons.mpr ⟨⟨by decide, nIAE, (tb_2 0 _ rfl), hnx.1⟩, (fun _ hz => nomatch hz)⟩⟩⟩, fun q9 => ?_⟩
      refine r_astore_4 23 rfl (Nat.le_of_ble_eq_true rfl) rfl (dd_L_fine 15 _ _ _ rfl) ?_
      refine r_iconst 24 rfl (dd_L_fine 16 _ _ _ rfl) ?_
      refine r_ireturn rfl rfl (dd_L_fine 17 _ _ _ rfl) ?_
      exact hq
    · exact absurd hq id
theorem w_name {g : zGT} {Q : zO → zH → Prop} {h : zH} (hg : zG g) (hnx : zNX g) {x out : Nat} (hk : kd_ h x = 15) {v0 v1 : Int} (hX : ∀ Q1 : zO → zH → Prop, (∀ r h1, zWi out [(nIOE, 1), (nISE, 2)] Q r h1 → Q1 r h1) → zC g (.code yX11_name cX11_name 5 (Option.some Jvm.ClassFile.FieldType.int)) yX11_name 17 4 40 [.ref x, .int (zI v0), .int (zI v1)] h Q1) : zC g (.codeWith yL_name cL_name 5 (Option.some Jvm.ClassFile.FieldType.int) [(0, 10, 13, 33), (0, 10, 17, 13)]) yL_name 18 4 40 [.ref x, .int (zI v0), .int (zI v1), .ref out] h Q := by
  refine zC_ofH (M := (RL, cL_name, 5, (Option.some Jvm.ClassFile.FieldType.int), tableOf [(0, 10, 13, 33), (0, 10, 17, 13)], "name", 18)) (hh := [(0, 10, 13, 33), (0, 10, 17, 13)]) (lv := [some (.ref x), some (.int (zI v0)), some (.int (zI v1)), some (.ref out), none]) hg (tb_5 203 _ rfl) (by decide) rfl rfl (Nat.le_of_ble_eq_true rfl) rfl rfl ?_
  refine r_aload_3 1 rfl (dd_L_name 0 _ _ _ rfl) ?_
  refine r_iconst 2 rfl (dd_L_name 1 _ _ _ rfl) ?_
  refine r_aload_0 3 rfl (dd_L_name 2 _ _ _ rfl) ?_
  refine r_iload_1 4 rfl (dd_L_name 3 _ _ _ rfl) ?_
  refine r_iload_2 5 rfl (dd_L_name 4 _ _ _ rfl) ?_
  refine r_callVH (lvl := 17) (mc1 := 4) (ms1 := 40) (As := [.int (zI v0), .int (zI v1)]) 0 0 hg md_X11_name zc_X11 hk wi_X11_name wv_X11_name (tb_5 204 _ rfl) (by decide) (by decide) rfl (Nat.le_of_ble_eq_true rfl) (Nat.le_of_ble_eq_true rfl) (Nat.le_of_ble_eq_true rfl) rfl 8 rfl (dd_L_name 5 _ _ _ rfl) ?_
  refine hX _ (fun r h1 hq => ?_)
  cases r with
  | inl r =>
    obtain ⟨a, rfl, ha, hk1, hl1, hq⟩ := hq
    dsimp only [zContH, Option.toList, List.cons_append, List.nil_append]
    refine r_i2l ha 9 rfl (dd_L_name 6 _ _ _ rfl) ?_
    refine r_lastore hg hk1 (by decide) (by decide) (by rw [hl1]; decide) 10 rfl (dd_L_name 7 _ _ _ rfl) ?_
    refine r_goto 21 rfl (dd_L_name 8 _ _ _ rfl) ?_
    refine r_iconst 22 rfl (dd_L_name 15 _ _ _ rfl) ?_
    refine r_ireturn rfl rfl (dd_L_name 16 _ _ _ rfl) ?_
    exact hq
  | inr E =>
    rcases hq with ⟨rfl, hq⟩ | ⟨rfl, hq⟩ | hq
    · refine ⟨13, ⟨[], ⟨0, 10, 13, 33⟩, [⟨0, 10, 17, 13⟩], rfl, rfl, rfl, by decide, (tb_3 19 _ rfl), (tb_3 30 _ rfl), (fun _ hz => nomatch hz)⟩, fun q9 => ?_⟩
      refine r_astore_4 15 rfl (Nat.le_of_ble_eq_true rfl) rfl (dd_L_name 9 _ _ _ rfl) ?_
      refine r_iconst 16 rfl (dd_L_name 10 _ _ _ rfl) ?_
      refine r_ireturn rfl rfl (dd_L_name 11 _ _ _ rfl) ?_
      exact hq
    · refine ⟨17, ⟨[⟨0, 10, 13, 33⟩], ⟨0, 10, 17, 13⟩, [], rfl, rfl, rfl, by decide, (tb_1 164 _ rfl), (tb_1 175 _ rfl), List.forall_mem_cons.mpr ⟨⟨by decide, nIOE, (tb_3 19 _ rfl), hnx.2.1⟩, (fun _ hz => nomatch hz)⟩⟩, fun q9 => ?_⟩
      refine r_astore_4 19 rfl (Nat.le_of_ble_eq_true rfl) rfl (dd_L_name 12 _ _ _ rfl) ?_
      refine r_iconst 20 rfl (dd_L_name 13 _ _ _ rfl) ?_
      refine r_ireturn rfl rfl (dd_L_name 14 _ _ _ rfl) ?_
      exact hq
    · exact absurd hq id
theorem w_whose {g : zGT} {Q : zO → zH → Prop} {h : zH} (hg : zG g) (hnx : zNX g) {x out : Nat} (hk : kd_ h x = 15) {v0 : Int} (hX : ∀ Q1 : zO → zH → Prop, (∀ r h1, zWi out [(nIOE, 1)] Q r h1 → Q1 r h1) → zC g (.code yX11_whose cX11_whose 2 (Option.some Jvm.ClassFile.FieldType.int)) yX11_whose 17 4 40 [.ref x, .int (zI v0)] h Q1) : zC g (.codeWith yL_whose cL_whose 4 (Option.some Jvm.ClassFile.FieldType.int) [(0, 9, 12, 33)]) yL_whose 18 4 40 [.ref x, .int (zI v0), .ref out] h Q := by
  refine zC_ofH (M := (RL, cL_whose, 4, (Option.some Jvm.ClassFile.FieldType.int), tableOf [(0, 9, 12, 33)], "whose", 18)) (hh := [(0, 9, 12, 33)]) (lv := [some (.ref x), some (.int (zI v0)), some (.ref out), none]) hg (tb_5 222 _ rfl) (by decide) rfl rfl (Nat.le_of_ble_eq_true rfl) rfl rfl ?_
  refine r_aload_2 1 rfl (dd_L_whose 0 _ _ _ rfl) ?_
  refine r_iconst 2 rfl (dd_L_whose 1 _ _ _ rfl) ?_
  refine r_aload_0 3 rfl (dd_L_whose 2 _ _ _ rfl) ?_
  refine r_iload_1 4 rfl (dd_L_whose 3 _ _ _ rfl) ?_
  refine r_callVH (lvl := 17) (mc1 := 4) (ms1 := 40) (As := [.int (zI v0)]) 0 0 hg md_X11_whose zc_X11 hk wi_X11_whose wv_X11_whose (tb_5 223 _ rfl) (by decide) (by decide) rfl (Nat.le_of_ble_eq_true rfl) (Nat.le_of_ble_eq_true rfl) (Nat.le_of_ble_eq_true rfl) rfl 7 rfl (dd_L_whose 4 _ _ _ rfl) ?_
  refine hX _ (fun r h1 hq => ?_)
  cases r with
  | inl r =>
    obtain ⟨a, rfl, ha, hk1, hl1, hq⟩ := hq
    dsimp only [zContH, Option.toList, List.cons_append, List.nil_append]
    refine r_i2l ha 8 rfl (dd_L_whose 5 _ _ _ rfl) ?_
    refine r_lastore hg hk1 (by decide) (by decide) (by rw [hl1]; decide) 9 rfl (dd_L_whose 6 _ _ _ rfl) ?_
    refine r_goto 15 rfl (dd_L_whose 7 _ _ _ rfl) ?_
    refine r_iconst 16 rfl (dd_L_whose 11 _ _ _ rfl) ?_
    refine r_ireturn rfl rfl (dd_L_whose 12 _ _ _ rfl) ?_
    exact hq
  | inr E =>
    rcases hq with ⟨rfl, hq⟩ | hq
    · refine ⟨12, ⟨[], ⟨0, 9, 12, 33⟩, [], rfl, rfl, rfl, by decide, (tb_3 19 _ rfl), (tb_3 30 _ rfl), (fun _ hz => nomatch hz)⟩, fun q9 => ?_⟩
      refine r_astore_3 13 rfl (Nat.le_of_ble_eq_true rfl) rfl (dd_L_whose 8 _ _ _ rfl) ?_
      refine r_iconst 14 rfl (dd_L_whose 9 _ _ _ rfl) ?_
      refine r_ireturn rfl rfl (dd_L_whose 10 _ _ _ rfl) ?_
      exact hq
    · exact absurd hq id
theorem w_fines {g : zGT} {Q : zO → zH → Prop} {h : zH} (hg : zG g) (hnx : zNX g) {x out : Nat} (hk : kd_ h x = 15) {v0 : Int} (hX : ∀ Q1 : zO → zH → Prop, (∀ r h1, zWi out [(nIOE, 1)] Q r h1 → Q1 r h1) → zC g (.code yX11_fines cX11_fines 4 (Option.some Jvm.ClassFile.FieldType.int)) yX11_fines 17 4 40 [.ref x, .int (zI v0)] h Q1) : zC g (.codeWith yL_fines cL_fines 4 (Option.some Jvm.ClassFile.FieldType.int) [(0, 9, 12, 33)]) yL_fines 18 4 40 [.ref x, .int (zI v0), .ref out] h Q := by
  refine zC_ofH (M := (RL, cL_fines, 4, (Option.some Jvm.ClassFile.FieldType.int), tableOf [(0, 9, 12, 33)], "fines", 18)) (hh := [(0, 9, 12, 33)]) (lv := [some (.ref x), some (.int (zI v0)), some (.ref out), none]) hg (tb_5 229 _ rfl) (by decide) rfl rfl (Nat.le_of_ble_eq_true rfl) rfl rfl ?_
  refine r_aload_2 1 rfl (dd_L_fines 0 _ _ _ rfl) ?_
  refine r_iconst 2 rfl (dd_L_fines 1 _ _ _ rfl) ?_
  refine r_aload_0 3 rfl (dd_L_fines 2 _ _ _ rfl) ?_
  refine r_iload_1 4 rfl (dd_L_fines 3 _ _ _ rfl) ?_
  refine r_callVH (lvl := 17) (mc1 := 4) (ms1 := 40) (As := [.int (zI v0)]) 0 0 hg md_X11_fines zc_X11 hk wi_X11_fines wv_X11_fines (tb_5 230 _ rfl) (by decide) (by decide) rfl (Nat.le_of_ble_eq_true rfl) (Nat.le_of_ble_eq_true rfl) (Nat.le_of_ble_eq_true rfl) rfl 7 rfl (dd_L_fines 4 _ _ _ rfl) ?_
  refine hX _ (fun r h1 hq => ?_)
  cases r with
  | inl r =>
    obtain ⟨a, rfl, ha, hk1, hl1, hq⟩ := hq
    dsimp only [zContH, Option.toList, List.cons_append, List.nil_append]
    refine r_i2l ha 8 rfl (dd_L_fines 5 _ _ _ rfl) ?_
    refine r_lastore hg hk1 (by decide) (by decide) (by rw [hl1]; decide) 9 rfl (dd_L_fines 6 _ _ _ rfl) ?_
    refine r_goto 15 rfl (dd_L_fines 7 _ _ _ rfl) ?_
    refine r_iconst 16 rfl (dd_L_fines 11 _ _ _ rfl) ?_
    refine r_ireturn rfl rfl (dd_L_fines 12 _ _ _ rfl) ?_
    exact hq
  | inr E =>
    rcases hq with ⟨rfl, hq⟩ | hq
    · refine ⟨12, ⟨[], ⟨0, 9, 12, 33⟩, [], rfl, rfl, rfl, by decide, (tb_3 19 _ rfl), (tb_3 30 _ rfl), (fun _ hz => nomatch hz)⟩, fun q9 => ?_⟩
      refine r_astore_3 13 rfl (Nat.le_of_ble_eq_true rfl) rfl (dd_L_fines 8 _ _ _ rfl) ?_
      refine r_iconst 14 rfl (dd_L_fines 9 _ _ _ rfl) ?_
      refine r_ireturn rfl rfl (dd_L_fines 10 _ _ _ rfl) ?_
      exact hq
    · exact absurd hq id
theorem w_look {g : zGT} {Q : zO → zH → Prop} {h : zH} (hg : zG g) (hnx : zNX g) {x out : Nat} (hk : kd_ h x = 15) {v0 : Int} (hX : ∀ Q1 : zO → zH → Prop, (∀ r h1, zWi out [(nIOE, 1)] Q r h1 → Q1 r h1) → zC g (.code yX11_look cX11_look 7 (Option.some Jvm.ClassFile.FieldType.int)) yX11_look 17 4 40 [.ref x, .int (zI v0)] h Q1) : zC g (.codeWith yL_look cL_look 4 (Option.some Jvm.ClassFile.FieldType.int) [(0, 9, 12, 33)]) yL_look 18 4 40 [.ref x, .int (zI v0), .ref out] h Q := by
  refine zC_ofH (M := (RL, cL_look, 4, (Option.some Jvm.ClassFile.FieldType.int), tableOf [(0, 9, 12, 33)], "look", 18)) (hh := [(0, 9, 12, 33)]) (lv := [some (.ref x), some (.int (zI v0)), some (.ref out), none]) hg (tb_5 236 _ rfl) (by decide) rfl rfl (Nat.le_of_ble_eq_true rfl) rfl rfl ?_
  refine r_aload_2 1 rfl (dd_L_look 0 _ _ _ rfl) ?_
  refine r_iconst 2 rfl (dd_L_look 1 _ _ _ rfl) ?_
  refine r_aload_0 3 rfl (dd_L_look 2 _ _ _ rfl) ?_
  refine r_iload_1 4 rfl (dd_L_look 3 _ _ _ rfl) ?_
  refine r_callVH (lvl := 17) (mc1 := 4) (ms1 := 40) (As := [.int (zI v0)]) 0 0 hg md_X11_look zc_X11 hk wi_X11_look wv_X11_look (tb_5 237 _ rfl) (by decide) (by decide) rfl (Nat.le_of_ble_eq_true rfl) (Nat.le_of_ble_eq_true rfl) (Nat.le_of_ble_eq_true rfl) rfl 7 rfl (dd_L_look 4 _ _ _ rfl) ?_
  refine hX _ (fun r h1 hq => ?_)
  cases r with
  | inl r =>
    obtain ⟨a, rfl, ha, hk1, hl1, hq⟩ := hq
    dsimp only [zContH, Option.toList, List.cons_append, List.nil_append]
    refine r_i2l ha 8 rfl (dd_L_look 5 _ _ _ rfl) ?_
    refine r_lastore hg hk1 (by decide) (by decide) (by rw [hl1]; decide) 9 rfl (dd_L_look 6 _ _ _ rfl) ?_
    refine r_goto 15 rfl (dd_L_look 7 _ _ _ rfl) ?_
    refine r_iconst 16 rfl (dd_L_look 11 _ _ _ rfl) ?_
    refine r_ireturn rfl rfl (dd_L_look 12 _ _ _ rfl) ?_
    exact hq
  | inr E =>
    rcases hq with ⟨rfl, hq⟩ | hq
    · refine ⟨12, ⟨[], ⟨0, 9, 12, 33⟩, [], rfl, rfl, rfl, by decide, (tb_3 19 _ rfl), (tb_3 30 _ rfl), (fun _ hz => nomatch hz)⟩, fun q9 => ?_⟩
      refine r_astore_3 13 rfl (Nat.le_of_ble_eq_true rfl) rfl (dd_L_look 8 _ _ _ rfl) ?_
      refine r_iconst 14 rfl (dd_L_look 9 _ _ _ rfl) ?_
      refine r_ireturn rfl rfl (dd_L_look 10 _ _ _ rfl) ?_
      exact hq
    · exact absurd hq id
theorem w_looked {g : zGT} {Q : zO → zH → Prop} {h : zH} (hg : zG g) (hnx : zNX g) {x out : Nat} (hk : kd_ h x = 15) {v0 : Int} (hX : ∀ Q1 : zO → zH → Prop, (∀ r h1, zWi out [(nIOE, 1)] Q r h1 → Q1 r h1) → zC g (.code yX11_looked cX11_looked 2 (Option.some Jvm.ClassFile.FieldType.int)) yX11_looked 14 4 40 [.ref x, .int (zI v0)] h Q1) : zC g (.codeWith yL_looked cL_looked 4 (Option.some Jvm.ClassFile.FieldType.int) [(0, 9, 12, 33)]) yL_looked 15 4 40 [.ref x, .int (zI v0), .ref out] h Q := by
  refine zC_ofH (M := (RL, cL_looked, 4, (Option.some Jvm.ClassFile.FieldType.int), tableOf [(0, 9, 12, 33)], "looked", 15)) (hh := [(0, 9, 12, 33)]) (lv := [some (.ref x), some (.int (zI v0)), some (.ref out), none]) hg (tb_6 37 _ rfl) (by decide) rfl rfl (Nat.le_of_ble_eq_true rfl) rfl rfl ?_
  refine r_aload_2 1 rfl (dd_L_looked 0 _ _ _ rfl) ?_
  refine r_iconst 2 rfl (dd_L_looked 1 _ _ _ rfl) ?_
  refine r_aload_0 3 rfl (dd_L_looked 2 _ _ _ rfl) ?_
  refine r_iload_1 4 rfl (dd_L_looked 3 _ _ _ rfl) ?_
  refine r_callVH (lvl := 14) (mc1 := 4) (ms1 := 40) (As := [.int (zI v0)]) 0 0 hg md_X11_looked zc_X11 hk wi_X11_looked wv_X11_looked (tb_6 38 _ rfl) (by decide) (by decide) rfl (Nat.le_of_ble_eq_true rfl) (Nat.le_of_ble_eq_true rfl) (Nat.le_of_ble_eq_true rfl) rfl 7 rfl (dd_L_looked 4 _ _ _ rfl) ?_
  refine hX _ (fun r h1 hq => ?_)
  cases r with
  | inl r =>
    obtain ⟨a, rfl, ha, hk1, hl1, hq⟩ := hq
    dsimp only [zContH, Option.toList, List.cons_append, List.nil_append]
    refine r_i2l ha 8 rfl (dd_L_looked 5 _ _ _ rfl) ?_
    refine r_lastore hg hk1 (by decide) (by decide) (by rw [hl1]; decide) 9 rfl (dd_L_looked 6 _ _ _ rfl) ?_
    refine r_goto 15 rfl (dd_L_looked 7 _ _ _ rfl) ?_
    refine r_iconst 16 rfl (dd_L_looked 11 _ _ _ rfl) ?_
    refine r_ireturn rfl rfl (dd_L_looked 12 _ _ _ rfl) ?_
    exact hq
  | inr E =>
    rcases hq with ⟨rfl, hq⟩ | hq
    · refine ⟨12, ⟨[], ⟨0, 9, 12, 33⟩, [], rfl, rfl, rfl, by decide, (tb_3 19 _ rfl), (tb_3 30 _ rfl), (fun _ hz => nomatch hz)⟩, fun q9 => ?_⟩
      refine r_astore_3 13 rfl (Nat.le_of_ble_eq_true rfl) rfl (dd_L_looked 8 _ _ _ rfl) ?_
      refine r_iconst 14 rfl (dd_L_looked 9 _ _ _ rfl) ?_
      refine r_ireturn rfl rfl (dd_L_looked 10 _ _ _ rfl) ?_
      exact hq
    · exact absurd hq id
theorem w_pass {g : zGT} {Q : zO → zH → Prop} {h : zH} (hg : zG g) (hnx : zNX g) {x out : Nat} (hk : kd_ h x = 15) {v0 : Int} (hX : ∀ Q1 : zO → zH → Prop, (∀ r h1, zWi out [(nIAE, 1), (nISE, 2)] Q r h1 → Q1 r h1) → zC g (.code yX11_pass cX11_pass 2 (Option.some Jvm.ClassFile.FieldType.int)) yX11_pass 14 4 40 [.ref x, .int (zI v0)] h Q1) : zC g (.codeWith yL_pass cL_pass 4 (Option.some Jvm.ClassFile.FieldType.int) [(0, 9, 12, 19), (0, 9, 15, 13)]) yL_pass 15 4 40 [.ref x, .int (zI v0), .ref out] h Q := by
  refine zC_ofH (M := (RL, cL_pass, 4, (Option.some Jvm.ClassFile.FieldType.int), tableOf [(0, 9, 12, 19), (0, 9, 15, 13)], "pass", 15)) (hh := [(0, 9, 12, 19), (0, 9, 15, 13)]) (lv := [some (.ref x), some (.int (zI v0)), some (.ref out), none]) hg (tb_6 44 _ rfl) (by decide) rfl rfl (Nat.le_of_ble_eq_true rfl) rfl rfl ?_
  refine r_aload_2 1 rfl (dd_L_pass 0 _ _ _ rfl) ?_
  refine r_iconst 2 rfl (dd_L_pass 1 _ _ _ rfl) ?_
  refine r_aload_0 3 rfl (dd_L_pass 2 _ _ _ rfl) ?_
  refine r_iload_1 4 rfl (dd_L_pass 3 _ _ _ rfl) ?_
  refine r_callVH (lvl := 14) (mc1 := 4) (ms1 := 40) (As := [.int (zI v0)]) 0 0 hg md_X11_pass zc_X11 hk wi_X11_pass wv_X11_pass (tb_6 45 _ rfl) (by decide) (by decide) rfl (Nat.le_of_ble_eq_true rfl) (Nat.le_of_ble_eq_true rfl) (Nat.le_of_ble_eq_true rfl) rfl 7 rfl (dd_L_pass 4 _ _ _ rfl) ?_
  refine hX _ (fun r h1 hq => ?_)
  cases r with
  | inl r =>
    obtain ⟨a, rfl, ha, hk1, hl1, hq⟩ := hq
    dsimp only [zContH, Option.toList, List.cons_append, List.nil_append]
    refine r_i2l ha 8 rfl (dd_L_pass 5 _ _ _ rfl) ?_
    refine r_lastore hg hk1 (by decide) (by decide) (by rw [hl1]; decide) 9 rfl (dd_L_pass 6 _ _ _ rfl) ?_
    refine r_goto 18 rfl (dd_L_pass 7 _ _ _ rfl) ?_
    refine r_iconst 19 rfl (dd_L_pass 14 _ _ _ rfl) ?_
    refine r_ireturn rfl rfl (dd_L_pass 15 _ _ _ rfl) ?_
    exact hq
  | inr E =>
    rcases hq with ⟨rfl, hq⟩ | ⟨rfl, hq⟩ | hq
    · refine ⟨12, ⟨[], ⟨0, 9, 12, 19⟩, [⟨0, 9, 15, 13⟩], rfl, rfl, rfl, by decide, (tb_2 0 _ rfl), (tb_2 16 _ rfl), (fun _ hz => nomatch hz)⟩, fun q9 => ?_⟩
      refine r_astore_3 13 rfl (Nat.le_of_ble_eq_true rfl) rfl (dd_L_pass 8 _ _ _ rfl) ?_
      refine r_iconst 14 rfl (dd_L_pass 9 _ _ _ rfl) ?_
      refine r_ireturn rfl rfl (dd_L_pass 10 _ _ _ rfl) ?_
      exact hq
    · refine ⟨15, ⟨[⟨0, 9, 12, 19⟩], ⟨0, 9, 15, 13⟩, [], rfl, rfl, rfl, by decide, (tb_1 164 _ rfl), (tb_1 175 _ rfl), List.forall_mem_cons.mpr ⟨⟨by decide, nIAE, (tb_2 0 _ rfl), hnx.1⟩, (fun _ hz => nomatch hz)⟩⟩, fun q9 => ?_⟩
      refine r_astore_3 16 rfl (Nat.le_of_ble_eq_true rfl) rfl (dd_L_pass 11 _ _ _ rfl) ?_
      refine r_iconst 17 rfl (dd_L_pass 12 _ _ _ rfl) ?_
      refine r_ireturn rfl rfl (dd_L_pass 13 _ _ _ rfl) ?_
      exact hq
    · exact absurd hq id
theorem mh_type : z_mh yL_type cL_type 4 (Option.some Jvm.ClassFile.FieldType.int) [(0, 9, 12, 13)] 3 := ⟨(tb_1 163 _ rfl), (tb_1 0 _ rfl), ⟨by decide +kernel, by decide +kernel⟩, by decide +kernel⟩
theorem mh_vehicle : z_mh yL_vehicle cL_vehicle 6 (Option.some Jvm.ClassFile.FieldType.int) [(0, 12, 15, 19), (0, 12, 19, 13)] 5 := ⟨(tb_1 239 _ rfl), (tb_1 0 _ rfl), ⟨by decide +kernel, by decide +kernel⟩, by decide +kernel⟩
theorem mh_stamped : z_mh yL_stamped cL_stamped 4 (Option.some Jvm.ClassFile.FieldType.int) [(0, 9, 12, 19)] 3 := ⟨(tb_2 225 _ rfl), (tb_1 0 _ rfl), ⟨by decide +kernel, by decide +kernel⟩, by decide +kernel⟩
theorem mh_person : z_mh yL_person cL_person 3 (Option.some Jvm.ClassFile.FieldType.int) [(0, 8, 11, 13)] 2 := ⟨(tb_2 236 _ rfl), (tb_1 0 _ rfl), ⟨by decide +kernel, by decide +kernel⟩, by decide +kernel⟩
theorem mh_protect : z_mh yL_protect cL_protect 5 (Option.some Jvm.ClassFile.FieldType.int) [(0, 17, 20, 33)] 4 := ⟨(tb_3 18 _ rfl), (tb_1 0 _ rfl), ⟨by decide +kernel, by decide +kernel⟩, by decide +kernel⟩
theorem mh_tell : z_mh yL_tell cL_tell 7 (Option.some Jvm.ClassFile.FieldType.int) [(0, 14, 17, 33), (0, 14, 21, 19), (0, 14, 25, 13)] 6 := ⟨(tb_3 45 _ rfl), (tb_1 0 _ rfl), ⟨by decide +kernel, by decide +kernel⟩, by decide +kernel⟩
theorem mh_on : z_mh yL_on cL_on 6 (Option.some Jvm.ClassFile.FieldType.int) [(0, 12, 15, 33), (0, 12, 19, 19)] 5 := ⟨(tb_4 134 _ rfl), (tb_1 0 _ rfl), ⟨by decide +kernel, by decide +kernel⟩, by decide +kernel⟩
theorem mh_onAnew : z_mh yL_onAnew cL_onAnew 6 (Option.some Jvm.ClassFile.FieldType.int) [(0, 12, 15, 33), (0, 12, 19, 19)] 5 := ⟨(tb_4 153 _ rfl), (tb_1 0 _ rfl), ⟨by decide +kernel, by decide +kernel⟩, by decide +kernel⟩
theorem mh_bar : z_mh yL_bar cL_bar 6 (Option.some Jvm.ClassFile.FieldType.int) [(0, 19, 22, 19)] 5 := ⟨(tb_4 164 _ rfl), (tb_1 0 _ rfl), ⟨by decide +kernel, by decide +kernel⟩, by decide +kernel⟩
theorem mh_allot : z_mh yL_allot cL_allot 4 (Option.some Jvm.ClassFile.FieldType.int) [(0, 9, 12, 33), (0, 9, 15, 13)] 3 := ⟨(tb_4 178 _ rfl), (tb_1 0 _ rfl), ⟨by decide +kernel, by decide +kernel⟩, by decide +kernel⟩
theorem mh_wish : z_mh yL_wish cL_wish 4 (Option.some Jvm.ClassFile.FieldType.int) [(0, 9, 12, 33), (0, 9, 15, 13)] 3 := ⟨(tb_4 226 _ rfl), (tb_1 0 _ rfl), ⟨by decide +kernel, by decide +kernel⟩, by decide +kernel⟩
theorem mh_plate : z_mh yL_plate cL_plate 6 (Option.some Jvm.ClassFile.FieldType.int) [(0, 12, 15, 33), (0, 12, 19, 19)] 5 := ⟨(tb_5 8 _ rfl), (tb_1 0 _ rfl), ⟨by decide +kernel, by decide +kernel⟩, by decide +kernel⟩
theorem mh_rate : z_mh yL_rate cL_rate 6 (Option.some Jvm.ClassFile.FieldType.int) [(0, 12, 15, 19), (0, 12, 19, 13)] 5 := ⟨(tb_5 22 _ rfl), (tb_1 0 _ rfl), ⟨by decide +kernel, by decide +kernel⟩, by decide +kernel⟩
theorem mh_pay : z_mh yL_pay cL_pay 5 (Option.some Jvm.ClassFile.FieldType.int) [(0, 9, 12, 33), (0, 9, 16, 19)] 4 := ⟨(tb_5 30 _ rfl), (tb_1 0 _ rfl), ⟨by decide +kernel, by decide +kernel⟩, by decide +kernel⟩
theorem mh_owes : z_mh yL_owes cL_owes 4 (Option.some Jvm.ClassFile.FieldType.int) [(0, 8, 11, 33)] 3 := ⟨(tb_5 54 _ rfl), (tb_1 0 _ rfl), ⟨by decide +kernel, by decide +kernel⟩, by decide +kernel⟩
theorem mh_test : z_mh yL_test cL_test 7 (Option.some Jvm.ClassFile.FieldType.int) [(0, 14, 17, 33), (0, 14, 21, 19), (0, 14, 25, 13)] 6 := ⟨(tb_5 61 _ rfl), (tb_1 0 _ rfl), ⟨by decide +kernel, by decide +kernel⟩, by decide +kernel⟩
theorem mh_insure : z_mh yL_insure cL_insure 5 (Option.some Jvm.ClassFile.FieldType.int) [(0, 17, 20, 33), (0, 17, 24, 19)] 4 := ⟨(tb_5 75 _ rfl), (tb_1 0 _ rfl), ⟨by decide +kernel, by decide +kernel⟩, by decide +kernel⟩
theorem mh_ofVehicle : z_mh yL_ofVehicle cL_ofVehicle 5 (Option.some Jvm.ClassFile.FieldType.int) [(0, 10, 13, 33), (0, 10, 17, 19)] 4 := ⟨(tb_5 82 _ rfl), (tb_1 0 _ rfl), ⟨by decide +kernel, by decide +kernel⟩, by decide +kernel⟩
theorem mh_sight : z_mh yL_sight cL_sight 5 (Option.some Jvm.ClassFile.FieldType.int) [(0, 10, 13, 19), (0, 10, 17, 13)] 4 := ⟨(tb_5 120 _ rfl), (tb_1 0 _ rfl), ⟨by decide +kernel, by decide +kernel⟩, by decide +kernel⟩
theorem mh_seen : z_mh yL_seen cL_seen 4 (Option.some Jvm.ClassFile.FieldType.int) [(0, 9, 12, 33)] 3 := ⟨(tb_5 158 _ rfl), (tb_1 0 _ rfl), ⟨by decide +kernel, by decide +kernel⟩, by decide +kernel⟩
theorem mh_fine : z_mh yL_fine cL_fine 5 (Option.some Jvm.ClassFile.FieldType.int) [(0, 10, 13, 33), (0, 10, 17, 19), (0, 10, 21, 13)] 4 := ⟨(tb_5 169 _ rfl), (tb_1 0 _ rfl), ⟨by decide +kernel, by decide +kernel⟩, by decide +kernel⟩
theorem mh_name : z_mh yL_name cL_name 5 (Option.some Jvm.ClassFile.FieldType.int) [(0, 10, 13, 33), (0, 10, 17, 13)] 4 := ⟨(tb_5 203 _ rfl), (tb_1 0 _ rfl), ⟨by decide +kernel, by decide +kernel⟩, by decide +kernel⟩
theorem mh_whose : z_mh yL_whose cL_whose 4 (Option.some Jvm.ClassFile.FieldType.int) [(0, 9, 12, 33)] 3 := ⟨(tb_5 222 _ rfl), (tb_1 0 _ rfl), ⟨by decide +kernel, by decide +kernel⟩, by decide +kernel⟩
theorem mh_fines : z_mh yL_fines cL_fines 4 (Option.some Jvm.ClassFile.FieldType.int) [(0, 9, 12, 33)] 3 := ⟨(tb_5 229 _ rfl), (tb_1 0 _ rfl), ⟨by decide +kernel, by decide +kernel⟩, by decide +kernel⟩
theorem mh_look : z_mh yL_look cL_look 4 (Option.some Jvm.ClassFile.FieldType.int) [(0, 9, 12, 33)] 3 := ⟨(tb_5 236 _ rfl), (tb_1 0 _ rfl), ⟨by decide +kernel, by decide +kernel⟩, by decide +kernel⟩
theorem mh_looked : z_mh yL_looked cL_looked 4 (Option.some Jvm.ClassFile.FieldType.int) [(0, 9, 12, 33)] 3 := ⟨(tb_6 37 _ rfl), (tb_1 0 _ rfl), ⟨by decide +kernel, by decide +kernel⟩, by decide +kernel⟩
theorem mh_pass : z_mh yL_pass cL_pass 4 (Option.some Jvm.ClassFile.FieldType.int) [(0, 9, 12, 19), (0, 9, 15, 13)] 3 := ⟨(tb_6 44 _ rfl), (tb_1 0 _ rfl), ⟨by decide +kernel, by decide +kernel⟩, by decide +kernel⟩
