abbrev zNine : Int := -9000000000000000
/-- what a wrapper makes of its method's end -/
def zWe (Q : zO → zH → Prop) (E : String) (h1 : zH) : List String → Prop
  | [] => False
  | e :: es => (E = e ∧ Q (.inl (some (.long (zL zNine)))) h1) ∨ zWe Q E h1 es
def zWi (es : List String) (Q : zO → zH → Prop) : zO → zH → Prop := fun o h1 => match o with
  | .inl r => ∃ a : Int, r = some (.int (zI a)) ∧ zR a ∧ Q (.inl (some (.long (zL a)))) h1
  | .inr E => zWe Q E h1 es
def zWz (es : List String) (Q : zO → zH → Prop) : zO → zH → Prop := fun o h1 => match o with
  | .inl r => ∃ a : Int, r = some (.int (zI a)) ∧ (a = 0 ∨ a = 1) ∧ Q (.inl (some (.long (zL a)))) h1
  | .inr E => zWe Q E h1 es
def zWl (es : List String) (Q : zO → zH → Prop) : zO → zH → Prop := fun o h1 => match o with
  | .inl r => ∃ a : Int, r = some (.long (zL a)) ∧ Q (.inl (some (.long (zL a)))) h1
  | .inr E => zWe Q E h1 es
set_option maxRecDepth 20000
theorem w_vehicle {g : zGT} {Q : zO → zH → Prop} {h : zH} (hg : zG g) (hnx : zNX g) {x : Nat} (hk : kd_ h x = 15) {v0 v1 v2 : Int} (hX : ∀ Q1 : zO → zH → Prop, (∀ r h1, zWi [nIAE, nISE] Q r h1 → Q1 r h1) → zC g (.code yX11_vehicle cX11_vehicle 4 (Option.some Jvm.ClassFile.FieldType.int)) yX11_vehicle 17 20 300 [.ref x, .int (zI v0), .int (zI v1), .int (zI v2)] h Q1) : zC g (.codeWith yL_vehicle cL_vehicle 5 (Option.some Jvm.ClassFile.FieldType.long) [(0, 8, 9, 22), (0, 8, 15, 14)]) yL_vehicle 18 20 300 [.ref x, .int (zI v0), .int (zI v1), .int (zI v2)] h Q := by
  refine zC_ofH (M := (RL, cL_vehicle, 5, (Option.some Jvm.ClassFile.FieldType.long), tableOf [(0, 8, 9, 22), (0, 8, 15, 14)], "vehicle", 18)) (hh := [(0, 8, 9, 22), (0, 8, 15, 14)]) (lv := [some (.ref x), some (.int (zI v0)), some (.int (zI v1)), some (.int (zI v2)), none]) hg (tb_1 164 _ rfl) (by decide) rfl rfl (Nat.le_of_ble_eq_true rfl) rfl rfl ?_
  refine r_aload_0 1 rfl (dd_L_vehicle 0 _ _ _ rfl) ?_
  refine r_iload_1 2 rfl (dd_L_vehicle 1 _ _ _ rfl) ?_
  refine r_iload_2 3 rfl (dd_L_vehicle 2 _ _ _ rfl) ?_
  refine r_iload_3 4 rfl (dd_L_vehicle 3 _ _ _ rfl) ?_
  refine r_callVH (lvl := 17) (mc1 := 20) (ms1 := 300) (As := [.int (zI v0), .int (zI v1), .int (zI v2)]) 0 0 hg md_X11_vehicle zc_X11 hk wi_X11_vehicle wv_X11_vehicle (tb_1 167 _ rfl) (by decide) (by decide) rfl (Nat.le_of_ble_eq_true rfl) (Nat.le_of_ble_eq_true rfl) (Nat.le_of_ble_eq_true rfl) rfl 7 rfl (dd_L_vehicle 4 _ _ _ rfl) ?_
  refine hX _ (fun r h1 hq => ?_)
  cases r with
  | inl r =>
    obtain ⟨a, rfl, ha, hq⟩ := hq
    dsimp only [zContH, Option.toList, List.cons_append, List.nil_append]
    refine r_i2l ha 8 rfl (dd_L_vehicle 5 _ _ _ rfl) ?_
    refine r_lreturn rfl (dd_L_vehicle 6 _ _ _ rfl) ?_
    exact hq
  | inr E =>
    rcases hq with ⟨rfl, hq⟩ | ⟨rfl, hq⟩ | hq
    · refine ⟨9, ⟨[], ⟨0, 8, 9, 22⟩, [⟨0, 8, 15, 14⟩], rfl, rfl, rfl, by decide, (tb_1 165 _ rfl), (tb_1 182 _ rfl), (fun _ hz => nomatch hz)⟩, fun q9 => ?_⟩
      refine r_astore_4 11 rfl (Nat.le_of_ble_eq_true rfl) rfl (dd_L_vehicle 7 _ _ _ rfl) ?_
      refine r_ldc2 hg (tb_2 212 _ rfl) 14 rfl (dd_L_vehicle 8 _ _ _ rfl) ?_
      refine r_topl zNine rfl ?_
      refine r_lreturn rfl (dd_L_vehicle 9 _ _ _ rfl) ?_
      exact hq
    · refine ⟨15, ⟨[⟨0, 8, 9, 22⟩], ⟨0, 8, 15, 14⟩, [], rfl, rfl, rfl, by decide, (tb_1 166 _ rfl), (tb_2 29 _ rfl), List.forall_mem_cons.mpr ⟨⟨by decide, nIAE, (tb_1 165 _ rfl), hnx.1⟩, (fun _ hz => nomatch hz)⟩⟩, fun q9 => ?_⟩
      refine r_astore_4 17 rfl (Nat.le_of_ble_eq_true rfl) rfl (dd_L_vehicle 10 _ _ _ rfl) ?_
      refine r_ldc2 hg (tb_2 212 _ rfl) 20 rfl (dd_L_vehicle 11 _ _ _ rfl) ?_
      refine r_topl zNine rfl ?_
      refine r_lreturn rfl (dd_L_vehicle 12 _ _ _ rfl) ?_
      exact hq
    · exact absurd hq id
theorem w_person {g : zGT} {Q : zO → zH → Prop} {h : zH} (hg : zG g) (hnx : zNX g) {x : Nat} (hk : kd_ h x = 15) (hX : ∀ Q1 : zO → zH → Prop, (∀ r h1, zWi [nISE] Q r h1 → Q1 r h1) → zC g (.code yX11_person cX11_person 1 (Option.some Jvm.ClassFile.FieldType.int)) yX11_person 17 6 150 [.ref x] h Q1) : zC g (.codeWith yL_person cL_person 2 (Option.some Jvm.ClassFile.FieldType.long) [(0, 5, 6, 14)]) yL_person 18 6 150 [.ref x] h Q := by
  refine zC_ofH (M := (RL, cL_person, 2, (Option.some Jvm.ClassFile.FieldType.long), tableOf [(0, 5, 6, 14)], "person", 18)) (hh := [(0, 5, 6, 14)]) (lv := [some (.ref x), none]) hg (tb_2 215 _ rfl) (by decide) rfl rfl (Nat.le_of_ble_eq_true rfl) rfl rfl ?_
  refine r_aload_0 1 rfl (dd_L_person 0 _ _ _ rfl) ?_
  refine r_callVH (lvl := 17) (mc1 := 6) (ms1 := 150) (As := []) 0 0 hg md_X11_person zc_X11 hk wi_X11_person wv_X11_person (tb_2 216 _ rfl) (by decide) (by decide) rfl (Nat.le_of_ble_eq_true rfl) (Nat.le_of_ble_eq_true rfl) (Nat.le_of_ble_eq_true rfl) rfl 4 rfl (dd_L_person 1 _ _ _ rfl) ?_
  refine hX _ (fun r h1 hq => ?_)
  cases r with
  | inl r =>
    obtain ⟨a, rfl, ha, hq⟩ := hq
    dsimp only [zContH, Option.toList, List.cons_append, List.nil_append]
    refine r_i2l ha 5 rfl (dd_L_person 2 _ _ _ rfl) ?_
    refine r_lreturn rfl (dd_L_person 3 _ _ _ rfl) ?_
    exact hq
  | inr E =>
    rcases hq with ⟨rfl, hq⟩ | hq
    · refine ⟨6, ⟨[], ⟨0, 5, 6, 14⟩, [], rfl, rfl, rfl, by decide, (tb_1 166 _ rfl), (tb_2 29 _ rfl), (fun _ hz => nomatch hz)⟩, fun q9 => ?_⟩
      refine r_astore_1 7 rfl (Nat.le_of_ble_eq_true rfl) rfl (dd_L_person 4 _ _ _ rfl) ?_
      refine r_ldc2 hg (tb_2 212 _ rfl) 10 rfl (dd_L_person 5 _ _ _ rfl) ?_
      refine r_topl zNine rfl ?_
      refine r_lreturn rfl (dd_L_person 6 _ _ _ rfl) ?_
      exact hq
    · exact absurd hq id
theorem w_protect {g : zGT} {Q : zO → zH → Prop} {h : zH} (hg : zG g) (hnx : zNX g) {x : Nat} (hk : kd_ h x = 15) {v0 v1 : Int} (hX : ∀ Q1 : zO → zH → Prop, (∀ r h1, zWz [nIOE] Q r h1 → Q1 r h1) → zC g (.code yX11_protect cX11_protect 5 (Option.some Jvm.ClassFile.FieldType.boolean)) yX11_protect 14 4 40 [.ref x, .int (zI v0), .int (zI v1)] h Q1) : zC g (.codeWith yL_protect cL_protect 4 (Option.some Jvm.ClassFile.FieldType.long) [(0, 14, 15, 36)]) yL_protect 15 4 40 [.ref x, .int (zI v0), .int (zI v1)] h Q := by
  refine zC_ofH (M := (RL, cL_protect, 4, (Option.some Jvm.ClassFile.FieldType.long), tableOf [(0, 14, 15, 36)], "protect", 15)) (hh := [(0, 14, 15, 36)]) (lv := [some (.ref x), some (.int (zI v0)), some (.int (zI v1)), none]) hg (tb_2 237 _ rfl) (by decide) rfl rfl (Nat.le_of_ble_eq_true rfl) rfl rfl ?_
  refine r_aload_0 1 rfl (dd_L_protect 0 _ _ _ rfl) ?_
  refine r_iload_1 2 rfl (dd_L_protect 1 _ _ _ rfl) ?_
  refine r_iload_2 3 rfl (dd_L_protect 2 _ _ _ rfl) ?_
  refine r_callVH (lvl := 14) (mc1 := 4) (ms1 := 40) (As := [.int (zI v0), .int (zI v1)]) 0 0 hg md_X11_protect zc_X11 hk wi_X11_protect wv_X11_protect (tb_2 239 _ rfl) (by decide) (by decide) rfl (Nat.le_of_ble_eq_true rfl) (Nat.le_of_ble_eq_true rfl) (Nat.le_of_ble_eq_true rfl) rfl 6 rfl (dd_L_protect 3 _ _ _ rfl) ?_
  refine hX _ (fun r h1 hq => ?_)
  cases r with
  | inl r =>
    obtain ⟨a, rfl, hz, hq⟩ := hq
    dsimp only [zContH, Option.toList, List.cons_append, List.nil_append]
    refine r_ifeq (by rcases hz with hz | hz <;> (subst hz; decide)) 9 rfl 13 rfl (dd_L_protect 4 _ _ _ rfl) (fun hc => ?_) (fun hc => ?_)
    · subst hc
      refine r_lconst0 14 rfl (dd_L_protect 7 _ _ _ rfl) ?_
      refine r_lreturn rfl (dd_L_protect 8 _ _ _ rfl) ?_
      exact hq
    · obtain rfl : a = 1 := by omega
      refine r_lconst1 10 rfl (dd_L_protect 5 _ _ _ rfl) ?_
      refine r_goto 14 rfl (dd_L_protect 6 _ _ _ rfl) ?_
      refine r_lreturn rfl (dd_L_protect 8 _ _ _ rfl) ?_
      exact hq
  | inr E =>
    rcases hq with ⟨rfl, hq⟩ | hq
    · refine ⟨15, ⟨[], ⟨0, 14, 15, 36⟩, [], rfl, rfl, rfl, by decide, (tb_2 238 _ rfl), (tb_3 9 _ rfl), (fun _ hz => nomatch hz)⟩, fun q9 => ?_⟩
      refine r_astore_3 16 rfl (Nat.le_of_ble_eq_true rfl) rfl (dd_L_protect 9 _ _ _ rfl) ?_
      refine r_ldc2 hg (tb_2 212 _ rfl) 19 rfl (dd_L_protect 10 _ _ _ rfl) ?_
      refine r_topl zNine rfl ?_
      refine r_lreturn rfl (dd_L_protect 11 _ _ _ rfl) ?_
      exact hq
    · exact absurd hq id
theorem w_tell {g : zGT} {Q : zO → zH → Prop} {h : zH} (hg : zG g) (hnx : zNX g) {x : Nat} (hk : kd_ h x = 15) {v0 v1 v2 v3 : Int} (hX : ∀ Q1 : zO → zH → Prop, (∀ r h1, zWi [nIOE, nIAE, nISE] Q r h1 → Q1 r h1) → zC g (.code yX11_tell cX11_tell 6 (Option.some Jvm.ClassFile.FieldType.int)) yX11_tell 18 12 200 [.ref x, .int (zI v0), .int (zI v1), .int (zI v2), .int (zI v3)] h Q1) : zC g (.codeWith yL_tell cL_tell 6 (Option.some Jvm.ClassFile.FieldType.long) [(0, 10, 11, 36), (0, 10, 17, 22), (0, 10, 23, 14)]) yL_tell 19 12 200 [.ref x, .int (zI v0), .int (zI v1), .int (zI v2), .int (zI v3)] h Q := by
  refine zC_ofH (M := (RL, cL_tell, 6, (Option.some Jvm.ClassFile.FieldType.long), tableOf [(0, 10, 11, 36), (0, 10, 17, 22), (0, 10, 23, 14)], "tell", 19)) (hh := [(0, 10, 11, 36), (0, 10, 17, 22), (0, 10, 23, 14)]) (lv := [some (.ref x), some (.int (zI v0)), some (.int (zI v1)), some (.int (zI v2)), some (.int (zI v3)), none]) hg (tb_3 24 _ rfl) (by decide) rfl rfl (Nat.le_of_ble_eq_true rfl) rfl rfl ?_
  refine r_aload_0 1 rfl (dd_L_tell 0 _ _ _ rfl) ?_
  refine r_iload_1 2 rfl (dd_L_tell 1 _ _ _ rfl) ?_
  refine r_iload_2 3 rfl (dd_L_tell 2 _ _ _ rfl) ?_
  refine r_iload_3 4 rfl (dd_L_tell 3 _ _ _ rfl) ?_
  refine r_iload_4 6 rfl (dd_L_tell 4 _ _ _ rfl) ?_
  refine r_callVH (lvl := 18) (mc1 := 12) (ms1 := 200) (As := [.int (zI v0), .int (zI v1), .int (zI v2), .int (zI v3)]) 0 0 hg md_X11_tell zc_X11 hk wi_X11_tell wv_X11_tell (tb_3 25 _ rfl) (by decide) (by decide) rfl (Nat.le_of_ble_eq_true rfl) (Nat.le_of_ble_eq_true rfl) (Nat.le_of_ble_eq_true rfl) rfl 9 rfl (dd_L_tell 5 _ _ _ rfl) ?_
  refine hX _ (fun r h1 hq => ?_)
  cases r with
  | inl r =>
    obtain ⟨a, rfl, ha, hq⟩ := hq
    dsimp only [zContH, Option.toList, List.cons_append, List.nil_append]
    refine r_i2l ha 10 rfl (dd_L_tell 6 _ _ _ rfl) ?_
    refine r_lreturn rfl (dd_L_tell 7 _ _ _ rfl) ?_
    exact hq
  | inr E =>
    rcases hq with ⟨rfl, hq⟩ | ⟨rfl, hq⟩ | ⟨rfl, hq⟩ | hq
    · refine ⟨11, ⟨[], ⟨0, 10, 11, 36⟩, [⟨0, 10, 17, 22⟩, ⟨0, 10, 23, 14⟩], rfl, rfl, rfl, by decide, (tb_2 238 _ rfl), (tb_3 9 _ rfl), (fun _ hz => nomatch hz)⟩, fun q9 => ?_⟩
      refine r_astore_5 13 rfl (Nat.le_of_ble_eq_true rfl) rfl (dd_L_tell 8 _ _ _ rfl) ?_
      refine r_ldc2 hg (tb_2 212 _ rfl) 16 rfl (dd_L_tell 9 _ _ _ rfl) ?_
      refine r_topl zNine rfl ?_
      refine r_lreturn rfl (dd_L_tell 10 _ _ _ rfl) ?_
      exact hq
    · refine ⟨17, ⟨[⟨0, 10, 11, 36⟩], ⟨0, 10, 17, 22⟩, [⟨0, 10, 23, 14⟩], rfl, rfl, rfl, by decide, (tb_1 165 _ rfl), (tb_1 182 _ rfl), List.forall_mem_cons.mpr ⟨⟨by decide, nIOE, (tb_2 238 _ rfl), hnx.2.2.1⟩, (fun _ hz => nomatch hz)⟩⟩, fun q9 => ?_⟩
      refine r_astore_5 19 rfl (Nat.le_of_ble_eq_true rfl) rfl (dd_L_tell 11 _ _ _ rfl) ?_
      refine r_ldc2 hg (tb_2 212 _ rfl) 22 rfl (dd_L_tell 12 _ _ _ rfl) ?_
      refine r_topl zNine rfl ?_
      refine r_lreturn rfl (dd_L_tell 13 _ _ _ rfl) ?_
      exact hq
    · refine ⟨23, ⟨[⟨0, 10, 11, 36⟩, ⟨0, 10, 17, 22⟩], ⟨0, 10, 23, 14⟩, [], rfl, rfl, rfl, by decide, (tb_1 166 _ rfl), (tb_2 29 _ rfl), List.forall_mem_cons.mpr ⟨⟨by decide, nIOE, (tb_2 238 _ rfl), hnx.2.1⟩, List.forall_mem_cons.mpr ⟨⟨by decide, nIAE, (tb_1 165 _ rfl), hnx.1⟩, (fun _ hz => nomatch hz)⟩⟩⟩, fun q9 => ?_⟩
      refine r_astore_5 25 rfl (Nat.le_of_ble_eq_true rfl) rfl (dd_L_tell 14 _ _ _ rfl) ?_
      refine r_ldc2 hg (tb_2 212 _ rfl) 28 rfl (dd_L_tell 15 _ _ _ rfl) ?_
      refine r_topl zNine rfl ?_
      refine r_lreturn rfl (dd_L_tell 16 _ _ _ rfl) ?_
      exact hq
    · exact absurd hq id
theorem w_on {g : zGT} {Q : zO → zH → Prop} {h : zH} (hg : zG g) (hnx : zNX g) {x : Nat} (hk : kd_ h x = 15) {v0 v1 v2 : Int} (hX : ∀ Q1 : zO → zH → Prop, (∀ r h1, zWi [nIOE, nIAE] Q r h1 → Q1 r h1) → zC g (.code yX11_on cX11_on 5 (Option.some Jvm.ClassFile.FieldType.int)) yX11_on 15 4 40 [.ref x, .int (zI v0), .int (zI v1), .int (zI v2)] h Q1) : zC g (.codeWith yL_on cL_on 5 (Option.some Jvm.ClassFile.FieldType.long) [(0, 8, 9, 36), (0, 8, 15, 22)]) yL_on 16 4 40 [.ref x, .int (zI v0), .int (zI v1), .int (zI v2)] h Q := by
  refine zC_ofH (M := (RL, cL_on, 5, (Option.some Jvm.ClassFile.FieldType.long), tableOf [(0, 8, 9, 36), (0, 8, 15, 22)], "on", 16)) (hh := [(0, 8, 9, 36), (0, 8, 15, 22)]) (lv := [some (.ref x), some (.int (zI v0)), some (.int (zI v1)), some (.int (zI v2)), none]) hg (tb_6 34 _ rfl) (by decide) rfl rfl (Nat.le_of_ble_eq_true rfl) rfl rfl ?_
  refine r_aload_0 1 rfl (dd_L_on 0 _ _ _ rfl) ?_
  refine r_iload_1 2 rfl (dd_L_on 1 _ _ _ rfl) ?_
  refine r_iload_2 3 rfl (dd_L_on 2 _ _ _ rfl) ?_
  refine r_iload_3 4 rfl (dd_L_on 3 _ _ _ rfl) ?_
  refine r_callVH (lvl := 15) (mc1 := 4) (ms1 := 40) (As := [.int (zI v0), .int (zI v1), .int (zI v2)]) 0 0 hg md_X11_on zc_X11 hk wi_X11_on wv_X11_on (tb_6 35 _ rfl) (by decide) (by decide) rfl (Nat.le_of_ble_eq_true rfl) (Nat.le_of_ble_eq_true rfl) (Nat.le_of_ble_eq_true rfl) rfl 7 rfl (dd_L_on 4 _ _ _ rfl) ?_
  refine hX _ (fun r h1 hq => ?_)
  cases r with
  | inl r =>
    obtain ⟨a, rfl, ha, hq⟩ := hq
    dsimp only [zContH, Option.toList, List.cons_append, List.nil_append]
    refine r_i2l ha 8 rfl (dd_L_on 5 _ _ _ rfl) ?_
    refine r_lreturn rfl (dd_L_on 6 _ _ _ rfl) ?_
    exact hq
  | inr E =>
    rcases hq with ⟨rfl, hq⟩ | ⟨rfl, hq⟩ | hq
    · refine ⟨9, ⟨[], ⟨0, 8, 9, 36⟩, [⟨0, 8, 15, 22⟩], rfl, rfl, rfl, by decide, (tb_2 238 _ rfl), (tb_3 9 _ rfl), (fun _ hz => nomatch hz)⟩, fun q9 => ?_⟩
      refine r_astore_4 11 rfl (Nat.le_of_ble_eq_true rfl) rfl (dd_L_on 7 _ _ _ rfl) ?_
      refine r_ldc2 hg (tb_2 212 _ rfl) 14 rfl (dd_L_on 8 _ _ _ rfl) ?_
      refine r_topl zNine rfl ?_
      refine r_lreturn rfl (dd_L_on 9 _ _ _ rfl) ?_
      exact hq
    · refine ⟨15, ⟨[⟨0, 8, 9, 36⟩], ⟨0, 8, 15, 22⟩, [], rfl, rfl, rfl, by decide, (tb_1 165 _ rfl), (tb_1 182 _ rfl), List.forall_mem_cons.mpr ⟨⟨by decide, nIOE, (tb_2 238 _ rfl), hnx.2.2.1⟩, (fun _ hz => nomatch hz)⟩⟩, fun q9 => ?_⟩
      refine r_astore_4 17 rfl (Nat.le_of_ble_eq_true rfl) rfl (dd_L_on 10 _ _ _ rfl) ?_
      refine r_ldc2 hg (tb_2 212 _ rfl) 20 rfl (dd_L_on 11 _ _ _ rfl) ?_
      refine r_topl zNine rfl ?_
      refine r_lreturn rfl (dd_L_on 12 _ _ _ rfl) ?_
      exact hq
    · exact absurd hq id
theorem w_bar {g : zGT} {Q : zO → zH → Prop} {h : zH} (hg : zG g) (hnx : zNX g) {x : Nat} (hk : kd_ h x = 15) {v0 v1 v2 : Int} (hX : ∀ Q1 : zO → zH → Prop, (∀ r h1, zWz [nIAE] Q r h1 → Q1 r h1) → zC g (.code yX11_bar cX11_bar 4 (Option.some Jvm.ClassFile.FieldType.boolean)) yX11_bar 14 4 40 [.ref x, .int (zI v0), .int (zI v1), .int (zI v2)] h Q1) : zC g (.codeWith yL_bar cL_bar 5 (Option.some Jvm.ClassFile.FieldType.long) [(0, 15, 16, 22)]) yL_bar 15 4 40 [.ref x, .int (zI v0), .int (zI v1), .int (zI v2)] h Q := by
  refine zC_ofH (M := (RL, cL_bar, 5, (Option.some Jvm.ClassFile.FieldType.long), tableOf [(0, 15, 16, 22)], "bar", 15)) (hh := [(0, 15, 16, 22)]) (lv := [some (.ref x), some (.int (zI v0)), some (.int (zI v1)), some (.int (zI v2)), none]) hg (tb_4 113 _ rfl) (by decide) rfl rfl (Nat.le_of_ble_eq_true rfl) rfl rfl ?_
  refine r_aload_0 1 rfl (dd_L_bar 0 _ _ _ rfl) ?_
  refine r_iload_1 2 rfl (dd_L_bar 1 _ _ _ rfl) ?_
  refine r_iload_2 3 rfl (dd_L_bar 2 _ _ _ rfl) ?_
  refine r_iload_3 4 rfl (dd_L_bar 3 _ _ _ rfl) ?_
  refine r_callVH (lvl := 14) (mc1 := 4) (ms1 := 40) (As := [.int (zI v0), .int (zI v1), .int (zI v2)]) 0 0 hg md_X11_bar zc_X11 hk wi_X11_bar wv_X11_bar (tb_4 114 _ rfl) (by decide) (by decide) rfl (Nat.le_of_ble_eq_true rfl) (Nat.le_of_ble_eq_true rfl) (Nat.le_of_ble_eq_true rfl) rfl 7 rfl (dd_L_bar 4 _ _ _ rfl) ?_
  refine hX _ (fun r h1 hq => ?_)
  cases r with
  | inl r =>
    obtain ⟨a, rfl, hz, hq⟩ := hq
    dsimp only [zContH, Option.toList, List.cons_append, List.nil_append]
    refine r_ifeq (by rcases hz with hz | hz <;> (subst hz; decide)) 10 rfl 14 rfl (dd_L_bar 5 _ _ _ rfl) (fun hc => ?_) (fun hc => ?_)
    · subst hc
      refine r_lconst0 15 rfl (dd_L_bar 8 _ _ _ rfl) ?_
      refine r_lreturn rfl (dd_L_bar 9 _ _ _ rfl) ?_
      exact hq
    · obtain rfl : a = 1 := by omega
      refine r_lconst1 11 rfl (dd_L_bar 6 _ _ _ rfl) ?_
      refine r_goto 15 rfl (dd_L_bar 7 _ _ _ rfl) ?_
      refine r_lreturn rfl (dd_L_bar 9 _ _ _ rfl) ?_
      exact hq
  | inr E =>
    rcases hq with ⟨rfl, hq⟩ | hq
    · refine ⟨16, ⟨[], ⟨0, 15, 16, 22⟩, [], rfl, rfl, rfl, by decide, (tb_1 165 _ rfl), (tb_1 182 _ rfl), (fun _ hz => nomatch hz)⟩, fun q9 => ?_⟩
      refine r_astore_4 18 rfl (Nat.le_of_ble_eq_true rfl) rfl (dd_L_bar 10 _ _ _ rfl) ?_
      refine r_ldc2 hg (tb_2 212 _ rfl) 21 rfl (dd_L_bar 11 _ _ _ rfl) ?_
      refine r_topl zNine rfl ?_
      refine r_lreturn rfl (dd_L_bar 12 _ _ _ rfl) ?_
      exact hq
    · exact absurd hq id
theorem w_allot {g : zGT} {Q : zO → zH → Prop} {h : zH} (hg : zG g) (hnx : zNX g) {x : Nat} (hk : kd_ h x = 15) {v0 : Int} (hX : ∀ Q1 : zO → zH → Prop, (∀ r h1, zWi [nIOE, nISE] Q r h1 → Q1 r h1) → zC g (.code yX11_allot cX11_allot 4 (Option.some Jvm.ClassFile.FieldType.int)) yX11_allot 15 8 4300 [.ref x, .int (zI v0)] h Q1) : zC g (.codeWith yL_allot cL_allot 3 (Option.some Jvm.ClassFile.FieldType.long) [(0, 6, 7, 36), (0, 6, 12, 14)]) yL_allot 16 8 4300 [.ref x, .int (zI v0)] h Q := by
  refine zC_ofH (M := (RL, cL_allot, 3, (Option.some Jvm.ClassFile.FieldType.long), tableOf [(0, 6, 7, 36), (0, 6, 12, 14)], "allot", 16)) (hh := [(0, 6, 7, 36), (0, 6, 12, 14)]) (lv := [some (.ref x), some (.int (zI v0)), none]) hg (tb_4 127 _ rfl) (by decide) rfl rfl (Nat.le_of_ble_eq_true rfl) rfl rfl ?_
  refine r_aload_0 1 rfl (dd_L_allot 0 _ _ _ rfl) ?_
  refine r_iload_1 2 rfl (dd_L_allot 1 _ _ _ rfl) ?_
  refine r_callVH (lvl := 15) (mc1 := 8) (ms1 := 4300) (As := [.int (zI v0)]) 0 0 hg md_X11_allot zc_X11 hk wi_X11_allot wv_X11_allot (tb_4 128 _ rfl) (by decide) (by decide) rfl (Nat.le_of_ble_eq_true rfl) (Nat.le_of_ble_eq_true rfl) (Nat.le_of_ble_eq_true rfl) rfl 5 rfl (dd_L_allot 2 _ _ _ rfl) ?_
  refine hX _ (fun r h1 hq => ?_)
  cases r with
  | inl r =>
    obtain ⟨a, rfl, ha, hq⟩ := hq
    dsimp only [zContH, Option.toList, List.cons_append, List.nil_append]
    refine r_i2l ha 6 rfl (dd_L_allot 3 _ _ _ rfl) ?_
    refine r_lreturn rfl (dd_L_allot 4 _ _ _ rfl) ?_
    exact hq
  | inr E =>
    rcases hq with ⟨rfl, hq⟩ | ⟨rfl, hq⟩ | hq
    · refine ⟨7, ⟨[], ⟨0, 6, 7, 36⟩, [⟨0, 6, 12, 14⟩], rfl, rfl, rfl, by decide, (tb_2 238 _ rfl), (tb_3 9 _ rfl), (fun _ hz => nomatch hz)⟩, fun q9 => ?_⟩
      refine r_astore_2 8 rfl (Nat.le_of_ble_eq_true rfl) rfl (dd_L_allot 5 _ _ _ rfl) ?_
      refine r_ldc2 hg (tb_2 212 _ rfl) 11 rfl (dd_L_allot 6 _ _ _ rfl) ?_
      refine r_topl zNine rfl ?_
      refine r_lreturn rfl (dd_L_allot 7 _ _ _ rfl) ?_
      exact hq
    · refine ⟨12, ⟨[⟨0, 6, 7, 36⟩], ⟨0, 6, 12, 14⟩, [], rfl, rfl, rfl, by decide, (tb_1 166 _ rfl), (tb_2 29 _ rfl), List.forall_mem_cons.mpr ⟨⟨by decide, nIOE, (tb_2 238 _ rfl), hnx.2.1⟩, (fun _ hz => nomatch hz)⟩⟩, fun q9 => ?_⟩
      refine r_astore_2 13 rfl (Nat.le_of_ble_eq_true rfl) rfl (dd_L_allot 8 _ _ _ rfl) ?_
      refine r_ldc2 hg (tb_2 212 _ rfl) 16 rfl (dd_L_allot 9 _ _ _ rfl) ?_
      refine r_topl zNine rfl ?_
      refine r_lreturn rfl (dd_L_allot 10 _ _ _ rfl) ?_
      exact hq
    · exact absurd hq id
theorem w_wish {g : zGT} {Q : zO → zH → Prop} {h : zH} (hg : zG g) (hnx : zNX g) {x : Nat} (hk : kd_ h x = 15) {v0 : Int} (hX : ∀ Q1 : zO → zH → Prop, (∀ r h1, zWi [nIOE, nISE] Q r h1 → Q1 r h1) → zC g (.code yX11_wish cX11_wish 4 (Option.some Jvm.ClassFile.FieldType.int)) yX11_wish 15 8 4300 [.ref x, .int (zI v0)] h Q1) : zC g (.codeWith yL_wish cL_wish 3 (Option.some Jvm.ClassFile.FieldType.long) [(0, 6, 7, 36), (0, 6, 12, 14)]) yL_wish 16 8 4300 [.ref x, .int (zI v0)] h Q := by
  refine zC_ofH (M := (RL, cL_wish, 3, (Option.some Jvm.ClassFile.FieldType.long), tableOf [(0, 6, 7, 36), (0, 6, 12, 14)], "wish", 16)) (hh := [(0, 6, 7, 36), (0, 6, 12, 14)]) (lv := [some (.ref x), some (.int (zI v0)), none]) hg (tb_4 202 _ rfl) (by decide) rfl rfl (Nat.le_of_ble_eq_true rfl) rfl rfl ?_
  refine r_aload_0 1 rfl (dd_L_wish 0 _ _ _ rfl) ?_
  refine r_iload_1 2 rfl (dd_L_wish 1 _ _ _ rfl) ?_
  refine r_callVH (lvl := 15) (mc1 := 8) (ms1 := 4300) (As := [.int (zI v0)]) 0 0 hg md_X11_wish zc_X11 hk wi_X11_wish wv_X11_wish (tb_4 203 _ rfl) (by decide) (by decide) rfl (Nat.le_of_ble_eq_true rfl) (Nat.le_of_ble_eq_true rfl) (Nat.le_of_ble_eq_true rfl) rfl 5 rfl (dd_L_wish 2 _ _ _ rfl) ?_
  refine hX _ (fun r h1 hq => ?_)
  cases r with
  | inl r =>
    obtain ⟨a, rfl, ha, hq⟩ := hq
    dsimp only [zContH, Option.toList, List.cons_append, List.nil_append]
    refine r_i2l ha 6 rfl (dd_L_wish 3 _ _ _ rfl) ?_
    refine r_lreturn rfl (dd_L_wish 4 _ _ _ rfl) ?_
    exact hq
  | inr E =>
    rcases hq with ⟨rfl, hq⟩ | ⟨rfl, hq⟩ | hq
    · refine ⟨7, ⟨[], ⟨0, 6, 7, 36⟩, [⟨0, 6, 12, 14⟩], rfl, rfl, rfl, by decide, (tb_2 238 _ rfl), (tb_3 9 _ rfl), (fun _ hz => nomatch hz)⟩, fun q9 => ?_⟩
      refine r_astore_2 8 rfl (Nat.le_of_ble_eq_true rfl) rfl (dd_L_wish 5 _ _ _ rfl) ?_
      refine r_ldc2 hg (tb_2 212 _ rfl) 11 rfl (dd_L_wish 6 _ _ _ rfl) ?_
      refine r_topl zNine rfl ?_
      refine r_lreturn rfl (dd_L_wish 7 _ _ _ rfl) ?_
      exact hq
    · refine ⟨12, ⟨[⟨0, 6, 7, 36⟩], ⟨0, 6, 12, 14⟩, [], rfl, rfl, rfl, by decide, (tb_1 166 _ rfl), (tb_2 29 _ rfl), List.forall_mem_cons.mpr ⟨⟨by decide, nIOE, (tb_2 238 _ rfl), hnx.2.1⟩, (fun _ hz => nomatch hz)⟩⟩, fun q9 => ?_⟩
      refine r_astore_2 13 rfl (Nat.le_of_ble_eq_true rfl) rfl (dd_L_wish 8 _ _ _ rfl) ?_
      refine r_ldc2 hg (tb_2 212 _ rfl) 16 rfl (dd_L_wish 9 _ _ _ rfl) ?_
      refine r_topl zNine rfl ?_
      refine r_lreturn rfl (dd_L_wish 10 _ _ _ rfl) ?_
      exact hq
    · exact absurd hq id
theorem w_plate {g : zGT} {Q : zO → zH → Prop} {h : zH} (hg : zG g) (hnx : zNX g) {x : Nat} (hk : kd_ h x = 15) {v0 v1 v2 : Int} (hX : ∀ Q1 : zO → zH → Prop, (∀ r h1, zWi [nIOE, nIAE] Q r h1 → Q1 r h1) → zC g (.code yX11_plate cX11_plate 6 (Option.some Jvm.ClassFile.FieldType.char)) yX11_plate 15 4 40 [.ref x, .int (zI v0), .int (zI v1), .int (zI v2)] h Q1) : zC g (.codeWith yL_plate cL_plate 5 (Option.some Jvm.ClassFile.FieldType.long) [(0, 8, 9, 36), (0, 8, 15, 22)]) yL_plate 16 4 40 [.ref x, .int (zI v0), .int (zI v1), .int (zI v2)] h Q := by
  refine zC_ofH (M := (RL, cL_plate, 5, (Option.some Jvm.ClassFile.FieldType.long), tableOf [(0, 8, 9, 36), (0, 8, 15, 22)], "plate", 16)) (hh := [(0, 8, 9, 36), (0, 8, 15, 22)]) (lv := [some (.ref x), some (.int (zI v0)), some (.int (zI v1)), some (.int (zI v2)), none]) hg (tb_4 224 _ rfl) (by decide) rfl rfl (Nat.le_of_ble_eq_true rfl) rfl rfl ?_
  refine r_aload_0 1 rfl (dd_L_plate 0 _ _ _ rfl) ?_
  refine r_iload_1 2 rfl (dd_L_plate 1 _ _ _ rfl) ?_
  refine r_iload_2 3 rfl (dd_L_plate 2 _ _ _ rfl) ?_
  refine r_iload_3 4 rfl (dd_L_plate 3 _ _ _ rfl) ?_
  refine r_callVH (lvl := 15) (mc1 := 4) (ms1 := 40) (As := [.int (zI v0), .int (zI v1), .int (zI v2)]) 0 0 hg md_X11_plate zc_X11 hk wi_X11_plate wv_X11_plate (tb_4 225 _ rfl) (by decide) (by decide) rfl (Nat.le_of_ble_eq_true rfl) (Nat.le_of_ble_eq_true rfl) (Nat.le_of_ble_eq_true rfl) rfl 7 rfl (dd_L_plate 4 _ _ _ rfl) ?_
  refine hX _ (fun r h1 hq => ?_)
  cases r with
  | inl r =>
    obtain ⟨a, rfl, ha, hq⟩ := hq
    dsimp only [zContH, Option.toList, List.cons_append, List.nil_append]
    refine r_i2l ha 8 rfl (dd_L_plate 5 _ _ _ rfl) ?_
    refine r_lreturn rfl (dd_L_plate 6 _ _ _ rfl) ?_
    exact hq
  | inr E =>
    rcases hq with ⟨rfl, hq⟩ | ⟨rfl, hq⟩ | hq
    · refine ⟨9, ⟨[], ⟨0, 8, 9, 36⟩, [⟨0, 8, 15, 22⟩], rfl, rfl, rfl, by decide, (tb_2 238 _ rfl), (tb_3 9 _ rfl), (fun _ hz => nomatch hz)⟩, fun q9 => ?_⟩
      refine r_astore_4 11 rfl (Nat.le_of_ble_eq_true rfl) rfl (dd_L_plate 7 _ _ _ rfl) ?_
      refine r_ldc2 hg (tb_2 212 _ rfl) 14 rfl (dd_L_plate 8 _ _ _ rfl) ?_
      refine r_topl zNine rfl ?_
      refine r_lreturn rfl (dd_L_plate 9 _ _ _ rfl) ?_
      exact hq
    · refine ⟨15, ⟨[⟨0, 8, 9, 36⟩], ⟨0, 8, 15, 22⟩, [], rfl, rfl, rfl, by decide, (tb_1 165 _ rfl), (tb_1 182 _ rfl), List.forall_mem_cons.mpr ⟨⟨by decide, nIOE, (tb_2 238 _ rfl), hnx.2.2.1⟩, (fun _ hz => nomatch hz)⟩⟩, fun q9 => ?_⟩
      refine r_astore_4 17 rfl (Nat.le_of_ble_eq_true rfl) rfl (dd_L_plate 10 _ _ _ rfl) ?_
      refine r_ldc2 hg (tb_2 212 _ rfl) 20 rfl (dd_L_plate 11 _ _ _ rfl) ?_
      refine r_topl zNine rfl ?_
      refine r_lreturn rfl (dd_L_plate 12 _ _ _ rfl) ?_
      exact hq
    · exact absurd hq id
theorem w_rate {g : zGT} {Q : zO → zH → Prop} {h : zH} (hg : zG g) (hnx : zNX g) {x : Nat} (hk : kd_ h x = 15) {v0 v1 v2 : Int} (hX : ∀ Q1 : zO → zH → Prop, (∀ r h1, zWi [nIAE, nISE] Q r h1 → Q1 r h1) → zC g (.code yX11_rate cX11_rate 4 (Option.some Jvm.ClassFile.FieldType.int)) yX11_rate 15 6 4300 [.ref x, .int (zI v0), .int (zI v1), .int (zI v2)] h Q1) : zC g (.codeWith yL_rate cL_rate 5 (Option.some Jvm.ClassFile.FieldType.long) [(0, 8, 9, 22), (0, 8, 15, 14)]) yL_rate 16 6 4300 [.ref x, .int (zI v0), .int (zI v1), .int (zI v2)] h Q := by
  refine zC_ofH (M := (RL, cL_rate, 5, (Option.some Jvm.ClassFile.FieldType.long), tableOf [(0, 8, 9, 22), (0, 8, 15, 14)], "rate", 16)) (hh := [(0, 8, 9, 22), (0, 8, 15, 14)]) (lv := [some (.ref x), some (.int (zI v0)), some (.int (zI v1)), some (.int (zI v2)), none]) hg (tb_4 238 _ rfl) (by decide) rfl rfl (Nat.le_of_ble_eq_true rfl) rfl rfl ?_
  refine r_aload_0 1 rfl (dd_L_rate 0 _ _ _ rfl) ?_
  refine r_iload_1 2 rfl (dd_L_rate 1 _ _ _ rfl) ?_
  refine r_iload_2 3 rfl (dd_L_rate 2 _ _ _ rfl) ?_
  refine r_iload_3 4 rfl (dd_L_rate 3 _ _ _ rfl) ?_
  refine r_callVH (lvl := 15) (mc1 := 6) (ms1 := 4300) (As := [.int (zI v0), .int (zI v1), .int (zI v2)]) 0 0 hg md_X11_rate zc_X11 hk wi_X11_rate wv_X11_rate (tb_4 239 _ rfl) (by decide) (by decide) rfl (Nat.le_of_ble_eq_true rfl) (Nat.le_of_ble_eq_true rfl) (Nat.le_of_ble_eq_true rfl) rfl 7 rfl (dd_L_rate 4 _ _ _ rfl) ?_
  refine hX _ (fun r h1 hq => ?_)
  cases r with
  | inl r =>
    obtain ⟨a, rfl, ha, hq⟩ := hq
    dsimp only [zContH, Option.toList, List.cons_append, List.nil_append]
    refine r_i2l ha 8 rfl (dd_L_rate 5 _ _ _ rfl) ?_
    refine r_lreturn rfl (dd_L_rate 6 _ _ _ rfl) ?_
    exact hq
  | inr E =>
    rcases hq with ⟨rfl, hq⟩ | ⟨rfl, hq⟩ | hq
    · refine ⟨9, ⟨[], ⟨0, 8, 9, 22⟩, [⟨0, 8, 15, 14⟩], rfl, rfl, rfl, by decide, (tb_1 165 _ rfl), (tb_1 182 _ rfl), (fun _ hz => nomatch hz)⟩, fun q9 => ?_⟩
      refine r_astore_4 11 rfl (Nat.le_of_ble_eq_true rfl) rfl (dd_L_rate 7 _ _ _ rfl) ?_
      refine r_ldc2 hg (tb_2 212 _ rfl) 14 rfl (dd_L_rate 8 _ _ _ rfl) ?_
      refine r_topl zNine rfl ?_
      refine r_lreturn rfl (dd_L_rate 9 _ _ _ rfl) ?_
      exact hq
    · refine ⟨15, ⟨[⟨0, 8, 9, 22⟩], ⟨0, 8, 15, 14⟩, [], rfl, rfl, rfl, by decide, (tb_1 166 _ rfl), (tb_2 29 _ rfl), List.forall_mem_cons.mpr ⟨⟨by decide, nIAE, (tb_1 165 _ rfl), hnx.1⟩, (fun _ hz => nomatch hz)⟩⟩, fun q9 => ?_⟩
      refine r_astore_4 17 rfl (Nat.le_of_ble_eq_true rfl) rfl (dd_L_rate 10 _ _ _ rfl) ?_
      refine r_ldc2 hg (tb_2 212 _ rfl) 20 rfl (dd_L_rate 11 _ _ _ rfl) ?_
      refine r_topl zNine rfl ?_
      refine r_lreturn rfl (dd_L_rate 12 _ _ _ rfl) ?_
      exact hq
    · exact absurd hq id
theorem w_pay {g : zGT} {Q : zO → zH → Prop} {h : zH} (hg : zG g) (hnx : zNX g) {x : Nat} (hk : kd_ h x = 15) {v0 v1 : Int} (hX : ∀ Q1 : zO → zH → Prop, (∀ r h1, zWl [nIOE, nIAE] Q r h1 → Q1 r h1) → zC g (.code yX11_pay cX11_pay 4 (Option.some Jvm.ClassFile.FieldType.long)) yX11_pay 17 4 40 [.ref x, .int (zI v0), .int (zI v1)] h Q1) : zC g (.codeWith yL_pay cL_pay 4 (Option.some Jvm.ClassFile.FieldType.long) [(0, 6, 7, 36), (0, 6, 12, 22)]) yL_pay 18 4 40 [.ref x, .int (zI v0), .int (zI v1)] h Q := by
  refine zC_ofH (M := (RL, cL_pay, 4, (Option.some Jvm.ClassFile.FieldType.long), tableOf [(0, 6, 7, 36), (0, 6, 12, 22)], "pay", 18)) (hh := [(0, 6, 7, 36), (0, 6, 12, 22)]) (lv := [some (.ref x), some (.int (zI v0)), some (.int (zI v1)), none]) hg (tb_5 6 _ rfl) (by decide) rfl rfl (Nat.le_of_ble_eq_true rfl) rfl rfl ?_
  refine r_aload_0 1 rfl (dd_L_pay 0 _ _ _ rfl) ?_
  refine r_iload_1 2 rfl (dd_L_pay 1 _ _ _ rfl) ?_
  refine r_iload_2 3 rfl (dd_L_pay 2 _ _ _ rfl) ?_
  refine r_callVH (lvl := 17) (mc1 := 4) (ms1 := 40) (As := [.int (zI v0), .int (zI v1)]) 0 0 hg md_X11_pay zc_X11 hk wi_X11_pay wv_X11_pay (tb_5 7 _ rfl) (by decide) (by decide) rfl (Nat.le_of_ble_eq_true rfl) (Nat.le_of_ble_eq_true rfl) (Nat.le_of_ble_eq_true rfl) rfl 6 rfl (dd_L_pay 3 _ _ _ rfl) ?_
  refine hX _ (fun r h1 hq => ?_)
  cases r with
  | inl r =>
    obtain ⟨a, rfl, hq⟩ := hq
    dsimp only [zContH, Option.toList, List.cons_append, List.nil_append]
    refine r_lreturn rfl (dd_L_pay 4 _ _ _ rfl) ?_
    exact hq
  | inr E =>
    rcases hq with ⟨rfl, hq⟩ | ⟨rfl, hq⟩ | hq
    · refine ⟨7, ⟨[], ⟨0, 6, 7, 36⟩, [⟨0, 6, 12, 22⟩], rfl, rfl, rfl, by decide, (tb_2 238 _ rfl), (tb_3 9 _ rfl), (fun _ hz => nomatch hz)⟩, fun q9 => ?_⟩
      refine r_astore_3 8 rfl (Nat.le_of_ble_eq_true rfl) rfl (dd_L_pay 5 _ _ _ rfl) ?_
      refine r_ldc2 hg (tb_2 212 _ rfl) 11 rfl (dd_L_pay 6 _ _ _ rfl) ?_
      refine r_topl zNine rfl ?_
      refine r_lreturn rfl (dd_L_pay 7 _ _ _ rfl) ?_
      exact hq
    · refine ⟨12, ⟨[⟨0, 6, 7, 36⟩], ⟨0, 6, 12, 22⟩, [], rfl, rfl, rfl, by decide, (tb_1 165 _ rfl), (tb_1 182 _ rfl), List.forall_mem_cons.mpr ⟨⟨by decide, nIOE, (tb_2 238 _ rfl), hnx.2.2.1⟩, (fun _ hz => nomatch hz)⟩⟩, fun q9 => ?_⟩
      refine r_astore_3 13 rfl (Nat.le_of_ble_eq_true rfl) rfl (dd_L_pay 8 _ _ _ rfl) ?_
      refine r_ldc2 hg (tb_2 212 _ rfl) 16 rfl (dd_L_pay 9 _ _ _ rfl) ?_
      refine r_topl zNine rfl ?_
      refine r_lreturn rfl (dd_L_pay 10 _ _ _ rfl) ?_
      exact hq
    · exact absurd hq id
theorem w_owes {g : zGT} {Q : zO → zH → Prop} {h : zH} (hg : zG g) (hnx : zNX g) {x : Nat} (hk : kd_ h x = 15) {v0 : Int} (hX : ∀ Q1 : zO → zH → Prop, (∀ r h1, zWl [nIOE] Q r h1 → Q1 r h1) → zC g (.code yX11_owes cX11_owes 3 (Option.some Jvm.ClassFile.FieldType.long)) yX11_owes 16 4 40 [.ref x, .int (zI v0)] h Q1) : zC g (.codeWith yL_owes cL_owes 3 (Option.some Jvm.ClassFile.FieldType.long) [(0, 5, 6, 36)]) yL_owes 17 4 40 [.ref x, .int (zI v0)] h Q := by
  refine zC_ofH (M := (RL, cL_owes, 3, (Option.some Jvm.ClassFile.FieldType.long), tableOf [(0, 5, 6, 36)], "owes", 17)) (hh := [(0, 5, 6, 36)]) (lv := [some (.ref x), some (.int (zI v0)), none]) hg (tb_5 30 _ rfl) (by decide) rfl rfl (Nat.le_of_ble_eq_true rfl) rfl rfl ?_
  refine r_aload_0 1 rfl (dd_L_owes 0 _ _ _ rfl) ?_
  refine r_iload_1 2 rfl (dd_L_owes 1 _ _ _ rfl) ?_
  refine r_callVH (lvl := 16) (mc1 := 4) (ms1 := 40) (As := [.int (zI v0)]) 0 0 hg md_X11_owes zc_X11 hk wi_X11_owes wv_X11_owes (tb_5 31 _ rfl) (by decide) (by decide) rfl (Nat.le_of_ble_eq_true rfl) (Nat.le_of_ble_eq_true rfl) (Nat.le_of_ble_eq_true rfl) rfl 5 rfl (dd_L_owes 2 _ _ _ rfl) ?_
  refine hX _ (fun r h1 hq => ?_)
  cases r with
  | inl r =>
    obtain ⟨a, rfl, hq⟩ := hq
    dsimp only [zContH, Option.toList, List.cons_append, List.nil_append]
    refine r_lreturn rfl (dd_L_owes 3 _ _ _ rfl) ?_
    exact hq
  | inr E =>
    rcases hq with ⟨rfl, hq⟩ | hq
    · refine ⟨6, ⟨[], ⟨0, 5, 6, 36⟩, [], rfl, rfl, rfl, by decide, (tb_2 238 _ rfl), (tb_3 9 _ rfl), (fun _ hz => nomatch hz)⟩, fun q9 => ?_⟩
      refine r_astore_2 7 rfl (Nat.le_of_ble_eq_true rfl) rfl (dd_L_owes 4 _ _ _ rfl) ?_
      refine r_ldc2 hg (tb_2 212 _ rfl) 10 rfl (dd_L_owes 5 _ _ _ rfl) ?_
      refine r_topl zNine rfl ?_
      refine r_lreturn rfl (dd_L_owes 6 _ _ _ rfl) ?_
      exact hq
    · exact absurd hq id
theorem w_test {g : zGT} {Q : zO → zH → Prop} {h : zH} (hg : zG g) (hnx : zNX g) {x : Nat} (hk : kd_ h x = 15) {v0 v1 v2 v3 : Int} (hX : ∀ Q1 : zO → zH → Prop, (∀ r h1, zWi [nIOE, nIAE, nISE] Q r h1 → Q1 r h1) → zC g (.code yX11_test cX11_test 6 (Option.some Jvm.ClassFile.FieldType.int)) yX11_test 15 4 40 [.ref x, .int (zI v0), .int (zI v1), .int (zI v2), .int (zI v3)] h Q1) : zC g (.codeWith yL_test cL_test 6 (Option.some Jvm.ClassFile.FieldType.long) [(0, 10, 11, 36), (0, 10, 17, 22), (0, 10, 23, 14)]) yL_test 16 4 40 [.ref x, .int (zI v0), .int (zI v1), .int (zI v2), .int (zI v3)] h Q := by
  refine zC_ofH (M := (RL, cL_test, 6, (Option.some Jvm.ClassFile.FieldType.long), tableOf [(0, 10, 11, 36), (0, 10, 17, 22), (0, 10, 23, 14)], "test", 16)) (hh := [(0, 10, 11, 36), (0, 10, 17, 22), (0, 10, 23, 14)]) (lv := [some (.ref x), some (.int (zI v0)), some (.int (zI v1)), some (.int (zI v2)), some (.int (zI v3)), none]) hg (tb_5 44 _ rfl) (by decide) rfl rfl (Nat.le_of_ble_eq_true rfl) rfl rfl ?_
  refine r_aload_0 1 rfl (dd_L_test 0 _ _ _ rfl) ?_
  refine r_iload_1 2 rfl (dd_L_test 1 _ _ _ rfl) ?_
  refine r_iload_2 3 rfl (dd_L_test 2 _ _ _ rfl) ?_
  refine r_iload_3 4 rfl (dd_L_test 3 _ _ _ rfl) ?_
  refine r_iload_4 6 rfl (dd_L_test 4 _ _ _ rfl) ?_
  refine r_callVH (lvl := 15) (mc1 := 4) (ms1 := 40) (As := [.int (zI v0), .int (zI v1), .int (zI v2), .int (zI v3)]) 0 0 hg md_X11_test zc_X11 hk wi_X11_test wv_X11_test (tb_5 45 _ rfl) (by decide) (by decide) rfl (Nat.le_of_ble_eq_true rfl) (Nat.le_of_ble_eq_true rfl) (Nat.le_of_ble_eq_true rfl) rfl 9 rfl (dd_L_test 5 _ _ _ rfl) ?_
  refine hX _ (fun r h1 hq => ?_)
  cases r with
  | inl r =>
    obtain ⟨a, rfl, ha, hq⟩ := hq
    dsimp only [zContH, Option.toList, List.cons_append, List.nil_append]
    refine r_i2l ha 10 rfl (dd_L_test 6 _ _ _ rfl) ?_
    refine r_lreturn rfl (dd_L_test 7 _ _ _ rfl) ?_
    exact hq
  | inr E =>
    rcases hq with ⟨rfl, hq⟩ | ⟨rfl, hq⟩ | ⟨rfl, hq⟩ | hq
    · refine ⟨11, ⟨[], ⟨0, 10, 11, 36⟩, [⟨0, 10, 17, 22⟩, ⟨0, 10, 23, 14⟩], rfl, rfl, rfl, by decide, (tb_2 238 _ rfl), (tb_3 9 _ rfl), (fun _ hz => nomatch hz)⟩, fun q9 => ?_⟩
      refine r_astore_5 13 rfl (Nat.le_of_ble_eq_true rfl) rfl (dd_L_test 8 _ _ _ rfl) ?_
      refine r_ldc2 hg (tb_2 212 _ rfl) 16 rfl (dd_L_test 9 _ _ _ rfl) ?_
      refine r_topl zNine rfl ?_
      refine r_lreturn rfl (dd_L_test 10 _ _ _ rfl) ?_
      exact hq
    · refine ⟨17, ⟨[⟨0, 10, 11, 36⟩], ⟨0, 10, 17, 22⟩, [⟨0, 10, 23, 14⟩], rfl, rfl, rfl, by decide, (tb_1 165 _ rfl), (tb_1 182 _ rfl), List.forall_mem_cons.mpr ⟨⟨by decide, nIOE, (tb_2 238 _ rfl), hnx.2.2.1⟩, (fun _ hz => nomatch hz)⟩⟩, fun q9 => ?_⟩
      refine r_astore_5 19 rfl (Nat.le_of_ble_eq_true rfl) rfl (dd_L_test 11 _ _ _ rfl) ?_
      refine r_ldc2 hg (tb_2 212 _ rfl) 22 rfl (dd_L_test 12 _ _ _ rfl) ?_
      refine r_topl zNine rfl ?_
      refine r_lreturn rfl (dd_L_test 13 _ _ _ rfl) ?_
      exact hq
    · refine ⟨23, ⟨[⟨0, 10, 11, 36⟩, ⟨0, 10, 17, 22⟩], ⟨0, 10, 23, 14⟩, [], rfl, rfl, rfl, by decide, (tb_1 166 _ rfl), (tb_2 29 _ rfl), List.forall_mem_cons.mpr ⟨⟨by decide, nIOE, (tb_2 238 _ rfl), hnx.2.1⟩, List.forall_mem_cons.mpr ⟨⟨by decide, nIAE, (tb_1 165 _ rfl), hnx.1⟩, (fun _ hz => nomatch hz)⟩⟩⟩, fun q9 => ?_⟩
      refine r_astore_5 25 rfl (Nat.le_of_ble_eq_true rfl) rfl (dd_L_test 14 _ _ _ rfl) ?_
      refine r_ldc2 hg (tb_2 212 _ rfl) 28 rfl (dd_L_test 15 _ _ _ rfl) ?_
      refine r_topl zNine rfl ?_
      refine r_lreturn rfl (dd_L_test 16 _ _ _ rfl) ?_
      exact hq
    · exact absurd hq id
theorem w_insure {g : zGT} {Q : zO → zH → Prop} {h : zH} (hg : zG g) (hnx : zNX g) {x : Nat} (hk : kd_ h x = 15) {v0 v1 : Int} (hX : ∀ Q1 : zO → zH → Prop, (∀ r h1, zWz [nIOE, nIAE] Q r h1 → Q1 r h1) → zC g (.code yX11_insure cX11_insure 5 (Option.some Jvm.ClassFile.FieldType.boolean)) yX11_insure 15 6 4300 [.ref x, .int (zI v0), .int (zI v1)] h Q1) : zC g (.codeWith yL_insure cL_insure 4 (Option.some Jvm.ClassFile.FieldType.long) [(0, 14, 15, 36), (0, 14, 20, 22)]) yL_insure 16 6 4300 [.ref x, .int (zI v0), .int (zI v1)] h Q := by
  refine zC_ofH (M := (RL, cL_insure, 4, (Option.some Jvm.ClassFile.FieldType.long), tableOf [(0, 14, 15, 36), (0, 14, 20, 22)], "insure", 16)) (hh := [(0, 14, 15, 36), (0, 14, 20, 22)]) (lv := [some (.ref x), some (.int (zI v0)), some (.int (zI v1)), none]) hg (tb_5 58 _ rfl) (by decide) rfl rfl (Nat.le_of_ble_eq_true rfl) rfl rfl ?_
  refine r_aload_0 1 rfl (dd_L_insure 0 _ _ _ rfl) ?_
  refine r_iload_1 2 rfl (dd_L_insure 1 _ _ _ rfl) ?_
  refine r_iload_2 3 rfl (dd_L_insure 2 _ _ _ rfl) ?_
  refine r_callVH (lvl := 15) (mc1 := 6) (ms1 := 4300) (As := [.int (zI v0), .int (zI v1)]) 0 0 hg md_X11_insure zc_X11 hk wi_X11_insure wv_X11_insure (tb_5 59 _ rfl) (by decide) (by decide) rfl (Nat.le_of_ble_eq_true rfl) (Nat.le_of_ble_eq_true rfl) (Nat.le_of_ble_eq_true rfl) rfl 6 rfl (dd_L_insure 3 _ _ _ rfl) ?_
  refine hX _ (fun r h1 hq => ?_)
  cases r with
  | inl r =>
    obtain ⟨a, rfl, hz, hq⟩ := hq
    dsimp only [zContH, Option.toList, List.cons_append, List.nil_append]
    refine r_ifeq (by rcases hz with hz | hz <;> (subst hz; decide)) 9 rfl 13 rfl (dd_L_insure 4 _ _ _ rfl) (fun hc => ?_) (fun hc => ?_)
    · subst hc
      refine r_lconst0 14 rfl (dd_L_insure 7 _ _ _ rfl) ?_
      refine r_lreturn rfl (dd_L_insure 8 _ _ _ rfl) ?_
      exact hq
    · obtain rfl : a = 1 := by omega
      refine r_lconst1 10 rfl (dd_L_insure 5 _ _ _ rfl) ?_
      refine r_goto 14 rfl (dd_L_insure 6 _ _ _ rfl) ?_
      refine r_lreturn rfl (dd_L_insure 8 _ _ _ rfl) ?_
      exact hq
  | inr E =>
    rcases hq with ⟨rfl, hq⟩ | ⟨rfl, hq⟩ | hq
    · refine ⟨15, ⟨[], ⟨0, 14, 15, 36⟩, [⟨0, 14, 20, 22⟩], rfl, rfl, rfl, by decide, (tb_2 238 _ rfl), (tb_3 9 _ rfl), (fun _ hz => nomatch hz)⟩, fun q9 => ?_⟩
      refine r_astore_3 16 rfl (Nat.le_of_ble_eq_true rfl) rfl (dd_L_insure 9 _ _ _ rfl) ?_
      refine r_ldc2 hg (tb_2 212 _ rfl) 19 rfl (dd_L_insure 10 _ _ _ rfl) ?_
      refine r_topl zNine rfl ?_
      refine r_lreturn rfl (dd_L_insure 11 _ _ _ rfl) ?_
      exact hq
    · refine ⟨20, ⟨[⟨0, 14, 15, 36⟩], ⟨0, 14, 20, 22⟩, [], rfl, rfl, rfl, by decide, (tb_1 165 _ rfl), (tb_1 182 _ rfl), List.forall_mem_cons.mpr ⟨⟨by decide, nIOE, (tb_2 238 _ rfl), hnx.2.2.1⟩, (fun _ hz => nomatch hz)⟩⟩, fun q9 => ?_⟩
      refine r_astore_3 21 rfl (Nat.le_of_ble_eq_true rfl) rfl (dd_L_insure 12 _ _ _ rfl) ?_
      refine r_ldc2 hg (tb_2 212 _ rfl) 24 rfl (dd_L_insure 13 _ _ _ rfl) ?_
      refine r_topl zNine rfl ?_
      refine r_lreturn rfl (dd_L_insure 14 _ _ _ rfl) ?_
      exact hq
    · exact absurd hq id
theorem w_ofVehicle {g : zGT} {Q : zO → zH → Prop} {h : zH} (hg : zG g) (hnx : zNX g) {x : Nat} (hk : kd_ h x = 15) {v0 v1 : Int} (hX : ∀ Q1 : zO → zH → Prop, (∀ r h1, zWi [nIOE, nIAE] Q r h1 → Q1 r h1) → zC g (.code yX11_ofVehicle cX11_ofVehicle 4 (Option.some Jvm.ClassFile.FieldType.int)) yX11_ofVehicle 17 4 40 [.ref x, .int (zI v0), .int (zI v1)] h Q1) : zC g (.codeWith yL_ofVehicle cL_ofVehicle 4 (Option.some Jvm.ClassFile.FieldType.long) [(0, 7, 8, 36), (0, 7, 13, 22)]) yL_ofVehicle 18 4 40 [.ref x, .int (zI v0), .int (zI v1)] h Q := by
  refine zC_ofH (M := (RL, cL_ofVehicle, 4, (Option.some Jvm.ClassFile.FieldType.long), tableOf [(0, 7, 8, 36), (0, 7, 13, 22)], "ofVehicle", 18)) (hh := [(0, 7, 8, 36), (0, 7, 13, 22)]) (lv := [some (.ref x), some (.int (zI v0)), some (.int (zI v1)), none]) hg (tb_5 65 _ rfl) (by decide) rfl rfl (Nat.le_of_ble_eq_true rfl) rfl rfl ?_
  refine r_aload_0 1 rfl (dd_L_ofVehicle 0 _ _ _ rfl) ?_
  refine r_iload_1 2 rfl (dd_L_ofVehicle 1 _ _ _ rfl) ?_
  refine r_iload_2 3 rfl (dd_L_ofVehicle 2 _ _ _ rfl) ?_
  refine r_callVH (lvl := 17) (mc1 := 4) (ms1 := 40) (As := [.int (zI v0), .int (zI v1)]) 0 0 hg md_X11_ofVehicle zc_X11 hk wi_X11_ofVehicle wv_X11_ofVehicle (tb_5 66 _ rfl) (by decide) (by decide) rfl (Nat.le_of_ble_eq_true rfl) (Nat.le_of_ble_eq_true rfl) (Nat.le_of_ble_eq_true rfl) rfl 6 rfl (dd_L_ofVehicle 3 _ _ _ rfl) ?_
  refine hX _ (fun r h1 hq => ?_)
  cases r with
  | inl r =>
    obtain ⟨a, rfl, ha, hq⟩ := hq
    dsimp only [zContH, Option.toList, List.cons_append, List.nil_append]
    refine r_i2l ha 7 rfl (dd_L_ofVehicle 4 _ _ _ rfl) ?_
    refine r_lreturn rfl (dd_L_ofVehicle 5 _ _ _ rfl) ?_
    exact hq
  | inr E =>
    rcases hq with ⟨rfl, hq⟩ | ⟨rfl, hq⟩ | hq
    · refine ⟨8, ⟨[], ⟨0, 7, 8, 36⟩, [⟨0, 7, 13, 22⟩], rfl, rfl, rfl, by decide, (tb_2 238 _ rfl), (tb_3 9 _ rfl), (fun _ hz => nomatch hz)⟩, fun q9 => ?_⟩
      refine r_astore_3 9 rfl (Nat.le_of_ble_eq_true rfl) rfl (dd_L_ofVehicle 6 _ _ _ rfl) ?_
      refine r_ldc2 hg (tb_2 212 _ rfl) 12 rfl (dd_L_ofVehicle 7 _ _ _ rfl) ?_
      refine r_topl zNine rfl ?_
      refine r_lreturn rfl (dd_L_ofVehicle 8 _ _ _ rfl) ?_
      exact hq
    · refine ⟨13, ⟨[⟨0, 7, 8, 36⟩], ⟨0, 7, 13, 22⟩, [], rfl, rfl, rfl, by decide, (tb_1 165 _ rfl), (tb_1 182 _ rfl), List.forall_mem_cons.mpr ⟨⟨by decide, nIOE, (tb_2 238 _ rfl), hnx.2.2.1⟩, (fun _ hz => nomatch hz)⟩⟩, fun q9 => ?_⟩
      refine r_astore_3 14 rfl (Nat.le_of_ble_eq_true rfl) rfl (dd_L_ofVehicle 9 _ _ _ rfl) ?_
      refine r_ldc2 hg (tb_2 212 _ rfl) 17 rfl (dd_L_ofVehicle 10 _ _ _ rfl) ?_
      refine r_topl zNine rfl ?_
      refine r_lreturn rfl (dd_L_ofVehicle 11 _ _ _ rfl) ?_
      exact hq
    · exact absurd hq id
theorem w_sight {g : zGT} {Q : zO → zH → Prop} {h : zH} (hg : zG g) (hnx : zNX g) {x : Nat} (hk : kd_ h x = 15) {v0 v1 : Int} (hX : ∀ Q1 : zO → zH → Prop, (∀ r h1, zWi [nIAE, nISE] Q r h1 → Q1 r h1) → zC g (.code yX11_sight cX11_sight 4 (Option.some Jvm.ClassFile.FieldType.int)) yX11_sight 18 14 300 [.ref x, .int (zI v0), .int (zI v1)] h Q1) : zC g (.codeWith yL_sight cL_sight 4 (Option.some Jvm.ClassFile.FieldType.long) [(0, 7, 8, 22), (0, 7, 13, 14)]) yL_sight 19 14 300 [.ref x, .int (zI v0), .int (zI v1)] h Q := by
  refine zC_ofH (M := (RL, cL_sight, 4, (Option.some Jvm.ClassFile.FieldType.long), tableOf [(0, 7, 8, 22), (0, 7, 13, 14)], "sight", 19)) (hh := [(0, 7, 8, 22), (0, 7, 13, 14)]) (lv := [some (.ref x), some (.int (zI v0)), some (.int (zI v1)), none]) hg (tb_5 107 _ rfl) (by decide) rfl rfl (Nat.le_of_ble_eq_true rfl) rfl rfl ?_
  refine r_aload_0 1 rfl (dd_L_sight 0 _ _ _ rfl) ?_
  refine r_iload_1 2 rfl (dd_L_sight 1 _ _ _ rfl) ?_
  refine r_iload_2 3 rfl (dd_L_sight 2 _ _ _ rfl) ?_
  refine r_callVH (lvl := 18) (mc1 := 14) (ms1 := 300) (As := [.int (zI v0), .int (zI v1)]) 0 0 hg md_X11_sight zc_X11 hk wi_X11_sight wv_X11_sight (tb_5 108 _ rfl) (by decide) (by decide) rfl (Nat.le_of_ble_eq_true rfl) (Nat.le_of_ble_eq_true rfl) (Nat.le_of_ble_eq_true rfl) rfl 6 rfl (dd_L_sight 3 _ _ _ rfl) ?_
  refine hX _ (fun r h1 hq => ?_)
  cases r with
  | inl r =>
    obtain ⟨a, rfl, ha, hq⟩ := hq
    dsimp only [zContH, Option.toList, List.cons_append, List.nil_append]
    refine r_i2l ha 7 rfl (dd_L_sight 4 _ _ _ rfl) ?_
    refine r_lreturn rfl (dd_L_sight 5 _ _ _ rfl) ?_
    exact hq
  | inr E =>
    rcases hq with ⟨rfl, hq⟩ | ⟨rfl, hq⟩ | hq
    · refine ⟨8, ⟨[], ⟨0, 7, 8, 22⟩, [⟨0, 7, 13, 14⟩], rfl, rfl, rfl, by decide, (tb_1 165 _ rfl), (tb_1 182 _ rfl), (fun _ hz => nomatch hz)⟩, fun q9 => ?_⟩
      refine r_astore_3 9 rfl (Nat.le_of_ble_eq_true rfl) rfl (dd_L_sight 6 _ _ _ rfl) ?_
      refine r_ldc2 hg (tb_2 212 _ rfl) 12 rfl (dd_L_sight 7 _ _ _ rfl) ?_
      refine r_topl zNine rfl ?_
      refine r_lreturn rfl (dd_L_sight 8 _ _ _ rfl) ?_
      exact hq
    · refine ⟨13, ⟨[⟨0, 7, 8, 22⟩], ⟨0, 7, 13, 14⟩, [], rfl, rfl, rfl, by decide, (tb_1 166 _ rfl), (tb_2 29 _ rfl), List.forall_mem_cons.mpr ⟨⟨by decide, nIAE, (tb_1 165 _ rfl), hnx.1⟩, (fun _ hz => nomatch hz)⟩⟩, fun q9 => ?_⟩
      refine r_astore_3 14 rfl (Nat.le_of_ble_eq_true rfl) rfl (dd_L_sight 9 _ _ _ rfl) ?_
      refine r_ldc2 hg (tb_2 212 _ rfl) 17 rfl (dd_L_sight 10 _ _ _ rfl) ?_
      refine r_topl zNine rfl ?_
      refine r_lreturn rfl (dd_L_sight 11 _ _ _ rfl) ?_
      exact hq
    · exact absurd hq id
theorem w_seen {g : zGT} {Q : zO → zH → Prop} {h : zH} (hg : zG g) (hnx : zNX g) {x : Nat} (hk : kd_ h x = 15) {v0 : Int} (hX : ∀ Q1 : zO → zH → Prop, (∀ r h1, zWi [nIOE] Q r h1 → Q1 r h1) → zC g (.code yX11_seen cX11_seen 2 (Option.some Jvm.ClassFile.FieldType.int)) yX11_seen 16 4 40 [.ref x, .int (zI v0)] h Q1) : zC g (.codeWith yL_seen cL_seen 3 (Option.some Jvm.ClassFile.FieldType.long) [(0, 6, 7, 36)]) yL_seen 17 4 40 [.ref x, .int (zI v0)] h Q := by
  refine zC_ofH (M := (RL, cL_seen, 3, (Option.some Jvm.ClassFile.FieldType.long), tableOf [(0, 6, 7, 36)], "seen", 17)) (hh := [(0, 6, 7, 36)]) (lv := [some (.ref x), some (.int (zI v0)), none]) hg (tb_5 145 _ rfl) (by decide) rfl rfl (Nat.le_of_ble_eq_true rfl) rfl rfl ?_
  refine r_aload_0 1 rfl (dd_L_seen 0 _ _ _ rfl) ?_
  refine r_iload_1 2 rfl (dd_L_seen 1 _ _ _ rfl) ?_
  refine r_callVH (lvl := 16) (mc1 := 4) (ms1 := 40) (As := [.int (zI v0)]) 0 0 hg md_X11_seen zc_X11 hk wi_X11_seen wv_X11_seen (tb_5 146 _ rfl) (by decide) (by decide) rfl (Nat.le_of_ble_eq_true rfl) (Nat.le_of_ble_eq_true rfl) (Nat.le_of_ble_eq_true rfl) rfl 5 rfl (dd_L_seen 2 _ _ _ rfl) ?_
  refine hX _ (fun r h1 hq => ?_)
  cases r with
  | inl r =>
    obtain ⟨a, rfl, ha, hq⟩ := hq
    dsimp only [zContH, Option.toList, List.cons_append, List.nil_append]
    refine r_i2l ha 6 rfl (dd_L_seen 3 _ _ _ rfl) ?_
    refine r_lreturn rfl (dd_L_seen 4 _ _ _ rfl) ?_
    exact hq
  | inr E =>
    rcases hq with ⟨rfl, hq⟩ | hq
    · refine ⟨7, ⟨[], ⟨0, 6, 7, 36⟩, [], rfl, rfl, rfl, by decide, (tb_2 238 _ rfl), (tb_3 9 _ rfl), (fun _ hz => nomatch hz)⟩, fun q9 => ?_⟩
      refine r_astore_2 8 rfl (Nat.le_of_ble_eq_true rfl) rfl (dd_L_seen 5 _ _ _ rfl) ?_
      refine r_ldc2 hg (tb_2 212 _ rfl) 11 rfl (dd_L_seen 6 _ _ _ rfl) ?_
      refine r_topl zNine rfl ?_
      refine r_lreturn rfl (dd_L_seen 7 _ _ _ rfl) ?_
      exact hq
    · exact absurd hq id
theorem w_fine {g : zGT} {Q : zO → zH → Prop} {h : zH} (hg : zG g) (hnx : zNX g) {x : Nat} (hk : kd_ h x = 15) {v0 v1 : Int} (hX : ∀ Q1 : zO → zH → Prop, (∀ r h1, zWi [nIOE, nIAE, nISE] Q r h1 → Q1 r h1) → zC g (.code yX11_fine cX11_fine 4 (Option.some Jvm.ClassFile.FieldType.int)) yX11_fine 17 6 150 [.ref x, .int (zI v0), .int (zI v1)] h Q1) : zC g (.codeWith yL_fine cL_fine 4 (Option.some Jvm.ClassFile.FieldType.long) [(0, 7, 8, 36), (0, 7, 13, 22), (0, 7, 18, 14)]) yL_fine 18 6 150 [.ref x, .int (zI v0), .int (zI v1)] h Q := by
  refine zC_ofH (M := (RL, cL_fine, 4, (Option.some Jvm.ClassFile.FieldType.long), tableOf [(0, 7, 8, 36), (0, 7, 13, 22), (0, 7, 18, 14)], "fine", 18)) (hh := [(0, 7, 8, 36), (0, 7, 13, 22), (0, 7, 18, 14)]) (lv := [some (.ref x), some (.int (zI v0)), some (.int (zI v1)), none]) hg (tb_5 156 _ rfl) (by decide) rfl rfl (Nat.le_of_ble_eq_true rfl) rfl rfl ?_
  refine r_aload_0 1 rfl (dd_L_fine 0 _ _ _ rfl) ?_
  refine r_iload_1 2 rfl (dd_L_fine 1 _ _ _ rfl) ?_
  refine r_iload_2 3 rfl (dd_L_fine 2 _ _ _ rfl) ?_
  refine r_callVH (lvl := 17) (mc1 := 6) (ms1 := 150) (As := [.int (zI v0), .int (zI v1)]) 0 0 hg md_X11_fine zc_X11 hk wi_X11_fine wv_X11_fine (tb_5 157 _ rfl) (by decide) (by decide) rfl (Nat.le_of_ble_eq_true rfl) (Nat.le_of_ble_eq_true rfl) (Nat.le_of_ble_eq_true rfl) rfl 6 rfl (dd_L_fine 3 _ _ _ rfl) ?_
  refine hX _ (fun r h1 hq => ?_)
  cases r with
  | inl r =>
    obtain ⟨a, rfl, ha, hq⟩ := hq
    dsimp only [zContH, Option.toList, List.cons_append, List.nil_append]
    refine r_i2l ha 7 rfl (dd_L_fine 4 _ _ _ rfl) ?_
    refine r_lreturn rfl (dd_L_fine 5 _ _ _ rfl) ?_
    exact hq
  | inr E =>
    rcases hq with ⟨rfl, hq⟩ | ⟨rfl, hq⟩ | ⟨rfl, hq⟩ | hq
    · refine ⟨8, ⟨[], ⟨0, 7, 8, 36⟩, [⟨0, 7, 13, 22⟩, ⟨0, 7, 18, 14⟩], rfl, rfl, rfl, by decide, (tb_2 238 _ rfl), (tb_3 9 _ rfl), (fun _ hz => nomatch hz)⟩, fun q9 => ?_⟩
      refine r_astore_3 9 rfl (Nat.le_of_ble_eq_true rfl) rfl (dd_L_fine 6 _ _ _ rfl) ?_
      refine r_ldc2 hg (tb_2 212 _ rfl) 12 rfl (dd_L_fine 7 _ _ _ rfl) ?_
      refine r_topl zNine rfl ?_
      refine r_lreturn rfl (dd_L_fine 8 _ _ _ rfl) ?_
      exact hq
    · refine ⟨13, ⟨[⟨0, 7, 8, 36⟩], ⟨0, 7, 13, 22⟩, [⟨0, 7, 18, 14⟩], rfl, rfl, rfl, by decide, (tb_1 165 _ rfl), (tb_1 182 _ rfl), List.forall_mem_cons.mpr ⟨⟨by decide, nIOE, (tb_2 238 _ rfl), hnx.2.2.1⟩, (fun _ hz => nomatch hz)⟩⟩, fun q9 => ?_⟩
      refine r_astore_3 14 rfl (Nat.le_of_ble_eq_true rfl) rfl (dd_L_fine 9 _ _ _ rfl) ?_
      refine r_ldc2 hg (tb_2 212 _ rfl) 17 rfl (dd_L_fine 10 _ _ _ rfl) ?_
      refine r_topl zNine rfl ?_
      refine r_lreturn rfl (dd_L_fine 11 _ _ _ rfl) ?_
      exact hq
    · refine ⟨18, ⟨[⟨0, 7, 8, 36⟩, ⟨0, 7, 13, 22⟩], ⟨0, 7, 18, 14⟩, [], rfl, rfl, rfl, by decide, (tb_1 166 _ rfl), (tb_2 29 _ rfl), List.forall_mem_cons.mpr ⟨⟨by decide, nIOE, (tb_2 238 _ rfl), hnx.2.1⟩, List.forall_mem_cons.mpr ⟨⟨by decide, nIAE, (tb_1 165 _ rfl), hnx.1⟩, (fun _ hz => nomatch hz)⟩⟩⟩, fun q9 => ?_⟩
      refine r_astore_3 19 rfl (Nat.le_of_ble_eq_true rfl) rfl (dd_L_fine 12 _ _ _ rfl) ?_
      refine r_ldc2 hg (tb_2 212 _ rfl) 22 rfl (dd_L_fine 13 _ _ _ rfl) ?_
      refine r_topl zNine rfl ?_
      refine r_lreturn rfl (dd_L_fine 14 _ _ _ rfl) ?_
      exact hq
    · exact absurd hq id
theorem w_name {g : zGT} {Q : zO → zH → Prop} {h : zH} (hg : zG g) (hnx : zNX g) {x : Nat} (hk : kd_ h x = 15) {v0 v1 : Int} (hX : ∀ Q1 : zO → zH → Prop, (∀ r h1, zWi [nIOE, nISE] Q r h1 → Q1 r h1) → zC g (.code yX11_name cX11_name 5 (Option.some Jvm.ClassFile.FieldType.int)) yX11_name 17 4 40 [.ref x, .int (zI v0), .int (zI v1)] h Q1) : zC g (.codeWith yL_name cL_name 4 (Option.some Jvm.ClassFile.FieldType.long) [(0, 7, 8, 36), (0, 7, 13, 14)]) yL_name 18 4 40 [.ref x, .int (zI v0), .int (zI v1)] h Q := by
  refine zC_ofH (M := (RL, cL_name, 4, (Option.some Jvm.ClassFile.FieldType.long), tableOf [(0, 7, 8, 36), (0, 7, 13, 14)], "name", 18)) (hh := [(0, 7, 8, 36), (0, 7, 13, 14)]) (lv := [some (.ref x), some (.int (zI v0)), some (.int (zI v1)), none]) hg (tb_5 190 _ rfl) (by decide) rfl rfl (Nat.le_of_ble_eq_true rfl) rfl rfl ?_
  refine r_aload_0 1 rfl (dd_L_name 0 _ _ _ rfl) ?_
  refine r_iload_1 2 rfl (dd_L_name 1 _ _ _ rfl) ?_
  refine r_iload_2 3 rfl (dd_L_name 2 _ _ _ rfl) ?_
  refine r_callVH (lvl := 17) (mc1 := 4) (ms1 := 40) (As := [.int (zI v0), .int (zI v1)]) 0 0 hg md_X11_name zc_X11 hk wi_X11_name wv_X11_name (tb_5 191 _ rfl) (by decide) (by decide) rfl (Nat.le_of_ble_eq_true rfl) (Nat.le_of_ble_eq_true rfl) (Nat.le_of_ble_eq_true rfl) rfl 6 rfl (dd_L_name 3 _ _ _ rfl) ?_
  refine hX _ (fun r h1 hq => ?_)
  cases r with
  | inl r =>
    obtain ⟨a, rfl, ha, hq⟩ := hq
    dsimp only [zContH, Option.toList, List.cons_append, List.nil_append]
    refine r_i2l ha 7 rfl (dd_L_name 4 _ _ _ rfl) ?_
    refine r_lreturn rfl (dd_L_name 5 _ _ _ rfl) ?_
    exact hq
  | inr E =>
    rcases hq with ⟨rfl, hq⟩ | ⟨rfl, hq⟩ | hq
    · refine ⟨8, ⟨[], ⟨0, 7, 8, 36⟩, [⟨0, 7, 13, 14⟩], rfl, rfl, rfl, by decide, (tb_2 238 _ rfl), (tb_3 9 _ rfl), (fun _ hz => nomatch hz)⟩, fun q9 => ?_⟩
      refine r_astore_3 9 rfl (Nat.le_of_ble_eq_true rfl) rfl (dd_L_name 6 _ _ _ rfl) ?_
      refine r_ldc2 hg (tb_2 212 _ rfl) 12 rfl (dd_L_name 7 _ _ _ rfl) ?_
      refine r_topl zNine rfl ?_
      refine r_lreturn rfl (dd_L_name 8 _ _ _ rfl) ?_
      exact hq
    · refine ⟨13, ⟨[⟨0, 7, 8, 36⟩], ⟨0, 7, 13, 14⟩, [], rfl, rfl, rfl, by decide, (tb_1 166 _ rfl), (tb_2 29 _ rfl), List.forall_mem_cons.mpr ⟨⟨by decide, nIOE, (tb_2 238 _ rfl), hnx.2.1⟩, (fun _ hz => nomatch hz)⟩⟩, fun q9 => ?_⟩
      refine r_astore_3 14 rfl (Nat.le_of_ble_eq_true rfl) rfl (dd_L_name 9 _ _ _ rfl) ?_
      refine r_ldc2 hg (tb_2 212 _ rfl) 17 rfl (dd_L_name 10 _ _ _ rfl) ?_
      refine r_topl zNine rfl ?_
      refine r_lreturn rfl (dd_L_name 11 _ _ _ rfl) ?_
      exact hq
    · exact absurd hq id
theorem w_whose {g : zGT} {Q : zO → zH → Prop} {h : zH} (hg : zG g) (hnx : zNX g) {x : Nat} (hk : kd_ h x = 15) {v0 : Int} (hX : ∀ Q1 : zO → zH → Prop, (∀ r h1, zWi [nIOE] Q r h1 → Q1 r h1) → zC g (.code yX11_whose cX11_whose 2 (Option.some Jvm.ClassFile.FieldType.int)) yX11_whose 17 4 40 [.ref x, .int (zI v0)] h Q1) : zC g (.codeWith yL_whose cL_whose 3 (Option.some Jvm.ClassFile.FieldType.long) [(0, 6, 7, 36)]) yL_whose 18 4 40 [.ref x, .int (zI v0)] h Q := by
  refine zC_ofH (M := (RL, cL_whose, 3, (Option.some Jvm.ClassFile.FieldType.long), tableOf [(0, 6, 7, 36)], "whose", 18)) (hh := [(0, 6, 7, 36)]) (lv := [some (.ref x), some (.int (zI v0)), none]) hg (tb_5 209 _ rfl) (by decide) rfl rfl (Nat.le_of_ble_eq_true rfl) rfl rfl ?_
  refine r_aload_0 1 rfl (dd_L_whose 0 _ _ _ rfl) ?_
  refine r_iload_1 2 rfl (dd_L_whose 1 _ _ _ rfl) ?_
  refine r_callVH (lvl := 17) (mc1 := 4) (ms1 := 40) (As := [.int (zI v0)]) 0 0 hg md_X11_whose zc_X11 hk wi_X11_whose wv_X11_whose (tb_5 210 _ rfl) (by decide) (by decide) rfl (Nat.le_of_ble_eq_true rfl) (Nat.le_of_ble_eq_true rfl) (Nat.le_of_ble_eq_true rfl) rfl 5 rfl (dd_L_whose 2 _ _ _ rfl) ?_
  refine hX _ (fun r h1 hq => ?_)
  cases r with
  | inl r =>
    obtain ⟨a, rfl, ha, hq⟩ := hq
    dsimp only [zContH, Option.toList, List.cons_append, List.nil_append]
    refine r_i2l ha 6 rfl (dd_L_whose 3 _ _ _ rfl) ?_
    refine r_lreturn rfl (dd_L_whose 4 _ _ _ rfl) ?_
    exact hq
  | inr E =>
    rcases hq with ⟨rfl, hq⟩ | hq
    · refine ⟨7, ⟨[], ⟨0, 6, 7, 36⟩, [], rfl, rfl, rfl, by decide, (tb_2 238 _ rfl), (tb_3 9 _ rfl), (fun _ hz => nomatch hz)⟩, fun q9 => ?_⟩
      refine r_astore_2 8 rfl (Nat.le_of_ble_eq_true rfl) rfl (dd_L_whose 5 _ _ _ rfl) ?_
      refine r_ldc2 hg (tb_2 212 _ rfl) 11 rfl (dd_L_whose 6 _ _ _ rfl) ?_
      refine r_topl zNine rfl ?_
      refine r_lreturn rfl (dd_L_whose 7 _ _ _ rfl) ?_
      exact hq
    · exact absurd hq id
theorem w_fines {g : zGT} {Q : zO → zH → Prop} {h : zH} (hg : zG g) (hnx : zNX g) {x : Nat} (hk : kd_ h x = 15) {v0 : Int} (hX : ∀ Q1 : zO → zH → Prop, (∀ r h1, zWi [nIOE] Q r h1 → Q1 r h1) → zC g (.code yX11_fines cX11_fines 4 (Option.some Jvm.ClassFile.FieldType.int)) yX11_fines 17 4 40 [.ref x, .int (zI v0)] h Q1) : zC g (.codeWith yL_fines cL_fines 3 (Option.some Jvm.ClassFile.FieldType.long) [(0, 6, 7, 36)]) yL_fines 18 4 40 [.ref x, .int (zI v0)] h Q := by
  refine zC_ofH (M := (RL, cL_fines, 3, (Option.some Jvm.ClassFile.FieldType.long), tableOf [(0, 6, 7, 36)], "fines", 18)) (hh := [(0, 6, 7, 36)]) (lv := [some (.ref x), some (.int (zI v0)), none]) hg (tb_5 216 _ rfl) (by decide) rfl rfl (Nat.le_of_ble_eq_true rfl) rfl rfl ?_
  refine r_aload_0 1 rfl (dd_L_fines 0 _ _ _ rfl) ?_
  refine r_iload_1 2 rfl (dd_L_fines 1 _ _ _ rfl) ?_
  refine r_callVH (lvl := 17) (mc1 := 4) (ms1 := 40) (As := [.int (zI v0)]) 0 0 hg md_X11_fines zc_X11 hk wi_X11_fines wv_X11_fines (tb_5 217 _ rfl) (by decide) (by decide) rfl (Nat.le_of_ble_eq_true rfl) (Nat.le_of_ble_eq_true rfl) (Nat.le_of_ble_eq_true rfl) rfl 5 rfl (dd_L_fines 2 _ _ _ rfl) ?_
  refine hX _ (fun r h1 hq => ?_)
  cases r with
  | inl r =>
    obtain ⟨a, rfl, ha, hq⟩ := hq
    dsimp only [zContH, Option.toList, List.cons_append, List.nil_append]
    refine r_i2l ha 6 rfl (dd_L_fines 3 _ _ _ rfl) ?_
    refine r_lreturn rfl (dd_L_fines 4 _ _ _ rfl) ?_
    exact hq
  | inr E =>
    rcases hq with ⟨rfl, hq⟩ | hq
    · refine ⟨7, ⟨[], ⟨0, 6, 7, 36⟩, [], rfl, rfl, rfl, by decide, (tb_2 238 _ rfl), (tb_3 9 _ rfl), (fun _ hz => nomatch hz)⟩, fun q9 => ?_⟩
      refine r_astore_2 8 rfl (Nat.le_of_ble_eq_true rfl) rfl (dd_L_fines 5 _ _ _ rfl) ?_
      refine r_ldc2 hg (tb_2 212 _ rfl) 11 rfl (dd_L_fines 6 _ _ _ rfl) ?_
      refine r_topl zNine rfl ?_
      refine r_lreturn rfl (dd_L_fines 7 _ _ _ rfl) ?_
      exact hq
    · exact absurd hq id
theorem w_look {g : zGT} {Q : zO → zH → Prop} {h : zH} (hg : zG g) (hnx : zNX g) {x : Nat} (hk : kd_ h x = 15) {v0 : Int} (hX : ∀ Q1 : zO → zH → Prop, (∀ r h1, zWi [nIOE] Q r h1 → Q1 r h1) → zC g (.code yX11_look cX11_look 7 (Option.some Jvm.ClassFile.FieldType.int)) yX11_look 17 4 40 [.ref x, .int (zI v0)] h Q1) : zC g (.codeWith yL_look cL_look 3 (Option.some Jvm.ClassFile.FieldType.long) [(0, 6, 7, 36)]) yL_look 18 4 40 [.ref x, .int (zI v0)] h Q := by
  refine zC_ofH (M := (RL, cL_look, 3, (Option.some Jvm.ClassFile.FieldType.long), tableOf [(0, 6, 7, 36)], "look", 18)) (hh := [(0, 6, 7, 36)]) (lv := [some (.ref x), some (.int (zI v0)), none]) hg (tb_5 223 _ rfl) (by decide) rfl rfl (Nat.le_of_ble_eq_true rfl) rfl rfl ?_
  refine r_aload_0 1 rfl (dd_L_look 0 _ _ _ rfl) ?_
  refine r_iload_1 2 rfl (dd_L_look 1 _ _ _ rfl) ?_
  refine r_callVH (lvl := 17) (mc1 := 4) (ms1 := 40) (As := [.int (zI v0)]) 0 0 hg md_X11_look zc_X11 hk wi_X11_look wv_X11_look (tb_5 224 _ rfl) (by decide) (by decide) rfl (Nat.le_of_ble_eq_true rfl) (Nat.le_of_ble_eq_true rfl) (Nat.le_of_ble_eq_true rfl) rfl 5 rfl (dd_L_look 2 _ _ _ rfl) ?_
  refine hX _ (fun r h1 hq => ?_)
  cases r with
  | inl r =>
    obtain ⟨a, rfl, ha, hq⟩ := hq
    dsimp only [zContH, Option.toList, List.cons_append, List.nil_append]
    refine r_i2l ha 6 rfl (dd_L_look 3 _ _ _ rfl) ?_
    refine r_lreturn rfl (dd_L_look 4 _ _ _ rfl) ?_
    exact hq
  | inr E =>
    rcases hq with ⟨rfl, hq⟩ | hq
    · refine ⟨7, ⟨[], ⟨0, 6, 7, 36⟩, [], rfl, rfl, rfl, by decide, (tb_2 238 _ rfl), (tb_3 9 _ rfl), (fun _ hz => nomatch hz)⟩, fun q9 => ?_⟩
      refine r_astore_2 8 rfl (Nat.le_of_ble_eq_true rfl) rfl (dd_L_look 5 _ _ _ rfl) ?_
      refine r_ldc2 hg (tb_2 212 _ rfl) 11 rfl (dd_L_look 6 _ _ _ rfl) ?_
      refine r_topl zNine rfl ?_
      refine r_lreturn rfl (dd_L_look 7 _ _ _ rfl) ?_
      exact hq
    · exact absurd hq id
theorem w_looked {g : zGT} {Q : zO → zH → Prop} {h : zH} (hg : zG g) (hnx : zNX g) {x : Nat} (hk : kd_ h x = 15) {v0 : Int} (hX : ∀ Q1 : zO → zH → Prop, (∀ r h1, zWi [nIOE] Q r h1 → Q1 r h1) → zC g (.code yX11_looked cX11_looked 2 (Option.some Jvm.ClassFile.FieldType.int)) yX11_looked 14 4 40 [.ref x, .int (zI v0)] h Q1) : zC g (.codeWith yL_looked cL_looked 3 (Option.some Jvm.ClassFile.FieldType.long) [(0, 6, 7, 36)]) yL_looked 15 4 40 [.ref x, .int (zI v0)] h Q := by
  refine zC_ofH (M := (RL, cL_looked, 3, (Option.some Jvm.ClassFile.FieldType.long), tableOf [(0, 6, 7, 36)], "looked", 15)) (hh := [(0, 6, 7, 36)]) (lv := [some (.ref x), some (.int (zI v0)), none]) hg (tb_5 37 _ rfl) (by decide) rfl rfl (Nat.le_of_ble_eq_true rfl) rfl rfl ?_
  refine r_aload_0 1 rfl (dd_L_looked 0 _ _ _ rfl) ?_
  refine r_iload_1 2 rfl (dd_L_looked 1 _ _ _ rfl) ?_
  refine r_callVH (lvl := 14) (mc1 := 4) (ms1 := 40) (As := [.int (zI v0)]) 0 0 hg md_X11_looked zc_X11 hk wi_X11_looked wv_X11_looked (tb_5 38 _ rfl) (by decide) (by decide) rfl (Nat.le_of_ble_eq_true rfl) (Nat.le_of_ble_eq_true rfl) (Nat.le_of_ble_eq_true rfl) rfl 5 rfl (dd_L_looked 2 _ _ _ rfl) ?_
  refine hX _ (fun r h1 hq => ?_)
  cases r with
  | inl r =>
    obtain ⟨a, rfl, ha, hq⟩ := hq
    dsimp only [zContH, Option.toList, List.cons_append, List.nil_append]
    refine r_i2l ha 6 rfl (dd_L_looked 3 _ _ _ rfl) ?_
    refine r_lreturn rfl (dd_L_looked 4 _ _ _ rfl) ?_
    exact hq
  | inr E =>
    rcases hq with ⟨rfl, hq⟩ | hq
    · refine ⟨7, ⟨[], ⟨0, 6, 7, 36⟩, [], rfl, rfl, rfl, by decide, (tb_2 238 _ rfl), (tb_3 9 _ rfl), (fun _ hz => nomatch hz)⟩, fun q9 => ?_⟩
      refine r_astore_2 8 rfl (Nat.le_of_ble_eq_true rfl) rfl (dd_L_looked 5 _ _ _ rfl) ?_
      refine r_ldc2 hg (tb_2 212 _ rfl) 11 rfl (dd_L_looked 6 _ _ _ rfl) ?_
      refine r_topl zNine rfl ?_
      refine r_lreturn rfl (dd_L_looked 7 _ _ _ rfl) ?_
      exact hq
    · exact absurd hq id
theorem w_pass {g : zGT} {Q : zO → zH → Prop} {h : zH} (hg : zG g) (hnx : zNX g) {x : Nat} (hk : kd_ h x = 15) {v0 : Int} (hX : ∀ Q1 : zO → zH → Prop, (∀ r h1, zWi [nIAE, nISE] Q r h1 → Q1 r h1) → zC g (.code yX11_pass cX11_pass 2 (Option.some Jvm.ClassFile.FieldType.int)) yX11_pass 14 4 40 [.ref x, .int (zI v0)] h Q1) : zC g (.codeWith yL_pass cL_pass 3 (Option.some Jvm.ClassFile.FieldType.long) [(0, 6, 7, 22), (0, 6, 12, 14)]) yL_pass 15 4 40 [.ref x, .int (zI v0)] h Q := by
  refine zC_ofH (M := (RL, cL_pass, 3, (Option.some Jvm.ClassFile.FieldType.long), tableOf [(0, 6, 7, 22), (0, 6, 12, 14)], "pass", 15)) (hh := [(0, 6, 7, 22), (0, 6, 12, 14)]) (lv := [some (.ref x), some (.int (zI v0)), none]) hg (tb_6 24 _ rfl) (by decide) rfl rfl (Nat.le_of_ble_eq_true rfl) rfl rfl ?_
  refine r_aload_0 1 rfl (dd_L_pass 0 _ _ _ rfl) ?_
  refine r_iload_1 2 rfl (dd_L_pass 1 _ _ _ rfl) ?_
  refine r_callVH (lvl := 14) (mc1 := 4) (ms1 := 40) (As := [.int (zI v0)]) 0 0 hg md_X11_pass zc_X11 hk wi_X11_pass wv_X11_pass (tb_6 25 _ rfl) (by decide) (by decide) rfl (Nat.le_of_ble_eq_true rfl) (Nat.le_of_ble_eq_true rfl) (Nat.le_of_ble_eq_true rfl) rfl 5 rfl (dd_L_pass 2 _ _ _ rfl) ?_
  refine hX _ (fun r h1 hq => ?_)
  cases r with
  | inl r =>
    obtain ⟨a, rfl, ha, hq⟩ := hq
    dsimp only [zContH, Option.toList, List.cons_append, List.nil_append]
    refine r_i2l ha 6 rfl (dd_L_pass 3 _ _ _ rfl) ?_
    refine r_lreturn rfl (dd_L_pass 4 _ _ _ rfl) ?_
    exact hq
  | inr E =>
    rcases hq with ⟨rfl, hq⟩ | ⟨rfl, hq⟩ | hq
    · refine ⟨7, ⟨[], ⟨0, 6, 7, 22⟩, [⟨0, 6, 12, 14⟩], rfl, rfl, rfl, by decide, (tb_1 165 _ rfl), (tb_1 182 _ rfl), (fun _ hz => nomatch hz)⟩, fun q9 => ?_⟩
      refine r_astore_2 8 rfl (Nat.le_of_ble_eq_true rfl) rfl (dd_L_pass 5 _ _ _ rfl) ?_
      refine r_ldc2 hg (tb_2 212 _ rfl) 11 rfl (dd_L_pass 6 _ _ _ rfl) ?_
      refine r_topl zNine rfl ?_
      refine r_lreturn rfl (dd_L_pass 7 _ _ _ rfl) ?_
      exact hq
    · refine ⟨12, ⟨[⟨0, 6, 7, 22⟩], ⟨0, 6, 12, 14⟩, [], rfl, rfl, rfl, by decide, (tb_1 166 _ rfl), (tb_2 29 _ rfl), List.forall_mem_cons.mpr ⟨⟨by decide, nIAE, (tb_1 165 _ rfl), hnx.1⟩, (fun _ hz => nomatch hz)⟩⟩, fun q9 => ?_⟩
      refine r_astore_2 13 rfl (Nat.le_of_ble_eq_true rfl) rfl (dd_L_pass 8 _ _ _ rfl) ?_
      refine r_ldc2 hg (tb_2 212 _ rfl) 16 rfl (dd_L_pass 9 _ _ _ rfl) ?_
      refine r_topl zNine rfl ?_
      refine r_lreturn rfl (dd_L_pass 10 _ _ _ rfl) ?_
      exact hq
    · exact absurd hq id
theorem mh_vehicle : z_mh yL_vehicle cL_vehicle 5 (Option.some Jvm.ClassFile.FieldType.long) [(0, 8, 9, 22), (0, 8, 15, 14)] 4 := ⟨(tb_1 164 _ rfl), (tb_1 0 _ rfl), ⟨by decide +kernel, by decide +kernel⟩, by decide +kernel⟩
theorem mh_person : z_mh yL_person cL_person 2 (Option.some Jvm.ClassFile.FieldType.long) [(0, 5, 6, 14)] 1 := ⟨(tb_2 215 _ rfl), (tb_1 0 _ rfl), ⟨by decide +kernel, by decide +kernel⟩, by decide +kernel⟩
theorem mh_protect : z_mh yL_protect cL_protect 4 (Option.some Jvm.ClassFile.FieldType.long) [(0, 14, 15, 36)] 3 := ⟨(tb_2 237 _ rfl), (tb_1 0 _ rfl), ⟨by decide +kernel, by decide +kernel⟩, by decide +kernel⟩
theorem mh_tell : z_mh yL_tell cL_tell 6 (Option.some Jvm.ClassFile.FieldType.long) [(0, 10, 11, 36), (0, 10, 17, 22), (0, 10, 23, 14)] 5 := ⟨(tb_3 24 _ rfl), (tb_1 0 _ rfl), ⟨by decide +kernel, by decide +kernel⟩, by decide +kernel⟩
theorem mh_on : z_mh yL_on cL_on 5 (Option.some Jvm.ClassFile.FieldType.long) [(0, 8, 9, 36), (0, 8, 15, 22)] 4 := ⟨(tb_6 34 _ rfl), (tb_1 0 _ rfl), ⟨by decide +kernel, by decide +kernel⟩, by decide +kernel⟩
theorem mh_bar : z_mh yL_bar cL_bar 5 (Option.some Jvm.ClassFile.FieldType.long) [(0, 15, 16, 22)] 4 := ⟨(tb_4 113 _ rfl), (tb_1 0 _ rfl), ⟨by decide +kernel, by decide +kernel⟩, by decide +kernel⟩
theorem mh_allot : z_mh yL_allot cL_allot 3 (Option.some Jvm.ClassFile.FieldType.long) [(0, 6, 7, 36), (0, 6, 12, 14)] 2 := ⟨(tb_4 127 _ rfl), (tb_1 0 _ rfl), ⟨by decide +kernel, by decide +kernel⟩, by decide +kernel⟩
theorem mh_wish : z_mh yL_wish cL_wish 3 (Option.some Jvm.ClassFile.FieldType.long) [(0, 6, 7, 36), (0, 6, 12, 14)] 2 := ⟨(tb_4 202 _ rfl), (tb_1 0 _ rfl), ⟨by decide +kernel, by decide +kernel⟩, by decide +kernel⟩
theorem mh_plate : z_mh yL_plate cL_plate 5 (Option.some Jvm.ClassFile.FieldType.long) [(0, 8, 9, 36), (0, 8, 15, 22)] 4 := ⟨(tb_4 224 _ rfl), (tb_1 0 _ rfl), ⟨by decide +kernel, by decide +kernel⟩, by decide +kernel⟩
theorem mh_rate : z_mh yL_rate cL_rate 5 (Option.some Jvm.ClassFile.FieldType.long) [(0, 8, 9, 22), (0, 8, 15, 14)] 4 := ⟨(tb_4 238 _ rfl), (tb_1 0 _ rfl), ⟨by decide +kernel, by decide +kernel⟩, by decide +kernel⟩
theorem mh_pay : z_mh yL_pay cL_pay 4 (Option.some Jvm.ClassFile.FieldType.long) [(0, 6, 7, 36), (0, 6, 12, 22)] 3 := ⟨(tb_5 6 _ rfl), (tb_1 0 _ rfl), ⟨by decide +kernel, by decide +kernel⟩, by decide +kernel⟩
theorem mh_owes : z_mh yL_owes cL_owes 3 (Option.some Jvm.ClassFile.FieldType.long) [(0, 5, 6, 36)] 2 := ⟨(tb_5 30 _ rfl), (tb_1 0 _ rfl), ⟨by decide +kernel, by decide +kernel⟩, by decide +kernel⟩
theorem mh_test : z_mh yL_test cL_test 6 (Option.some Jvm.ClassFile.FieldType.long) [(0, 10, 11, 36), (0, 10, 17, 22), (0, 10, 23, 14)] 5 := ⟨(tb_5 44 _ rfl), (tb_1 0 _ rfl), ⟨by decide +kernel, by decide +kernel⟩, by decide +kernel⟩
theorem mh_insure : z_mh yL_insure cL_insure 4 (Option.some Jvm.ClassFile.FieldType.long) [(0, 14, 15, 36), (0, 14, 20, 22)] 3 := ⟨(tb_5 58 _ rfl), (tb_1 0 _ rfl), ⟨by decide +kernel, by decide +kernel⟩, by decide +kernel⟩
theorem mh_ofVehicle : z_mh yL_ofVehicle cL_ofVehicle 4 (Option.some Jvm.ClassFile.FieldType.long) [(0, 7, 8, 36), (0, 7, 13, 22)] 3 := ⟨(tb_5 65 _ rfl), (tb_1 0 _ rfl), ⟨by decide +kernel, by decide +kernel⟩, by decide +kernel⟩
theorem mh_sight : z_mh yL_sight cL_sight 4 (Option.some Jvm.ClassFile.FieldType.long) [(0, 7, 8, 22), (0, 7, 13, 14)] 3 := ⟨(tb_5 107 _ rfl), (tb_1 0 _ rfl), ⟨by decide +kernel, by decide +kernel⟩, by decide +kernel⟩
theorem mh_seen : z_mh yL_seen cL_seen 3 (Option.some Jvm.ClassFile.FieldType.long) [(0, 6, 7, 36)] 2 := ⟨(tb_5 145 _ rfl), (tb_1 0 _ rfl), ⟨by decide +kernel, by decide +kernel⟩, by decide +kernel⟩
theorem mh_fine : z_mh yL_fine cL_fine 4 (Option.some Jvm.ClassFile.FieldType.long) [(0, 7, 8, 36), (0, 7, 13, 22), (0, 7, 18, 14)] 3 := ⟨(tb_5 156 _ rfl), (tb_1 0 _ rfl), ⟨by decide +kernel, by decide +kernel⟩, by decide +kernel⟩
theorem mh_name : z_mh yL_name cL_name 4 (Option.some Jvm.ClassFile.FieldType.long) [(0, 7, 8, 36), (0, 7, 13, 14)] 3 := ⟨(tb_5 190 _ rfl), (tb_1 0 _ rfl), ⟨by decide +kernel, by decide +kernel⟩, by decide +kernel⟩
theorem mh_whose : z_mh yL_whose cL_whose 3 (Option.some Jvm.ClassFile.FieldType.long) [(0, 6, 7, 36)] 2 := ⟨(tb_5 209 _ rfl), (tb_1 0 _ rfl), ⟨by decide +kernel, by decide +kernel⟩, by decide +kernel⟩
theorem mh_fines : z_mh yL_fines cL_fines 3 (Option.some Jvm.ClassFile.FieldType.long) [(0, 6, 7, 36)] 2 := ⟨(tb_5 216 _ rfl), (tb_1 0 _ rfl), ⟨by decide +kernel, by decide +kernel⟩, by decide +kernel⟩
theorem mh_look : z_mh yL_look cL_look 3 (Option.some Jvm.ClassFile.FieldType.long) [(0, 6, 7, 36)] 2 := ⟨(tb_5 223 _ rfl), (tb_1 0 _ rfl), ⟨by decide +kernel, by decide +kernel⟩, by decide +kernel⟩
theorem mh_looked : z_mh yL_looked cL_looked 3 (Option.some Jvm.ClassFile.FieldType.long) [(0, 6, 7, 36)] 2 := ⟨(tb_5 37 _ rfl), (tb_1 0 _ rfl), ⟨by decide +kernel, by decide +kernel⟩, by decide +kernel⟩
theorem mh_pass : z_mh yL_pass cL_pass 3 (Option.some Jvm.ClassFile.FieldType.long) [(0, 6, 7, 22), (0, 6, 12, 14)] 2 := ⟨(tb_6 24 _ rfl), (tb_1 0 _ rfl), ⟨by decide +kernel, by decide +kernel⟩, by decide +kernel⟩
