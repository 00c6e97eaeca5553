abbrev mX11_vehicleAt : zM := (RX11, cX11_vehicleAt, 2, (Option.some (Jvm.ClassFile.FieldType.object "Platehall$Vehicle")), [], "vehicleAt", 13)
set_option maxRecDepth 20000 in
theorem c_X11_vehicleAt {g : zGT} {Q : zO → zH → Prop} {h : zH} (hg : zG g) {o : Nat → Nat} {x : Nat} {S : zS} {n : Nat} {Vs Ps Ss Ts Fs Tn : List Nat} {A : Nat → Nat} {G : Nat → Nat → Nat} {Rc : Nat → Nat} (hI : MInv n S) (y : CRep g o h x S n Vs Ps Ss Ts Fs Tn A G Rc) {v : Int} (hv : zR v) (kE : ¬ (0 ≤ v ∧ v < S.1 4) → Q (.inr "java/lang/IndexOutOfBoundsException") h) (k : ∀ u a : Nat, v = u → Vs[u]? = some a → v < S.1 4 → Q (.inl (some (.ref a))) h) : zC g (.code yX11_vehicleAt cX11_vehicleAt 2 (Option.some (Jvm.ClassFile.FieldType.object "Platehall$Vehicle"))) yX11_vehicleAt 13 1 6 [.ref x, .int (zI v)] h Q := by
  refine zC_of (M := mX11_vehicleAt) (lv := [some (.ref x), some (.int (zI v))]) (by decide) rfl rfl (Nat.le_of_ble_eq_true rfl) rfl rfl ?_
  have e1 := hI.vehicles
  have e2 := hI.today
  have e3 := hI.people
  have e4 := hI.sightings
  have e5 := hI.fines
  have e6 := hI.calls
  have nv := y.nv
  have np := y.np
  have ns := y.ns
  have nf := y.nf
  refine r_iload_1 1 rfl (dd_X11_vehicleAt 0 _ _ _ rfl) ?_
  refine r_iflt (by omega) 4 rfl 15 rfl (dd_X11_vehicleAt 1 _ _ _ rfl) (fun hc1 => ?_) (fun hc1 => ?_)
  · refine r_throw hg zt_IOOBE rfl (by decide) (Nat.le_of_ble_eq_true rfl) (Nat.le_of_ble_eq_true rfl) (Nat.le_of_ble_eq_true rfl) (pc3 := 18) (pc4 := 19) (pc7 := 22) rfl rfl rfl (dd_X11_vehicleAt 7 _ _ _ rfl) (dd_X11_vehicleAt 8 _ _ _ rfl) (dd_X11_vehicleAt 9 _ _ _ rfl) (dd_X11_vehicleAt 10 _ _ _ rfl) ?_
    exact kE (by omega)
  · refine r_iload_1 5 rfl (dd_X11_vehicleAt 2 _ _ _ rfl) ?_
    refine r_aload_0 6 rfl (dd_X11_vehicleAt 3 _ _ _ rfl) ?_
    refine r_getr hg zc_X11 3 (by decide) (fun _ _ _ => rfl) y.mn.2.2.2.2.2.2.1 y.mn.1 (Or.inl rfl) (tb_1 124 _ rfl) 9 rfl (dd_X11_vehicleAt 4 _ _ _ rfl) ?_
    refine r_callV0 (lvl := 10) (mc1 := 0) (ms1 := 0) 1 6 hg rfl md_Jx4a65c_size_8abf5 zc_Jx4a65c y.lv.1 wi_Jx4a65c_size_8abf5 wv_Jx4a65c_size_8abf5 (tb_2 8 _ rfl) (by decide) (by decide) rfl (Nat.le_of_ble_eq_true rfl) (Nat.le_of_ble_eq_true rfl) (Nat.le_of_ble_eq_true rfl) 12 rfl (dd_X11_vehicleAt 5 _ _ _ rfl) ?_
    refine c_Jx4a65c_size_8abf5 hg y.lv ?_
    dsimp only [zCont, Option.toList, List.cons_append, List.nil_append]
    refine r_if_icmplt (by omega) (by omega) 15 rfl 23 rfl (dd_X11_vehicleAt 6 _ _ _ rfl) (fun hc2 => ?_) (fun hc2 => ?_)
    · obtain ⟨u, rfl⟩ := Int.eq_ofNat_of_zero_le (show 0 ≤ v by omega)
      obtain ⟨a, hV⟩ : ∃ a, Vs[u]? = some a := ⟨Vs[u], List.getElem?_eq_getElem (by omega)⟩
      refine r_aload_0 24 rfl (dd_X11_vehicleAt 11 _ _ _ rfl) ?_
      refine r_getr hg zc_X11 3 (by decide) (fun _ _ _ => rfl) y.mn.2.2.2.2.2.2.1 y.mn.1 (Or.inl rfl) (tb_1 124 _ rfl) 27 rfl (dd_X11_vehicleAt 12 _ _ _ rfl) ?_
      refine r_iload_1 28 rfl (dd_X11_vehicleAt 13 _ _ _ rfl) ?_
      refine r_callV1 (lvl := 12) (mc1 := 0) (ms1 := 0) 1 6 hg rfl md_Jx4a65c_get_915e3 zc_Jx4a65c y.lv.1 wi_Jx4a65c_get_915e3 wv_Jx4a65c_get_915e3 (tb_2 12 _ rfl) (by decide) (by decide) rfl (Nat.le_of_ble_eq_true rfl) (Nat.le_of_ble_eq_true rfl) (Nat.le_of_ble_eq_true rfl) 31 rfl (dd_X11_vehicleAt 14 _ _ _ rfl) ?_
      refine c_Jx4a65c_get_915e3 hg y.lv (i := u) (y := a) hV ?_
      dsimp only [zCont, Option.toList, List.cons_append, List.nil_append]
      refine r_checkcastS hg zc_X10 ((y.vo u a hV).1) (tb_2 26 _ rfl) 34 rfl (dd_X11_vehicleAt 15 _ _ _ rfl) ?_
      refine r_areturn rfl (by first | exact Or.inl ⟨_, rfl⟩ | exact Or.inr ⟨_, rfl⟩) (dd_X11_vehicleAt 16 _ _ _ rfl) ?_
      exact k u a rfl hV (by omega)
    · refine r_throw hg zt_IOOBE rfl (by decide) (Nat.le_of_ble_eq_true rfl) (Nat.le_of_ble_eq_true rfl) (Nat.le_of_ble_eq_true rfl) (pc3 := 18) (pc4 := 19) (pc7 := 22) rfl rfl rfl (dd_X11_vehicleAt 7 _ _ _ rfl) (dd_X11_vehicleAt 8 _ _ _ rfl) (dd_X11_vehicleAt 9 _ _ _ rfl) (dd_X11_vehicleAt 10 _ _ _ rfl) ?_
      exact kE (by omega)

abbrev mX11_personAt : zM := (RX11, cX11_personAt, 2, (Option.some (Jvm.ClassFile.FieldType.object "Platehall$Person")), [], "personAt", 13)
set_option maxRecDepth 20000 in
theorem c_X11_personAt {g : zGT} {Q : zO → zH → Prop} {h : zH} (hg : zG g) {o : Nat → Nat} {x : Nat} {S : zS} {n : Nat} {Vs Ps Ss Ts Fs Tn : List Nat} {A : Nat → Nat} {G : Nat → Nat → Nat} {Rc : Nat → Nat} (hI : MInv n S) (y : CRep g o h x S n Vs Ps Ss Ts Fs Tn A G Rc) {v : Int} (hv : zR v) (kE : ¬ (0 ≤ v ∧ v < S.1 12) → Q (.inr "java/lang/IndexOutOfBoundsException") h) (k : ∀ u a : Nat, v = u → Ps[u]? = some a → v < S.1 12 → Q (.inl (some (.ref a))) h) : zC g (.code yX11_personAt cX11_personAt 2 (Option.some (Jvm.ClassFile.FieldType.object "Platehall$Person"))) yX11_personAt 13 1 6 [.ref x, .int (zI v)] h Q := by
  refine zC_of (M := mX11_personAt) (lv := [some (.ref x), some (.int (zI v))]) (by decide) rfl rfl (Nat.le_of_ble_eq_true rfl) rfl rfl ?_
  have e1 := hI.vehicles
  have e2 := hI.today
  have e3 := hI.people
  have e4 := hI.sightings
  have e5 := hI.fines
  have e6 := hI.calls
  have nv := y.nv
  have np := y.np
  have ns := y.ns
  have nf := y.nf
  refine r_iload_1 1 rfl (dd_X11_personAt 0 _ _ _ rfl) ?_
  refine r_iflt (by omega) 4 rfl 15 rfl (dd_X11_personAt 1 _ _ _ rfl) (fun hc1 => ?_) (fun hc1 => ?_)
  · refine r_throw hg zt_IOOBE rfl (by decide) (Nat.le_of_ble_eq_true rfl) (Nat.le_of_ble_eq_true rfl) (Nat.le_of_ble_eq_true rfl) (pc3 := 18) (pc4 := 19) (pc7 := 22) rfl rfl rfl (dd_X11_personAt 7 _ _ _ rfl) (dd_X11_personAt 8 _ _ _ rfl) (dd_X11_personAt 9 _ _ _ rfl) (dd_X11_personAt 10 _ _ _ rfl) ?_
    exact kE (by omega)
  · refine r_iload_1 5 rfl (dd_X11_personAt 2 _ _ _ rfl) ?_
    refine r_aload_0 6 rfl (dd_X11_personAt 3 _ _ _ rfl) ?_
    refine r_getr hg zc_X11 4 (by decide) (fun _ _ _ => rfl) y.mn.2.2.2.2.2.2.2.1 y.mn.1 (Or.inl rfl) (tb_1 125 _ rfl) 9 rfl (dd_X11_personAt 4 _ _ _ rfl) ?_
    refine r_callV0 (lvl := 10) (mc1 := 0) (ms1 := 0) 1 6 hg rfl md_Jx4a65c_size_8abf5 zc_Jx4a65c y.lp.1 wi_Jx4a65c_size_8abf5 wv_Jx4a65c_size_8abf5 (tb_2 8 _ rfl) (by decide) (by decide) rfl (Nat.le_of_ble_eq_true rfl) (Nat.le_of_ble_eq_true rfl) (Nat.le_of_ble_eq_true rfl) 12 rfl (dd_X11_personAt 5 _ _ _ rfl) ?_
    refine c_Jx4a65c_size_8abf5 hg y.lp ?_
    dsimp only [zCont, Option.toList, List.cons_append, List.nil_append]
    refine r_if_icmplt (by omega) (by omega) 15 rfl 23 rfl (dd_X11_personAt 6 _ _ _ rfl) (fun hc2 => ?_) (fun hc2 => ?_)
    · obtain ⟨u, rfl⟩ := Int.eq_ofNat_of_zero_le (show 0 ≤ v by omega)
      obtain ⟨a, hV⟩ : ∃ a, Ps[u]? = some a := ⟨Ps[u], List.getElem?_eq_getElem (by omega)⟩
      refine r_aload_0 24 rfl (dd_X11_personAt 11 _ _ _ rfl) ?_
      refine r_getr hg zc_X11 4 (by decide) (fun _ _ _ => rfl) y.mn.2.2.2.2.2.2.2.1 y.mn.1 (Or.inl rfl) (tb_1 125 _ rfl) 27 rfl (dd_X11_personAt 12 _ _ _ rfl) ?_
      refine r_iload_1 28 rfl (dd_X11_personAt 13 _ _ _ rfl) ?_
      refine r_callV1 (lvl := 12) (mc1 := 0) (ms1 := 0) 1 6 hg rfl md_Jx4a65c_get_915e3 zc_Jx4a65c y.lp.1 wi_Jx4a65c_get_915e3 wv_Jx4a65c_get_915e3 (tb_2 12 _ rfl) (by decide) (by decide) rfl (Nat.le_of_ble_eq_true rfl) (Nat.le_of_ble_eq_true rfl) (Nat.le_of_ble_eq_true rfl) 31 rfl (dd_X11_personAt 14 _ _ _ rfl) ?_
      refine c_Jx4a65c_get_915e3 hg y.lp (i := u) (y := a) hV ?_
      dsimp only [zCont, Option.toList, List.cons_append, List.nil_append]
      refine r_checkcastS hg zc_X5 ((y.pe u a hV).1) (tb_2 220 _ rfl) 34 rfl (dd_X11_personAt 15 _ _ _ rfl) ?_
      refine r_areturn rfl (by first | exact Or.inl ⟨_, rfl⟩ | exact Or.inr ⟨_, rfl⟩) (dd_X11_personAt 16 _ _ _ rfl) ?_
      exact k u a rfl hV (by omega)
    · refine r_throw hg zt_IOOBE rfl (by decide) (Nat.le_of_ble_eq_true rfl) (Nat.le_of_ble_eq_true rfl) (Nat.le_of_ble_eq_true rfl) (pc3 := 18) (pc4 := 19) (pc7 := 22) rfl rfl rfl (dd_X11_personAt 7 _ _ _ rfl) (dd_X11_personAt 8 _ _ _ rfl) (dd_X11_personAt 9 _ _ _ rfl) (dd_X11_personAt 10 _ _ _ rfl) ?_
      exact kE (by omega)

abbrev mX11_sightingAt : zM := (RX11, cX11_sightingAt, 2, (Option.some (Jvm.ClassFile.FieldType.object "Platehall$Sighting")), [], "sightingAt", 13)
set_option maxRecDepth 20000 in
theorem c_X11_sightingAt {g : zGT} {Q : zO → zH → Prop} {h : zH} (hg : zG g) {o : Nat → Nat} {x : Nat} {S : zS} {n : Nat} {Vs Ps Ss Ts Fs Tn : List Nat} {A : Nat → Nat} {G : Nat → Nat → Nat} {Rc : Nat → Nat} (hI : MInv n S) (y : CRep g o h x S n Vs Ps Ss Ts Fs Tn A G Rc) {v : Int} (hv : zR v) (kE : ¬ (0 ≤ v ∧ v < S.1 31) → Q (.inr "java/lang/IndexOutOfBoundsException") h) (k : ∀ u a : Nat, v = u → Ss[u]? = some a → v < S.1 31 → Q (.inl (some (.ref a))) h) : zC g (.code yX11_sightingAt cX11_sightingAt 2 (Option.some (Jvm.ClassFile.FieldType.object "Platehall$Sighting"))) yX11_sightingAt 13 1 6 [.ref x, .int (zI v)] h Q := by
  refine zC_of (M := mX11_sightingAt) (lv := [some (.ref x), some (.int (zI v))]) (by decide) rfl rfl (Nat.le_of_ble_eq_true rfl) rfl rfl ?_
  have e1 := hI.vehicles
  have e2 := hI.today
  have e3 := hI.people
  have e4 := hI.sightings
  have e5 := hI.fines
  have e6 := hI.calls
  have nv := y.nv
  have np := y.np
  have ns := y.ns
  have nf := y.nf
  refine r_iload_1 1 rfl (dd_X11_sightingAt 0 _ _ _ rfl) ?_
  refine r_iflt (by omega) 4 rfl 15 rfl (dd_X11_sightingAt 1 _ _ _ rfl) (fun hc1 => ?_) (fun hc1 => ?_)
  · refine r_throw hg zt_IOOBE rfl (by decide) (Nat.le_of_ble_eq_true rfl) (Nat.le_of_ble_eq_true rfl) (Nat.le_of_ble_eq_true rfl) (pc3 := 18) (pc4 := 19) (pc7 := 22) rfl rfl rfl (dd_X11_sightingAt 7 _ _ _ rfl) (dd_X11_sightingAt 8 _ _ _ rfl) (dd_X11_sightingAt 9 _ _ _ rfl) (dd_X11_sightingAt 10 _ _ _ rfl) ?_
    exact kE (by omega)
  · refine r_iload_1 5 rfl (dd_X11_sightingAt 2 _ _ _ rfl) ?_
    refine r_aload_0 6 rfl (dd_X11_sightingAt 3 _ _ _ rfl) ?_
    refine r_getr hg zc_X11 7 (by decide) (fun _ _ _ => rfl) y.mn.2.2.2.2.2.2.2.2.2.1 y.mn.1 (Or.inl rfl) (tb_1 128 _ rfl) 9 rfl (dd_X11_sightingAt 4 _ _ _ rfl) ?_
    refine r_callV0 (lvl := 10) (mc1 := 0) (ms1 := 0) 1 6 hg rfl md_Jx4a65c_size_8abf5 zc_Jx4a65c y.ls.1 wi_Jx4a65c_size_8abf5 wv_Jx4a65c_size_8abf5 (tb_2 8 _ rfl) (by decide) (by decide) rfl (Nat.le_of_ble_eq_true rfl) (Nat.le_of_ble_eq_true rfl) (Nat.le_of_ble_eq_true rfl) 12 rfl (dd_X11_sightingAt 5 _ _ _ rfl) ?_
    refine c_Jx4a65c_size_8abf5 hg y.ls ?_
    dsimp only [zCont, Option.toList, List.cons_append, List.nil_append]
    refine r_if_icmplt (by omega) (by omega) 15 rfl 23 rfl (dd_X11_sightingAt 6 _ _ _ rfl) (fun hc2 => ?_) (fun hc2 => ?_)
    · obtain ⟨u, rfl⟩ := Int.eq_ofNat_of_zero_le (show 0 ≤ v by omega)
      obtain ⟨a, hV⟩ : ∃ a, Ss[u]? = some a := ⟨Ss[u], List.getElem?_eq_getElem (by omega)⟩
      refine r_aload_0 24 rfl (dd_X11_sightingAt 11 _ _ _ rfl) ?_
      refine r_getr hg zc_X11 7 (by decide) (fun _ _ _ => rfl) y.mn.2.2.2.2.2.2.2.2.2.1 y.mn.1 (Or.inl rfl) (tb_1 128 _ rfl) 27 rfl (dd_X11_sightingAt 12 _ _ _ rfl) ?_
      refine r_iload_1 28 rfl (dd_X11_sightingAt 13 _ _ _ rfl) ?_
      refine r_callV1 (lvl := 12) (mc1 := 0) (ms1 := 0) 1 6 hg rfl md_Jx4a65c_get_915e3 zc_Jx4a65c y.ls.1 wi_Jx4a65c_get_915e3 wv_Jx4a65c_get_915e3 (tb_2 12 _ rfl) (by decide) (by decide) rfl (Nat.le_of_ble_eq_true rfl) (Nat.le_of_ble_eq_true rfl) (Nat.le_of_ble_eq_true rfl) 31 rfl (dd_X11_sightingAt 14 _ _ _ rfl) ?_
      refine c_Jx4a65c_get_915e3 hg y.ls (i := u) (y := a) hV ?_
      dsimp only [zCont, Option.toList, List.cons_append, List.nil_append]
      refine r_checkcastS hg zc_X7 ((by obtain ⟨sg, z⟩ := y.si u a hV; exact z.1)) (tb_5 87 _ rfl) 34 rfl (dd_X11_sightingAt 15 _ _ _ rfl) ?_
      refine r_areturn rfl (by first | exact Or.inl ⟨_, rfl⟩ | exact Or.inr ⟨_, rfl⟩) (dd_X11_sightingAt 16 _ _ _ rfl) ?_
      exact k u a rfl hV (by omega)
    · refine r_throw hg zt_IOOBE rfl (by decide) (Nat.le_of_ble_eq_true rfl) (Nat.le_of_ble_eq_true rfl) (Nat.le_of_ble_eq_true rfl) (pc3 := 18) (pc4 := 19) (pc7 := 22) rfl rfl rfl (dd_X11_sightingAt 7 _ _ _ rfl) (dd_X11_sightingAt 8 _ _ _ rfl) (dd_X11_sightingAt 9 _ _ _ rfl) (dd_X11_sightingAt 10 _ _ _ rfl) ?_
      exact kE (by omega)

abbrev mX11_fineAt : zM := (RX11, cX11_fineAt, 2, (Option.some (Jvm.ClassFile.FieldType.object "Platehall$Fine")), [], "fineAt", 13)
set_option maxRecDepth 20000 in
theorem c_X11_fineAt {g : zGT} {Q : zO → zH → Prop} {h : zH} (hg : zG g) {o : Nat → Nat} {x : Nat} {S : zS} {n : Nat} {Vs Ps Ss Ts Fs Tn : List Nat} {A : Nat → Nat} {G : Nat → Nat → Nat} {Rc : Nat → Nat} (hI : MInv n S) (y : CRep g o h x S n Vs Ps Ss Ts Fs Tn A G Rc) {v : Int} (hv : zR v) (kE : ¬ (0 ≤ v ∧ v < S.1 36) → Q (.inr "java/lang/IndexOutOfBoundsException") h) (k : ∀ u a : Nat, v = u → Fs[u]? = some a → v < S.1 36 → Q (.inl (some (.ref a))) h) : zC g (.code yX11_fineAt cX11_fineAt 2 (Option.some (Jvm.ClassFile.FieldType.object "Platehall$Fine"))) yX11_fineAt 13 1 6 [.ref x, .int (zI v)] h Q := by
  refine zC_of (M := mX11_fineAt) (lv := [some (.ref x), some (.int (zI v))]) (by decide) rfl rfl (Nat.le_of_ble_eq_true rfl) rfl rfl ?_
  have e1 := hI.vehicles
  have e2 := hI.today
  have e3 := hI.people
  have e4 := hI.sightings
  have e5 := hI.fines
  have e6 := hI.calls
  have nv := y.nv
  have np := y.np
  have ns := y.ns
  have nf := y.nf
  refine r_iload_1 1 rfl (dd_X11_fineAt 0 _ _ _ rfl) ?_
  refine r_iflt (by omega) 4 rfl 15 rfl (dd_X11_fineAt 1 _ _ _ rfl) (fun hc1 => ?_) (fun hc1 => ?_)
  · refine r_throw hg zt_IOOBE rfl (by decide) (Nat.le_of_ble_eq_true rfl) (Nat.le_of_ble_eq_true rfl) (Nat.le_of_ble_eq_true rfl) (pc3 := 18) (pc4 := 19) (pc7 := 22) rfl rfl rfl (dd_X11_fineAt 7 _ _ _ rfl) (dd_X11_fineAt 8 _ _ _ rfl) (dd_X11_fineAt 9 _ _ _ rfl) (dd_X11_fineAt 10 _ _ _ rfl) ?_
    exact kE (by omega)
  · refine r_iload_1 5 rfl (dd_X11_fineAt 2 _ _ _ rfl) ?_
    refine r_aload_0 6 rfl (dd_X11_fineAt 3 _ _ _ rfl) ?_
    refine r_getr hg zc_X11 9 (by decide) (fun _ _ _ => rfl) y.mn.2.2.2.2.2.2.2.2.2.2.2 y.mn.1 (Or.inl rfl) (tb_1 130 _ rfl) 9 rfl (dd_X11_fineAt 4 _ _ _ rfl) ?_
    refine r_callV0 (lvl := 10) (mc1 := 0) (ms1 := 0) 1 6 hg rfl md_Jx4a65c_size_8abf5 zc_Jx4a65c y.lf.1 wi_Jx4a65c_size_8abf5 wv_Jx4a65c_size_8abf5 (tb_2 8 _ rfl) (by decide) (by decide) rfl (Nat.le_of_ble_eq_true rfl) (Nat.le_of_ble_eq_true rfl) (Nat.le_of_ble_eq_true rfl) 12 rfl (dd_X11_fineAt 5 _ _ _ rfl) ?_
    refine c_Jx4a65c_size_8abf5 hg y.lf ?_
    dsimp only [zCont, Option.toList, List.cons_append, List.nil_append]
    refine r_if_icmplt (by omega) (by omega) 15 rfl 23 rfl (dd_X11_fineAt 6 _ _ _ rfl) (fun hc2 => ?_) (fun hc2 => ?_)
    · obtain ⟨u, rfl⟩ := Int.eq_ofNat_of_zero_le (show 0 ≤ v by omega)
      obtain ⟨a, hV⟩ : ∃ a, Fs[u]? = some a := ⟨Fs[u], List.getElem?_eq_getElem (by omega)⟩
      refine r_aload_0 24 rfl (dd_X11_fineAt 11 _ _ _ rfl) ?_
      refine r_getr hg zc_X11 9 (by decide) (fun _ _ _ => rfl) y.mn.2.2.2.2.2.2.2.2.2.2.2 y.mn.1 (Or.inl rfl) (tb_1 130 _ rfl) 27 rfl (dd_X11_fineAt 12 _ _ _ rfl) ?_
      refine r_iload_1 28 rfl (dd_X11_fineAt 13 _ _ _ rfl) ?_
      refine r_callV1 (lvl := 12) (mc1 := 0) (ms1 := 0) 1 6 hg rfl md_Jx4a65c_get_915e3 zc_Jx4a65c y.lf.1 wi_Jx4a65c_get_915e3 wv_Jx4a65c_get_915e3 (tb_2 12 _ rfl) (by decide) (by decide) rfl (Nat.le_of_ble_eq_true rfl) (Nat.le_of_ble_eq_true rfl) (Nat.le_of_ble_eq_true rfl) 31 rfl (dd_X11_fineAt 14 _ _ _ rfl) ?_
      refine c_Jx4a65c_get_915e3 hg y.lf (i := u) (y := a) hV ?_
      dsimp only [zCont, Option.toList, List.cons_append, List.nil_append]
      refine r_checkcastS hg zc_X3 ((y.fi u a hV).1) (tb_5 161 _ rfl) 34 rfl (dd_X11_fineAt 15 _ _ _ rfl) ?_
      refine r_areturn rfl (by first | exact Or.inl ⟨_, rfl⟩ | exact Or.inr ⟨_, rfl⟩) (dd_X11_fineAt 16 _ _ _ rfl) ?_
      exact k u a rfl hV (by omega)
    · refine r_throw hg zt_IOOBE rfl (by decide) (Nat.le_of_ble_eq_true rfl) (Nat.le_of_ble_eq_true rfl) (Nat.le_of_ble_eq_true rfl) (pc3 := 18) (pc4 := 19) (pc7 := 22) rfl rfl rfl (dd_X11_fineAt 7 _ _ _ rfl) (dd_X11_fineAt 8 _ _ _ rfl) (dd_X11_fineAt 9 _ _ _ rfl) (dd_X11_fineAt 10 _ _ _ rfl) ?_
      exact kE (by omega)

theorem zvof_none {S : zS} {s : Int} : ∀ k : Nat, (∀ i, i < k → S.2 5 i ≠ s) → zvof S s k = -1
  | 0, _ => rfl
  | k + 1, h => by unfold zvof; rw [if_neg (h k (by omega))]; exact zvof_none k fun i hi => h i (by omega)
theorem zvof_some {S : zS} {s : Int} {u : Nat} (hu : S.2 5 u = s) : ∀ k : Nat, u < k → (∀ i, u < i → i < k → S.2 5 i ≠ s) → zvof S s k = u
  | 0, h, _ => absurd h (by omega)
  | k + 1, h, h2 => by
    unfold zvof
    by_cases hq : u = k
    · subst hq; rw [if_pos hu]
    · rw [if_neg (h2 k (by omega) (by omega))]; exact zvof_some hu k (by omega) fun i a b => h2 i a (by omega)
abbrev mX11_vehicleOfSerial : zM := (RX11, cX11_vehicleOfSerial, 3, (Option.some Jvm.ClassFile.FieldType.int), [], "vehicleOfSerial", 13)
set_option maxRecDepth 20000 in
theorem c_X11_vehicleOfSerial {g : zGT} {Q : zO → zH → Prop} {h : zH} (hg : zG g) {o : Nat → Nat} {x : Nat} {S : zS} {n : Nat} {Vs Ps Ss Ts Fs Tn : List Nat} {A : Nat → Nat} {G : Nat → Nat → Nat} {Rc : Nat → Nat} (hI : MInv n S) (y : CRep g o h x S n Vs Ps Ss Ts Fs Tn A G Rc) {v : Int} (hv : zR v) (k : Q (.inl (some (.int (zI (zvof S v (S.1 4).toNat))))) h) : zC g (.code yX11_vehicleOfSerial cX11_vehicleOfSerial 3 (Option.some Jvm.ClassFile.FieldType.int)) yX11_vehicleOfSerial 13 0 0 [.ref x, .int (zI v)] h Q := by
  refine zC_of (M := mX11_vehicleOfSerial) (lv := [some (.ref x), some (.int (zI v)), none]) (by decide) rfl rfl (Nat.le_of_ble_eq_true rfl) rfl rfl ?_
  have e1 := hI.vehicles
  have e2 := hI.today
  have e3 := hI.people
  have e4 := hI.sightings
  have e5 := hI.fines
  have e6 := hI.calls
  have nv := y.nv
  have np := y.np
  have ns := y.ns
  have nf := y.nf
  refine r_iconst 1 rfl (dd_X11_vehicleOfSerial 0 _ _ _ rfl) ?_
  refine r_istore_2 2 rfl (by decide) rfl (dd_X11_vehicleOfSerial 1 _ _ _ rfl) ?_
  have L2 : ∀ (tt : Nat), ∀ (u : Nat) (b : Int), 100 - u < tt → (u ≤ Vs.length) → (b = u) → (∀ i, i < u → S.2 5 i ≠ v) → zX g mX11_vehicleOfSerial 0 0 Q 2 [some (.ref x), some (.int (zI v)), some (.int (zI b))] [] h 0 0 := by
    intro tt2
    induction tt2 with
    | zero => intros; exfalso; omega
    | succ tt2 ih2 =>
      intro u b hlt2 hj hb hall
      subst hb
      refine r_iload_2 3 rfl (dd_X11_vehicleOfSerial 2 _ _ _ rfl) ?_
      refine r_aload_0 4 rfl (dd_X11_vehicleOfSerial 3 _ _ _ rfl) ?_
      refine r_getr hg zc_X11 3 (by decide) (fun _ _ _ => rfl) y.mn.2.2.2.2.2.2.1 y.mn.1 (Or.inl rfl) (tb_1 124 _ rfl) 7 rfl (dd_X11_vehicleOfSerial 4 _ _ _ rfl) ?_
      refine r_callV0 (lvl := 10) (mc1 := 0) (ms1 := 0) 0 0 hg rfl md_Jx4a65c_size_8abf5 zc_Jx4a65c y.lv.1 wi_Jx4a65c_size_8abf5 wv_Jx4a65c_size_8abf5 (tb_2 8 _ rfl) (by decide) (by decide) rfl (Nat.le_of_ble_eq_true rfl) (Nat.le_of_ble_eq_true rfl) (Nat.le_of_ble_eq_true rfl) 10 rfl (dd_X11_vehicleOfSerial 5 _ _ _ rfl) ?_
      refine c_Jx4a65c_size_8abf5 hg y.lv ?_
      dsimp only [zCont, Option.toList, List.cons_append, List.nil_append]
      refine r_if_icmpge (by omega) (by omega) 13 rfl 39 rfl (dd_X11_vehicleOfSerial 6 _ _ _ rfl) (fun hc1 => ?_) (fun hc1 => ?_)
      · refine r_iconst 40 rfl (dd_X11_vehicleOfSerial 19 _ _ _ rfl) ?_
        refine r_ireturn rfl rfl (dd_X11_vehicleOfSerial 20 _ _ _ rfl) ?_
        rw [zvof_none _ (fun i hi => hall i (by omega))] at k
        exact k
      · obtain ⟨va, hV⟩ : ∃ a, Vs[u]? = some a := ⟨Vs[u], List.getElem?_eq_getElem (by omega)⟩
        have hsr := hI.serial u
        refine r_aload_0 14 rfl (dd_X11_vehicleOfSerial 7 _ _ _ rfl) ?_
        refine r_getr hg zc_X11 3 (by decide) (fun _ _ _ => rfl) y.mn.2.2.2.2.2.2.1 y.mn.1 (Or.inl rfl) (tb_1 124 _ rfl) 17 rfl (dd_X11_vehicleOfSerial 8 _ _ _ rfl) ?_
        refine r_iload_2 18 rfl (dd_X11_vehicleOfSerial 9 _ _ _ rfl) ?_
        refine r_callV1 (lvl := 12) (mc1 := 0) (ms1 := 0) 0 0 hg rfl md_Jx4a65c_get_915e3 zc_Jx4a65c y.lv.1 wi_Jx4a65c_get_915e3 wv_Jx4a65c_get_915e3 (tb_2 12 _ rfl) (by decide) (by decide) rfl (Nat.le_of_ble_eq_true rfl) (Nat.le_of_ble_eq_true rfl) (Nat.le_of_ble_eq_true rfl) 21 rfl (dd_X11_vehicleOfSerial 10 _ _ _ rfl) ?_
        refine c_Jx4a65c_get_915e3 hg y.lv (i := u) (y := va) hV ?_
        dsimp only [zCont, Option.toList, List.cons_append, List.nil_append]
        refine r_checkcastS hg zc_X10 (y.vo u va hV).1 (tb_2 26 _ rfl) 24 rfl (dd_X11_vehicleOfSerial 11 _ _ _ rfl) ?_
        refine r_geti hg zc_X10 0 (by decide) (fun _ _ _ => rfl) (y.vo u va hV).2.2.1 (y.vo u va hV).1 (Or.inl rfl) (tb_2 119 _ rfl) 27 rfl (dd_X11_vehicleOfSerial 12 _ _ _ rfl) ?_
        refine r_iload_1 28 rfl (dd_X11_vehicleOfSerial 13 _ _ _ rfl) ?_
        refine r_if_icmpne (by omega) (by omega) 31 rfl 33 rfl (dd_X11_vehicleOfSerial 14 _ _ _ rfl) (fun hc2 => ?_) (fun hc2 => ?_)
        · refine r_iinc_2 36 rfl (by decide) rfl (dd_X11_vehicleOfSerial 17 _ _ _ rfl) ?_
          refine r_goto 2 rfl (dd_X11_vehicleOfSerial 18 _ _ _ rfl) ?_
          exact r_sub _ (z_s1 (z_s1 (z_s1 z_sN))) (ih2 (u + 1) _ (by omega) (by omega) (by omega) (lt_s hall (by assumption)))
        · refine r_iload_2 32 rfl (dd_X11_vehicleOfSerial 15 _ _ _ rfl) ?_
          refine r_ireturn rfl rfl (dd_X11_vehicleOfSerial 16 _ _ _ rfl) ?_
          rw [zvof_some (u := u) (by omega) _ (by omega) (fun i h1 h2 q => y.us u i h1 (by omega) (by omega))] at k
          exact k
  exact r_sub _ (z_s1 (z_s1 (z_s1 z_sN))) (L2 1000000 0 _ (by omega) (by omega) rfl lt_0)

abbrev mX11_refuseStandingAsked : zM := (RX11, cX11_refuseStandingAsked, 3, (Option.none : Option Jvm.ClassFile.FieldType), [], "refuseStandingAsked", 12)
set_option maxRecDepth 20000 in
theorem c_X11_refuseStandingAsked {g : zGT} {Q : zO → zH → Prop} {h : zH} (hg : zG g) {o : Nat → Nat} {x : Nat} {S : zS} {n : Nat} {Vs Ps Ss Ts Fs Tn : List Nat} {A : Nat → Nat} {G : Nat → Nat → Nat} {Rc : Nat → Nat} (hI : MInv n S) (y : CRep g o h x S n Vs Ps Ss Ts Fs Tn A G Rc) {w q : Int} (hw : zR w) (hq : zR q) (kE : ¬ (0 ≤ w ∧ w ≤ S.1 1 ∧ 0 ≤ q ∧ q ≤ 3) → Q (.inr "java/lang/IllegalArgumentException") h) (k : (0 ≤ w ∧ w ≤ S.1 1 ∧ 0 ≤ q ∧ q ≤ 3) → Q (.inl none) h) : zC g (.code yX11_refuseStandingAsked cX11_refuseStandingAsked 3 (Option.none : Option Jvm.ClassFile.FieldType)) yX11_refuseStandingAsked 12 1 6 [.ref x, .int (zI w), .int (zI q)] h Q := by
  refine zC_of (M := mX11_refuseStandingAsked) (lv := [some (.ref x), some (.int (zI w)), some (.int (zI q))]) (by decide) rfl rfl (Nat.le_of_ble_eq_true rfl) rfl rfl ?_
  have e1 := hI.vehicles
  have e2 := hI.today
  have e3 := hI.people
  have e4 := hI.sightings
  have e5 := hI.fines
  have e6 := hI.calls
  have nv := y.nv
  have np := y.np
  have ns := y.ns
  have nf := y.nf
  refine r_iload_1 1 rfl (dd_X11_refuseStandingAsked 0 _ _ _ rfl) ?_
  refine r_iconst 2 rfl (dd_X11_refuseStandingAsked 1 _ _ _ rfl) ?_
  refine r_aload_0 3 rfl (dd_X11_refuseStandingAsked 2 _ _ _ rfl) ?_
  refine r_geti hg zc_X11 0 (by decide) (fun _ _ _ => rfl) y.mn.2.2.1 y.mn.1 (Or.inl rfl) (tb_1 121 _ rfl) 6 rfl (dd_X11_refuseStandingAsked 3 _ _ _ rfl) ?_
  refine r_callS3 (lvl := 10) (mc1 := 0) (ms1 := 0) 1 6 hg rfl md_X11_isWithin ws_X11_isWithin (tb_1 171 _ rfl) (by decide) (by decide) rfl (Nat.le_of_ble_eq_true rfl) (Nat.le_of_ble_eq_true rfl) (Nat.le_of_ble_eq_true rfl) 9 rfl (dd_X11_refuseStandingAsked 4 _ _ _ rfl) ?_
  refine c_X11_isWithin hg (by omega) (by omega) (by omega) (fun hb1 => ?_) (fun hb1 => ?_)
  · dsimp only [zCont, Option.toList, List.cons_append, List.nil_append]
    refine r_ifeq (by omega) 12 rfl 21 rfl (dd_X11_refuseStandingAsked 5 _ _ _ rfl) (fun q => absurd q (by decide)) (fun _ => ?_)
    refine r_iload_2 13 rfl (dd_X11_refuseStandingAsked 6 _ _ _ rfl) ?_
    refine r_iconst 14 rfl (dd_X11_refuseStandingAsked 7 _ _ _ rfl) ?_
    refine r_iconst 15 rfl (dd_X11_refuseStandingAsked 8 _ _ _ rfl) ?_
    refine r_callS3 (lvl := 10) (mc1 := 0) (ms1 := 0) 1 6 hg rfl md_X11_isWithin ws_X11_isWithin (tb_1 171 _ rfl) (by decide) (by decide) rfl (Nat.le_of_ble_eq_true rfl) (Nat.le_of_ble_eq_true rfl) (Nat.le_of_ble_eq_true rfl) 18 rfl (dd_X11_refuseStandingAsked 9 _ _ _ rfl) ?_
    refine c_X11_isWithin hg (by omega) (by omega) (by omega) (fun hb2 => ?_) (fun hb2 => ?_)
    · dsimp only [zCont, Option.toList, List.cons_append, List.nil_append]
      refine r_ifne (by omega) 21 rfl 29 rfl (dd_X11_refuseStandingAsked 10 _ _ _ rfl) (fun _ => ?_) (fun q => absurd q (by decide))
      refine r_vreturn rfl (dd_X11_refuseStandingAsked 15 _ _ _ rfl) ?_
      exact k (by omega)
    · dsimp only [zCont, Option.toList, List.cons_append, List.nil_append]
      refine r_ifne (by omega) 21 rfl 29 rfl (dd_X11_refuseStandingAsked 10 _ _ _ rfl) (fun q => absurd q (by decide)) (fun _ => ?_)
      refine r_throw hg zt_IAE rfl (by decide) (Nat.le_of_ble_eq_true rfl) (Nat.le_of_ble_eq_true rfl) (Nat.le_of_ble_eq_true rfl) (pc3 := 24) (pc4 := 25) (pc7 := 28) rfl rfl rfl (dd_X11_refuseStandingAsked 11 _ _ _ rfl) (dd_X11_refuseStandingAsked 12 _ _ _ rfl) (dd_X11_refuseStandingAsked 13 _ _ _ rfl) (dd_X11_refuseStandingAsked 14 _ _ _ rfl) ?_
      exact kE (by omega)
  · dsimp only [zCont, Option.toList, List.cons_append, List.nil_append]
    refine r_ifeq (by omega) 12 rfl 21 rfl (dd_X11_refuseStandingAsked 5 _ _ _ rfl) (fun _ => ?_) (fun q => absurd q (by decide))
    refine r_throw hg zt_IAE rfl (by decide) (Nat.le_of_ble_eq_true rfl) (Nat.le_of_ble_eq_true rfl) (Nat.le_of_ble_eq_true rfl) (pc3 := 24) (pc4 := 25) (pc7 := 28) rfl rfl rfl (dd_X11_refuseStandingAsked 11 _ _ _ rfl) (dd_X11_refuseStandingAsked 12 _ _ _ rfl) (dd_X11_refuseStandingAsked 13 _ _ _ rfl) (dd_X11_refuseStandingAsked 14 _ _ _ rfl) ?_
    exact kE (by omega)

abbrev mX11_isGoneToday : zM := (RX11, cX11_isGoneToday, 2, (Option.some Jvm.ClassFile.FieldType.boolean), [], "isGoneToday", 14)
set_option maxRecDepth 20000 in
theorem c_X11_isGoneToday {g : zGT} {Q : zO → zH → Prop} {h : zH} (hg : zG g) {o : Nat → Nat} {x : Nat} {S : zS} {n : Nat} {Vs Ps Ss Ts Fs Tn : List Nat} {A : Nat → Nat} {G : Nat → Nat → Nat} {Rc : Nat → Nat} (hI : MInv n S) (y : CRep g o h x S n Vs Ps Ss Ts Fs Tn A G Rc) {u va : Nat} (hV : Vs[u]? = some va) (k1 : zstate S u (S.1 1) = 4 → Q (.inl (some (.int (zI 1)))) h) (k0 : ¬ zstate S u (S.1 1) = 4 → Q (.inl (some (.int (zI 0)))) h) : zC g (.code yX11_isGoneToday cX11_isGoneToday 2 (Option.some Jvm.ClassFile.FieldType.boolean)) yX11_isGoneToday 14 0 0 [.ref x, .ref va] h Q := by
  refine zC_of (M := mX11_isGoneToday) (lv := [some (.ref x), some (.ref va)]) (by decide) rfl rfl (Nat.le_of_ble_eq_true rfl) rfl rfl ?_
  have e1 := hI.vehicles
  have e2 := hI.today
  have e3 := hI.people
  have e4 := hI.sightings
  have e5 := hI.fines
  have e6 := hI.calls
  have nv := y.nv
  have np := y.np
  have ns := y.ns
  have nf := y.nf
  have huL := (List.getElem?_eq_some_iff.mp hV).1
  have hul : u < Vs.length := by omega
  have hu12 : u < 12 := by omega
  obtain ⟨⟨t, l, L, B, hp⟩, hsd⟩ := id (y.hi u hul)
  obtain ⟨hp1, hp2, hp3, hp4, hp5, hp6, hp7, hp8, hp9, hp10, hp11, hp12⟩ := id hp
  have hzr := zst_range S u (zev S u (S.1 1))
  have hzs : zstate S u (S.1 1) = (zst S u (zev S u (S.1 1))).1 := rfl
  refine r_aload_1 1 rfl (dd_X11_isGoneToday 0 _ _ _ rfl) ?_
  refine r_getr hg zc_X10 2 (by decide) (fun _ _ _ => rfl) (y.vo u va hV).2.2.2.2.1 (y.vo u va hV).1 (Or.inl rfl) (tb_2 123 _ rfl) 4 rfl (dd_X11_isGoneToday 1 _ _ _ rfl) ?_
  refine r_aload_0 5 rfl (dd_X11_isGoneToday 2 _ _ _ rfl) ?_
  refine r_geti hg zc_X11 0 (by decide) (fun _ _ _ => rfl) y.mn.2.2.1 y.mn.1 (Or.inl rfl) (tb_1 121 _ rfl) 8 rfl (dd_X11_isGoneToday 3 _ _ _ rfl) ?_
  refine r_callV1 (lvl := 13) (mc1 := 0) (ms1 := 0) 0 0 hg rfl md_X4_standingOn zc_X4 hp1 wi_X4_standingOn wv_X4_standingOn (tb_4 145 _ rfl) (by decide) (by decide) rfl (Nat.le_of_ble_eq_true rfl) (Nat.le_of_ble_eq_true rfl) (Nat.le_of_ble_eq_true rfl) 11 rfl (dd_X11_isGoneToday 4 _ _ _ rfl) ?_
  refine c_X4_standingOn hg hI hsd hp (by omega) (fun sb hsb => ?_)
  dsimp only [zCont, Option.toList, List.cons_append, List.nil_append]
  refine r_geti hg zc_X8 0 (by decide) (fun _ _ _ => rfl) hsb.2.2.1 hsb.1 (Or.inl rfl) (tb_2 64 _ rfl) 14 rfl (dd_X11_isGoneToday 5 _ _ _ rfl) ?_
  refine r_iconst 15 rfl (dd_X11_isGoneToday 6 _ _ _ rfl) ?_
  refine r_if_icmpne (by omega) (by omega) 18 rfl 22 rfl (dd_X11_isGoneToday 7 _ _ _ rfl) (fun hc1 => ?_) (fun hc1 => ?_)
  · refine r_iconst 23 rfl (dd_X11_isGoneToday 10 _ _ _ rfl) ?_
    refine r_ireturn rfl rfl (dd_X11_isGoneToday 11 _ _ _ rfl) ?_
    exact k0 (by omega)
  · refine r_iconst 19 rfl (dd_X11_isGoneToday 8 _ _ _ rfl) ?_
    refine r_goto 23 rfl (dd_X11_isGoneToday 9 _ _ _ rfl) ?_
    refine r_ireturn rfl rfl (dd_X11_isGoneToday 11 _ _ _ rfl) ?_
    exact k1 (by omega)

abbrev mX11_on : zM := (RX11, cX11_on, 5, (Option.some Jvm.ClassFile.FieldType.int), [], "on", 15)
set_option maxRecDepth 20000 in
theorem c_X11_on {g : zGT} {Q : zO → zH → Prop} {h : zH} (hg : zG g) {o : Nat → Nat} {x : Nat} {S : zS} {n : Nat} {Vs Ps Ss Ts Fs Tn : List Nat} {A : Nat → Nat} {G : Nat → Nat → Nat} {Rc : Nat → Nat} (hI : MInv n S) (y : CRep g o h x S n Vs Ps Ss Ts Fs Tn A G Rc) {v w q : Int} (hv : zR v) (hw : zR w) (hq : zR q) (kE : ¬ (0 ≤ v ∧ v < S.1 4) → Q (.inr "java/lang/IndexOutOfBoundsException") h) (k2 : ∀ u : Nat, v = u → v < S.1 4 → ¬ (0 ≤ w ∧ w ≤ S.1 1 ∧ 0 ≤ q ∧ q ≤ 3) → Q (.inr "java/lang/IllegalArgumentException") h) (k0 : ∀ u : Nat, v = u → v < S.1 4 → (0 ≤ w ∧ w ≤ S.1 1 ∧ 0 ≤ q ∧ q ≤ 3) → Q (.inl (some (.int (zI (if q = 0 then zstate S u w else if q = 1 then zlast S u w 0 (-1) else if q = 2 then zlast S u w 1 (-1) else zlast S u w 7 (S.2 7 u)))))) h) : zC g (.code yX11_on cX11_on 5 (Option.some Jvm.ClassFile.FieldType.int)) yX11_on 15 4 40 [.ref x, .int (zI v), .int (zI w), .int (zI q)] h Q := by
  refine zC_of (M := mX11_on) (lv := [some (.ref x), some (.int (zI v)), some (.int (zI w)), some (.int (zI q)), none]) (by decide) rfl rfl (Nat.le_of_ble_eq_true rfl) rfl rfl ?_
  have e1 := hI.vehicles
  have e2 := hI.today
  have e3 := hI.people
  have e4 := hI.sightings
  have e5 := hI.fines
  have e6 := hI.calls
  have nv := y.nv
  have np := y.np
  have ns := y.ns
  have nf := y.nf
  refine r_aload_0 1 rfl (dd_X11_on 0 _ _ _ rfl) ?_
  refine r_iload_1 2 rfl (dd_X11_on 1 _ _ _ rfl) ?_
  refine r_callV1 (lvl := 13) (mc1 := 1) (ms1 := 6) 3 34 hg rfl md_X11_vehicleAt zc_X11 y.mn.1 wi_X11_vehicleAt wv_X11_vehicleAt (tb_3 29 _ rfl) (by decide) (by decide) rfl (Nat.le_of_ble_eq_true rfl) (Nat.le_of_ble_eq_true rfl) (Nat.le_of_ble_eq_true rfl) 5 rfl (dd_X11_on 2 _ _ _ rfl) ?_
  refine c_X11_vehicleAt hg hI y (by omega) (fun hE => ?_) (fun u va hu hV hu4 => ?_)
  · dsimp only [zCont]
    exact kE hE
  · dsimp only [zCont, Option.toList, List.cons_append, List.nil_append]
    refine r_astore_4 7 rfl (by decide) rfl (dd_X11_on 3 _ _ _ rfl) ?_
    refine r_aload_0 8 rfl (dd_X11_on 4 _ _ _ rfl) ?_
    refine r_iload_2 9 rfl (dd_X11_on 5 _ _ _ rfl) ?_
    refine r_iload_3 10 rfl (dd_X11_on 6 _ _ _ rfl) ?_
    refine r_callV2 (lvl := 12) (mc1 := 1) (ms1 := 6) 2 28 hg rfl md_X11_refuseStandingAsked zc_X11 y.mn.1 wi_X11_refuseStandingAsked wv_X11_refuseStandingAsked (tb_6 39 _ rfl) (by decide) (by decide) rfl (Nat.le_of_ble_eq_true rfl) (Nat.le_of_ble_eq_true rfl) (Nat.le_of_ble_eq_true rfl) 13 rfl (dd_X11_on 7 _ _ _ rfl) ?_
    refine c_X11_refuseStandingAsked hg hI y (by omega) (by omega) (fun hE => ?_) (fun hok => ?_)
    · dsimp only [zCont]
      exact k2 u hu (by omega) hE
    · dsimp only [zCont, Option.toList, List.cons_append, List.nil_append]
      have hul : u < Vs.length := by omega
      have hu12 : u < 12 := by omega
      obtain ⟨⟨t, l, L, B, hp⟩, hsd⟩ := id (y.hi u hul)
      obtain ⟨hp1, hp2, hp3, hp4, hp5, hp6, hp7, hp8, hp9, hp10, hp11, hp12⟩ := id hp
      refine r_aload_4 15 rfl (dd_X11_on 8 _ _ _ rfl) ?_
      refine r_getr hg zc_X10 2 (by decide) (fun _ _ _ => rfl) (y.vo u va hV).2.2.2.2.1 (y.vo u va hV).1 (Or.inl rfl) (tb_2 123 _ rfl) 18 rfl (dd_X11_on 9 _ _ _ rfl) ?_
      refine r_iload_2 19 rfl (dd_X11_on 10 _ _ _ rfl) ?_
      refine r_callV1 (lvl := 13) (mc1 := 0) (ms1 := 0) 2 28 hg rfl md_X4_standingOn zc_X4 hp1 wi_X4_standingOn wv_X4_standingOn (tb_4 145 _ rfl) (by decide) (by decide) rfl (Nat.le_of_ble_eq_true rfl) (Nat.le_of_ble_eq_true rfl) (Nat.le_of_ble_eq_true rfl) 22 rfl (dd_X11_on 11 _ _ _ rfl) ?_
      refine c_X4_standingOn hg hI hsd hp (by omega) (fun sb hsb => ?_)
      dsimp only [zCont, Option.toList, List.cons_append, List.nil_append]
      refine r_iload_3 23 rfl (dd_X11_on 12 _ _ _ rfl) ?_
      refine r_callV1 (lvl := 10) (mc1 := 0) (ms1 := 0) 2 28 hg rfl md_X8_part zc_X8 hsb.1 wi_X8_part wv_X8_part (tb_6 43 _ rfl) (by decide) (by decide) rfl (Nat.le_of_ble_eq_true rfl) (Nat.le_of_ble_eq_true rfl) (Nat.le_of_ble_eq_true rfl) 26 rfl (dd_X11_on 13 _ _ _ rfl) ?_
      refine c_X8_part hg hsb (by omega) ?_
      dsimp only [zCont, Option.toList, List.cons_append, List.nil_append]
      refine r_ireturn rfl rfl (dd_X11_on 14 _ _ _ rfl) ?_
      exact k0 u hu (by omega) hok

abbrev mX11_onAnew : zM := (RX11, cX11_onAnew, 5, (Option.some Jvm.ClassFile.FieldType.int), [], "onAnew", 15)
set_option maxRecDepth 20000 in
theorem c_X11_onAnew {g : zGT} {Q : zO → zH → Prop} {h : zH} (hg : zG g) {o : Nat → Nat} {x : Nat} {S : zS} {n : Nat} {Vs Ps Ss Ts Fs Tn : List Nat} {A : Nat → Nat} {G : Nat → Nat → Nat} {Rc : Nat → Nat} (hI : MInv n S) (y : CRep g o h x S n Vs Ps Ss Ts Fs Tn A G Rc) {v w q : Int} (hv : zR v) (hw : zR w) (hq : zR q) (kE : ¬ (0 ≤ v ∧ v < S.1 4) → Q (.inr "java/lang/IndexOutOfBoundsException") h) (k2 : ∀ u : Nat, v = u → v < S.1 4 → ¬ (0 ≤ w ∧ w ≤ S.1 1 ∧ 0 ≤ q ∧ q ≤ 3) → Q (.inr "java/lang/IllegalArgumentException") h) (k0 : ∀ u : Nat, v = u → v < S.1 4 → (0 ≤ w ∧ w ≤ S.1 1 ∧ 0 ≤ q ∧ q ≤ 3) → ∀ o1 h1, CRep g o1 h1 x S n Vs Ps Ss Ts Fs Tn A G Rc → zStep (fun q => q = 15) o h o1 h1 → Q (.inl (some (.int (zI (if q = 0 then zstate S u w else if q = 1 then zlast S u w 0 (-1) else if q = 2 then zlast S u w 1 (-1) else zlast S u w 7 (S.2 7 u)))))) h1) : zC g (.code yX11_onAnew cX11_onAnew 5 (Option.some Jvm.ClassFile.FieldType.int)) yX11_onAnew 15 4 40 [.ref x, .int (zI v), .int (zI w), .int (zI q)] h Q := by
  refine zC_of (M := mX11_onAnew) (lv := [some (.ref x), some (.int (zI v)), some (.int (zI w)), some (.int (zI q)), none]) (by decide) rfl rfl (Nat.le_of_ble_eq_true rfl) rfl rfl ?_
  have e1 := hI.vehicles
  have e2 := hI.today
  have e3 := hI.people
  have e4 := hI.sightings
  have e5 := hI.fines
  have e6 := hI.calls
  have nv := y.nv
  have np := y.np
  have ns := y.ns
  have nf := y.nf
  refine r_aload_0 1 rfl (dd_X11_onAnew 0 _ _ _ rfl) ?_
  refine r_iload_1 2 rfl (dd_X11_onAnew 1 _ _ _ rfl) ?_
  refine r_callV1 (lvl := 13) (mc1 := 1) (ms1 := 6) 3 34 hg rfl md_X11_vehicleAt zc_X11 y.mn.1 wi_X11_vehicleAt wv_X11_vehicleAt (tb_3 29 _ rfl) (by decide) (by decide) rfl (Nat.le_of_ble_eq_true rfl) (Nat.le_of_ble_eq_true rfl) (Nat.le_of_ble_eq_true rfl) 5 rfl (dd_X11_onAnew 2 _ _ _ rfl) ?_
  refine c_X11_vehicleAt hg hI y (by omega) (fun hE => ?_) (fun u va hu hV hu4 => ?_)
  · dsimp only [zCont]
    exact kE hE
  · dsimp only [zCont, Option.toList, List.cons_append, List.nil_append]
    refine r_astore_4 7 rfl (by decide) rfl (dd_X11_onAnew 3 _ _ _ rfl) ?_
    refine r_aload_0 8 rfl (dd_X11_onAnew 4 _ _ _ rfl) ?_
    refine r_iload_2 9 rfl (dd_X11_onAnew 5 _ _ _ rfl) ?_
    refine r_iload_3 10 rfl (dd_X11_onAnew 6 _ _ _ rfl) ?_
    refine r_callV2 (lvl := 12) (mc1 := 1) (ms1 := 6) 2 28 hg rfl md_X11_refuseStandingAsked zc_X11 y.mn.1 wi_X11_refuseStandingAsked wv_X11_refuseStandingAsked (tb_6 39 _ rfl) (by decide) (by decide) rfl (Nat.le_of_ble_eq_true rfl) (Nat.le_of_ble_eq_true rfl) (Nat.le_of_ble_eq_true rfl) 13 rfl (dd_X11_onAnew 7 _ _ _ rfl) ?_
    refine c_X11_refuseStandingAsked hg hI y (by omega) (by omega) (fun hE => ?_) (fun hok => ?_)
    · dsimp only [zCont]
      exact k2 u hu (by omega) hE
    · dsimp only [zCont, Option.toList, List.cons_append, List.nil_append]
      have hul : u < Vs.length := by omega
      have hu12 : u < 12 := by omega
      obtain ⟨⟨t, l, L, B, hp⟩, hsd⟩ := id (y.hi u hul)
      obtain ⟨hp1, hp2, hp3, hp4, hp5, hp6, hp7, hp8, hp9, hp10, hp11, hp12⟩ := id hp
      refine r_aload_4 15 rfl (dd_X11_onAnew 8 _ _ _ rfl) ?_
      refine r_getr hg zc_X10 2 (by decide) (fun _ _ _ => rfl) (y.vo u va hV).2.2.2.2.1 (y.vo u va hV).1 (Or.inl rfl) (tb_2 123 _ rfl) 18 rfl (dd_X11_onAnew 9 _ _ _ rfl) ?_
      refine r_iload_2 19 rfl (dd_X11_onAnew 10 _ _ _ rfl) ?_
      refine r_callV1 (lvl := 13) (mc1 := 1) (ms1 := 5) 1 23 hg rfl md_X4_replayedTo zc_X4 hp1 wi_X4_replayedTo wv_X4_replayedTo (tb_6 59 _ rfl) (by decide) (by decide) rfl (Nat.le_of_ble_eq_true rfl) (Nat.le_of_ble_eq_true rfl) (Nat.le_of_ble_eq_true rfl) 22 rfl (dd_X11_onAnew 11 _ _ _ rfl) ?_
      refine c_X4_replayedTo hg hI hp (by unfold rg; omega) (by omega) (fun sb o1 h1 hsb st => ?_)
      dsimp only [zCont, Option.toList, List.cons_append, List.nil_append]
      refine r_iload_3 23 rfl (dd_X11_onAnew 12 _ _ _ rfl) ?_
      refine r_callV1 (lvl := 10) (mc1 := 0) (ms1 := 0) 1 23 hg rfl md_X8_part zc_X8 hsb.1 wi_X8_part wv_X8_part (tb_6 43 _ rfl) (by decide) (by decide) rfl (Nat.le_of_ble_eq_true rfl) (Nat.le_of_ble_eq_true rfl) (Nat.le_of_ble_eq_true rfl) 26 rfl (dd_X11_onAnew 13 _ _ _ rfl) ?_
      refine c_X8_part hg hsb (by omega) ?_
      dsimp only [zCont, Option.toList, List.cons_append, List.nil_append]
      refine r_ireturn rfl rfl (dd_X11_onAnew 14 _ _ _ rfl) ?_
      exact k0 u hu (by omega) hok o1 _ (y.fr fun r h0 h15 => st.fr (by show ¬ r = 15; exact h15)) st

abbrev mX11_stamped : zM := (RX11, cX11_stamped, 2, (Option.some Jvm.ClassFile.FieldType.int), [], "stamped", 14)
set_option maxRecDepth 20000 in
theorem c_X11_stamped {g : zGT} {Q : zO → zH → Prop} {h : zH} (hg : zG g) {o : Nat → Nat} {x : Nat} {S : zS} {n : Nat} {Vs Ps Ss Ts Fs Tn : List Nat} {A : Nat → Nat} {G : Nat → Nat → Nat} {Rc : Nat → Nat} (hI : MInv n S) (y : CRep g o h x S n Vs Ps Ss Ts Fs Tn A G Rc) {v : Int} (hv : zR v) (kE : ¬ (0 ≤ v ∧ v ≤ 99999 ∧ zdigit (v / 10) = v % 10) → Q (.inr "java/lang/IllegalArgumentException") h) (k : (0 ≤ v ∧ v ≤ 99999 ∧ zdigit (v / 10) = v % 10) → Q (.inl (some (.int (zI (zvof S (v / 10) (S.1 4).toNat))))) h) : zC g (.code yX11_stamped cX11_stamped 2 (Option.some Jvm.ClassFile.FieldType.int)) yX11_stamped 14 4 40 [.ref x, .int (zI v)] h Q := by
  refine zC_of (M := mX11_stamped) (lv := [some (.ref x), some (.int (zI v))]) (by decide) rfl rfl (Nat.le_of_ble_eq_true rfl) rfl rfl ?_
  have e1 := hI.vehicles
  have e2 := hI.today
  have e3 := hI.people
  have e4 := hI.sightings
  have e5 := hI.fines
  have e6 := hI.calls
  have nv := y.nv
  have np := y.np
  have ns := y.ns
  have nf := y.nf
  refine r_iload_1 1 rfl (dd_X11_stamped 0 _ _ _ rfl) ?_
  refine r_iconst 2 rfl (dd_X11_stamped 1 _ _ _ rfl) ?_
  refine r_ldc hg (tb_6 54 _ rfl) 4 rfl (dd_X11_stamped 2 _ _ _ rfl) ?_
  refine r_top 99999 rfl ?_
  refine r_callS3 (lvl := 10) (mc1 := 0) (ms1 := 0) 4 40 hg rfl md_X11_isWithin ws_X11_isWithin (tb_1 171 _ rfl) (by decide) (by decide) rfl (Nat.le_of_ble_eq_true rfl) (Nat.le_of_ble_eq_true rfl) (Nat.le_of_ble_eq_true rfl) 7 rfl (dd_X11_stamped 3 _ _ _ rfl) ?_
  refine c_X11_isWithin hg (by omega) (by omega) (by omega) (fun hb1 => ?_) (fun hb1 => ?_)
  · dsimp only [zCont, Option.toList, List.cons_append, List.nil_append]
    refine r_ifeq (by omega) 10 rfl 21 rfl (dd_X11_stamped 4 _ _ _ rfl) (fun q => absurd q (by decide)) (fun _ => ?_)
    refine r_iload_1 11 rfl (dd_X11_stamped 5 _ _ _ rfl) ?_
    refine r_bipush (by decide) 13 rfl (dd_X11_stamped 6 _ _ _ rfl) ?_
    refine r_idiv (by omega) (by omega) (by omega) (by omega) 14 rfl (dd_X11_stamped 7 _ _ _ rfl) ?_
    refine r_callS1 (lvl := 11) (mc1 := 0) (ms1 := 0) 4 40 hg rfl md_X11_stampedNumber ws_X11_stampedNumber (tb_5 70 _ rfl) (by decide) (by decide) rfl (Nat.le_of_ble_eq_true rfl) (Nat.le_of_ble_eq_true rfl) (Nat.le_of_ble_eq_true rfl) 17 rfl (dd_X11_stamped 8 _ _ _ rfl) ?_
    refine c_X11_stampedNumber hg (by omega) (by omega) ?_
    dsimp only [zCont, Option.toList, List.cons_append, List.nil_append]
    have hzd := zdigit_range (v / 10)
    refine r_iload_1 18 rfl (dd_X11_stamped 9 _ _ _ rfl) ?_
    refine r_if_icmpeq (by omega) (by omega) 21 rfl 29 rfl (dd_X11_stamped 10 _ _ _ rfl) (fun hc2 => ?_) (fun hc2 => ?_)
    · refine r_aload_0 30 rfl (dd_X11_stamped 15 _ _ _ rfl) ?_
      refine r_iload_1 31 rfl (dd_X11_stamped 16 _ _ _ rfl) ?_
      refine r_bipush (by decide) 33 rfl (dd_X11_stamped 17 _ _ _ rfl) ?_
      refine r_idiv (by omega) (by omega) (by omega) (by omega) 34 rfl (dd_X11_stamped 18 _ _ _ rfl) ?_
      refine r_callV1 (lvl := 13) (mc1 := 0) (ms1 := 0) 4 40 hg rfl md_X11_vehicleOfSerial zc_X11 y.mn.1 wi_X11_vehicleOfSerial wv_X11_vehicleOfSerial (tb_2 4 _ rfl) (by decide) (by decide) rfl (Nat.le_of_ble_eq_true rfl) (Nat.le_of_ble_eq_true rfl) (Nat.le_of_ble_eq_true rfl) 37 rfl (dd_X11_stamped 19 _ _ _ rfl) ?_
      refine c_X11_vehicleOfSerial hg hI y (by omega) ?_
      dsimp only [zCont, Option.toList, List.cons_append, List.nil_append]
      refine r_ireturn rfl rfl (dd_X11_stamped 20 _ _ _ rfl) ?_
      exact k (by omega)
    · refine r_throw hg zt_IAE rfl (by decide) (Nat.le_of_ble_eq_true rfl) (Nat.le_of_ble_eq_true rfl) (Nat.le_of_ble_eq_true rfl) (pc3 := 24) (pc4 := 25) (pc7 := 28) rfl rfl rfl (dd_X11_stamped 11 _ _ _ rfl) (dd_X11_stamped 12 _ _ _ rfl) (dd_X11_stamped 13 _ _ _ rfl) (dd_X11_stamped 14 _ _ _ rfl) ?_
      exact kE (by omega)
  · dsimp only [zCont, Option.toList, List.cons_append, List.nil_append]
    refine r_ifeq (by omega) 10 rfl 21 rfl (dd_X11_stamped 4 _ _ _ rfl) (fun _ => ?_) (fun q => absurd q (by decide))
    refine r_throw hg zt_IAE rfl (by decide) (Nat.le_of_ble_eq_true rfl) (Nat.le_of_ble_eq_true rfl) (Nat.le_of_ble_eq_true rfl) (pc3 := 24) (pc4 := 25) (pc7 := 28) rfl rfl rfl (dd_X11_stamped 11 _ _ _ rfl) (dd_X11_stamped 12 _ _ _ rfl) (dd_X11_stamped 13 _ _ _ rfl) (dd_X11_stamped 14 _ _ _ rfl) ?_
    exact kE (by omega)

abbrev mX11_looked : zM := (RX11, cX11_looked, 2, (Option.some Jvm.ClassFile.FieldType.int), [], "looked", 14)
set_option maxRecDepth 20000 in
theorem c_X11_looked {g : zGT} {Q : zO → zH → Prop} {h : zH} (hg : zG g) {o : Nat → Nat} {x : Nat} {S : zS} {n : Nat} {Vs Ps Ss Ts Fs Tn : List Nat} {A : Nat → Nat} {G : Nat → Nat → Nat} {Rc : Nat → Nat} (hI : MInv n S) (y : CRep g o h x S n Vs Ps Ss Ts Fs Tn A G Rc) {v : Int} (hv : zR v) (kE : ¬ (0 ≤ v ∧ v < S.1 12) → Q (.inr "java/lang/IndexOutOfBoundsException") h) (k : ∀ p : Nat, v = p → v < S.1 12 → Q (.inl (some (.int (zI (S.2 14 p))))) h) : zC g (.code yX11_looked cX11_looked 2 (Option.some Jvm.ClassFile.FieldType.int)) yX11_looked 14 4 40 [.ref x, .int (zI v)] h Q := by
  refine zC_of (M := mX11_looked) (lv := [some (.ref x), some (.int (zI v))]) (by decide) rfl rfl (Nat.le_of_ble_eq_true rfl) rfl rfl ?_
  have e1 := hI.vehicles
  have e2 := hI.today
  have e3 := hI.people
  have e4 := hI.sightings
  have e5 := hI.fines
  have e6 := hI.calls
  have nv := y.nv
  have np := y.np
  have ns := y.ns
  have nf := y.nf
  refine r_aload_0 1 rfl (dd_X11_looked 0 _ _ _ rfl) ?_
  refine r_iload_1 2 rfl (dd_X11_looked 1 _ _ _ rfl) ?_
  refine r_callV1 (lvl := 13) (mc1 := 1) (ms1 := 6) 3 34 hg rfl md_X11_personAt zc_X11 y.mn.1 wi_X11_personAt wv_X11_personAt (tb_3 3 _ rfl) (by decide) (by decide) rfl (Nat.le_of_ble_eq_true rfl) (Nat.le_of_ble_eq_true rfl) (Nat.le_of_ble_eq_true rfl) 5 rfl (dd_X11_looked 2 _ _ _ rfl) ?_
  refine c_X11_personAt hg hI y (by omega) (fun hE => ?_) (fun p pa hp hP hp4 => ?_)
  · dsimp only [zCont]
    exact kE hE
  · dsimp only [zCont, Option.toList, List.cons_append, List.nil_append]
    refine r_geti hg zc_X5 1 (by decide) (fun _ _ _ => rfl) (y.pe p pa hP).2.2.2 (y.pe p pa hP).1 (Or.inl rfl) (tb_2 229 _ rfl) 8 rfl (dd_X11_looked 3 _ _ _ rfl) ?_
    refine r_ireturn rfl rfl (dd_X11_looked 4 _ _ _ rfl) ?_
    exact k p hp (by omega)

abbrev mX11_plate : zM := (RX11, cX11_plate, 6, (Option.some Jvm.ClassFile.FieldType.char), [], "plate", 15)
set_option maxRecDepth 20000 in
theorem c_X11_plate {g : zGT} {Q : zO → zH → Prop} {h : zH} (hg : zG g) {o : Nat → Nat} {x : Nat} {S : zS} {n : Nat} {Vs Ps Ss Ts Fs Tn : List Nat} {A : Nat → Nat} {G : Nat → Nat → Nat} {Rc : Nat → Nat} (hI : MInv n S) (y : CRep g o h x S n Vs Ps Ss Ts Fs Tn A G Rc) {v w q : Int} (hv : zR v) (hw : zR w) (hq : zR q) (kE : ¬ (0 ≤ v ∧ v < S.1 4 ∧ 0 ≤ q ∧ q ≤ 3) → Q (.inr "java/lang/IndexOutOfBoundsException") h) (k2 : ∀ u : Nat, v = u → v < S.1 4 → (0 ≤ q ∧ q ≤ 3) → ¬ (0 ≤ w ∧ w ≤ S.1 1) → Q (.inr "java/lang/IllegalArgumentException") h) (k0 : ∀ u : Nat, v = u → v < S.1 4 → (0 ≤ q ∧ q ≤ 3) → (0 ≤ w ∧ w ≤ S.1 1) → Q (.inl (some (.int (zI (if zplate S u w = -1 then 0 else zsign (zplate S u w) q))))) h) : zC g (.code yX11_plate cX11_plate 6 (Option.some Jvm.ClassFile.FieldType.char)) yX11_plate 15 4 40 [.ref x, .int (zI v), .int (zI w), .int (zI q)] h Q := by
  refine zC_of (M := mX11_plate) (lv := [some (.ref x), some (.int (zI v)), some (.int (zI w)), some (.int (zI q)), none, none]) (by decide) rfl rfl (Nat.le_of_ble_eq_true rfl) rfl rfl ?_
  have e1 := hI.vehicles
  have e2 := hI.today
  have e3 := hI.people
  have e4 := hI.sightings
  have e5 := hI.fines
  have e6 := hI.calls
  have nv := y.nv
  have np := y.np
  have ns := y.ns
  have nf := y.nf
  refine r_aload_0 1 rfl (dd_X11_plate 0 _ _ _ rfl) ?_
  refine r_iload_1 2 rfl (dd_X11_plate 1 _ _ _ rfl) ?_
  refine r_callV1 (lvl := 13) (mc1 := 1) (ms1 := 6) 3 34 hg rfl md_X11_vehicleAt zc_X11 y.mn.1 wi_X11_vehicleAt wv_X11_vehicleAt (tb_3 29 _ rfl) (by decide) (by decide) rfl (Nat.le_of_ble_eq_true rfl) (Nat.le_of_ble_eq_true rfl) (Nat.le_of_ble_eq_true rfl) 5 rfl (dd_X11_plate 2 _ _ _ rfl) ?_
  refine c_X11_vehicleAt hg hI y (by omega) (fun hE => ?_) (fun u va hu hV hu4 => ?_)
  · dsimp only [zCont]
    exact kE (by omega)
  · dsimp only [zCont, Option.toList, List.cons_append, List.nil_append]
    refine r_astore_4 7 rfl (by decide) rfl (dd_X11_plate 3 _ _ _ rfl) ?_
    refine r_iload_3 8 rfl (dd_X11_plate 4 _ _ _ rfl) ?_
    refine r_iconst 9 rfl (dd_X11_plate 5 _ _ _ rfl) ?_
    refine r_iconst 10 rfl (dd_X11_plate 6 _ _ _ rfl) ?_
    refine r_callS3 (lvl := 10) (mc1 := 0) (ms1 := 0) 3 34 hg rfl md_X11_isWithin ws_X11_isWithin (tb_1 171 _ rfl) (by decide) (by decide) rfl (Nat.le_of_ble_eq_true rfl) (Nat.le_of_ble_eq_true rfl) (Nat.le_of_ble_eq_true rfl) 13 rfl (dd_X11_plate 7 _ _ _ rfl) ?_
    refine c_X11_isWithin hg (by omega) (by omega) (by omega) (fun hb1 => ?_) (fun hb1 => ?_)
    · dsimp only [zCont, Option.toList, List.cons_append, List.nil_append]
      refine r_ifne (by omega) 16 rfl 24 rfl (dd_X11_plate 8 _ _ _ rfl) (fun _ => ?_) (fun q => absurd q (by decide))
      refine r_iload_2 25 rfl (dd_X11_plate 13 _ _ _ rfl) ?_
      refine r_iconst 26 rfl (dd_X11_plate 14 _ _ _ rfl) ?_
      refine r_aload_0 27 rfl (dd_X11_plate 15 _ _ _ rfl) ?_
      refine r_geti hg zc_X11 0 (by decide) (fun _ _ _ => rfl) y.mn.2.2.1 y.mn.1 (Or.inl rfl) (tb_1 121 _ rfl) 30 rfl (dd_X11_plate 16 _ _ _ rfl) ?_
      refine r_callS3 (lvl := 10) (mc1 := 0) (ms1 := 0) 3 34 hg rfl md_X11_isWithin ws_X11_isWithin (tb_1 171 _ rfl) (by decide) (by decide) rfl (Nat.le_of_ble_eq_true rfl) (Nat.le_of_ble_eq_true rfl) (Nat.le_of_ble_eq_true rfl) 33 rfl (dd_X11_plate 17 _ _ _ rfl) ?_
      refine c_X11_isWithin hg (by omega) (by omega) (by omega) (fun hb2 => ?_) (fun hb2 => ?_)
      · dsimp only [zCont, Option.toList, List.cons_append, List.nil_append]
        refine r_ifne (by omega) 36 rfl 44 rfl (dd_X11_plate 18 _ _ _ rfl) (fun _ => ?_) (fun q => absurd q (by decide))
        have hul : u < Vs.length := by omega
        have hu12 : u < 12 := by omega
        obtain ⟨⟨t, l, L, B, hp⟩, hsd⟩ := id (y.hi u hul)
        obtain ⟨hp1, hp2, hp3, hp4, hp5, hp6, hp7, hp8, hp9, hp10, hp11, hp12⟩ := id hp
        obtain ⟨R, hR, hRp, hRt⟩ := y.pl u hul
        have hzr := zplate_range (S := S) (v := u) (w := w) hI
        refine r_aload_4 46 rfl (dd_X11_plate 23 _ _ _ rfl) ?_
        refine r_getr hg zc_X10 4 (by decide) (fun _ _ _ => rfl) (y.vo u va hV).2.2.2.2.2.2.1 (y.vo u va hV).1 (Or.inl rfl) (tb_2 127 _ rfl) 49 rfl (dd_X11_plate 24 _ _ _ rfl) ?_
        refine r_iload_2 50 rfl (dd_X11_plate 25 _ _ _ rfl) ?_
        refine r_iconst 51 rfl (dd_X11_plate 26 _ _ _ rfl) ?_
        refine r_callV2 (lvl := 11) (mc1 := 0) (ms1 := 0) 3 34 hg rfl md_X1_valueOn zc_X1 hR.own.1 wi_X1_valueOn wv_X1_valueOn (tb_4 229 _ rfl) (by decide) (by decide) rfl (Nat.le_of_ble_eq_true rfl) (Nat.le_of_ble_eq_true rfl) (Nat.le_of_ble_eq_true rfl) 54 rfl (dd_X11_plate 27 _ _ _ rfl) ?_
        refine c_X1_valueOnS hg hR (by omega) (by omega) ?_
        rw [hRp]
        dsimp only [zCont, Option.toList, List.cons_append, List.nil_append]
        refine r_istore_5 56 rfl (by decide) rfl (dd_X11_plate 28 _ _ _ rfl) ?_
        refine r_iload_5 58 rfl (dd_X11_plate 29 _ _ _ rfl) ?_
        refine r_iconst 59 rfl (dd_X11_plate 30 _ _ _ rfl) ?_
        refine r_if_icmpne (by omega) (by omega) 62 rfl 66 rfl (dd_X11_plate 31 _ _ _ rfl) (fun hc3 => ?_) (fun hc3 => ?_)
        · refine r_iload_5 68 rfl (dd_X11_plate 34 _ _ _ rfl) ?_
          refine r_iload_3 69 rfl (dd_X11_plate 35 _ _ _ rfl) ?_
          refine r_callS2 (lvl := 10) (mc1 := 0) (ms1 := 0) 3 34 hg rfl md_X11_signOf ws_X11_signOf (tb_4 233 _ rfl) (by decide) (by decide) rfl (Nat.le_of_ble_eq_true rfl) (Nat.le_of_ble_eq_true rfl) (Nat.le_of_ble_eq_true rfl) 72 rfl (dd_X11_plate 36 _ _ _ rfl) ?_
          refine c_X11_signOf hg (by omega) (by omega) (by omega) ?_
          dsimp only [zCont, Option.toList, List.cons_append, List.nil_append]
          refine r_ireturn rfl (zsign_nar (by omega) (by omega)) (dd_X11_plate 37 _ _ _ rfl) ?_
          first | (have k := k0 u hu (by omega) (by omega) (by omega); rw [if_pos (by omega)] at k; exact k) | (have k := k0 u hu (by omega) (by omega) (by omega); rw [if_neg (by omega)] at k; exact k)
        · refine r_iconst 63 rfl (dd_X11_plate 32 _ _ _ rfl) ?_
          refine r_goto 72 rfl (dd_X11_plate 33 _ _ _ rfl) ?_
          refine r_ireturn rfl rfl (dd_X11_plate 37 _ _ _ rfl) ?_
          first | (have k := k0 u hu (by omega) (by omega) (by omega); rw [if_pos (by omega)] at k; exact k) | (have k := k0 u hu (by omega) (by omega) (by omega); rw [if_neg (by omega)] at k; exact k)
      · dsimp only [zCont, Option.toList, List.cons_append, List.nil_append]
        refine r_ifne (by omega) 36 rfl 44 rfl (dd_X11_plate 18 _ _ _ rfl) (fun q => absurd q (by decide)) (fun _ => ?_)
        refine r_throw hg zt_IAE rfl (by decide) (Nat.le_of_ble_eq_true rfl) (Nat.le_of_ble_eq_true rfl) (Nat.le_of_ble_eq_true rfl) (pc3 := 39) (pc4 := 40) (pc7 := 43) rfl rfl rfl (dd_X11_plate 19 _ _ _ rfl) (dd_X11_plate 20 _ _ _ rfl) (dd_X11_plate 21 _ _ _ rfl) (dd_X11_plate 22 _ _ _ rfl) ?_
        exact k2 u hu (by omega) (by omega) (by omega)
    · dsimp only [zCont, Option.toList, List.cons_append, List.nil_append]
      refine r_ifne (by omega) 16 rfl 24 rfl (dd_X11_plate 8 _ _ _ rfl) (fun q => absurd q (by decide)) (fun _ => ?_)
      refine r_throw hg zt_IOOBE rfl (by decide) (Nat.le_of_ble_eq_true rfl) (Nat.le_of_ble_eq_true rfl) (Nat.le_of_ble_eq_true rfl) (pc3 := 19) (pc4 := 20) (pc7 := 23) rfl rfl rfl (dd_X11_plate 9 _ _ _ rfl) (dd_X11_plate 10 _ _ _ rfl) (dd_X11_plate 11 _ _ _ rfl) (dd_X11_plate 12 _ _ _ rfl) ?_
      exact kE (by omega)
