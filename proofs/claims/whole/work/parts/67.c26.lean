set_option maxRecDepth 20000
set_option maxHeartbeats 1600000
theorem it_insure {g : zGT} {Q : zO → zH → Prop} (hg : zG g) (hnx : zNX g) {x m : Nat} {A : Nat → Nat} {out : Nat} {F : Nat → Prop} {hB : zH} {a L : Nat} (hF : zLF m A out F hB) {sv : Nat → Int} (hA : zLA g a sv L) {o : Nat → Nat} {n : Nat} {S : zS} {h : zH} (y : zLS g x m A out F hB o n S S h) (hS : MOk n S) (hn : n < 512) {i : Int} (hi : 0 ≤ i) (hi5 : i + 5 ≤ L) {mc ms bc bs bc2 bs2 : Nat} (hb : bc2 + 20 ≤ bc) (hb2 : bs2 + 4300 ≤ bs) (k : ∀ o2 S2 h2, zLS g x m A out F hB o2 (n + 1) S2 S2 h2 → MOk (n + 1) S2 → zX g mL_law mc ms Q 2034 [some (.ref a), some (.ref x), some (.ref m), some (.ref out), some (.int (zI i)), none, none, none] [] h2 bc2 bs2) : zX g mL_law mc ms Q 1351 [some (.ref a), some (.ref x), some (.ref m), some (.ref out), some (.int (zI i)), none, none, none] [] h bc bs := by
  have hL := hA.2.2.1
  have hz := hA.2.2.2
  have e1 := hS.1.today
  have e2 := hS.1.signs
  have e4 := hS.1.vehicles
  have e12 := hS.1.people
  have e18 := hS.1.allotted
  have e20 := hS.1.rates
  have e31 := hS.1.sightings
  have e36 := hS.1.fines
  refine r_aload_1 1352 rfl (dd_L_law_13 28 _ _ _ rfl) ?_
  refine r_aload_0 1353 rfl (dd_L_law_13 29 _ _ _ rfl) ?_
  refine r_iload_4 1355 rfl (dd_L_law_13 30 _ _ _ rfl) ?_
  refine r_iconst 1356 rfl (dd_L_law_13 31 _ _ _ rfl) ?_
  refine r_iadd 1357 rfl (dd_L_law_13 32 _ _ _ rfl) ?_
  refine r_scr hA (by omega) (by omega) 1358 rfl (dd_L_law_13 33 _ _ _ rfl) ?_
  refine r_aload_0 1359 rfl (dd_L_law_13 34 _ _ _ rfl) ?_
  refine r_iload_4 1361 rfl (dd_L_law_13 35 _ _ _ rfl) ?_
  refine r_iconst 1362 rfl (dd_L_law_13 36 _ _ _ rfl) ?_
  refine r_iadd 1363 rfl (dd_L_law_13 37 _ _ _ rfl) ?_
  refine r_scr hA (by omega) (by omega) 1364 rfl (dd_L_law_13 38 _ _ _ rfl) ?_
  refine r_aload_3 1365 rfl (dd_L_law_13 39 _ _ _ rfl) ?_
  have hw0 : zR (sv (i + 1).toNat) := by exact hz _
  have hw1 : zR (sv (i + 2).toNat) := by exact hz _
  generalize hv0 : (sv (i + 1).toNat) = v0 at *
  generalize hv1 : (sv (i + 2).toNat) = v1 at *
  have tail : ∀ (kk : Int) (S2 : zS) (h1 : zH) (o1 : Nat → Nat), zLS g x m A out F hB o1 (n + 1) S2 S h1 → MOk (n + 1) S2 → zR kk → (∀ Q2 : zO → zH → Prop, (∀ h2 v, MI h1 m A S2 kk h2 → (v = 0 ∨ v = 1) → (kk = 0 → aj_ h1 out 0 = v) → Q2 (.inl (some (.int (zI v)))) h2) → zC g (.code yX12_insure cX12_insure 9 (Option.some Jvm.ClassFile.FieldType.boolean)) yX12_insure 13 0 0 [.ref m, .int (zI v0), .int (zI v1)] h1 Q2) → zX g mL_law mc ms Q 1368 [some (.ref a), some (.ref x), some (.ref m), some (.ref out), some (.int (zI i)), none, none, none] [.int (zI kk)] h1 bc2 bs2 := by
    intro kk S2 h1 o1 y1 hS2 hkk hmod
    refine r_istore_5 1370 rfl (by decide) rfl (dd_L_law_13 41 _ _ _ rfl) ?_
    refine r_aload_2 1371 rfl (dd_L_law_13 42 _ _ _ rfl) ?_
    refine r_aload_0 1372 rfl (dd_L_law_13 43 _ _ _ rfl) ?_
    refine r_iload_4 1374 rfl (dd_L_law_13 44 _ _ _ rfl) ?_
    refine r_iconst 1375 rfl (dd_L_law_13 45 _ _ _ rfl) ?_
    refine r_iadd 1376 rfl (dd_L_law_13 46 _ _ _ rfl) ?_
    refine r_scr hA (by omega) (by omega) 1377 rfl (dd_L_law_13 47 _ _ _ rfl) ?_
    rw [hv0]
    refine r_aload_0 1378 rfl (dd_L_law_13 48 _ _ _ rfl) ?_
    refine r_iload_4 1380 rfl (dd_L_law_13 49 _ _ _ rfl) ?_
    refine r_iconst 1381 rfl (dd_L_law_13 50 _ _ _ rfl) ?_
    refine r_iadd 1382 rfl (dd_L_law_13 51 _ _ _ rfl) ?_
    refine r_scr hA (by omega) (by omega) 1383 rfl (dd_L_law_13 52 _ _ _ rfl) ?_
    rw [hv1]
    refine r_callV2 (lvl := 13) (mc1 := 0) (ms1 := 0) bc2 bs2 hg rfl md_X12_insure zc_X12 y1.2.1.1.1 wi_X12_insure wv_X12_insure (tb_7 99 _ rfl) (by decide) (by decide) rfl (Nat.le_of_ble_eq_true rfl) (Nat.le_refl _) (Nat.le_refl _) 1386 rfl (dd_L_law_13 53 _ _ _ rfl) ?_
    refine hmod _ (fun h2 v z hv he => ?_)
    obtain ⟨y2, q2⟩ := y1.mod hF z
    dsimp only [zCont, Option.toList, List.cons_append, List.nil_append]
    refine r_istore_6 1388 rfl (by decide) rfl (dd_L_law_13 54 _ _ _ rfl) ?_
    refine r_aload_2 1389 rfl (dd_L_law_13 55 _ _ _ rfl) ?_
    refine r_callV0 (lvl := 10) (mc1 := 0) (ms1 := 0) bc2 bs2 hg rfl md_X12_thrown zc_X12 y2.2.1.1.1 wi_X12_thrown wv_X12_thrown (tb_6 189 _ rfl) (by decide) (by decide) rfl (Nat.le_of_ble_eq_true rfl) (Nat.le_refl _) (Nat.le_refl _) 1392 rfl (dd_L_law_13 56 _ _ _ rfl) ?_
    refine c_X12_thrown hg z ?_
    dsimp only [zCont, Option.toList, List.cons_append, List.nil_append]
    refine r_iload_5 1394 rfl (dd_L_law_13 57 _ _ _ rfl) ?_
    refine r_if_icmpeq hkk hkk 1397 rfl 1399 rfl (dd_L_law_13 58 _ _ _ rfl) (fun _ => ?_) (fun q => absurd rfl q)
    refine r_iload_5 1401 rfl (dd_L_law_14 1 _ _ _ rfl) ?_
    have fin : zX g mL_law mc ms Q 1423 [some (.ref a), some (.ref x), some (.ref m), some (.ref out), some (.int (zI i)), some (.int (zI kk)), some (.int (zI v)), none] [] h2 bc2 bs2 := by
      refine r_goto 2034 rfl (dd_L_law_14 15 _ _ _ rfl) ?_
      refine r_sub [some (.ref a), some (.ref x), some (.ref m), some (.ref out), some (.int (zI i)), none, none, none] (z_s1 (z_s1 (z_s1 (z_s1 (z_s1 (z_s0 (z_s0 (z_s0 z_sN)))))))) ?_
      exact k o1 S2 h2 y2 hS2
    refine r_ifne hkk 1404 rfl 1423 rfl (dd_L_law_14 2 _ _ _ rfl) (fun _ => fin) (fun hk => ?_)
    refine r_aload_3 1405 rfl (dd_L_law_14 3 _ _ _ rfl) ?_
    refine r_iconst 1406 rfl (dd_L_law_14 4 _ _ _ rfl) ?_
    refine r_laload hg y2.2.2.2.2.2.2.1 (by decide) (by decide) (by rw [y2.2.2.2.2.2.2.2.1]; decide) 1407 rfl (dd_L_law_14 5 _ _ _ rfl) ?_
    rw [show aj_ h2 out (0 : Int).toNat = v from q2.trans (he hk)]
    refine r_iload_6 1409 rfl (dd_L_law_14 6 _ _ _ rfl) ?_
    refine r_boolL hv 1417 rfl rfl rfl rfl (dd_L_law_14 7 _ _ _ rfl) (dd_L_law_14 8 _ _ _ rfl) (dd_L_law_14 9 _ _ _ rfl) (dd_L_law_14 10 _ _ _ rfl) ?_
    refine r_lcmpe 1418 rfl (dd_L_law_14 11 _ _ _ rfl) ?_
    exact r_ifeq (by decide) 1421 rfl 1423 rfl (dd_L_law_14 12 _ _ _ rfl) (fun _ => fin) (fun q => absurd rfl q)
  refine r_callSH (lvl := 16) (mc1 := 6) (ms1 := 4300) (As := [.ref x, .int (zI v0), .int (zI v1), .ref out]) bc2 bs2 hg rfl mh_insure ws_L_insure (tb_5 73 _ rfl) (by decide) (by decide) rfl (Nat.le_of_ble_eq_true rfl) (by omega) (by omega) rfl 1368 rfl (dd_L_law_13 40 _ _ _ rfl) ?_
  refine w_insure hg hnx y.2.2.2.2.2.2.2.2 (fun Q1 hQ => ?_)
  obtain ⟨⟨Vs, Ps, Ss, Ts, Fs, Tn, A9, G, Rc, yc⟩, yM, -⟩ := id y
  refine c_X11_insure hg hS.1 yc hw0 hw1 ?_ ?_ ?_ ?_
  · intro c0
    refine hQ _ _ (Or.inl ⟨rfl, ?_⟩)
    refine tail 1 S h o y.next (hS.next hn) (by decide) (fun Q2 hQ2 => ?_)
    have yM1 := y.next.2.1
    refine c_X12_insure hg hS.1 (MI.refl yM1) hw0 hw1 ?_ ?_ ?_ ?_
    · intro d0 h2 z
      first | exact hQ2 _ _ z (by first | decide | exact Or.inl rfl | exact Or.inr rfl | exact hS.1.prot _ | exact hS.1.barred _ | omega) (fun q => absurd q (by decide)) | (exfalso; first | omega | (simp_all; done) | grind)
    · intro u9 d1 d2 d3 h2 z
      first | exact hQ2 _ _ z (by first | decide | exact Or.inl rfl | exact Or.inr rfl | exact hS.1.prot _ | exact hS.1.barred _ | omega) (fun q => absurd q (by decide)) | (exfalso; first | omega | (simp_all; done) | grind)
    · intro u9 d1 d2 d3 d4 h2 z
      first | exact hQ2 _ _ z (by first | decide | exact Or.inl rfl | exact Or.inr rfl | exact hS.1.prot _ | exact hS.1.barred _ | omega) (fun q => absurd q (by decide)) | (exfalso; first | omega | (simp_all; done) | grind)
    · intro u9 d1 d2 d3 d4 h2 z
      first | exact hQ2 _ _ z (by first | decide | exact Or.inl rfl | exact Or.inr rfl | exact hS.1.prot _ | exact hS.1.barred _ | omega) (fun q => absurd q (by decide)) | (exfalso; first | omega | (simp_all; done) | grind)
  · intro u c1 c2 c3
    refine hQ _ _ (Or.inr (Or.inl ⟨rfl, ?_⟩))
    refine tail 2 S h o y.next (hS.next hn) (by decide) (fun Q2 hQ2 => ?_)
    have yM1 := y.next.2.1
    refine c_X12_insure hg hS.1 (MI.refl yM1) hw0 hw1 ?_ ?_ ?_ ?_
    · intro d0 h2 z
      first | exact hQ2 _ _ z (by first | decide | exact Or.inl rfl | exact Or.inr rfl | exact hS.1.prot _ | exact hS.1.barred _ | omega) (fun q => absurd q (by decide)) | (exfalso; first | omega | (simp_all; done) | grind)
    · intro u9 d1 d2 d3 h2 z
      obtain rfl : u = u9 := by omega
      first | exact hQ2 _ _ z (by first | decide | exact Or.inl rfl | exact Or.inr rfl | exact hS.1.prot _ | exact hS.1.barred _ | omega) (fun q => absurd q (by decide)) | (exfalso; first | omega | (simp_all; done) | grind)
    · intro u9 d1 d2 d3 d4 h2 z
      obtain rfl : u = u9 := by omega
      first | exact hQ2 _ _ z (by first | decide | exact Or.inl rfl | exact Or.inr rfl | exact hS.1.prot _ | exact hS.1.barred _ | omega) (fun q => absurd q (by decide)) | (exfalso; first | omega | (simp_all; done) | grind)
    · intro u9 d1 d2 d3 d4 h2 z
      obtain rfl : u = u9 := by omega
      first | exact hQ2 _ _ z (by first | decide | exact Or.inl rfl | exact Or.inr rfl | exact hS.1.prot _ | exact hS.1.barred _ | omega) (fun q => absurd q (by decide)) | (exfalso; first | omega | (simp_all; done) | grind)
  · intro u c1 c2 c3 c4 o1 h1 cx st
    have y1 := y.cls hF cx st
    refine hQ _ _ ⟨1, rfl, (by first | exact Or.inl rfl | exact Or.inr rfl | exact hS.1.prot _ | exact hS.1.barred _ | omega), y1.2.2.2.2.2.2.1, y1.2.2.2.2.2.2.2.1, ?_⟩
    refine tail 0 _ _ o1 (y1.put hF _).1 (ok_insure hS hn) (by decide) (fun Q2 hQ2 => ?_)
    have yM1 := (y1.put hF (1)).1.2.1
    refine c_X12_insure hg hS.1 (MI.refl yM1) hw0 hw1 ?_ ?_ ?_ ?_
    · intro d0 h2 z
      first | exact hQ2 _ _ z (by first | decide | exact Or.inl rfl | exact Or.inr rfl | exact hS.1.prot _ | exact hS.1.barred _ | omega) (fun _ => (y1.put hF _).2) | (exfalso; first | omega | (simp_all; done) | grind)
    · intro u9 d1 d2 d3 h2 z
      obtain rfl : u = u9 := by omega
      first | exact hQ2 _ _ z (by first | decide | exact Or.inl rfl | exact Or.inr rfl | exact hS.1.prot _ | exact hS.1.barred _ | omega) (fun _ => (y1.put hF _).2) | (exfalso; first | omega | (simp_all; done) | grind)
    · intro u9 d1 d2 d3 d4 h2 z
      obtain rfl : u = u9 := by omega
      first | exact hQ2 _ _ z (by first | decide | exact Or.inl rfl | exact Or.inr rfl | exact hS.1.prot _ | exact hS.1.barred _ | omega) (fun _ => (y1.put hF _).2) | (exfalso; first | omega | (simp_all; done) | grind)
    · intro u9 d1 d2 d3 d4 h2 z
      obtain rfl : u = u9 := by omega
      first | exact hQ2 _ _ z (by first | decide | exact Or.inl rfl | exact Or.inr rfl | exact hS.1.prot _ | exact hS.1.barred _ | omega) (fun _ => (y1.put hF _).2) | (exfalso; first | omega | (simp_all; done) | grind)
  · intro u c1 c2 c3 c4 o1 h1 cx st
    have y1 := y.cls hF cx st
    refine hQ _ _ ⟨0, rfl, (by first | exact Or.inl rfl | exact Or.inr rfl | exact hS.1.prot _ | exact hS.1.barred _ | omega), y1.2.2.2.2.2.2.1, y1.2.2.2.2.2.2.2.1, ?_⟩
    refine tail 0 _ _ o1 (y1.put hF _).1 (ok_insure hS hn) (by decide) (fun Q2 hQ2 => ?_)
    have yM1 := (y1.put hF (0)).1.2.1
    refine c_X12_insure hg hS.1 (MI.refl yM1) hw0 hw1 ?_ ?_ ?_ ?_
    · intro d0 h2 z
      first | exact hQ2 _ _ z (by first | decide | exact Or.inl rfl | exact Or.inr rfl | exact hS.1.prot _ | exact hS.1.barred _ | omega) (fun _ => (y1.put hF _).2) | (exfalso; first | omega | (simp_all; done) | grind)
    · intro u9 d1 d2 d3 h2 z
      obtain rfl : u = u9 := by omega
      first | exact hQ2 _ _ z (by first | decide | exact Or.inl rfl | exact Or.inr rfl | exact hS.1.prot _ | exact hS.1.barred _ | omega) (fun _ => (y1.put hF _).2) | (exfalso; first | omega | (simp_all; done) | grind)
    · intro u9 d1 d2 d3 d4 h2 z
      obtain rfl : u = u9 := by omega
      first | exact hQ2 _ _ z (by first | decide | exact Or.inl rfl | exact Or.inr rfl | exact hS.1.prot _ | exact hS.1.barred _ | omega) (fun _ => (y1.put hF _).2) | (exfalso; first | omega | (simp_all; done) | grind)
    · intro u9 d1 d2 d3 d4 h2 z
      obtain rfl : u = u9 := by omega
      first | exact hQ2 _ _ z (by first | decide | exact Or.inl rfl | exact Or.inr rfl | exact hS.1.prot _ | exact hS.1.barred _ | omega) (fun _ => (y1.put hF _).2) | (exfalso; first | omega | (simp_all; done) | grind)
theorem it_ofVehicle {g : zGT} {Q : zO → zH → Prop} (hg : zG g) (hnx : zNX g) {x m : Nat} {A : Nat → Nat} {out : Nat} {F : Nat → Prop} {hB : zH} {a L : Nat} (hF : zLF m A out F hB) {sv : Nat → Int} (hA : zLA g a sv L) {o : Nat → Nat} {n : Nat} {S : zS} {h : zH} (y : zLS g x m A out F hB o n S S h) (hS : MOk n S) (hn : n < 512) {i : Int} (hi : 0 ≤ i) (hi5 : i + 5 ≤ L) {mc ms bc bs bc2 bs2 : Nat} (hb : bc2 + 20 ≤ bc) (hb2 : bs2 + 4300 ≤ bs) (k : ∀ o2 S2 h2, zLS g x m A out F hB o2 (n + 1) S2 S2 h2 → MOk (n + 1) S2 → zX g mL_law mc ms Q 2034 [some (.ref a), some (.ref x), some (.ref m), some (.ref out), some (.int (zI i)), none, none, none] [] h2 bc2 bs2) : zX g mL_law mc ms Q 1426 [some (.ref a), some (.ref x), some (.ref m), some (.ref out), some (.int (zI i)), none, none, none] [] h bc bs := by
  have hL := hA.2.2.1
  have hz := hA.2.2.2
  have e1 := hS.1.today
  have e2 := hS.1.signs
  have e4 := hS.1.vehicles
  have e12 := hS.1.people
  have e18 := hS.1.allotted
  have e20 := hS.1.rates
  have e31 := hS.1.sightings
  have e36 := hS.1.fines
  refine r_aload_1 1427 rfl (dd_L_law_14 16 _ _ _ rfl) ?_
  refine r_aload_0 1428 rfl (dd_L_law_14 17 _ _ _ rfl) ?_
  refine r_iload_4 1430 rfl (dd_L_law_14 18 _ _ _ rfl) ?_
  refine r_iconst 1431 rfl (dd_L_law_14 19 _ _ _ rfl) ?_
  refine r_iadd 1432 rfl (dd_L_law_14 20 _ _ _ rfl) ?_
  refine r_scr hA (by omega) (by omega) 1433 rfl (dd_L_law_14 21 _ _ _ rfl) ?_
  refine r_aload_0 1434 rfl (dd_L_law_14 22 _ _ _ rfl) ?_
  refine r_iload_4 1436 rfl (dd_L_law_14 23 _ _ _ rfl) ?_
  refine r_iconst 1437 rfl (dd_L_law_14 24 _ _ _ rfl) ?_
  refine r_iadd 1438 rfl (dd_L_law_14 25 _ _ _ rfl) ?_
  refine r_scr hA (by omega) (by omega) 1439 rfl (dd_L_law_14 26 _ _ _ rfl) ?_
  refine r_aload_3 1440 rfl (dd_L_law_14 27 _ _ _ rfl) ?_
  have hw0 : zR (sv (i + 1).toNat) := by exact hz _
  have hw1 : zR (sv (i + 2).toNat) := by exact hz _
  generalize hv0 : (sv (i + 1).toNat) = v0 at *
  generalize hv1 : (sv (i + 2).toNat) = v1 at *
  have tail : ∀ (kk : Int) (S2 : zS) (h1 : zH) (o1 : Nat → Nat), zLS g x m A out F hB o1 (n + 1) S2 S h1 → MOk (n + 1) S2 → zR kk → (∀ Q2 : zO → zH → Prop, (∀ h2 v, MI h1 m A S2 kk h2 → zR v → (kk = 0 → aj_ h1 out 0 = v) → Q2 (.inl (some (.int (zI v)))) h2) → zC g (.code yX12_ofVehicle cX12_ofVehicle 4 (Option.some Jvm.ClassFile.FieldType.int)) yX12_ofVehicle 14 0 0 [.ref m, .int (zI v0), .int (zI v1)] h1 Q2) → zX g mL_law mc ms Q 1443 [some (.ref a), some (.ref x), some (.ref m), some (.ref out), some (.int (zI i)), none, none, none] [.int (zI kk)] h1 bc2 bs2 := by
    intro kk S2 h1 o1 y1 hS2 hkk hmod
    refine r_istore_5 1445 rfl (by decide) rfl (dd_L_law_14 29 _ _ _ rfl) ?_
    refine r_aload_2 1446 rfl (dd_L_law_14 30 _ _ _ rfl) ?_
    refine r_aload_0 1447 rfl (dd_L_law_14 31 _ _ _ rfl) ?_
    refine r_iload_4 1449 rfl (dd_L_law_14 32 _ _ _ rfl) ?_
    refine r_iconst 1450 rfl (dd_L_law_14 33 _ _ _ rfl) ?_
    refine r_iadd 1451 rfl (dd_L_law_14 34 _ _ _ rfl) ?_
    refine r_scr hA (by omega) (by omega) 1452 rfl (dd_L_law_14 35 _ _ _ rfl) ?_
    rw [hv0]
    refine r_aload_0 1453 rfl (dd_L_law_14 36 _ _ _ rfl) ?_
    refine r_iload_4 1455 rfl (dd_L_law_14 37 _ _ _ rfl) ?_
    refine r_iconst 1456 rfl (dd_L_law_14 38 _ _ _ rfl) ?_
    refine r_iadd 1457 rfl (dd_L_law_14 39 _ _ _ rfl) ?_
    refine r_scr hA (by omega) (by omega) 1458 rfl (dd_L_law_14 40 _ _ _ rfl) ?_
    rw [hv1]
    refine r_callV2 (lvl := 14) (mc1 := 0) (ms1 := 0) bc2 bs2 hg rfl md_X12_ofVehicle zc_X12 y1.2.1.1.1 wi_X12_ofVehicle wv_X12_ofVehicle (tb_7 108 _ rfl) (by decide) (by decide) rfl (Nat.le_of_ble_eq_true rfl) (Nat.le_refl _) (Nat.le_refl _) 1461 rfl (dd_L_law_14 41 _ _ _ rfl) ?_
    refine hmod _ (fun h2 v z hv he => ?_)
    obtain ⟨y2, q2⟩ := y1.mod hF z
    dsimp only [zCont, Option.toList, List.cons_append, List.nil_append]
    refine r_istore_6 1463 rfl (by decide) rfl (dd_L_law_14 42 _ _ _ rfl) ?_
    refine r_aload_2 1464 rfl (dd_L_law_14 43 _ _ _ rfl) ?_
    refine r_callV0 (lvl := 10) (mc1 := 0) (ms1 := 0) bc2 bs2 hg rfl md_X12_thrown zc_X12 y2.2.1.1.1 wi_X12_thrown wv_X12_thrown (tb_6 189 _ rfl) (by decide) (by decide) rfl (Nat.le_of_ble_eq_true rfl) (Nat.le_refl _) (Nat.le_refl _) 1467 rfl (dd_L_law_14 44 _ _ _ rfl) ?_
    refine c_X12_thrown hg z ?_
    dsimp only [zCont, Option.toList, List.cons_append, List.nil_append]
    refine r_iload_5 1469 rfl (dd_L_law_14 45 _ _ _ rfl) ?_
    refine r_if_icmpeq hkk hkk 1472 rfl 1474 rfl (dd_L_law_14 46 _ _ _ rfl) (fun _ => ?_) (fun q => absurd rfl q)
    refine r_iload_5 1476 rfl (dd_L_law_14 49 _ _ _ rfl) ?_
    have fin : zX g mL_law mc ms Q 1491 [some (.ref a), some (.ref x), some (.ref m), some (.ref out), some (.int (zI i)), some (.int (zI kk)), some (.int (zI v)), none] [] h2 bc2 bs2 := by
      refine r_goto 2034 rfl (dd_L_law_15 0 _ _ _ rfl) ?_
      refine r_sub [some (.ref a), some (.ref x), some (.ref m), some (.ref out), some (.int (zI i)), none, none, none] (z_s1 (z_s1 (z_s1 (z_s1 (z_s1 (z_s0 (z_s0 (z_s0 z_sN)))))))) ?_
      exact k o1 S2 h2 y2 hS2
    refine r_ifne hkk 1479 rfl 1491 rfl (dd_L_law_14 50 _ _ _ rfl) (fun _ => fin) (fun hk => ?_)
    refine r_aload_3 1480 rfl (dd_L_law_14 51 _ _ _ rfl) ?_
    refine r_iconst 1481 rfl (dd_L_law_14 52 _ _ _ rfl) ?_
    refine r_laload hg y2.2.2.2.2.2.2.1 (by decide) (by decide) (by rw [y2.2.2.2.2.2.2.2.1]; decide) 1482 rfl (dd_L_law_14 53 _ _ _ rfl) ?_
    rw [show aj_ h2 out (0 : Int).toNat = v from q2.trans (he hk)]
    refine r_iload_6 1484 rfl (dd_L_law_14 54 _ _ _ rfl) ?_
    refine r_i2l hv 1485 rfl (dd_L_law_14 55 _ _ _ rfl) ?_
    refine r_lcmpe 1486 rfl (dd_L_law_14 56 _ _ _ rfl) ?_
    exact r_ifeq (by decide) 1489 rfl 1491 rfl (dd_L_law_14 57 _ _ _ rfl) (fun _ => fin) (fun q => absurd rfl q)
  refine r_callSH (lvl := 18) (mc1 := 4) (ms1 := 40) (As := [.ref x, .int (zI v0), .int (zI v1), .ref out]) bc2 bs2 hg rfl mh_ofVehicle ws_L_ofVehicle (tb_5 80 _ rfl) (by decide) (by decide) rfl (Nat.le_of_ble_eq_true rfl) (by omega) (by omega) rfl 1443 rfl (dd_L_law_14 28 _ _ _ rfl) ?_
  refine w_ofVehicle hg hnx y.2.2.2.2.2.2.2.2 (fun Q1 hQ => ?_)
  obtain ⟨⟨Vs, Ps, Ss, Ts, Fs, Tn, A9, G, Rc, yc⟩, yM, -⟩ := id y
  refine c_X11_ofVehicle hg hS.1 yc hw0 hw1 ?_ ?_ ?_ ?_ ?_ ?_ ?_
  · intro c0
    refine hQ _ _ (Or.inl ⟨rfl, ?_⟩)
    refine tail 1 S h o y.next (hS.next hn) (by decide) (fun Q2 hQ2 => ?_)
    have yM1 := y.next.2.1
    refine c_X12_ofVehicle hg hS.1 (MI.refl yM1) hw0 hw1 ?_ ?_ ?_ ?_ ?_ ?_ ?_
    · intro d0 h2 z
      first | exact hQ2 _ _ z (by first | decide | omega | exact (by first | (have := hS.1.serial u; unfold zdigit; split <;> omega) | (have := hS.1.serial u; unfold zdigit; omega) | (have := hS.1.until u; omega) | (have := hS.1.back u; omega) | (have := zgap_range (S := S) (v := u) (S.1 1 + 1).toNat; omega) | (have := zclones_range (S := S) (v := u) (S.1 31).toNat; omega))) (fun q => absurd q (by decide)) | (exfalso; first | omega | (simp_all; done) | grind)
    · intro u9 d1 d2 d3 h2 z
      first | exact hQ2 _ _ z (by first | decide | omega | exact (by first | (have := hS.1.serial u; unfold zdigit; split <;> omega) | (have := hS.1.serial u; unfold zdigit; omega) | (have := hS.1.until u; omega) | (have := hS.1.back u; omega) | (have := zgap_range (S := S) (v := u) (S.1 1 + 1).toNat; omega) | (have := zclones_range (S := S) (v := u) (S.1 31).toNat; omega))) (fun q => absurd q (by decide)) | (exfalso; first | omega | (simp_all; done) | grind)
    · intro u9 d1 d2 d3 h2 z
      first | exact hQ2 _ _ z (by first | decide | omega | exact (by first | (have := hS.1.serial u; unfold zdigit; split <;> omega) | (have := hS.1.serial u; unfold zdigit; omega) | (have := hS.1.until u; omega) | (have := hS.1.back u; omega) | (have := zgap_range (S := S) (v := u) (S.1 1 + 1).toNat; omega) | (have := zclones_range (S := S) (v := u) (S.1 31).toNat; omega))) (fun q => absurd q (by decide)) | (exfalso; first | omega | (simp_all; done) | grind)
    · intro u9 d1 d2 d3 h2 z
      first | exact hQ2 _ _ z (by first | decide | omega | exact (by first | (have := hS.1.serial u; unfold zdigit; split <;> omega) | (have := hS.1.serial u; unfold zdigit; omega) | (have := hS.1.until u; omega) | (have := hS.1.back u; omega) | (have := zgap_range (S := S) (v := u) (S.1 1 + 1).toNat; omega) | (have := zclones_range (S := S) (v := u) (S.1 31).toNat; omega))) (fun q => absurd q (by decide)) | (exfalso; first | omega | (simp_all; done) | grind)
    · intro u9 d1 d2 d3 h2 z
      first | exact hQ2 _ _ z (by first | decide | omega | exact (by first | (have := hS.1.serial u; unfold zdigit; split <;> omega) | (have := hS.1.serial u; unfold zdigit; omega) | (have := hS.1.until u; omega) | (have := hS.1.back u; omega) | (have := zgap_range (S := S) (v := u) (S.1 1 + 1).toNat; omega) | (have := zclones_range (S := S) (v := u) (S.1 31).toNat; omega))) (fun q => absurd q (by decide)) | (exfalso; first | omega | (simp_all; done) | grind)
    · intro u9 d1 d2 d3 h2 z
      first | exact hQ2 _ _ z (by first | decide | omega | exact (by first | (have := hS.1.serial u; unfold zdigit; split <;> omega) | (have := hS.1.serial u; unfold zdigit; omega) | (have := hS.1.until u; omega) | (have := hS.1.back u; omega) | (have := zgap_range (S := S) (v := u) (S.1 1 + 1).toNat; omega) | (have := zclones_range (S := S) (v := u) (S.1 31).toNat; omega))) (fun q => absurd q (by decide)) | (exfalso; first | omega | (simp_all; done) | grind)
    · intro u9 d1 d2 d3 h2 z
      first | exact hQ2 _ _ z (by first | decide | omega | exact (by first | (have := hS.1.serial u; unfold zdigit; split <;> omega) | (have := hS.1.serial u; unfold zdigit; omega) | (have := hS.1.until u; omega) | (have := hS.1.back u; omega) | (have := zgap_range (S := S) (v := u) (S.1 1 + 1).toNat; omega) | (have := zclones_range (S := S) (v := u) (S.1 31).toNat; omega))) (fun q => absurd q (by decide)) | (exfalso; first | omega | (simp_all; done) | grind)
  · intro u c1 c2 c3
    refine hQ _ _ (Or.inr (Or.inl ⟨rfl, ?_⟩))
    refine tail 2 S h o y.next (hS.next hn) (by decide) (fun Q2 hQ2 => ?_)
    have yM1 := y.next.2.1
    refine c_X12_ofVehicle hg hS.1 (MI.refl yM1) hw0 hw1 ?_ ?_ ?_ ?_ ?_ ?_ ?_
    · intro d0 h2 z
      first | exact hQ2 _ _ z (by first | decide | omega | exact (by first | (have := hS.1.serial u; unfold zdigit; split <;> omega) | (have := hS.1.serial u; unfold zdigit; omega) | (have := hS.1.until u; omega) | (have := hS.1.back u; omega) | (have := zgap_range (S := S) (v := u) (S.1 1 + 1).toNat; omega) | (have := zclones_range (S := S) (v := u) (S.1 31).toNat; omega))) (fun q => absurd q (by decide)) | (exfalso; first | omega | (simp_all; done) | grind)
    · intro u9 d1 d2 d3 h2 z
      obtain rfl : u = u9 := by omega
      first | exact hQ2 _ _ z (by first | decide | omega | exact (by first | (have := hS.1.serial u; unfold zdigit; split <;> omega) | (have := hS.1.serial u; unfold zdigit; omega) | (have := hS.1.until u; omega) | (have := hS.1.back u; omega) | (have := zgap_range (S := S) (v := u) (S.1 1 + 1).toNat; omega) | (have := zclones_range (S := S) (v := u) (S.1 31).toNat; omega))) (fun q => absurd q (by decide)) | (exfalso; first | omega | (simp_all; done) | grind)
    · intro u9 d1 d2 d3 h2 z
      obtain rfl : u = u9 := by omega
      first | exact hQ2 _ _ z (by first | decide | omega | exact (by first | (have := hS.1.serial u; unfold zdigit; split <;> omega) | (have := hS.1.serial u; unfold zdigit; omega) | (have := hS.1.until u; omega) | (have := hS.1.back u; omega) | (have := zgap_range (S := S) (v := u) (S.1 1 + 1).toNat; omega) | (have := zclones_range (S := S) (v := u) (S.1 31).toNat; omega))) (fun q => absurd q (by decide)) | (exfalso; first | omega | (simp_all; done) | grind)
    · intro u9 d1 d2 d3 h2 z
      obtain rfl : u = u9 := by omega
      first | exact hQ2 _ _ z (by first | decide | omega | exact (by first | (have := hS.1.serial u; unfold zdigit; split <;> omega) | (have := hS.1.serial u; unfold zdigit; omega) | (have := hS.1.until u; omega) | (have := hS.1.back u; omega) | (have := zgap_range (S := S) (v := u) (S.1 1 + 1).toNat; omega) | (have := zclones_range (S := S) (v := u) (S.1 31).toNat; omega))) (fun q => absurd q (by decide)) | (exfalso; first | omega | (simp_all; done) | grind)
    · intro u9 d1 d2 d3 h2 z
      obtain rfl : u = u9 := by omega
      first | exact hQ2 _ _ z (by first | decide | omega | exact (by first | (have := hS.1.serial u; unfold zdigit; split <;> omega) | (have := hS.1.serial u; unfold zdigit; omega) | (have := hS.1.until u; omega) | (have := hS.1.back u; omega) | (have := zgap_range (S := S) (v := u) (S.1 1 + 1).toNat; omega) | (have := zclones_range (S := S) (v := u) (S.1 31).toNat; omega))) (fun q => absurd q (by decide)) | (exfalso; first | omega | (simp_all; done) | grind)
    · intro u9 d1 d2 d3 h2 z
      obtain rfl : u = u9 := by omega
      first | exact hQ2 _ _ z (by first | decide | omega | exact (by first | (have := hS.1.serial u; unfold zdigit; split <;> omega) | (have := hS.1.serial u; unfold zdigit; omega) | (have := hS.1.until u; omega) | (have := hS.1.back u; omega) | (have := zgap_range (S := S) (v := u) (S.1 1 + 1).toNat; omega) | (have := zclones_range (S := S) (v := u) (S.1 31).toNat; omega))) (fun q => absurd q (by decide)) | (exfalso; first | omega | (simp_all; done) | grind)
    · intro u9 d1 d2 d3 h2 z
      obtain rfl : u = u9 := by omega
      first | exact hQ2 _ _ z (by first | decide | omega | exact (by first | (have := hS.1.serial u; unfold zdigit; split <;> omega) | (have := hS.1.serial u; unfold zdigit; omega) | (have := hS.1.until u; omega) | (have := hS.1.back u; omega) | (have := zgap_range (S := S) (v := u) (S.1 1 + 1).toNat; omega) | (have := zclones_range (S := S) (v := u) (S.1 31).toNat; omega))) (fun q => absurd q (by decide)) | (exfalso; first | omega | (simp_all; done) | grind)
  · intro u c1 c2 c3
    have y1 := y.next
    refine hQ _ _ ⟨(if zdigit (S.2 5 u) = 10 then -1 else S.2 5 u * 10 + zdigit (S.2 5 u)), rfl, (by first | decide | omega | exact (by first | (have := hS.1.serial u; unfold zdigit; split <;> omega) | (have := hS.1.serial u; unfold zdigit; omega) | (have := hS.1.until u; omega) | (have := hS.1.back u; omega) | (have := zgap_range (S := S) (v := u) (S.1 1 + 1).toNat; omega) | (have := zclones_range (S := S) (v := u) (S.1 31).toNat; omega))), y1.2.2.2.2.2.2.1, y1.2.2.2.2.2.2.2.1, ?_⟩
    refine tail 0 _ _ o (y1.put hF _).1 (hS.next hn) (by decide) (fun Q2 hQ2 => ?_)
    have yM1 := (y1.put hF ((if zdigit (S.2 5 u) = 10 then -1 else S.2 5 u * 10 + zdigit (S.2 5 u)))).1.2.1
    refine c_X12_ofVehicle hg hS.1 (MI.refl yM1) hw0 hw1 ?_ ?_ ?_ ?_ ?_ ?_ ?_
    · intro d0 h2 z
      first | exact hQ2 _ _ z (by first | decide | omega | exact (by first | (have := hS.1.serial u; unfold zdigit; split <;> omega) | (have := hS.1.serial u; unfold zdigit; omega) | (have := hS.1.until u; omega) | (have := hS.1.back u; omega) | (have := zgap_range (S := S) (v := u) (S.1 1 + 1).toNat; omega) | (have := zclones_range (S := S) (v := u) (S.1 31).toNat; omega))) (by first | exact (fun _ => (y1.put hF _).2) | exact (fun _ => (y1.put hF _).2.trans (by rw [if_neg (by have := hS.2 u (by omega); omega)]; omega))) | (exfalso; first | omega | (simp_all; done) | grind)
    · intro u9 d1 d2 d3 h2 z
      obtain rfl : u = u9 := by omega
      first | exact hQ2 _ _ z (by first | decide | omega | exact (by first | (have := hS.1.serial u; unfold zdigit; split <;> omega) | (have := hS.1.serial u; unfold zdigit; omega) | (have := hS.1.until u; omega) | (have := hS.1.back u; omega) | (have := zgap_range (S := S) (v := u) (S.1 1 + 1).toNat; omega) | (have := zclones_range (S := S) (v := u) (S.1 31).toNat; omega))) (by first | exact (fun _ => (y1.put hF _).2) | exact (fun _ => (y1.put hF _).2.trans (by rw [if_neg (by have := hS.2 u (by omega); omega)]; omega))) | (exfalso; first | omega | (simp_all; done) | grind)
    · intro u9 d1 d2 d3 h2 z
      obtain rfl : u = u9 := by omega
      first | exact hQ2 _ _ z (by first | decide | omega | exact (by first | (have := hS.1.serial u; unfold zdigit; split <;> omega) | (have := hS.1.serial u; unfold zdigit; omega) | (have := hS.1.until u; omega) | (have := hS.1.back u; omega) | (have := zgap_range (S := S) (v := u) (S.1 1 + 1).toNat; omega) | (have := zclones_range (S := S) (v := u) (S.1 31).toNat; omega))) (by first | exact (fun _ => (y1.put hF _).2) | exact (fun _ => (y1.put hF _).2.trans (by rw [if_neg (by have := hS.2 u (by omega); omega)]; omega))) | (exfalso; first | omega | (simp_all; done) | grind)
    · intro u9 d1 d2 d3 h2 z
      obtain rfl : u = u9 := by omega
      first | exact hQ2 _ _ z (by first | decide | omega | exact (by first | (have := hS.1.serial u; unfold zdigit; split <;> omega) | (have := hS.1.serial u; unfold zdigit; omega) | (have := hS.1.until u; omega) | (have := hS.1.back u; omega) | (have := zgap_range (S := S) (v := u) (S.1 1 + 1).toNat; omega) | (have := zclones_range (S := S) (v := u) (S.1 31).toNat; omega))) (by first | exact (fun _ => (y1.put hF _).2) | exact (fun _ => (y1.put hF _).2.trans (by rw [if_neg (by have := hS.2 u (by omega); omega)]; omega))) | (exfalso; first | omega | (simp_all; done) | grind)
    · intro u9 d1 d2 d3 h2 z
      obtain rfl : u = u9 := by omega
      first | exact hQ2 _ _ z (by first | decide | omega | exact (by first | (have := hS.1.serial u; unfold zdigit; split <;> omega) | (have := hS.1.serial u; unfold zdigit; omega) | (have := hS.1.until u; omega) | (have := hS.1.back u; omega) | (have := zgap_range (S := S) (v := u) (S.1 1 + 1).toNat; omega) | (have := zclones_range (S := S) (v := u) (S.1 31).toNat; omega))) (by first | exact (fun _ => (y1.put hF _).2) | exact (fun _ => (y1.put hF _).2.trans (by rw [if_neg (by have := hS.2 u (by omega); omega)]; omega))) | (exfalso; first | omega | (simp_all; done) | grind)
    · intro u9 d1 d2 d3 h2 z
      obtain rfl : u = u9 := by omega
      first | exact hQ2 _ _ z (by first | decide | omega | exact (by first | (have := hS.1.serial u; unfold zdigit; split <;> omega) | (have := hS.1.serial u; unfold zdigit; omega) | (have := hS.1.until u; omega) | (have := hS.1.back u; omega) | (have := zgap_range (S := S) (v := u) (S.1 1 + 1).toNat; omega) | (have := zclones_range (S := S) (v := u) (S.1 31).toNat; omega))) (by first | exact (fun _ => (y1.put hF _).2) | exact (fun _ => (y1.put hF _).2.trans (by rw [if_neg (by have := hS.2 u (by omega); omega)]; omega))) | (exfalso; first | omega | (simp_all; done) | grind)
    · intro u9 d1 d2 d3 h2 z
      obtain rfl : u = u9 := by omega
      first | exact hQ2 _ _ z (by first | decide | omega | exact (by first | (have := hS.1.serial u; unfold zdigit; split <;> omega) | (have := hS.1.serial u; unfold zdigit; omega) | (have := hS.1.until u; omega) | (have := hS.1.back u; omega) | (have := zgap_range (S := S) (v := u) (S.1 1 + 1).toNat; omega) | (have := zclones_range (S := S) (v := u) (S.1 31).toNat; omega))) (by first | exact (fun _ => (y1.put hF _).2) | exact (fun _ => (y1.put hF _).2.trans (by rw [if_neg (by have := hS.2 u (by omega); omega)]; omega))) | (exfalso; first | omega | (simp_all; done) | grind)
  · intro u c1 c2 c3
    have y1 := y.next
    refine hQ _ _ ⟨(S.2 29 u), rfl, (by first | decide | omega | exact (by first | (have := hS.1.serial u; unfold zdigit; split <;> omega) | (have := hS.1.serial u; unfold zdigit; omega) | (have := hS.1.until u; omega) | (have := hS.1.back u; omega) | (have := zgap_range (S := S) (v := u) (S.1 1 + 1).toNat; omega) | (have := zclones_range (S := S) (v := u) (S.1 31).toNat; omega))), y1.2.2.2.2.2.2.1, y1.2.2.2.2.2.2.2.1, ?_⟩
    refine tail 0 _ _ o (y1.put hF _).1 (hS.next hn) (by decide) (fun Q2 hQ2 => ?_)
    have yM1 := (y1.put hF ((S.2 29 u))).1.2.1
    refine c_X12_ofVehicle hg hS.1 (MI.refl yM1) hw0 hw1 ?_ ?_ ?_ ?_ ?_ ?_ ?_
    · intro d0 h2 z
      first | exact hQ2 _ _ z (by first | decide | omega | exact (by first | (have := hS.1.serial u; unfold zdigit; split <;> omega) | (have := hS.1.serial u; unfold zdigit; omega) | (have := hS.1.until u; omega) | (have := hS.1.back u; omega) | (have := zgap_range (S := S) (v := u) (S.1 1 + 1).toNat; omega) | (have := zclones_range (S := S) (v := u) (S.1 31).toNat; omega))) (by first | exact (fun _ => (y1.put hF _).2) | exact (fun _ => (y1.put hF _).2.trans (by rw [if_neg (by have := hS.2 u (by omega); omega)]; omega))) | (exfalso; first | omega | (simp_all; done) | grind)
    · intro u9 d1 d2 d3 h2 z
      obtain rfl : u = u9 := by omega
      first | exact hQ2 _ _ z (by first | decide | omega | exact (by first | (have := hS.1.serial u; unfold zdigit; split <;> omega) | (have := hS.1.serial u; unfold zdigit; omega) | (have := hS.1.until u; omega) | (have := hS.1.back u; omega) | (have := zgap_range (S := S) (v := u) (S.1 1 + 1).toNat; omega) | (have := zclones_range (S := S) (v := u) (S.1 31).toNat; omega))) (by first | exact (fun _ => (y1.put hF _).2) | exact (fun _ => (y1.put hF _).2.trans (by rw [if_neg (by have := hS.2 u (by omega); omega)]; omega))) | (exfalso; first | omega | (simp_all; done) | grind)
    · intro u9 d1 d2 d3 h2 z
      obtain rfl : u = u9 := by omega
      first | exact hQ2 _ _ z (by first | decide | omega | exact (by first | (have := hS.1.serial u; unfold zdigit; split <;> omega) | (have := hS.1.serial u; unfold zdigit; omega) | (have := hS.1.until u; omega) | (have := hS.1.back u; omega) | (have := zgap_range (S := S) (v := u) (S.1 1 + 1).toNat; omega) | (have := zclones_range (S := S) (v := u) (S.1 31).toNat; omega))) (by first | exact (fun _ => (y1.put hF _).2) | exact (fun _ => (y1.put hF _).2.trans (by rw [if_neg (by have := hS.2 u (by omega); omega)]; omega))) | (exfalso; first | omega | (simp_all; done) | grind)
    · intro u9 d1 d2 d3 h2 z
      obtain rfl : u = u9 := by omega
      first | exact hQ2 _ _ z (by first | decide | omega | exact (by first | (have := hS.1.serial u; unfold zdigit; split <;> omega) | (have := hS.1.serial u; unfold zdigit; omega) | (have := hS.1.until u; omega) | (have := hS.1.back u; omega) | (have := zgap_range (S := S) (v := u) (S.1 1 + 1).toNat; omega) | (have := zclones_range (S := S) (v := u) (S.1 31).toNat; omega))) (by first | exact (fun _ => (y1.put hF _).2) | exact (fun _ => (y1.put hF _).2.trans (by rw [if_neg (by have := hS.2 u (by omega); omega)]; omega))) | (exfalso; first | omega | (simp_all; done) | grind)
    · intro u9 d1 d2 d3 h2 z
      obtain rfl : u = u9 := by omega
      first | exact hQ2 _ _ z (by first | decide | omega | exact (by first | (have := hS.1.serial u; unfold zdigit; split <;> omega) | (have := hS.1.serial u; unfold zdigit; omega) | (have := hS.1.until u; omega) | (have := hS.1.back u; omega) | (have := zgap_range (S := S) (v := u) (S.1 1 + 1).toNat; omega) | (have := zclones_range (S := S) (v := u) (S.1 31).toNat; omega))) (by first | exact (fun _ => (y1.put hF _).2) | exact (fun _ => (y1.put hF _).2.trans (by rw [if_neg (by have := hS.2 u (by omega); omega)]; omega))) | (exfalso; first | omega | (simp_all; done) | grind)
    · intro u9 d1 d2 d3 h2 z
      obtain rfl : u = u9 := by omega
      first | exact hQ2 _ _ z (by first | decide | omega | exact (by first | (have := hS.1.serial u; unfold zdigit; split <;> omega) | (have := hS.1.serial u; unfold zdigit; omega) | (have := hS.1.until u; omega) | (have := hS.1.back u; omega) | (have := zgap_range (S := S) (v := u) (S.1 1 + 1).toNat; omega) | (have := zclones_range (S := S) (v := u) (S.1 31).toNat; omega))) (by first | exact (fun _ => (y1.put hF _).2) | exact (fun _ => (y1.put hF _).2.trans (by rw [if_neg (by have := hS.2 u (by omega); omega)]; omega))) | (exfalso; first | omega | (simp_all; done) | grind)
    · intro u9 d1 d2 d3 h2 z
      obtain rfl : u = u9 := by omega
      first | exact hQ2 _ _ z (by first | decide | omega | exact (by first | (have := hS.1.serial u; unfold zdigit; split <;> omega) | (have := hS.1.serial u; unfold zdigit; omega) | (have := hS.1.until u; omega) | (have := hS.1.back u; omega) | (have := zgap_range (S := S) (v := u) (S.1 1 + 1).toNat; omega) | (have := zclones_range (S := S) (v := u) (S.1 31).toNat; omega))) (by first | exact (fun _ => (y1.put hF _).2) | exact (fun _ => (y1.put hF _).2.trans (by rw [if_neg (by have := hS.2 u (by omega); omega)]; omega))) | (exfalso; first | omega | (simp_all; done) | grind)
  · intro u c1 c2 c3
    have y1 := y.next
    refine hQ _ _ ⟨(S.2 28 u), rfl, (by first | decide | omega | exact (by first | (have := hS.1.serial u; unfold zdigit; split <;> omega) | (have := hS.1.serial u; unfold zdigit; omega) | (have := hS.1.until u; omega) | (have := hS.1.back u; omega) | (have := zgap_range (S := S) (v := u) (S.1 1 + 1).toNat; omega) | (have := zclones_range (S := S) (v := u) (S.1 31).toNat; omega))), y1.2.2.2.2.2.2.1, y1.2.2.2.2.2.2.2.1, ?_⟩
    refine tail 0 _ _ o (y1.put hF _).1 (hS.next hn) (by decide) (fun Q2 hQ2 => ?_)
    have yM1 := (y1.put hF ((S.2 28 u))).1.2.1
    refine c_X12_ofVehicle hg hS.1 (MI.refl yM1) hw0 hw1 ?_ ?_ ?_ ?_ ?_ ?_ ?_
    · intro d0 h2 z
      first | exact hQ2 _ _ z (by first | decide | omega | exact (by first | (have := hS.1.serial u; unfold zdigit; split <;> omega) | (have := hS.1.serial u; unfold zdigit; omega) | (have := hS.1.until u; omega) | (have := hS.1.back u; omega) | (have := zgap_range (S := S) (v := u) (S.1 1 + 1).toNat; omega) | (have := zclones_range (S := S) (v := u) (S.1 31).toNat; omega))) (by first | exact (fun _ => (y1.put hF _).2) | exact (fun _ => (y1.put hF _).2.trans (by rw [if_neg (by have := hS.2 u (by omega); omega)]; omega))) | (exfalso; first | omega | (simp_all; done) | grind)
    · intro u9 d1 d2 d3 h2 z
      obtain rfl : u = u9 := by omega
      first | exact hQ2 _ _ z (by first | decide | omega | exact (by first | (have := hS.1.serial u; unfold zdigit; split <;> omega) | (have := hS.1.serial u; unfold zdigit; omega) | (have := hS.1.until u; omega) | (have := hS.1.back u; omega) | (have := zgap_range (S := S) (v := u) (S.1 1 + 1).toNat; omega) | (have := zclones_range (S := S) (v := u) (S.1 31).toNat; omega))) (by first | exact (fun _ => (y1.put hF _).2) | exact (fun _ => (y1.put hF _).2.trans (by rw [if_neg (by have := hS.2 u (by omega); omega)]; omega))) | (exfalso; first | omega | (simp_all; done) | grind)
    · intro u9 d1 d2 d3 h2 z
      obtain rfl : u = u9 := by omega
      first | exact hQ2 _ _ z (by first | decide | omega | exact (by first | (have := hS.1.serial u; unfold zdigit; split <;> omega) | (have := hS.1.serial u; unfold zdigit; omega) | (have := hS.1.until u; omega) | (have := hS.1.back u; omega) | (have := zgap_range (S := S) (v := u) (S.1 1 + 1).toNat; omega) | (have := zclones_range (S := S) (v := u) (S.1 31).toNat; omega))) (by first | exact (fun _ => (y1.put hF _).2) | exact (fun _ => (y1.put hF _).2.trans (by rw [if_neg (by have := hS.2 u (by omega); omega)]; omega))) | (exfalso; first | omega | (simp_all; done) | grind)
    · intro u9 d1 d2 d3 h2 z
      obtain rfl : u = u9 := by omega
      first | exact hQ2 _ _ z (by first | decide | omega | exact (by first | (have := hS.1.serial u; unfold zdigit; split <;> omega) | (have := hS.1.serial u; unfold zdigit; omega) | (have := hS.1.until u; omega) | (have := hS.1.back u; omega) | (have := zgap_range (S := S) (v := u) (S.1 1 + 1).toNat; omega) | (have := zclones_range (S := S) (v := u) (S.1 31).toNat; omega))) (by first | exact (fun _ => (y1.put hF _).2) | exact (fun _ => (y1.put hF _).2.trans (by rw [if_neg (by have := hS.2 u (by omega); omega)]; omega))) | (exfalso; first | omega | (simp_all; done) | grind)
    · intro u9 d1 d2 d3 h2 z
      obtain rfl : u = u9 := by omega
      first | exact hQ2 _ _ z (by first | decide | omega | exact (by first | (have := hS.1.serial u; unfold zdigit; split <;> omega) | (have := hS.1.serial u; unfold zdigit; omega) | (have := hS.1.until u; omega) | (have := hS.1.back u; omega) | (have := zgap_range (S := S) (v := u) (S.1 1 + 1).toNat; omega) | (have := zclones_range (S := S) (v := u) (S.1 31).toNat; omega))) (by first | exact (fun _ => (y1.put hF _).2) | exact (fun _ => (y1.put hF _).2.trans (by rw [if_neg (by have := hS.2 u (by omega); omega)]; omega))) | (exfalso; first | omega | (simp_all; done) | grind)
    · intro u9 d1 d2 d3 h2 z
      obtain rfl : u = u9 := by omega
      first | exact hQ2 _ _ z (by first | decide | omega | exact (by first | (have := hS.1.serial u; unfold zdigit; split <;> omega) | (have := hS.1.serial u; unfold zdigit; omega) | (have := hS.1.until u; omega) | (have := hS.1.back u; omega) | (have := zgap_range (S := S) (v := u) (S.1 1 + 1).toNat; omega) | (have := zclones_range (S := S) (v := u) (S.1 31).toNat; omega))) (by first | exact (fun _ => (y1.put hF _).2) | exact (fun _ => (y1.put hF _).2.trans (by rw [if_neg (by have := hS.2 u (by omega); omega)]; omega))) | (exfalso; first | omega | (simp_all; done) | grind)
    · intro u9 d1 d2 d3 h2 z
      obtain rfl : u = u9 := by omega
      first | exact hQ2 _ _ z (by first | decide | omega | exact (by first | (have := hS.1.serial u; unfold zdigit; split <;> omega) | (have := hS.1.serial u; unfold zdigit; omega) | (have := hS.1.until u; omega) | (have := hS.1.back u; omega) | (have := zgap_range (S := S) (v := u) (S.1 1 + 1).toNat; omega) | (have := zclones_range (S := S) (v := u) (S.1 31).toNat; omega))) (by first | exact (fun _ => (y1.put hF _).2) | exact (fun _ => (y1.put hF _).2.trans (by rw [if_neg (by have := hS.2 u (by omega); omega)]; omega))) | (exfalso; first | omega | (simp_all; done) | grind)
  · intro u c1 c2 c3
    have y1 := y.next
    refine hQ _ _ ⟨(zgap S u (S.1 1 + 1).toNat), rfl, (by first | decide | omega | exact (by first | (have := hS.1.serial u; unfold zdigit; split <;> omega) | (have := hS.1.serial u; unfold zdigit; omega) | (have := hS.1.until u; omega) | (have := hS.1.back u; omega) | (have := zgap_range (S := S) (v := u) (S.1 1 + 1).toNat; omega) | (have := zclones_range (S := S) (v := u) (S.1 31).toNat; omega))), y1.2.2.2.2.2.2.1, y1.2.2.2.2.2.2.2.1, ?_⟩
    refine tail 0 _ _ o (y1.put hF _).1 (hS.next hn) (by decide) (fun Q2 hQ2 => ?_)
    have yM1 := (y1.put hF ((zgap S u (S.1 1 + 1).toNat))).1.2.1
    refine c_X12_ofVehicle hg hS.1 (MI.refl yM1) hw0 hw1 ?_ ?_ ?_ ?_ ?_ ?_ ?_
    · intro d0 h2 z
      first | exact hQ2 _ _ z (by first | decide | omega | exact (by first | (have := hS.1.serial u; unfold zdigit; split <;> omega) | (have := hS.1.serial u; unfold zdigit; omega) | (have := hS.1.until u; omega) | (have := hS.1.back u; omega) | (have := zgap_range (S := S) (v := u) (S.1 1 + 1).toNat; omega) | (have := zclones_range (S := S) (v := u) (S.1 31).toNat; omega))) (by first | exact (fun _ => (y1.put hF _).2) | exact (fun _ => (y1.put hF _).2.trans (by rw [if_neg (by have := hS.2 u (by omega); omega)]; omega))) | (exfalso; first | omega | (simp_all; done) | grind)
    · intro u9 d1 d2 d3 h2 z
      obtain rfl : u = u9 := by omega
      first | exact hQ2 _ _ z (by first | decide | omega | exact (by first | (have := hS.1.serial u; unfold zdigit; split <;> omega) | (have := hS.1.serial u; unfold zdigit; omega) | (have := hS.1.until u; omega) | (have := hS.1.back u; omega) | (have := zgap_range (S := S) (v := u) (S.1 1 + 1).toNat; omega) | (have := zclones_range (S := S) (v := u) (S.1 31).toNat; omega))) (by first | exact (fun _ => (y1.put hF _).2) | exact (fun _ => (y1.put hF _).2.trans (by rw [if_neg (by have := hS.2 u (by omega); omega)]; omega))) | (exfalso; first | omega | (simp_all; done) | grind)
    · intro u9 d1 d2 d3 h2 z
      obtain rfl : u = u9 := by omega
      first | exact hQ2 _ _ z (by first | decide | omega | exact (by first | (have := hS.1.serial u; unfold zdigit; split <;> omega) | (have := hS.1.serial u; unfold zdigit; omega) | (have := hS.1.until u; omega) | (have := hS.1.back u; omega) | (have := zgap_range (S := S) (v := u) (S.1 1 + 1).toNat; omega) | (have := zclones_range (S := S) (v := u) (S.1 31).toNat; omega))) (by first | exact (fun _ => (y1.put hF _).2) | exact (fun _ => (y1.put hF _).2.trans (by rw [if_neg (by have := hS.2 u (by omega); omega)]; omega))) | (exfalso; first | omega | (simp_all; done) | grind)
    · intro u9 d1 d2 d3 h2 z
      obtain rfl : u = u9 := by omega
      first | exact hQ2 _ _ z (by first | decide | omega | exact (by first | (have := hS.1.serial u; unfold zdigit; split <;> omega) | (have := hS.1.serial u; unfold zdigit; omega) | (have := hS.1.until u; omega) | (have := hS.1.back u; omega) | (have := zgap_range (S := S) (v := u) (S.1 1 + 1).toNat; omega) | (have := zclones_range (S := S) (v := u) (S.1 31).toNat; omega))) (by first | exact (fun _ => (y1.put hF _).2) | exact (fun _ => (y1.put hF _).2.trans (by rw [if_neg (by have := hS.2 u (by omega); omega)]; omega))) | (exfalso; first | omega | (simp_all; done) | grind)
    · intro u9 d1 d2 d3 h2 z
      obtain rfl : u = u9 := by omega
      first | exact hQ2 _ _ z (by first | decide | omega | exact (by first | (have := hS.1.serial u; unfold zdigit; split <;> omega) | (have := hS.1.serial u; unfold zdigit; omega) | (have := hS.1.until u; omega) | (have := hS.1.back u; omega) | (have := zgap_range (S := S) (v := u) (S.1 1 + 1).toNat; omega) | (have := zclones_range (S := S) (v := u) (S.1 31).toNat; omega))) (by first | exact (fun _ => (y1.put hF _).2) | exact (fun _ => (y1.put hF _).2.trans (by rw [if_neg (by have := hS.2 u (by omega); omega)]; omega))) | (exfalso; first | omega | (simp_all; done) | grind)
    · intro u9 d1 d2 d3 h2 z
      obtain rfl : u = u9 := by omega
      first | exact hQ2 _ _ z (by first | decide | omega | exact (by first | (have := hS.1.serial u; unfold zdigit; split <;> omega) | (have := hS.1.serial u; unfold zdigit; omega) | (have := hS.1.until u; omega) | (have := hS.1.back u; omega) | (have := zgap_range (S := S) (v := u) (S.1 1 + 1).toNat; omega) | (have := zclones_range (S := S) (v := u) (S.1 31).toNat; omega))) (by first | exact (fun _ => (y1.put hF _).2) | exact (fun _ => (y1.put hF _).2.trans (by rw [if_neg (by have := hS.2 u (by omega); omega)]; omega))) | (exfalso; first | omega | (simp_all; done) | grind)
    · intro u9 d1 d2 d3 h2 z
      obtain rfl : u = u9 := by omega
      first | exact hQ2 _ _ z (by first | decide | omega | exact (by first | (have := hS.1.serial u; unfold zdigit; split <;> omega) | (have := hS.1.serial u; unfold zdigit; omega) | (have := hS.1.until u; omega) | (have := hS.1.back u; omega) | (have := zgap_range (S := S) (v := u) (S.1 1 + 1).toNat; omega) | (have := zclones_range (S := S) (v := u) (S.1 31).toNat; omega))) (by first | exact (fun _ => (y1.put hF _).2) | exact (fun _ => (y1.put hF _).2.trans (by rw [if_neg (by have := hS.2 u (by omega); omega)]; omega))) | (exfalso; first | omega | (simp_all; done) | grind)
  · intro u c1 c2 c3
    have y1 := y.next
    refine hQ _ _ ⟨(zclones S u (S.1 31).toNat), rfl, (by first | decide | omega | exact (by first | (have := hS.1.serial u; unfold zdigit; split <;> omega) | (have := hS.1.serial u; unfold zdigit; omega) | (have := hS.1.until u; omega) | (have := hS.1.back u; omega) | (have := zgap_range (S := S) (v := u) (S.1 1 + 1).toNat; omega) | (have := zclones_range (S := S) (v := u) (S.1 31).toNat; omega))), y1.2.2.2.2.2.2.1, y1.2.2.2.2.2.2.2.1, ?_⟩
    refine tail 0 _ _ o (y1.put hF _).1 (hS.next hn) (by decide) (fun Q2 hQ2 => ?_)
    have yM1 := (y1.put hF ((zclones S u (S.1 31).toNat))).1.2.1
    refine c_X12_ofVehicle hg hS.1 (MI.refl yM1) hw0 hw1 ?_ ?_ ?_ ?_ ?_ ?_ ?_
    · intro d0 h2 z
      first | exact hQ2 _ _ z (by first | decide | omega | exact (by first | (have := hS.1.serial u; unfold zdigit; split <;> omega) | (have := hS.1.serial u; unfold zdigit; omega) | (have := hS.1.until u; omega) | (have := hS.1.back u; omega) | (have := zgap_range (S := S) (v := u) (S.1 1 + 1).toNat; omega) | (have := zclones_range (S := S) (v := u) (S.1 31).toNat; omega))) (by first | exact (fun _ => (y1.put hF _).2) | exact (fun _ => (y1.put hF _).2.trans (by rw [if_neg (by have := hS.2 u (by omega); omega)]; omega))) | (exfalso; first | omega | (simp_all; done) | grind)
    · intro u9 d1 d2 d3 h2 z
      obtain rfl : u = u9 := by omega
      first | exact hQ2 _ _ z (by first | decide | omega | exact (by first | (have := hS.1.serial u; unfold zdigit; split <;> omega) | (have := hS.1.serial u; unfold zdigit; omega) | (have := hS.1.until u; omega) | (have := hS.1.back u; omega) | (have := zgap_range (S := S) (v := u) (S.1 1 + 1).toNat; omega) | (have := zclones_range (S := S) (v := u) (S.1 31).toNat; omega))) (by first | exact (fun _ => (y1.put hF _).2) | exact (fun _ => (y1.put hF _).2.trans (by rw [if_neg (by have := hS.2 u (by omega); omega)]; omega))) | (exfalso; first | omega | (simp_all; done) | grind)
    · intro u9 d1 d2 d3 h2 z
      obtain rfl : u = u9 := by omega
      first | exact hQ2 _ _ z (by first | decide | omega | exact (by first | (have := hS.1.serial u; unfold zdigit; split <;> omega) | (have := hS.1.serial u; unfold zdigit; omega) | (have := hS.1.until u; omega) | (have := hS.1.back u; omega) | (have := zgap_range (S := S) (v := u) (S.1 1 + 1).toNat; omega) | (have := zclones_range (S := S) (v := u) (S.1 31).toNat; omega))) (by first | exact (fun _ => (y1.put hF _).2) | exact (fun _ => (y1.put hF _).2.trans (by rw [if_neg (by have := hS.2 u (by omega); omega)]; omega))) | (exfalso; first | omega | (simp_all; done) | grind)
    · intro u9 d1 d2 d3 h2 z
      obtain rfl : u = u9 := by omega
      first | exact hQ2 _ _ z (by first | decide | omega | exact (by first | (have := hS.1.serial u; unfold zdigit; split <;> omega) | (have := hS.1.serial u; unfold zdigit; omega) | (have := hS.1.until u; omega) | (have := hS.1.back u; omega) | (have := zgap_range (S := S) (v := u) (S.1 1 + 1).toNat; omega) | (have := zclones_range (S := S) (v := u) (S.1 31).toNat; omega))) (by first | exact (fun _ => (y1.put hF _).2) | exact (fun _ => (y1.put hF _).2.trans (by rw [if_neg (by have := hS.2 u (by omega); omega)]; omega))) | (exfalso; first | omega | (simp_all; done) | grind)
    · intro u9 d1 d2 d3 h2 z
      obtain rfl : u = u9 := by omega
      first | exact hQ2 _ _ z (by first | decide | omega | exact (by first | (have := hS.1.serial u; unfold zdigit; split <;> omega) | (have := hS.1.serial u; unfold zdigit; omega) | (have := hS.1.until u; omega) | (have := hS.1.back u; omega) | (have := zgap_range (S := S) (v := u) (S.1 1 + 1).toNat; omega) | (have := zclones_range (S := S) (v := u) (S.1 31).toNat; omega))) (by first | exact (fun _ => (y1.put hF _).2) | exact (fun _ => (y1.put hF _).2.trans (by rw [if_neg (by have := hS.2 u (by omega); omega)]; omega))) | (exfalso; first | omega | (simp_all; done) | grind)
    · intro u9 d1 d2 d3 h2 z
      obtain rfl : u = u9 := by omega
      first | exact hQ2 _ _ z (by first | decide | omega | exact (by first | (have := hS.1.serial u; unfold zdigit; split <;> omega) | (have := hS.1.serial u; unfold zdigit; omega) | (have := hS.1.until u; omega) | (have := hS.1.back u; omega) | (have := zgap_range (S := S) (v := u) (S.1 1 + 1).toNat; omega) | (have := zclones_range (S := S) (v := u) (S.1 31).toNat; omega))) (by first | exact (fun _ => (y1.put hF _).2) | exact (fun _ => (y1.put hF _).2.trans (by rw [if_neg (by have := hS.2 u (by omega); omega)]; omega))) | (exfalso; first | omega | (simp_all; done) | grind)
    · intro u9 d1 d2 d3 h2 z
      obtain rfl : u = u9 := by omega
      first | exact hQ2 _ _ z (by first | decide | omega | exact (by first | (have := hS.1.serial u; unfold zdigit; split <;> omega) | (have := hS.1.serial u; unfold zdigit; omega) | (have := hS.1.until u; omega) | (have := hS.1.back u; omega) | (have := zgap_range (S := S) (v := u) (S.1 1 + 1).toNat; omega) | (have := zclones_range (S := S) (v := u) (S.1 31).toNat; omega))) (by first | exact (fun _ => (y1.put hF _).2) | exact (fun _ => (y1.put hF _).2.trans (by rw [if_neg (by have := hS.2 u (by omega); omega)]; omega))) | (exfalso; first | omega | (simp_all; done) | grind)
theorem it_sight {g : zGT} {Q : zO → zH → Prop} (hg : zG g) (hnx : zNX g) {x m : Nat} {A : Nat → Nat} {out : Nat} {F : Nat → Prop} {hB : zH} {a L : Nat} (hF : zLF m A out F hB) {sv : Nat → Int} (hA : zLA g a sv L) {mi : Nat} (hm : zMi g mi) {o : Nat → Nat} {n : Nat} {S : zS} {h : zH} (y : zLS g x m A out F hB o n S S h) (hS : MOk n S) (hn : n < 512) {i : Int} (hi : 0 ≤ i) (hi5 : i + 5 ≤ L) {mc ms bc bs bc2 bs2 : Nat} (hb : bc2 + 20 ≤ bc) (hb2 : bs2 + 4300 ≤ bs) (k : ∀ o2 S2 h2, zLS g x m A out F hB o2 (n + 1) S2 S2 h2 → MOk (n + 1) S2 → zX g mL_law mc ms Q 2034 [some (.ref a), some (.ref x), some (.ref m), some (.ref out), some (.int (zI i)), none, none, none] [] h2 bc2 bs2) : zX g mL_law mc ms Q 1494 [some (.ref a), some (.ref x), some (.ref m), some (.ref out), some (.int (zI i)), none, none, none] [] h bc bs := by
  have hL := hA.2.2.1
  have hz := hA.2.2.2
  have e1 := hS.1.today
  have e2 := hS.1.signs
  have e4 := hS.1.vehicles
  have e12 := hS.1.people
  have e18 := hS.1.allotted
  have e20 := hS.1.rates
  have e31 := hS.1.sightings
  have e36 := hS.1.fines
  refine r_aload_1 1495 rfl (dd_L_law_15 1 _ _ _ rfl) ?_
  refine r_aload_0 1496 rfl (dd_L_law_15 2 _ _ _ rfl) ?_
  refine r_iload_4 1498 rfl (dd_L_law_15 3 _ _ _ rfl) ?_
  refine r_iconst 1499 rfl (dd_L_law_15 4 _ _ _ rfl) ?_
  refine r_iadd 1500 rfl (dd_L_law_15 5 _ _ _ rfl) ?_
  refine r_scr hA (by omega) (by omega) 1501 rfl (dd_L_law_15 6 _ _ _ rfl) ?_
  refine r_aload_0 1502 rfl (dd_L_law_15 7 _ _ _ rfl) ?_
  refine r_iload_4 1504 rfl (dd_L_law_15 8 _ _ _ rfl) ?_
  refine r_iconst 1505 rfl (dd_L_law_15 9 _ _ _ rfl) ?_
  refine r_iadd 1506 rfl (dd_L_law_15 10 _ _ _ rfl) ?_
  refine r_scr hA (by omega) (by omega) 1507 rfl (dd_L_law_15 11 _ _ _ rfl) ?_
  refine r_aload_3 1508 rfl (dd_L_law_15 12 _ _ _ rfl) ?_
  have hw0 : zR (sv (i + 1).toNat) := by exact hz _
  have hw1 : zR (sv (i + 2).toNat) := by exact hz _
  generalize hv0 : (sv (i + 1).toNat) = v0 at *
  generalize hv1 : (sv (i + 2).toNat) = v1 at *
  have tail : ∀ (kk : Int) (S2 : zS) (h1 : zH) (o1 : Nat → Nat), zLS g x m A out F hB o1 (n + 1) S2 S h1 → MOk (n + 1) S2 → zR kk → (∀ Q2 : zO → zH → Prop, (∀ h2 v, MI h1 m A S2 kk h2 → zR v → (kk = 0 → aj_ h1 out 0 = v) → Q2 (.inl (some (.int (zI v)))) h2) → zC g (.code yX12_sight cX12_sight 5 (Option.some Jvm.ClassFile.FieldType.int)) yX12_sight 13 0 0 [.ref m, .int (zI v0), .int (zI v1)] h1 Q2) → zX g mL_law mc ms Q 1511 [some (.ref a), some (.ref x), some (.ref m), some (.ref out), some (.int (zI i)), none, none, none] [.int (zI kk)] h1 bc2 bs2 := by
    intro kk S2 h1 o1 y1 hS2 hkk hmod
    refine r_istore_5 1513 rfl (by decide) rfl (dd_L_law_15 14 _ _ _ rfl) ?_
    refine r_aload_2 1514 rfl (dd_L_law_15 15 _ _ _ rfl) ?_
    refine r_aload_0 1515 rfl (dd_L_law_15 16 _ _ _ rfl) ?_
    refine r_iload_4 1517 rfl (dd_L_law_15 17 _ _ _ rfl) ?_
    refine r_iconst 1518 rfl (dd_L_law_15 18 _ _ _ rfl) ?_
    refine r_iadd 1519 rfl (dd_L_law_15 19 _ _ _ rfl) ?_
    refine r_scr hA (by omega) (by omega) 1520 rfl (dd_L_law_15 20 _ _ _ rfl) ?_
    rw [hv0]
    refine r_aload_0 1521 rfl (dd_L_law_15 21 _ _ _ rfl) ?_
    refine r_iload_4 1523 rfl (dd_L_law_15 22 _ _ _ rfl) ?_
    refine r_iconst 1524 rfl (dd_L_law_15 23 _ _ _ rfl) ?_
    refine r_iadd 1525 rfl (dd_L_law_15 24 _ _ _ rfl) ?_
    refine r_scr hA (by omega) (by omega) 1526 rfl (dd_L_law_15 25 _ _ _ rfl) ?_
    rw [hv1]
    refine r_callV2 (lvl := 13) (mc1 := 0) (ms1 := 0) bc2 bs2 hg rfl md_X12_sight zc_X12 y1.2.1.1.1 wi_X12_sight wv_X12_sight (tb_7 136 _ rfl) (by decide) (by decide) rfl (Nat.le_of_ble_eq_true rfl) (Nat.le_refl _) (Nat.le_refl _) 1529 rfl (dd_L_law_15 26 _ _ _ rfl) ?_
    refine hmod _ (fun h2 v z hv he => ?_)
    obtain ⟨y2, q2⟩ := y1.mod hF z
    dsimp only [zCont, Option.toList, List.cons_append, List.nil_append]
    refine r_istore_6 1531 rfl (by decide) rfl (dd_L_law_15 27 _ _ _ rfl) ?_
    refine r_aload_2 1532 rfl (dd_L_law_15 28 _ _ _ rfl) ?_
    refine r_callV0 (lvl := 10) (mc1 := 0) (ms1 := 0) bc2 bs2 hg rfl md_X12_thrown zc_X12 y2.2.1.1.1 wi_X12_thrown wv_X12_thrown (tb_6 189 _ rfl) (by decide) (by decide) rfl (Nat.le_of_ble_eq_true rfl) (Nat.le_refl _) (Nat.le_refl _) 1535 rfl (dd_L_law_15 29 _ _ _ rfl) ?_
    refine c_X12_thrown hg z ?_
    dsimp only [zCont, Option.toList, List.cons_append, List.nil_append]
    refine r_iload_5 1537 rfl (dd_L_law_15 30 _ _ _ rfl) ?_
    refine r_if_icmpeq hkk hkk 1540 rfl 1542 rfl (dd_L_law_15 31 _ _ _ rfl) (fun _ => ?_) (fun q => absurd rfl q)
    refine r_iload_5 1544 rfl (dd_L_law_15 34 _ _ _ rfl) ?_
    have fin : zX g mL_law mc ms Q 1559 [some (.ref a), some (.ref x), some (.ref m), some (.ref out), some (.int (zI i)), some (.int (zI kk)), some (.int (zI v)), none] [] h2 bc2 bs2 := by
      refine r_goto 2034 rfl (dd_L_law_15 45 _ _ _ rfl) ?_
      refine r_sub [some (.ref a), some (.ref x), some (.ref m), some (.ref out), some (.int (zI i)), none, none, none] (z_s1 (z_s1 (z_s1 (z_s1 (z_s1 (z_s0 (z_s0 (z_s0 z_sN)))))))) ?_
      exact k o1 S2 h2 y2 hS2
    refine r_ifne hkk 1547 rfl 1559 rfl (dd_L_law_15 35 _ _ _ rfl) (fun _ => fin) (fun hk => ?_)
    refine r_aload_3 1548 rfl (dd_L_law_15 36 _ _ _ rfl) ?_
    refine r_iconst 1549 rfl (dd_L_law_15 37 _ _ _ rfl) ?_
    refine r_laload hg y2.2.2.2.2.2.2.1 (by decide) (by decide) (by rw [y2.2.2.2.2.2.2.2.1]; decide) 1550 rfl (dd_L_law_15 38 _ _ _ rfl) ?_
    rw [show aj_ h2 out (0 : Int).toNat = v from q2.trans (he hk)]
    refine r_iload_6 1552 rfl (dd_L_law_15 39 _ _ _ rfl) ?_
    refine r_i2l hv 1553 rfl (dd_L_law_15 40 _ _ _ rfl) ?_
    refine r_lcmpe 1554 rfl (dd_L_law_15 41 _ _ _ rfl) ?_
    exact r_ifeq (by decide) 1557 rfl 1559 rfl (dd_L_law_15 42 _ _ _ rfl) (fun _ => fin) (fun q => absurd rfl q)
  refine r_callSH (lvl := 19) (mc1 := 14) (ms1 := 300) (As := [.ref x, .int (zI v0), .int (zI v1), .ref out]) bc2 bs2 hg rfl mh_sight ws_L_sight (tb_5 118 _ rfl) (by decide) (by decide) rfl (Nat.le_of_ble_eq_true rfl) (by omega) (by omega) rfl 1511 rfl (dd_L_law_15 13 _ _ _ rfl) ?_
  refine w_sight hg hnx y.2.2.2.2.2.2.2.2 (fun Q1 hQ => ?_)
  obtain ⟨⟨Vs, Ps, Ss, Ts, Fs, Tn, A9, G, Rc, yc⟩, yM, -⟩ := id y
  refine c_X11_sight hg hm hS.1 yc hw0 hw1 ?_ ?_ ?_
  · intro c0
    refine hQ _ _ (Or.inl ⟨rfl, ?_⟩)
    refine tail 1 S h o y.next (hS.next hn) (by decide) (fun Q2 hQ2 => ?_)
    have yM1 := y.next.2.1
    refine c_X12_sight hg hS.1 (MI.refl yM1) hw0 hw1 ?_ ?_ ?_
    · intro d0 h2 z
      first | exact hQ2 _ _ z (by first | decide | omega) (fun q => absurd q (by decide)) | (exfalso; first | omega | (simp_all; done) | grind)
    · intro d0 d1 h2 z
      first | exact hQ2 _ _ z (by first | decide | omega) (fun q => absurd q (by decide)) | (exfalso; first | omega | (simp_all; done) | grind)
    · intro d0 d1 d2 h2 z
      first | exact hQ2 _ _ z (by first | decide | omega) (fun q => absurd q (by decide)) | (exfalso; first | omega | (simp_all; done) | grind)
  · intro c0 c1
    refine hQ _ _ (Or.inr (Or.inl ⟨rfl, ?_⟩))
    refine tail 2 S h o y.next (hS.next hn) (by decide) (fun Q2 hQ2 => ?_)
    have yM1 := y.next.2.1
    refine c_X12_sight hg hS.1 (MI.refl yM1) hw0 hw1 ?_ ?_ ?_
    · intro d0 h2 z
      first | exact hQ2 _ _ z (by first | decide | omega) (fun q => absurd q (by decide)) | (exfalso; first | omega | (simp_all; done) | grind)
    · intro d0 d1 h2 z
      first | exact hQ2 _ _ z (by first | decide | omega) (fun q => absurd q (by decide)) | (exfalso; first | omega | (simp_all; done) | grind)
    · intro d0 d1 d2 h2 z
      first | exact hQ2 _ _ z (by first | decide | omega) (fun q => absurd q (by decide)) | (exfalso; first | omega | (simp_all; done) | grind)
  · intro c0 c1 c2 o1 h1 cx st
    have y1 := y.cls hF cx st
    refine hQ _ _ ⟨(S.1 31), rfl, (by first | decide | omega), y1.2.2.2.2.2.2.1, y1.2.2.2.2.2.2.2.1, ?_⟩
    refine tail 0 _ _ o1 (y1.put hF _).1 (ok_sight hS hn (by omega) (by omega)) (by decide) (fun Q2 hQ2 => ?_)
    have yM1 := (y1.put hF ((S.1 31))).1.2.1
    refine c_X12_sight hg hS.1 (MI.refl yM1) hw0 hw1 ?_ ?_ ?_
    · intro d0 h2 z
      first | exact hQ2 _ _ z (by first | decide | omega) (fun _ => (y1.put hF _).2) | (exfalso; first | omega | (simp_all; done) | grind)
    · intro d0 d1 h2 z
      first | exact hQ2 _ _ z (by first | decide | omega) (fun _ => (y1.put hF _).2) | (exfalso; first | omega | (simp_all; done) | grind)
    · intro d0 d1 d2 h2 z
      first | exact hQ2 _ _ z (by first | decide | omega) (fun _ => (y1.put hF _).2) | (exfalso; first | omega | (simp_all; done) | grind)
theorem it_fine {g : zGT} {Q : zO → zH → Prop} (hg : zG g) (hnx : zNX g) {x m : Nat} {A : Nat → Nat} {out : Nat} {F : Nat → Prop} {hB : zH} {a L : Nat} (hF : zLF m A out F hB) {sv : Nat → Int} (hA : zLA g a sv L) {mi : Nat} (hm : zMi g mi) {o : Nat → Nat} {n : Nat} {S : zS} {h : zH} (y : zLS g x m A out F hB o n S S h) (hS : MOk n S) (hn : n < 512) {i : Int} (hi : 0 ≤ i) (hi5 : i + 5 ≤ L) {mc ms bc bs bc2 bs2 : Nat} (hb : bc2 + 20 ≤ bc) (hb2 : bs2 + 4300 ≤ bs) (k : ∀ o2 S2 h2, zLS g x m A out F hB o2 (n + 1) S2 S2 h2 → MOk (n + 1) S2 → zX g mL_law mc ms Q 2034 [some (.ref a), some (.ref x), some (.ref m), some (.ref out), some (.int (zI i)), none, none, none] [] h2 bc2 bs2) : zX g mL_law mc ms Q 1618 [some (.ref a), some (.ref x), some (.ref m), some (.ref out), some (.int (zI i)), none, none, none] [] h bc bs := by
  have hL := hA.2.2.1
  have hz := hA.2.2.2
  have e1 := hS.1.today
  have e2 := hS.1.signs
  have e4 := hS.1.vehicles
  have e12 := hS.1.people
  have e18 := hS.1.allotted
  have e20 := hS.1.rates
  have e31 := hS.1.sightings
  have e36 := hS.1.fines
  refine r_aload_1 1619 rfl (dd_L_law_16 21 _ _ _ rfl) ?_
  refine r_aload_0 1620 rfl (dd_L_law_16 22 _ _ _ rfl) ?_
  refine r_iload_4 1622 rfl (dd_L_law_16 23 _ _ _ rfl) ?_
  refine r_iconst 1623 rfl (dd_L_law_16 24 _ _ _ rfl) ?_
  refine r_iadd 1624 rfl (dd_L_law_16 25 _ _ _ rfl) ?_
  refine r_scr hA (by omega) (by omega) 1625 rfl (dd_L_law_16 26 _ _ _ rfl) ?_
  refine r_aload_0 1626 rfl (dd_L_law_16 27 _ _ _ rfl) ?_
  refine r_iload_4 1628 rfl (dd_L_law_16 28 _ _ _ rfl) ?_
  refine r_iconst 1629 rfl (dd_L_law_16 29 _ _ _ rfl) ?_
  refine r_iadd 1630 rfl (dd_L_law_16 30 _ _ _ rfl) ?_
  refine r_scr hA (by omega) (by omega) 1631 rfl (dd_L_law_16 31 _ _ _ rfl) ?_
  refine r_aload_3 1632 rfl (dd_L_law_16 32 _ _ _ rfl) ?_
  have hw0 : zR (sv (i + 1).toNat) := by exact hz _
  have hw1 : zR (sv (i + 2).toNat) := by exact hz _
  generalize hv0 : (sv (i + 1).toNat) = v0 at *
  generalize hv1 : (sv (i + 2).toNat) = v1 at *
  have tail : ∀ (kk : Int) (S2 : zS) (h1 : zH) (o1 : Nat → Nat), zLS g x m A out F hB o1 (n + 1) S2 S h1 → MOk (n + 1) S2 → zR kk → (∀ Q2 : zO → zH → Prop, (∀ h2 v, MI h1 m A S2 kk h2 → zR v → (kk = 0 → aj_ h1 out 0 = v) → Q2 (.inl (some (.int (zI v)))) h2) → zC g (.code yX12_fine cX12_fine 5 (Option.some Jvm.ClassFile.FieldType.int)) yX12_fine 13 0 0 [.ref m, .int (zI v0), .int (zI v1)] h1 Q2) → zX g mL_law mc ms Q 1635 [some (.ref a), some (.ref x), some (.ref m), some (.ref out), some (.int (zI i)), none, none, none] [.int (zI kk)] h1 bc2 bs2 := by
    intro kk S2 h1 o1 y1 hS2 hkk hmod
    refine r_istore_5 1637 rfl (by decide) rfl (dd_L_law_16 34 _ _ _ rfl) ?_
    refine r_aload_2 1638 rfl (dd_L_law_16 35 _ _ _ rfl) ?_
    refine r_aload_0 1639 rfl (dd_L_law_16 36 _ _ _ rfl) ?_
    refine r_iload_4 1641 rfl (dd_L_law_16 37 _ _ _ rfl) ?_
    refine r_iconst 1642 rfl (dd_L_law_16 38 _ _ _ rfl) ?_
    refine r_iadd 1643 rfl (dd_L_law_16 39 _ _ _ rfl) ?_
    refine r_scr hA (by omega) (by omega) 1644 rfl (dd_L_law_16 40 _ _ _ rfl) ?_
    rw [hv0]
    refine r_aload_0 1645 rfl (dd_L_law_16 41 _ _ _ rfl) ?_
    refine r_iload_4 1647 rfl (dd_L_law_16 42 _ _ _ rfl) ?_
    refine r_iconst 1648 rfl (dd_L_law_16 43 _ _ _ rfl) ?_
    refine r_iadd 1649 rfl (dd_L_law_16 44 _ _ _ rfl) ?_
    refine r_scr hA (by omega) (by omega) 1650 rfl (dd_L_law_16 45 _ _ _ rfl) ?_
    rw [hv1]
    refine r_callV2 (lvl := 13) (mc1 := 0) (ms1 := 0) bc2 bs2 hg rfl md_X12_fine zc_X12 y1.2.1.1.1 wi_X12_fine wv_X12_fine (tb_7 152 _ rfl) (by decide) (by decide) rfl (Nat.le_of_ble_eq_true rfl) (Nat.le_refl _) (Nat.le_refl _) 1653 rfl (dd_L_law_16 46 _ _ _ rfl) ?_
    refine hmod _ (fun h2 v z hv he => ?_)
    obtain ⟨y2, q2⟩ := y1.mod hF z
    dsimp only [zCont, Option.toList, List.cons_append, List.nil_append]
    refine r_istore_6 1655 rfl (by decide) rfl (dd_L_law_16 47 _ _ _ rfl) ?_
    refine r_aload_2 1656 rfl (dd_L_law_16 48 _ _ _ rfl) ?_
    refine r_callV0 (lvl := 10) (mc1 := 0) (ms1 := 0) bc2 bs2 hg rfl md_X12_thrown zc_X12 y2.2.1.1.1 wi_X12_thrown wv_X12_thrown (tb_6 189 _ rfl) (by decide) (by decide) rfl (Nat.le_of_ble_eq_true rfl) (Nat.le_refl _) (Nat.le_refl _) 1659 rfl (dd_L_law_16 49 _ _ _ rfl) ?_
    refine c_X12_thrown hg z ?_
    dsimp only [zCont, Option.toList, List.cons_append, List.nil_append]
    refine r_iload_5 1661 rfl (dd_L_law_16 50 _ _ _ rfl) ?_
    refine r_if_icmpeq hkk hkk 1664 rfl 1666 rfl (dd_L_law_16 51 _ _ _ rfl) (fun _ => ?_) (fun q => absurd rfl q)
    refine r_iload_5 1668 rfl (dd_L_law_16 54 _ _ _ rfl) ?_
    have fin : zX g mL_law mc ms Q 1683 [some (.ref a), some (.ref x), some (.ref m), some (.ref out), some (.int (zI i)), some (.int (zI kk)), some (.int (zI v)), none] [] h2 bc2 bs2 := by
      refine r_goto 2034 rfl (dd_L_law_17 5 _ _ _ rfl) ?_
      refine r_sub [some (.ref a), some (.ref x), some (.ref m), some (.ref out), some (.int (zI i)), none, none, none] (z_s1 (z_s1 (z_s1 (z_s1 (z_s1 (z_s0 (z_s0 (z_s0 z_sN)))))))) ?_
      exact k o1 S2 h2 y2 hS2
    refine r_ifne hkk 1671 rfl 1683 rfl (dd_L_law_16 55 _ _ _ rfl) (fun _ => fin) (fun hk => ?_)
    refine r_aload_3 1672 rfl (dd_L_law_16 56 _ _ _ rfl) ?_
    refine r_iconst 1673 rfl (dd_L_law_16 57 _ _ _ rfl) ?_
    refine r_laload hg y2.2.2.2.2.2.2.1 (by decide) (by decide) (by rw [y2.2.2.2.2.2.2.2.1]; decide) 1674 rfl (dd_L_law_16 58 _ _ _ rfl) ?_
    rw [show aj_ h2 out (0 : Int).toNat = v from q2.trans (he hk)]
    refine r_iload_6 1676 rfl (dd_L_law_16 59 _ _ _ rfl) ?_
    refine r_i2l hv 1677 rfl (dd_L_law_17 0 _ _ _ rfl) ?_
    refine r_lcmpe 1678 rfl (dd_L_law_17 1 _ _ _ rfl) ?_
    exact r_ifeq (by decide) 1681 rfl 1683 rfl (dd_L_law_17 2 _ _ _ rfl) (fun _ => fin) (fun q => absurd rfl q)
  refine r_callSH (lvl := 18) (mc1 := 6) (ms1 := 150) (As := [.ref x, .int (zI v0), .int (zI v1), .ref out]) bc2 bs2 hg rfl mh_fine ws_L_fine (tb_5 167 _ rfl) (by decide) (by decide) rfl (Nat.le_of_ble_eq_true rfl) (by omega) (by omega) rfl 1635 rfl (dd_L_law_16 33 _ _ _ rfl) ?_
  refine w_fine hg hnx y.2.2.2.2.2.2.2.2 (fun Q1 hQ => ?_)
  obtain ⟨⟨Vs, Ps, Ss, Ts, Fs, Tn, A9, G, Rc, yc⟩, yM, -⟩ := id y
  refine c_X11_fine hg hm hS.1 yc hw0 hw1 ?_ ?_ ?_ ?_
  · intro c0
    refine hQ _ _ (Or.inl ⟨rfl, ?_⟩)
    refine tail 1 S h o y.next (hS.next hn) (by decide) (fun Q2 hQ2 => ?_)
    have yM1 := y.next.2.1
    refine c_X12_fine hg hS.1 (MI.refl yM1) hw0 hw1 ?_ ?_ ?_ ?_
    · intro d0 h2 z
      first | exact hQ2 _ _ z (by first | decide | omega) (fun q => absurd q (by decide)) | (exfalso; first | omega | (simp_all; done) | grind)
    · intro s9 d1 d2 d3 h2 z
      first | exact hQ2 _ _ z (by first | decide | omega) (fun q => absurd q (by decide)) | (exfalso; first | omega | (simp_all; done) | grind)
    · intro s9 d1 d2 d3 d4 h2 z
      first | exact hQ2 _ _ z (by first | decide | omega) (fun q => absurd q (by decide)) | (exfalso; first | omega | (simp_all; done) | grind)
    · intro s9 d1 d2 d3 d4 h2 z
      first | exact hQ2 _ _ z (by first | decide | omega) (fun q => absurd q (by decide)) | (exfalso; first | omega | (simp_all; done) | grind)
  · intro s c1 c2 c3
    refine hQ _ _ (Or.inr (Or.inl ⟨rfl, ?_⟩))
    refine tail 2 S h o y.next (hS.next hn) (by decide) (fun Q2 hQ2 => ?_)
    have yM1 := y.next.2.1
    refine c_X12_fine hg hS.1 (MI.refl yM1) hw0 hw1 ?_ ?_ ?_ ?_
    · intro d0 h2 z
      first | exact hQ2 _ _ z (by first | decide | omega) (fun q => absurd q (by decide)) | (exfalso; first | omega | (simp_all; done) | grind)
    · intro s9 d1 d2 d3 h2 z
      obtain rfl : s = s9 := by omega
      first | exact hQ2 _ _ z (by first | decide | omega) (fun q => absurd q (by decide)) | (exfalso; first | omega | (simp_all; done) | grind)
    · intro s9 d1 d2 d3 d4 h2 z
      obtain rfl : s = s9 := by omega
      first | exact hQ2 _ _ z (by first | decide | omega) (fun q => absurd q (by decide)) | (exfalso; first | omega | (simp_all; done) | grind)
    · intro s9 d1 d2 d3 d4 h2 z
      obtain rfl : s = s9 := by omega
      first | exact hQ2 _ _ z (by first | decide | omega) (fun q => absurd q (by decide)) | (exfalso; first | omega | (simp_all; done) | grind)
  · intro s c1 c2 c3 c4
    refine hQ _ _ (Or.inr (Or.inr (Or.inl ⟨rfl, ?_⟩)))
    refine tail 3 S h o y.next (hS.next hn) (by decide) (fun Q2 hQ2 => ?_)
    have yM1 := y.next.2.1
    refine c_X12_fine hg hS.1 (MI.refl yM1) hw0 hw1 ?_ ?_ ?_ ?_
    · intro d0 h2 z
      first | exact hQ2 _ _ z (by first | decide | omega) (fun q => absurd q (by decide)) | (exfalso; first | omega | (simp_all; done) | grind)
    · intro s9 d1 d2 d3 h2 z
      obtain rfl : s = s9 := by omega
      first | exact hQ2 _ _ z (by first | decide | omega) (fun q => absurd q (by decide)) | (exfalso; first | omega | (simp_all; done) | grind)
    · intro s9 d1 d2 d3 d4 h2 z
      obtain rfl : s = s9 := by omega
      first | exact hQ2 _ _ z (by first | decide | omega) (fun q => absurd q (by decide)) | (exfalso; first | omega | (simp_all; done) | grind)
    · intro s9 d1 d2 d3 d4 h2 z
      obtain rfl : s = s9 := by omega
      first | exact hQ2 _ _ z (by first | decide | omega) (fun q => absurd q (by decide)) | (exfalso; first | omega | (simp_all; done) | grind)
  · intro s c1 c2 c3 c4 o1 h1 cx st
    have y1 := y.cls hF cx st
    refine hQ _ _ ⟨(S.1 36), rfl, (by first | decide | omega), y1.2.2.2.2.2.2.1, y1.2.2.2.2.2.2.2.1, ?_⟩
    refine tail 0 _ _ o1 (y1.put hF _).1 (ok_fine hS hn (by omega) (by omega) (by omega)) (by decide) (fun Q2 hQ2 => ?_)
    have yM1 := (y1.put hF ((S.1 36))).1.2.1
    refine c_X12_fine hg hS.1 (MI.refl yM1) hw0 hw1 ?_ ?_ ?_ ?_
    · intro d0 h2 z
      first | exact hQ2 _ _ z (by first | decide | omega) (fun _ => (y1.put hF _).2) | (exfalso; first | omega | (simp_all; done) | grind)
    · intro s9 d1 d2 d3 h2 z
      obtain rfl : s = s9 := by omega
      first | exact hQ2 _ _ z (by first | decide | omega) (fun _ => (y1.put hF _).2) | (exfalso; first | omega | (simp_all; done) | grind)
    · intro s9 d1 d2 d3 d4 h2 z
      obtain rfl : s = s9 := by omega
      first | exact hQ2 _ _ z (by first | decide | omega) (fun _ => (y1.put hF _).2) | (exfalso; first | omega | (simp_all; done) | grind)
    · intro s9 d1 d2 d3 d4 h2 z
      obtain rfl : s = s9 := by omega
      first | exact hQ2 _ _ z (by first | decide | omega) (fun _ => (y1.put hF _).2) | (exfalso; first | omega | (simp_all; done) | grind)
theorem it_name {g : zGT} {Q : zO → zH → Prop} (hg : zG g) (hnx : zNX g) {x m : Nat} {A : Nat → Nat} {out : Nat} {F : Nat → Prop} {hB : zH} {a L : Nat} (hF : zLF m A out F hB) {sv : Nat → Int} (hA : zLA g a sv L) {o : Nat → Nat} {n : Nat} {S : zS} {h : zH} (y : zLS g x m A out F hB o n S S h) (hS : MOk n S) (hn : n < 512) {i : Int} (hi : 0 ≤ i) (hi5 : i + 5 ≤ L) {mc ms bc bs bc2 bs2 : Nat} (hb : bc2 + 20 ≤ bc) (hb2 : bs2 + 4300 ≤ bs) (k : ∀ o2 S2 h2, zLS g x m A out F hB o2 (n + 1) S2 S2 h2 → MOk (n + 1) S2 → zX g mL_law mc ms Q 2034 [some (.ref a), some (.ref x), some (.ref m), some (.ref out), some (.int (zI i)), none, none, none] [] h2 bc2 bs2) : zX g mL_law mc ms Q 1686 [some (.ref a), some (.ref x), some (.ref m), some (.ref out), some (.int (zI i)), none, none, none] [] h bc bs := by
  have hL := hA.2.2.1
  have hz := hA.2.2.2
  have e1 := hS.1.today
  have e2 := hS.1.signs
  have e4 := hS.1.vehicles
  have e12 := hS.1.people
  have e18 := hS.1.allotted
  have e20 := hS.1.rates
  have e31 := hS.1.sightings
  have e36 := hS.1.fines
  refine r_aload_1 1687 rfl (dd_L_law_17 6 _ _ _ rfl) ?_
  refine r_aload_0 1688 rfl (dd_L_law_17 7 _ _ _ rfl) ?_
  refine r_iload_4 1690 rfl (dd_L_law_17 8 _ _ _ rfl) ?_
  refine r_iconst 1691 rfl (dd_L_law_17 9 _ _ _ rfl) ?_
  refine r_iadd 1692 rfl (dd_L_law_17 10 _ _ _ rfl) ?_
  refine r_scr hA (by omega) (by omega) 1693 rfl (dd_L_law_17 11 _ _ _ rfl) ?_
  refine r_aload_0 1694 rfl (dd_L_law_17 12 _ _ _ rfl) ?_
  refine r_iload_4 1696 rfl (dd_L_law_17 13 _ _ _ rfl) ?_
  refine r_iconst 1697 rfl (dd_L_law_17 14 _ _ _ rfl) ?_
  refine r_iadd 1698 rfl (dd_L_law_17 15 _ _ _ rfl) ?_
  refine r_scr hA (by omega) (by omega) 1699 rfl (dd_L_law_17 16 _ _ _ rfl) ?_
  refine r_aload_3 1700 rfl (dd_L_law_17 17 _ _ _ rfl) ?_
  have hw0 : zR (sv (i + 1).toNat) := by exact hz _
  have hw1 : zR (sv (i + 2).toNat) := by exact hz _
  generalize hv0 : (sv (i + 1).toNat) = v0 at *
  generalize hv1 : (sv (i + 2).toNat) = v1 at *
  have tail : ∀ (kk : Int) (S2 : zS) (h1 : zH) (o1 : Nat → Nat), zLS g x m A out F hB o1 (n + 1) S2 S h1 → MOk (n + 1) S2 → zR kk → (∀ Q2 : zO → zH → Prop, (∀ h2 v, MI h1 m A S2 kk h2 → zR v → (kk = 0 → aj_ h1 out 0 = v) → Q2 (.inl (some (.int (zI v)))) h2) → zC g (.code yX12_name cX12_name 6 (Option.some Jvm.ClassFile.FieldType.int)) yX12_name 14 0 0 [.ref m, .int (zI v0), .int (zI v1)] h1 Q2) → zX g mL_law mc ms Q 1703 [some (.ref a), some (.ref x), some (.ref m), some (.ref out), some (.int (zI i)), none, none, none] [.int (zI kk)] h1 bc2 bs2 := by
    intro kk S2 h1 o1 y1 hS2 hkk hmod
    refine r_istore_5 1705 rfl (by decide) rfl (dd_L_law_17 19 _ _ _ rfl) ?_
    refine r_aload_2 1706 rfl (dd_L_law_17 20 _ _ _ rfl) ?_
    refine r_aload_0 1707 rfl (dd_L_law_17 21 _ _ _ rfl) ?_
    refine r_iload_4 1709 rfl (dd_L_law_17 22 _ _ _ rfl) ?_
    refine r_iconst 1710 rfl (dd_L_law_17 23 _ _ _ rfl) ?_
    refine r_iadd 1711 rfl (dd_L_law_17 24 _ _ _ rfl) ?_
    refine r_scr hA (by omega) (by omega) 1712 rfl (dd_L_law_17 25 _ _ _ rfl) ?_
    rw [hv0]
    refine r_aload_0 1713 rfl (dd_L_law_17 26 _ _ _ rfl) ?_
    refine r_iload_4 1715 rfl (dd_L_law_17 27 _ _ _ rfl) ?_
    refine r_iconst 1716 rfl (dd_L_law_17 28 _ _ _ rfl) ?_
    refine r_iadd 1717 rfl (dd_L_law_17 29 _ _ _ rfl) ?_
    refine r_scr hA (by omega) (by omega) 1718 rfl (dd_L_law_17 30 _ _ _ rfl) ?_
    rw [hv1]
    refine r_callV2 (lvl := 14) (mc1 := 0) (ms1 := 0) bc2 bs2 hg rfl md_X12_name zc_X12 y1.2.1.1.1 wi_X12_name wv_X12_name (tb_7 156 _ rfl) (by decide) (by decide) rfl (Nat.le_of_ble_eq_true rfl) (Nat.le_refl _) (Nat.le_refl _) 1721 rfl (dd_L_law_17 31 _ _ _ rfl) ?_
    refine hmod _ (fun h2 v z hv he => ?_)
    obtain ⟨y2, q2⟩ := y1.mod hF z
    dsimp only [zCont, Option.toList, List.cons_append, List.nil_append]
    refine r_istore_6 1723 rfl (by decide) rfl (dd_L_law_17 32 _ _ _ rfl) ?_
    refine r_aload_2 1724 rfl (dd_L_law_17 33 _ _ _ rfl) ?_
    refine r_callV0 (lvl := 10) (mc1 := 0) (ms1 := 0) bc2 bs2 hg rfl md_X12_thrown zc_X12 y2.2.1.1.1 wi_X12_thrown wv_X12_thrown (tb_6 189 _ rfl) (by decide) (by decide) rfl (Nat.le_of_ble_eq_true rfl) (Nat.le_refl _) (Nat.le_refl _) 1727 rfl (dd_L_law_17 34 _ _ _ rfl) ?_
    refine c_X12_thrown hg z ?_
    dsimp only [zCont, Option.toList, List.cons_append, List.nil_append]
    refine r_iload_5 1729 rfl (dd_L_law_17 35 _ _ _ rfl) ?_
    refine r_if_icmpeq hkk hkk 1732 rfl 1734 rfl (dd_L_law_17 36 _ _ _ rfl) (fun _ => ?_) (fun q => absurd rfl q)
    refine r_iload_5 1736 rfl (dd_L_law_17 39 _ _ _ rfl) ?_
    have fin : zX g mL_law mc ms Q 1751 [some (.ref a), some (.ref x), some (.ref m), some (.ref out), some (.int (zI i)), some (.int (zI kk)), some (.int (zI v)), none] [] h2 bc2 bs2 := by
      refine r_goto 2034 rfl (dd_L_law_17 50 _ _ _ rfl) ?_
      refine r_sub [some (.ref a), some (.ref x), some (.ref m), some (.ref out), some (.int (zI i)), none, none, none] (z_s1 (z_s1 (z_s1 (z_s1 (z_s1 (z_s0 (z_s0 (z_s0 z_sN)))))))) ?_
      exact k o1 S2 h2 y2 hS2
    refine r_ifne hkk 1739 rfl 1751 rfl (dd_L_law_17 40 _ _ _ rfl) (fun _ => fin) (fun hk => ?_)
    refine r_aload_3 1740 rfl (dd_L_law_17 41 _ _ _ rfl) ?_
    refine r_iconst 1741 rfl (dd_L_law_17 42 _ _ _ rfl) ?_
    refine r_laload hg y2.2.2.2.2.2.2.1 (by decide) (by decide) (by rw [y2.2.2.2.2.2.2.2.1]; decide) 1742 rfl (dd_L_law_17 43 _ _ _ rfl) ?_
    rw [show aj_ h2 out (0 : Int).toNat = v from q2.trans (he hk)]
    refine r_iload_6 1744 rfl (dd_L_law_17 44 _ _ _ rfl) ?_
    refine r_i2l hv 1745 rfl (dd_L_law_17 45 _ _ _ rfl) ?_
    refine r_lcmpe 1746 rfl (dd_L_law_17 46 _ _ _ rfl) ?_
    exact r_ifeq (by decide) 1749 rfl 1751 rfl (dd_L_law_17 47 _ _ _ rfl) (fun _ => fin) (fun q => absurd rfl q)
  refine r_callSH (lvl := 18) (mc1 := 4) (ms1 := 40) (As := [.ref x, .int (zI v0), .int (zI v1), .ref out]) bc2 bs2 hg rfl mh_name ws_L_name (tb_5 201 _ rfl) (by decide) (by decide) rfl (Nat.le_of_ble_eq_true rfl) (by omega) (by omega) rfl 1703 rfl (dd_L_law_17 18 _ _ _ rfl) ?_
  refine w_name hg hnx y.2.2.2.2.2.2.2.2 (fun Q1 hQ => ?_)
  obtain ⟨⟨Vs, Ps, Ss, Ts, Fs, Tn, A9, G, Rc, yc⟩, yM, -⟩ := id y
  refine c_X11_name hg hS.1 yc hw0 hw1 ?_ ?_ ?_
  · intro c0
    refine hQ _ _ (Or.inl ⟨rfl, ?_⟩)
    refine tail 1 S h o y.next (hS.next hn) (by decide) (fun Q2 hQ2 => ?_)
    have yM1 := y.next.2.1
    refine c_X12_name hg hS.1 (MI.refl yM1) hw0 hw1 ?_ ?_ ?_
    · intro d0 h2 z
      first | exact hQ2 _ _ z (by first | decide | omega | exact zwhose_R hS.1) (fun q => absurd q (by decide)) | (exfalso; first | omega | (simp_all; done) | grind)
    · intro f9 d1 d2 d3 h2 z
      first | exact hQ2 _ _ z (by first | decide | omega | exact zwhose_R hS.1) (fun q => absurd q (by decide)) | (exfalso; first | omega | (simp_all; done) | grind)
    · intro f9 d1 d2 d3 h2 z
      first | exact hQ2 _ _ z (by first | decide | omega | exact zwhose_R hS.1) (fun q => absurd q (by decide)) | (exfalso; first | omega | (simp_all; done) | grind)
  · intro f c1 c2 c3
    refine hQ _ _ (Or.inr (Or.inl ⟨rfl, ?_⟩))
    refine tail 2 S h o y.next (hS.next hn) (by decide) (fun Q2 hQ2 => ?_)
    have yM1 := y.next.2.1
    refine c_X12_name hg hS.1 (MI.refl yM1) hw0 hw1 ?_ ?_ ?_
    · intro d0 h2 z
      first | exact hQ2 _ _ z (by first | decide | omega | exact zwhose_R hS.1) (fun q => absurd q (by decide)) | (exfalso; first | omega | (simp_all; done) | grind)
    · intro f9 d1 d2 d3 h2 z
      obtain rfl : f = f9 := by omega
      first | exact hQ2 _ _ z (by first | decide | omega | exact zwhose_R hS.1) (fun q => absurd q (by decide)) | (exfalso; first | omega | (simp_all; done) | grind)
    · intro f9 d1 d2 d3 h2 z
      obtain rfl : f = f9 := by omega
      first | exact hQ2 _ _ z (by first | decide | omega | exact zwhose_R hS.1) (fun q => absurd q (by decide)) | (exfalso; first | omega | (simp_all; done) | grind)
  · intro f c1 c2 c3 o1 h1 cx st
    have y1 := y.cls hF cx st
    refine hQ _ _ ⟨(zwhose S f), rfl, (by first | decide | omega | exact zwhose_R hS.1), y1.2.2.2.2.2.2.1, y1.2.2.2.2.2.2.2.1, ?_⟩
    refine tail 0 _ _ o1 (y1.put hF _).1 (ok_name hS hn (by omega) (by omega)) (by decide) (fun Q2 hQ2 => ?_)
    have yM1 := (y1.put hF ((zwhose S f))).1.2.1
    refine c_X12_name hg hS.1 (MI.refl yM1) hw0 hw1 ?_ ?_ ?_
    · intro d0 h2 z
      first | exact hQ2 _ _ z (by first | decide | omega | exact zwhose_R hS.1) (fun _ => (y1.put hF _).2) | (exfalso; first | omega | (simp_all; done) | grind)
    · intro f9 d1 d2 d3 h2 z
      obtain rfl : f = f9 := by omega
      first | exact hQ2 _ _ z (by first | decide | omega | exact zwhose_R hS.1) (fun _ => (y1.put hF _).2) | (exfalso; first | omega | (simp_all; done) | grind)
    · intro f9 d1 d2 d3 h2 z
      obtain rfl : f = f9 := by omega
      first | exact hQ2 _ _ z (by first | decide | omega | exact zwhose_R hS.1) (fun _ => (y1.put hF _).2) | (exfalso; first | omega | (simp_all; done) | grind)
theorem it_fines {g : zGT} {Q : zO → zH → Prop} (hg : zG g) (hnx : zNX g) {x m : Nat} {A : Nat → Nat} {out : Nat} {F : Nat → Prop} {hB : zH} {a L : Nat} (hF : zLF m A out F hB) {sv : Nat → Int} (hA : zLA g a sv L) {o : Nat → Nat} {n : Nat} {S : zS} {h : zH} (y : zLS g x m A out F hB o n S S h) (hS : MOk n S) (hn : n < 512) {i : Int} (hi : 0 ≤ i) (hi5 : i + 5 ≤ L) {mc ms bc bs bc2 bs2 : Nat} (hb : bc2 + 20 ≤ bc) (hb2 : bs2 + 4300 ≤ bs) (k : ∀ o2 S2 h2, zLS g x m A out F hB o2 (n + 1) S2 S2 h2 → MOk (n + 1) S2 → zX g mL_law mc ms Q 2034 [some (.ref a), some (.ref x), some (.ref m), some (.ref out), some (.int (zI i)), none, none, none] [] h2 bc2 bs2) : zX g mL_law mc ms Q 1810 [some (.ref a), some (.ref x), some (.ref m), some (.ref out), some (.int (zI i)), none, none, none] [] h bc bs := by
  have hL := hA.2.2.1
  have hz := hA.2.2.2
  have e1 := hS.1.today
  have e2 := hS.1.signs
  have e4 := hS.1.vehicles
  have e12 := hS.1.people
  have e18 := hS.1.allotted
  have e20 := hS.1.rates
  have e31 := hS.1.sightings
  have e36 := hS.1.fines
  refine r_aload_1 1811 rfl (dd_L_law_18 26 _ _ _ rfl) ?_
  refine r_aload_0 1812 rfl (dd_L_law_18 27 _ _ _ rfl) ?_
  refine r_iload_4 1814 rfl (dd_L_law_18 28 _ _ _ rfl) ?_
  refine r_iconst 1815 rfl (dd_L_law_18 29 _ _ _ rfl) ?_
  refine r_iadd 1816 rfl (dd_L_law_18 30 _ _ _ rfl) ?_
  refine r_scr hA (by omega) (by omega) 1817 rfl (dd_L_law_18 31 _ _ _ rfl) ?_
  refine r_aload_3 1818 rfl (dd_L_law_18 32 _ _ _ rfl) ?_
  have hw0 : zR (sv (i + 1).toNat) := by exact hz _
  generalize hv0 : (sv (i + 1).toNat) = v0 at *
  have tail : ∀ (kk : Int) (S2 : zS) (h1 : zH) (o1 : Nat → Nat), zLS g x m A out F hB o1 (n + 1) S2 S h1 → MOk (n + 1) S2 → zR kk → (∀ Q2 : zO → zH → Prop, (∀ h2 v, MI h1 m A S2 kk h2 → zR v → (kk = 0 → aj_ h1 out 0 = v) → Q2 (.inl (some (.int (zI v)))) h2) → zC g (.code yX12_fines cX12_fines 4 (Option.some Jvm.ClassFile.FieldType.int)) yX12_fines 14 0 0 [.ref m, .int (zI v0)] h1 Q2) → zX g mL_law mc ms Q 1821 [some (.ref a), some (.ref x), some (.ref m), some (.ref out), some (.int (zI i)), none, none, none] [.int (zI kk)] h1 bc2 bs2 := by
    intro kk S2 h1 o1 y1 hS2 hkk hmod
    refine r_istore_5 1823 rfl (by decide) rfl (dd_L_law_18 34 _ _ _ rfl) ?_
    refine r_aload_2 1824 rfl (dd_L_law_18 35 _ _ _ rfl) ?_
    refine r_aload_0 1825 rfl (dd_L_law_18 36 _ _ _ rfl) ?_
    refine r_iload_4 1827 rfl (dd_L_law_18 37 _ _ _ rfl) ?_
    refine r_iconst 1828 rfl (dd_L_law_18 38 _ _ _ rfl) ?_
    refine r_iadd 1829 rfl (dd_L_law_18 39 _ _ _ rfl) ?_
    refine r_scr hA (by omega) (by omega) 1830 rfl (dd_L_law_18 40 _ _ _ rfl) ?_
    rw [hv0]
    refine r_callV1 (lvl := 14) (mc1 := 0) (ms1 := 0) bc2 bs2 hg rfl md_X12_fines zc_X12 y1.2.1.1.1 wi_X12_fines wv_X12_fines (tb_7 172 _ rfl) (by decide) (by decide) rfl (Nat.le_of_ble_eq_true rfl) (Nat.le_refl _) (Nat.le_refl _) 1833 rfl (dd_L_law_18 41 _ _ _ rfl) ?_
    refine hmod _ (fun h2 v z hv he => ?_)
    obtain ⟨y2, q2⟩ := y1.mod hF z
    dsimp only [zCont, Option.toList, List.cons_append, List.nil_append]
    refine r_istore_6 1835 rfl (by decide) rfl (dd_L_law_18 42 _ _ _ rfl) ?_
    refine r_aload_2 1836 rfl (dd_L_law_18 43 _ _ _ rfl) ?_
    refine r_callV0 (lvl := 10) (mc1 := 0) (ms1 := 0) bc2 bs2 hg rfl md_X12_thrown zc_X12 y2.2.1.1.1 wi_X12_thrown wv_X12_thrown (tb_6 189 _ rfl) (by decide) (by decide) rfl (Nat.le_of_ble_eq_true rfl) (Nat.le_refl _) (Nat.le_refl _) 1839 rfl (dd_L_law_18 44 _ _ _ rfl) ?_
    refine c_X12_thrown hg z ?_
    dsimp only [zCont, Option.toList, List.cons_append, List.nil_append]
    refine r_iload_5 1841 rfl (dd_L_law_18 45 _ _ _ rfl) ?_
    refine r_if_icmpeq hkk hkk 1844 rfl 1846 rfl (dd_L_law_18 46 _ _ _ rfl) (fun _ => ?_) (fun q => absurd rfl q)
    refine r_iload_5 1848 rfl (dd_L_law_18 49 _ _ _ rfl) ?_
    have fin : zX g mL_law mc ms Q 1863 [some (.ref a), some (.ref x), some (.ref m), some (.ref out), some (.int (zI i)), some (.int (zI kk)), some (.int (zI v)), none] [] h2 bc2 bs2 := by
      refine r_goto 2034 rfl (dd_L_law_19 0 _ _ _ rfl) ?_
      refine r_sub [some (.ref a), some (.ref x), some (.ref m), some (.ref out), some (.int (zI i)), none, none, none] (z_s1 (z_s1 (z_s1 (z_s1 (z_s1 (z_s0 (z_s0 (z_s0 z_sN)))))))) ?_
      exact k o1 S2 h2 y2 hS2
    refine r_ifne hkk 1851 rfl 1863 rfl (dd_L_law_18 50 _ _ _ rfl) (fun _ => fin) (fun hk => ?_)
    refine r_aload_3 1852 rfl (dd_L_law_18 51 _ _ _ rfl) ?_
    refine r_iconst 1853 rfl (dd_L_law_18 52 _ _ _ rfl) ?_
    refine r_laload hg y2.2.2.2.2.2.2.1 (by decide) (by decide) (by rw [y2.2.2.2.2.2.2.2.1]; decide) 1854 rfl (dd_L_law_18 53 _ _ _ rfl) ?_
    rw [show aj_ h2 out (0 : Int).toNat = v from q2.trans (he hk)]
    refine r_iload_6 1856 rfl (dd_L_law_18 54 _ _ _ rfl) ?_
    refine r_i2l hv 1857 rfl (dd_L_law_18 55 _ _ _ rfl) ?_
    refine r_lcmpe 1858 rfl (dd_L_law_18 56 _ _ _ rfl) ?_
    exact r_ifeq (by decide) 1861 rfl 1863 rfl (dd_L_law_18 57 _ _ _ rfl) (fun _ => fin) (fun q => absurd rfl q)
  refine r_callSH (lvl := 18) (mc1 := 4) (ms1 := 40) (As := [.ref x, .int (zI v0), .ref out]) bc2 bs2 hg rfl mh_fines ws_L_fines (tb_5 227 _ rfl) (by decide) (by decide) rfl (Nat.le_of_ble_eq_true rfl) (by omega) (by omega) rfl 1821 rfl (dd_L_law_18 33 _ _ _ rfl) ?_
  refine w_fines hg hnx y.2.2.2.2.2.2.2.2 (fun Q1 hQ => ?_)
  obtain ⟨⟨Vs, Ps, Ss, Ts, Fs, Tn, A9, G, Rc, yc⟩, yM, -⟩ := id y
  refine c_X11_fines hg hS.1 yc hw0 ?_ ?_
  · intro c0
    refine hQ _ _ (Or.inl ⟨rfl, ?_⟩)
    refine tail 1 S h o y.next (hS.next hn) (by decide) (fun Q2 hQ2 => ?_)
    have yM1 := y.next.2.1
    refine c_X12_fines hg hS.1 (MI.refl yM1) hw0 ?_ ?_
    · intro d0 h2 z
      first | exact hQ2 _ _ z (by first | decide | omega | exact (by have := zsum_range (p := v0) hS.1 (S.1 36).toNat; omega)) (fun q => absurd q (by decide)) | (exfalso; first | omega | (simp_all; done) | grind)
    · intro d0 h2 z
      first | exact hQ2 _ _ z (by first | decide | omega | exact (by have := zsum_range (p := v0) hS.1 (S.1 36).toNat; omega)) (fun q => absurd q (by decide)) | (exfalso; first | omega | (simp_all; done) | grind)
  · intro c0
    have y1 := y.next
    refine hQ _ _ ⟨(zsum S v0 (S.1 36).toNat), rfl, (by first | decide | omega | exact (by have := zsum_range (p := v0) hS.1 (S.1 36).toNat; omega)), y1.2.2.2.2.2.2.1, y1.2.2.2.2.2.2.2.1, ?_⟩
    refine tail 0 _ _ o (y1.put hF _).1 (hS.next hn) (by decide) (fun Q2 hQ2 => ?_)
    have yM1 := (y1.put hF ((zsum S v0 (S.1 36).toNat))).1.2.1
    refine c_X12_fines hg hS.1 (MI.refl yM1) hw0 ?_ ?_
    · intro d0 h2 z
      first | exact hQ2 _ _ z (by first | decide | omega | exact (by have := zsum_range (p := v0) hS.1 (S.1 36).toNat; omega)) (fun _ => (y1.put hF _).2) | (exfalso; first | omega | (simp_all; done) | grind)
    · intro d0 h2 z
      first | exact hQ2 _ _ z (by first | decide | omega | exact (by have := zsum_range (p := v0) hS.1 (S.1 36).toNat; omega)) (fun _ => (y1.put hF _).2) | (exfalso; first | omega | (simp_all; done) | grind)
theorem it_look {g : zGT} {Q : zO → zH → Prop} (hg : zG g) (hnx : zNX g) {x m : Nat} {A : Nat → Nat} {out : Nat} {F : Nat → Prop} {hB : zH} {a L : Nat} (hF : zLF m A out F hB) {sv : Nat → Int} (hA : zLA g a sv L) (hcs : zCS g) {p0 p1 p2 : Nat} (g0 : zSR g 360 "police" p0) (w0 : zWd g p0 [112, 111, 108, 105, 99, 101]) (g1 : zSR g 372 "insurer" p1) (w1 : zWd g p1 [105, 110, 115, 117, 114, 101, 114]) (g2 : zSR g 374 "clamper" p2) (w2 : zWd g p2 [99, 108, 97, 109, 112, 101, 114]) {o : Nat → Nat} {n : Nat} {S : zS} {h : zH} (y : zLS g x m A out F hB o n S S h) (hS : MOk n S) (hn : n < 512) {i : Int} (hi : 0 ≤ i) (hi5 : i + 5 ≤ L) {mc ms bc bs bc2 bs2 : Nat} (hb : bc2 + 20 ≤ bc) (hb2 : bs2 + 4300 ≤ bs) (k : ∀ o2 S2 h2, zLS g x m A out F hB o2 (n + 1) S2 S2 h2 → MOk (n + 1) S2 → zX g mL_law mc ms Q 2034 [some (.ref a), some (.ref x), some (.ref m), some (.ref out), some (.int (zI i)), none, none, none] [] h2 bc2 bs2) : zX g mL_law mc ms Q 1866 [some (.ref a), some (.ref x), some (.ref m), some (.ref out), some (.int (zI i)), none, none, none] [] h bc bs := by
  have hL := hA.2.2.1
  have hz := hA.2.2.2
  have e1 := hS.1.today
  have e2 := hS.1.signs
  have e4 := hS.1.vehicles
  have e12 := hS.1.people
  have e18 := hS.1.allotted
  have e20 := hS.1.rates
  have e31 := hS.1.sightings
  have e36 := hS.1.fines
  refine r_aload_1 1867 rfl (dd_L_law_19 1 _ _ _ rfl) ?_
  refine r_aload_0 1868 rfl (dd_L_law_19 2 _ _ _ rfl) ?_
  refine r_iload_4 1870 rfl (dd_L_law_19 3 _ _ _ rfl) ?_
  refine r_iconst 1871 rfl (dd_L_law_19 4 _ _ _ rfl) ?_
  refine r_iadd 1872 rfl (dd_L_law_19 5 _ _ _ rfl) ?_
  refine r_scr hA (by omega) (by omega) 1873 rfl (dd_L_law_19 6 _ _ _ rfl) ?_
  refine r_aload_3 1874 rfl (dd_L_law_19 7 _ _ _ rfl) ?_
  have hw0 : zR (sv (i + 1).toNat) := by exact hz _
  generalize hv0 : (sv (i + 1).toNat) = v0 at *
  have tail : ∀ (kk : Int) (S2 : zS) (h1 : zH) (o1 : Nat → Nat), zLS g x m A out F hB o1 (n + 1) S2 S h1 → MOk (n + 1) S2 → zR kk → (∀ Q2 : zO → zH → Prop, (∀ h2 v, MI h1 m A S2 kk h2 → zR v → (kk = 0 → aj_ h1 out 0 = v) → Q2 (.inl (some (.int (zI v)))) h2) → zC g (.code yX12_look cX12_look 8 (Option.some Jvm.ClassFile.FieldType.int)) yX12_look 13 0 0 [.ref m, .int (zI v0)] h1 Q2) → zX g mL_law mc ms Q 1877 [some (.ref a), some (.ref x), some (.ref m), some (.ref out), some (.int (zI i)), none, none, none] [.int (zI kk)] h1 bc2 bs2 := by
    intro kk S2 h1 o1 y1 hS2 hkk hmod
    refine r_istore_5 1879 rfl (by decide) rfl (dd_L_law_19 9 _ _ _ rfl) ?_
    refine r_aload_2 1880 rfl (dd_L_law_19 10 _ _ _ rfl) ?_
    refine r_aload_0 1881 rfl (dd_L_law_19 11 _ _ _ rfl) ?_
    refine r_iload_4 1883 rfl (dd_L_law_19 12 _ _ _ rfl) ?_
    refine r_iconst 1884 rfl (dd_L_law_19 13 _ _ _ rfl) ?_
    refine r_iadd 1885 rfl (dd_L_law_19 14 _ _ _ rfl) ?_
    refine r_scr hA (by omega) (by omega) 1886 rfl (dd_L_law_19 15 _ _ _ rfl) ?_
    rw [hv0]
    refine r_callV1 (lvl := 13) (mc1 := 0) (ms1 := 0) bc2 bs2 hg rfl md_X12_look zc_X12 y1.2.1.1.1 wi_X12_look wv_X12_look (tb_7 176 _ rfl) (by decide) (by decide) rfl (Nat.le_of_ble_eq_true rfl) (Nat.le_refl _) (Nat.le_refl _) 1889 rfl (dd_L_law_19 16 _ _ _ rfl) ?_
    refine hmod _ (fun h2 v z hv he => ?_)
    obtain ⟨y2, q2⟩ := y1.mod hF z
    dsimp only [zCont, Option.toList, List.cons_append, List.nil_append]
    refine r_istore_6 1891 rfl (by decide) rfl (dd_L_law_19 17 _ _ _ rfl) ?_
    refine r_aload_2 1892 rfl (dd_L_law_19 18 _ _ _ rfl) ?_
    refine r_callV0 (lvl := 10) (mc1 := 0) (ms1 := 0) bc2 bs2 hg rfl md_X12_thrown zc_X12 y2.2.1.1.1 wi_X12_thrown wv_X12_thrown (tb_6 189 _ rfl) (by decide) (by decide) rfl (Nat.le_of_ble_eq_true rfl) (Nat.le_refl _) (Nat.le_refl _) 1895 rfl (dd_L_law_19 19 _ _ _ rfl) ?_
    refine c_X12_thrown hg z ?_
    dsimp only [zCont, Option.toList, List.cons_append, List.nil_append]
    refine r_iload_5 1897 rfl (dd_L_law_19 20 _ _ _ rfl) ?_
    refine r_if_icmpeq hkk hkk 1900 rfl 1902 rfl (dd_L_law_19 21 _ _ _ rfl) (fun _ => ?_) (fun q => absurd rfl q)
    refine r_iload_5 1904 rfl (dd_L_law_19 24 _ _ _ rfl) ?_
    have fin : zX g mL_law mc ms Q 1919 [some (.ref a), some (.ref x), some (.ref m), some (.ref out), some (.int (zI i)), some (.int (zI kk)), some (.int (zI v)), none] [] h2 bc2 bs2 := by
      refine r_goto 2034 rfl (dd_L_law_19 35 _ _ _ rfl) ?_
      refine r_sub [some (.ref a), some (.ref x), some (.ref m), some (.ref out), some (.int (zI i)), none, none, none] (z_s1 (z_s1 (z_s1 (z_s1 (z_s1 (z_s0 (z_s0 (z_s0 z_sN)))))))) ?_
      exact k o1 S2 h2 y2 hS2
    refine r_ifne hkk 1907 rfl 1919 rfl (dd_L_law_19 25 _ _ _ rfl) (fun _ => fin) (fun hk => ?_)
    refine r_aload_3 1908 rfl (dd_L_law_19 26 _ _ _ rfl) ?_
    refine r_iconst 1909 rfl (dd_L_law_19 27 _ _ _ rfl) ?_
    refine r_laload hg y2.2.2.2.2.2.2.1 (by decide) (by decide) (by rw [y2.2.2.2.2.2.2.2.1]; decide) 1910 rfl (dd_L_law_19 28 _ _ _ rfl) ?_
    rw [show aj_ h2 out (0 : Int).toNat = v from q2.trans (he hk)]
    refine r_iload_6 1912 rfl (dd_L_law_19 29 _ _ _ rfl) ?_
    refine r_i2l hv 1913 rfl (dd_L_law_19 30 _ _ _ rfl) ?_
    refine r_lcmpe 1914 rfl (dd_L_law_19 31 _ _ _ rfl) ?_
    exact r_ifeq (by decide) 1917 rfl 1919 rfl (dd_L_law_19 32 _ _ _ rfl) (fun _ => fin) (fun q => absurd rfl q)
  refine r_callSH (lvl := 18) (mc1 := 4) (ms1 := 40) (As := [.ref x, .int (zI v0), .ref out]) bc2 bs2 hg rfl mh_look ws_L_look (tb_5 234 _ rfl) (by decide) (by decide) rfl (Nat.le_of_ble_eq_true rfl) (by omega) (by omega) rfl 1877 rfl (dd_L_law_19 8 _ _ _ rfl) ?_
  refine w_look hg hnx y.2.2.2.2.2.2.2.2 (fun Q1 hQ => ?_)
  obtain ⟨⟨Vs, Ps, Ss, Ts, Fs, Tn, A9, G, Rc, yc⟩, yM, -⟩ := id y
  refine c_X11_look hg hS.1 yc hcs g0 w0 g1 w1 g2 w2 hw0 ?_ ?_ ?_
  · intro c0
    refine hQ _ _ (Or.inl ⟨rfl, ?_⟩)
    refine tail 1 S h o y.next (hS.next hn) (by decide) (fun Q2 hQ2 => ?_)
    have yM1 := y.next.2.1
    refine c_X12_look hg hS.1 (MI.refl yM1) hw0 ?_ ?_ ?_
    · intro d0 h2 z
      first | exact hQ2 _ _ z (by first | decide | omega | exact zlast0_R hS.1) (fun q => absurd q (by decide)) | (exfalso; first | omega | (simp_all; done) | grind)
    · intro u9 d1 d2 d3 h2 z
      first | exact hQ2 _ _ z (by first | decide | omega | exact zlast0_R hS.1) (fun q => absurd q (by decide)) | (exfalso; first | omega | (simp_all; done) | grind)
    · intro u9 d1 d2 d3 h2 z
      first | exact hQ2 _ _ z (by first | decide | omega | exact zlast0_R hS.1) (fun q => absurd q (by decide)) | (exfalso; first | omega | (simp_all; done) | grind)
  · intro u c1 c2 c3 o1 h1 cx st
    have y1 := y.cls hF cx st
    refine hQ _ _ ⟨(-1), rfl, (by first | decide | omega | exact zlast0_R hS.1), y1.2.2.2.2.2.2.1, y1.2.2.2.2.2.2.2.1, ?_⟩
    refine tail 0 _ _ o1 (y1.put hF _).1 (by first | exact ok_look hS hn | exact ok_clear hS hn) (by decide) (fun Q2 hQ2 => ?_)
    have yM1 := (y1.put hF ((-1))).1.2.1
    refine c_X12_look hg hS.1 (MI.refl yM1) hw0 ?_ ?_ ?_
    · intro d0 h2 z
      first | exact hQ2 _ _ z (by first | decide | omega | exact zlast0_R hS.1) (fun _ => (y1.put hF _).2) | (exfalso; first | omega | (simp_all; done) | grind)
    · intro u9 d1 d2 d3 h2 z
      obtain rfl : u = u9 := by omega
      first | exact hQ2 _ _ z (by first | decide | omega | exact zlast0_R hS.1) (fun _ => (y1.put hF _).2) | (exfalso; first | omega | (simp_all; done) | grind)
    · intro u9 d1 d2 d3 h2 z
      obtain rfl : u = u9 := by omega
      first | exact hQ2 _ _ z (by first | decide | omega | exact zlast0_R hS.1) (fun _ => (y1.put hF _).2) | (exfalso; first | omega | (simp_all; done) | grind)
  · intro u c1 c2 c3 o1 h1 cx st
    have y1 := y.cls hF cx st
    refine hQ _ _ ⟨(zlast S u (S.1 1) 0 (-1)), rfl, (by first | decide | omega | exact zlast0_R hS.1), y1.2.2.2.2.2.2.1, y1.2.2.2.2.2.2.2.1, ?_⟩
    refine tail 0 _ _ o1 (y1.put hF _).1 (by first | exact ok_look hS hn | exact ok_clear hS hn) (by decide) (fun Q2 hQ2 => ?_)
    have yM1 := (y1.put hF ((zlast S u (S.1 1) 0 (-1)))).1.2.1
    refine c_X12_look hg hS.1 (MI.refl yM1) hw0 ?_ ?_ ?_
    · intro d0 h2 z
      first | exact hQ2 _ _ z (by first | decide | omega | exact zlast0_R hS.1) (fun _ => (y1.put hF _).2) | (exfalso; first | omega | (simp_all; done) | grind)
    · intro u9 d1 d2 d3 h2 z
      obtain rfl : u = u9 := by omega
      first | exact hQ2 _ _ z (by first | decide | omega | exact zlast0_R hS.1) (fun _ => (y1.put hF _).2) | (exfalso; first | omega | (simp_all; done) | grind)
    · intro u9 d1 d2 d3 h2 z
      obtain rfl : u = u9 := by omega
      first | exact hQ2 _ _ z (by first | decide | omega | exact zlast0_R hS.1) (fun _ => (y1.put hF _).2) | (exfalso; first | omega | (simp_all; done) | grind)
