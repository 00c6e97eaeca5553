abbrev mL_act : zM := (RL, cL_act, 11, (Option.some Jvm.ClassFile.FieldType.long), [], "act", 20)
def zArgs (td od ve pe mu fe wh is so : Int) : Prop := (od = 0 ∨ od = 1) ∧ zR ve ∧ zR pe ∧ zR mu ∧ zR fe ∧ zR wh ∧ (is = 0 ∨ is = 1) ∧ zR so ∧ (0 ≤ td ∧ td ≤ 20000) ∧ (od = 0 → 0 ≤ mu ∧ mu < 90)
def aX (g : zGT) (S : zS) (n pc : Nat) (v td od ve pe mu fe wh is so t : Int) (S2 : zS) : Prop := ∀ (x : Nat) (o : Nat → Nat) (h : zH) (mc ms : Nat) (Q : zO → zH → Prop) (bc bs : Nat), CEx g o h x S n → 70 ≤ bc → 5000 ≤ bs → (∀ o1 h1, CEx g o1 h1 x S2 (n + 1) → zStep zOwn o h o1 h1 → Q (.inl (some (.long (zL t)))) h1) → zX g mL_act mc ms Q pc [some (.ref x), some (.int (zI v)), some (.int (zI td)), some (.int (zI od)), some (.int (zI ve)), some (.int (zI pe)), some (.int (zI mu)), some (.int (zI fe)), some (.int (zI wh)), some (.int (zI is)), some (.int (zI so))] [] h bc bs
def zRq (S : zS) (t : Int) (S2 : zS) : Prop := S2 = S ∧ zQ t
def zRt (n : Nat) (S : zS) (t : Int) (S2 : zS) : Prop := zOK (n + 1) S2 ∧ S2.1 1 = S.1 1 ∧ zQ t
theorem zRt.of {n : Nat} {S S1 S2 : zS} {t : Int} (x : tyR n S S1) (y : zRes n S1 t S2) : zRt n S t S2 := ⟨y.1, y.2.1.trans (x.2 1 (by decide)), by have e := y.2.2.2; omega⟩
set_option maxRecDepth 20000
theorem a_vehicle {g : zGT} (hg : zG g) (hnx : zNX g) {mi : Nat} (hm : zMi g mi) {n : Nat} {S : zS} (hS : zOK n S) (hn : n < 512) {v td od ve pe mu fe wh is so : Int} (hv : zR v) (hA : zArgs td od ve pe mu fe wh is so) : ∃ (t : Int) (S2 : zS), zRes n S t S2 ∧ aX g S n 348 v td od ve pe mu fe wh is so t S2 := by
  obtain ⟨hod, hve, hpe, hmu, hfe, hwh, his, hso, htd, hnd⟩ := hA
  rcases hod with rfl | rfl
  · have hn0 := hnd rfl
    have z1 := zlow_range (a := zshr v 6) (n := 4) (by decide)
    obtain ⟨t, S2, R, hd⟩ := d_vehicle hg hnx hm hS hn (a := 40 * mu) (b := 0) (c := zlow (zshr v 6) 4) (by omega) (by omega) (by omega)
    refine ⟨t, S2, R, fun x o h mc ms Q bc bs c hb hb2 k => ?_⟩
    refine r_aload_0 349 rfl (dd_L_act_1 47 _ _ _ rfl) ?_
    refine r_iload_3 350 rfl (dd_L_act_1 48 _ _ _ rfl) ?_
    refine r_ifeq (by omega) 353 rfl 358 rfl (dd_L_act_1 49 _ _ _ rfl) (fun _ => ?_) (fun q => absurd q (by decide))
    refine r_bipush (by decide) 360 rfl (dd_L_act_1 52 _ _ _ rfl) ?_
    refine r_iload_6 362 rfl (dd_L_act_1 53 _ _ _ rfl) ?_
    refine r_imul 363 rfl (dd_L_act_1 54 _ _ _ rfl) ?_
    refine r_iload_3 364 rfl (dd_L_act_1 55 _ _ _ rfl) ?_
    refine r_ifeq (by omega) 367 rfl 372 rfl (dd_L_act_1 56 _ _ _ rfl) (fun _ => ?_) (fun q => absurd q (by decide))
    refine r_iconst 373 rfl (dd_L_act_1 59 _ _ _ rfl) ?_
    refine r_iload_3 374 rfl (dd_L_act_2 0 _ _ _ rfl) ?_
    refine r_ifeq (by omega) 377 rfl 382 rfl (dd_L_act_2 1 _ _ _ rfl) (fun _ => ?_) (fun q => absurd q (by decide))
    refine r_iload_1 383 rfl (dd_L_act_2 4 _ _ _ rfl) ?_
    refine r_bipush (by decide) 385 rfl (dd_L_act_2 5 _ _ _ rfl) ?_
    refine r_ishr 386 rfl (dd_L_act_2 6 _ _ _ rfl) ?_
    refine r_iconst 387 rfl (dd_L_act_2 7 _ _ _ rfl) ?_
    refine r_callS2 (lvl := 10) (mc1 := 0) (ms1 := 0) bc bs hg rfl md_L_low ws_L_low (tb_1 155 _ rfl) (by decide) (by decide) rfl (Nat.le_of_ble_eq_true rfl) (by omega) (by omega) 390 rfl (dd_L_act_2 8 _ _ _ rfl) ?_
    refine c_L_low hg (by omega) (fun la1 lb1 => ?_)
    dsimp only [zCont, Option.toList, List.cons_append, List.nil_append]
    refine r_callSH (lvl := 18) (mc1 := 20) (ms1 := 300) (As := [.ref x, .int (zI (40 * mu)), .int (zI (0)), .int (zI (zlow (zshr v 6) 4))]) (rest := []) (bc - 20) (bs - 300) hg rfl mh_vehicle ws_L_vehicle (tb_1 162 _ rfl) (by decide) (by decide) rfl (Nat.le_of_ble_eq_true rfl) (by omega) (by omega) rfl 393 rfl (dd_L_act_2 9 _ _ _ rfl) ?_
    refine hd x o h _ c (fun o1 h1 c1 st1 => ?_)
    dsimp only [zCont, Option.toList, List.cons_append, List.nil_append]
    refine r_lreturn rfl (dd_L_act_2 10 _ _ _ rfl) ?_
    exact k o1 h1 c1 st1
  · obtain ⟨t, S2, R, hd⟩ := d_vehicle hg hnx hm hS hn (a := mu) (b := wh) (c := fe) (by omega) (by omega) (by omega)
    refine ⟨t, S2, R, fun x o h mc ms Q bc bs c hb hb2 k => ?_⟩
    refine r_aload_0 349 rfl (dd_L_act_1 47 _ _ _ rfl) ?_
    refine r_iload_3 350 rfl (dd_L_act_1 48 _ _ _ rfl) ?_
    refine r_ifeq (by omega) 353 rfl 358 rfl (dd_L_act_1 49 _ _ _ rfl) (fun q => absurd q (by decide)) (fun _ => ?_)
    refine r_iload_6 355 rfl (dd_L_act_1 50 _ _ _ rfl) ?_
    refine r_goto 363 rfl (dd_L_act_1 51 _ _ _ rfl) ?_
    refine r_iload_3 364 rfl (dd_L_act_1 55 _ _ _ rfl) ?_
    refine r_ifeq (by omega) 367 rfl 372 rfl (dd_L_act_1 56 _ _ _ rfl) (fun q => absurd q (by decide)) (fun _ => ?_)
    refine r_iload_8 369 rfl (dd_L_act_1 57 _ _ _ rfl) ?_
    refine r_goto 373 rfl (dd_L_act_1 58 _ _ _ rfl) ?_
    refine r_iload_3 374 rfl (dd_L_act_2 0 _ _ _ rfl) ?_
    refine r_ifeq (by omega) 377 rfl 382 rfl (dd_L_act_2 1 _ _ _ rfl) (fun q => absurd q (by decide)) (fun _ => ?_)
    refine r_iload_7 379 rfl (dd_L_act_2 2 _ _ _ rfl) ?_
    refine r_goto 390 rfl (dd_L_act_2 3 _ _ _ rfl) ?_
    refine r_callSH (lvl := 18) (mc1 := 20) (ms1 := 300) (As := [.ref x, .int (zI (mu)), .int (zI (wh)), .int (zI (fe))]) (rest := []) (bc - 20) (bs - 300) hg rfl mh_vehicle ws_L_vehicle (tb_1 162 _ rfl) (by decide) (by decide) rfl (Nat.le_of_ble_eq_true rfl) (by omega) (by omega) rfl 393 rfl (dd_L_act_2 9 _ _ _ rfl) ?_
    refine hd x o h _ c (fun o1 h1 c1 st1 => ?_)
    dsimp only [zCont, Option.toList, List.cons_append, List.nil_append]
    refine r_lreturn rfl (dd_L_act_2 10 _ _ _ rfl) ?_
    exact k o1 h1 c1 st1
theorem a_person {g : zGT} (hg : zG g) (hnx : zNX g) {mi : Nat} (hm : zMi g mi) {n : Nat} {S : zS} (hS : zOK n S) (hn : n < 512) {v td od ve pe mu fe wh is so : Int} (hv : zR v) (hA : zArgs td od ve pe mu fe wh is so) : ∃ (t : Int) (S2 : zS), zRes n S t S2 ∧ aX g S n 394 v td od ve pe mu fe wh is so t S2 := by
  obtain ⟨hod, hve, hpe, hmu, hfe, hwh, his, hso, htd, hnd⟩ := hA
  obtain ⟨t, S2, R, hd⟩ := d_person hg hnx hm hS hn 
  refine ⟨t, S2, R, fun x o h mc ms Q bc bs c hb hb2 k => ?_⟩
  refine r_aload_0 395 rfl (dd_L_act_2 11 _ _ _ rfl) ?_
  refine r_callSH (lvl := 18) (mc1 := 6) (ms1 := 150) (As := [.ref x]) (rest := []) (bc - 6) (bs - 150) hg rfl mh_person ws_L_person (tb_2 213 _ rfl) (by decide) (by decide) rfl (Nat.le_of_ble_eq_true rfl) (by omega) (by omega) rfl 398 rfl (dd_L_act_2 12 _ _ _ rfl) ?_
  refine hd x o h _ c (fun o1 h1 c1 st1 => ?_)
  dsimp only [zCont, Option.toList, List.cons_append, List.nil_append]
  refine r_lreturn rfl (dd_L_act_2 13 _ _ _ rfl) ?_
  exact k o1 h1 c1 st1
theorem a_protect {g : zGT} (hg : zG g) (hnx : zNX g) {n : Nat} {S : zS} (hS : zOK n S) (hn : n < 512) {v td od ve pe mu fe wh is so : Int} (hv : zR v) (hA : zArgs td od ve pe mu fe wh is so) : ∃ (t : Int) (S2 : zS), zRes n S t S2 ∧ aX g S n 399 v td od ve pe mu fe wh is so t S2 := by
  obtain ⟨hod, hve, hpe, hmu, hfe, hwh, his, hso, htd, hnd⟩ := hA
  obtain ⟨t, S2, R, hd⟩ := d_protect hg hnx hS hn (v := pe) (is := is) (by omega) his
  refine ⟨t, S2, R, fun x o h mc ms Q bc bs c hb hb2 k => ?_⟩
  refine r_aload_0 400 rfl (dd_L_act_2 14 _ _ _ rfl) ?_
  refine r_iload_5 402 rfl (dd_L_act_2 15 _ _ _ rfl) ?_
  refine r_iload_9 404 rfl (dd_L_act_2 16 _ _ _ rfl) ?_
  refine r_callSH (lvl := 15) (mc1 := 4) (ms1 := 40) (As := [.ref x, .int (zI (pe)), .int (zI (is))]) (rest := []) (bc - 4) (bs - 40) hg rfl mh_protect ws_L_protect (tb_2 235 _ rfl) (by decide) (by decide) rfl (Nat.le_of_ble_eq_true rfl) (by omega) (by omega) rfl 407 rfl (dd_L_act_2 17 _ _ _ rfl) ?_
  refine hd x o h _ c (fun o1 h1 c1 st1 => ?_)
  dsimp only [zCont, Option.toList, List.cons_append, List.nil_append]
  refine r_lreturn rfl (dd_L_act_2 18 _ _ _ rfl) ?_
  exact k o1 h1 c1 st1
theorem a_tell {g : zGT} (hg : zG g) (hnx : zNX g) {mi : Nat} (hm : zMi g mi) {n : Nat} {S : zS} (hS : zOK n S) (hn : n < 512) {v td od ve pe mu fe wh is so : Int} (hv : zR v) (hA : zArgs td od ve pe mu fe wh is so) : ∃ (t : Int) (S2 : zS), zRes n S t S2 ∧ aX g S n 408 v td od ve pe mu fe wh is so t S2 := by
  obtain ⟨hod, hve, hpe, hmu, hfe, hwh, his, hso, htd, hnd⟩ := hA
  by_cases q1 : fe < 2
  · obtain ⟨t, S2, R, hd⟩ := d_tell hg hnx hm hS hn (v := ve) (its := fe) (what := pe) (w := wh) (by omega) (by omega) (by omega) (by omega)
    refine ⟨t, S2, R, fun x o h mc ms Q bc bs c hb hb2 k => ?_⟩
    refine r_aload_0 409 rfl (dd_L_act_2 19 _ _ _ rfl) ?_
    refine r_iload_4 411 rfl (dd_L_act_2 20 _ _ _ rfl) ?_
    refine r_iload_7 413 rfl (dd_L_act_2 21 _ _ _ rfl) ?_
    refine r_iload_7 415 rfl (dd_L_act_2 22 _ _ _ rfl) ?_
    refine r_iconst 416 rfl (dd_L_act_2 23 _ _ _ rfl) ?_
    refine r_if_icmpge (by omega) (by omega) 419 rfl 424 rfl (dd_L_act_2 24 _ _ _ rfl) (fun q => by exfalso; omega) (fun _ => ?_)
    refine r_iload_5 421 rfl (dd_L_act_2 25 _ _ _ rfl) ?_
    refine r_goto 452 rfl (dd_L_act_2 26 _ _ _ rfl) ?_
    refine r_iload_8 454 rfl (dd_L_act_2 41 _ _ _ rfl) ?_
    refine r_callSH (lvl := 19) (mc1 := 12) (ms1 := 200) (As := [.ref x, .int (zI (ve)), .int (zI (fe)), .int (zI (pe)), .int (zI (wh))]) (rest := []) (bc - 12) (bs - 200) hg rfl mh_tell ws_L_tell (tb_3 22 _ rfl) (by decide) (by decide) rfl (Nat.le_of_ble_eq_true rfl) (by omega) (by omega) rfl 457 rfl (dd_L_act_2 42 _ _ _ rfl) ?_
    refine hd x o h _ c (fun o1 h1 c1 st1 => ?_)
    dsimp only [zCont, Option.toList, List.cons_append, List.nil_append]
    refine r_lreturn rfl (dd_L_act_2 43 _ _ _ rfl) ?_
    exact k o1 h1 c1 st1
  by_cases q2 : fe = 7
  · have z1 := zlow_range (a := zshr v 14) (n := 4) (by decide)
    obtain ⟨t, S2, R, hd⟩ := d_tell hg hnx hm hS hn (v := ve) (its := fe) (what := zlow (zshr v 14) 4) (w := wh) (by omega) (by omega) (by omega) (by omega)
    refine ⟨t, S2, R, fun x o h mc ms Q bc bs c hb hb2 k => ?_⟩
    refine r_aload_0 409 rfl (dd_L_act_2 19 _ _ _ rfl) ?_
    refine r_iload_4 411 rfl (dd_L_act_2 20 _ _ _ rfl) ?_
    refine r_iload_7 413 rfl (dd_L_act_2 21 _ _ _ rfl) ?_
    refine r_iload_7 415 rfl (dd_L_act_2 22 _ _ _ rfl) ?_
    refine r_iconst 416 rfl (dd_L_act_2 23 _ _ _ rfl) ?_
    refine r_if_icmpge (by omega) (by omega) 419 rfl 424 rfl (dd_L_act_2 24 _ _ _ rfl) (fun _ => ?_) (fun q => by exfalso; omega)
    refine r_iload_7 426 rfl (dd_L_act_2 27 _ _ _ rfl) ?_
    refine r_bipush (by decide) 428 rfl (dd_L_act_2 28 _ _ _ rfl) ?_
    refine r_if_icmpne (by omega) (by omega) 431 rfl 442 rfl (dd_L_act_2 29 _ _ _ rfl) (fun q => by exfalso; omega) (fun _ => ?_)
    refine r_iload_1 432 rfl (dd_L_act_2 30 _ _ _ rfl) ?_
    refine r_bipush (by decide) 434 rfl (dd_L_act_2 31 _ _ _ rfl) ?_
    refine r_ishr 435 rfl (dd_L_act_2 32 _ _ _ rfl) ?_
    refine r_iconst 436 rfl (dd_L_act_2 33 _ _ _ rfl) ?_
    refine r_callS2 (lvl := 10) (mc1 := 0) (ms1 := 0) bc bs hg rfl md_L_low ws_L_low (tb_1 155 _ rfl) (by decide) (by decide) rfl (Nat.le_of_ble_eq_true rfl) (by omega) (by omega) 439 rfl (dd_L_act_2 34 _ _ _ rfl) ?_
    refine c_L_low hg (by omega) (fun la1 lb1 => ?_)
    dsimp only [zCont, Option.toList, List.cons_append, List.nil_append]
    refine r_goto 452 rfl (dd_L_act_2 35 _ _ _ rfl) ?_
    refine r_iload_8 454 rfl (dd_L_act_2 41 _ _ _ rfl) ?_
    refine r_callSH (lvl := 19) (mc1 := 12) (ms1 := 200) (As := [.ref x, .int (zI (ve)), .int (zI (fe)), .int (zI (zlow (zshr v 14) 4)), .int (zI (wh))]) (rest := []) (bc - 12) (bs - 200) hg rfl mh_tell ws_L_tell (tb_3 22 _ rfl) (by decide) (by decide) rfl (Nat.le_of_ble_eq_true rfl) (by omega) (by omega) rfl 457 rfl (dd_L_act_2 42 _ _ _ rfl) ?_
    refine hd x o h _ c (fun o1 h1 c1 st1 => ?_)
    dsimp only [zCont, Option.toList, List.cons_append, List.nil_append]
    refine r_lreturn rfl (dd_L_act_2 43 _ _ _ rfl) ?_
    exact k o1 h1 c1 st1
  rcases hod with rfl | rfl
  · have hn0 := hnd rfl
    obtain ⟨t, S2, R, hd⟩ := d_tell hg hnx hm hS hn (v := ve) (its := fe) (what := 0) (w := wh) (by omega) (by omega) (by omega) (by omega)
    refine ⟨t, S2, R, fun x o h mc ms Q bc bs c hb hb2 k => ?_⟩
    refine r_aload_0 409 rfl (dd_L_act_2 19 _ _ _ rfl) ?_
    refine r_iload_4 411 rfl (dd_L_act_2 20 _ _ _ rfl) ?_
    refine r_iload_7 413 rfl (dd_L_act_2 21 _ _ _ rfl) ?_
    refine r_iload_7 415 rfl (dd_L_act_2 22 _ _ _ rfl) ?_
    refine r_iconst 416 rfl (dd_L_act_2 23 _ _ _ rfl) ?_
    refine r_if_icmpge (by omega) (by omega) 419 rfl 424 rfl (dd_L_act_2 24 _ _ _ rfl) (fun _ => ?_) (fun q => by exfalso; omega)
    refine r_iload_7 426 rfl (dd_L_act_2 27 _ _ _ rfl) ?_
    refine r_bipush (by decide) 428 rfl (dd_L_act_2 28 _ _ _ rfl) ?_
    refine r_if_icmpne (by omega) (by omega) 431 rfl 442 rfl (dd_L_act_2 29 _ _ _ rfl) (fun _ => ?_) (fun q => by exfalso; omega)
    refine r_iload_3 443 rfl (dd_L_act_2 36 _ _ _ rfl) ?_
    refine r_ifeq (by omega) 446 rfl 451 rfl (dd_L_act_2 37 _ _ _ rfl) (fun _ => ?_) (fun q => absurd q (by decide))
    refine r_iconst 452 rfl (dd_L_act_2 40 _ _ _ rfl) ?_
    refine r_iload_8 454 rfl (dd_L_act_2 41 _ _ _ rfl) ?_
    refine r_callSH (lvl := 19) (mc1 := 12) (ms1 := 200) (As := [.ref x, .int (zI (ve)), .int (zI (fe)), .int (zI (0)), .int (zI (wh))]) (rest := []) (bc - 12) (bs - 200) hg rfl mh_tell ws_L_tell (tb_3 22 _ rfl) (by decide) (by decide) rfl (Nat.le_of_ble_eq_true rfl) (by omega) (by omega) rfl 457 rfl (dd_L_act_2 42 _ _ _ rfl) ?_
    refine hd x o h _ c (fun o1 h1 c1 st1 => ?_)
    dsimp only [zCont, Option.toList, List.cons_append, List.nil_append]
    refine r_lreturn rfl (dd_L_act_2 43 _ _ _ rfl) ?_
    exact k o1 h1 c1 st1
  · obtain ⟨t, S2, R, hd⟩ := d_tell hg hnx hm hS hn (v := ve) (its := fe) (what := mu) (w := wh) (by omega) (by omega) (by omega) (by omega)
    refine ⟨t, S2, R, fun x o h mc ms Q bc bs c hb hb2 k => ?_⟩
    refine r_aload_0 409 rfl (dd_L_act_2 19 _ _ _ rfl) ?_
    refine r_iload_4 411 rfl (dd_L_act_2 20 _ _ _ rfl) ?_
    refine r_iload_7 413 rfl (dd_L_act_2 21 _ _ _ rfl) ?_
    refine r_iload_7 415 rfl (dd_L_act_2 22 _ _ _ rfl) ?_
    refine r_iconst 416 rfl (dd_L_act_2 23 _ _ _ rfl) ?_
    refine r_if_icmpge (by omega) (by omega) 419 rfl 424 rfl (dd_L_act_2 24 _ _ _ rfl) (fun _ => ?_) (fun q => by exfalso; omega)
    refine r_iload_7 426 rfl (dd_L_act_2 27 _ _ _ rfl) ?_
    refine r_bipush (by decide) 428 rfl (dd_L_act_2 28 _ _ _ rfl) ?_
    refine r_if_icmpne (by omega) (by omega) 431 rfl 442 rfl (dd_L_act_2 29 _ _ _ rfl) (fun _ => ?_) (fun q => by exfalso; omega)
    refine r_iload_3 443 rfl (dd_L_act_2 36 _ _ _ rfl) ?_
    refine r_ifeq (by omega) 446 rfl 451 rfl (dd_L_act_2 37 _ _ _ rfl) (fun q => absurd q (by decide)) (fun _ => ?_)
    refine r_iload_6 448 rfl (dd_L_act_2 38 _ _ _ rfl) ?_
    refine r_goto 452 rfl (dd_L_act_2 39 _ _ _ rfl) ?_
    refine r_iload_8 454 rfl (dd_L_act_2 41 _ _ _ rfl) ?_
    refine r_callSH (lvl := 19) (mc1 := 12) (ms1 := 200) (As := [.ref x, .int (zI (ve)), .int (zI (fe)), .int (zI (mu)), .int (zI (wh))]) (rest := []) (bc - 12) (bs - 200) hg rfl mh_tell ws_L_tell (tb_3 22 _ rfl) (by decide) (by decide) rfl (Nat.le_of_ble_eq_true rfl) (by omega) (by omega) rfl 457 rfl (dd_L_act_2 42 _ _ _ rfl) ?_
    refine hd x o h _ c (fun o1 h1 c1 st1 => ?_)
    dsimp only [zCont, Option.toList, List.cons_append, List.nil_append]
    refine r_lreturn rfl (dd_L_act_2 43 _ _ _ rfl) ?_
    exact k o1 h1 c1 st1
theorem a_bar {g : zGT} (hg : zG g) (hnx : zNX g) {n : Nat} {S : zS} (hS : zOK n S) (hn : n < 512) {v td od ve pe mu fe wh is so : Int} (hv : zR v) (hA : zArgs td od ve pe mu fe wh is so) : ∃ (t : Int) (S2 : zS), zRes n S t S2 ∧ aX g S n 458 v td od ve pe mu fe wh is so t S2 := by
  obtain ⟨hod, hve, hpe, hmu, hfe, hwh, his, hso, htd, hnd⟩ := hA
  rcases hod with rfl | rfl
  · have hn0 := hnd rfl
    have z1 := zlow_range (a := zshr v 5) (n := 2) (by decide)
    have z2 := zlow_range (a := zshr v 8) (n := 2) (by decide)
    obtain ⟨t, S2, R, hd⟩ := d_bar hg hnx hS hn (a := 65 + zlow (zshr v 5) 2) (b := 65 + zlow (zshr v 8) 2) (is := is) (by omega) (by omega) his
    refine ⟨t, S2, R, fun x o h mc ms Q bc bs c hb hb2 k => ?_⟩
    refine r_aload_0 459 rfl (dd_L_act_2 44 _ _ _ rfl) ?_
    refine r_bipush (by decide) 461 rfl (dd_L_act_2 45 _ _ _ rfl) ?_
    refine r_iload_1 462 rfl (dd_L_act_2 46 _ _ _ rfl) ?_
    refine r_iconst 463 rfl (dd_L_act_2 47 _ _ _ rfl) ?_
    refine r_ishr 464 rfl (dd_L_act_2 48 _ _ _ rfl) ?_
    refine r_iload_3 465 rfl (dd_L_act_2 49 _ _ _ rfl) ?_
    refine r_ifeq (by omega) 468 rfl 473 rfl (dd_L_act_2 50 _ _ _ rfl) (fun _ => ?_) (fun q => absurd q (by decide))
    refine r_iconst 474 rfl (dd_L_act_2 53 _ _ _ rfl) ?_
    refine r_callS2 (lvl := 10) (mc1 := 0) (ms1 := 0) bc bs hg rfl md_L_low ws_L_low (tb_1 155 _ rfl) (by decide) (by decide) rfl (Nat.le_of_ble_eq_true rfl) (by omega) (by omega) 477 rfl (dd_L_act_2 54 _ _ _ rfl) ?_
    refine c_L_low hg (by omega) (fun la1 lb1 => ?_)
    dsimp only [zCont, Option.toList, List.cons_append, List.nil_append]
    refine r_iadd 478 rfl (dd_L_act_2 55 _ _ _ rfl) ?_
    refine r_i2c (by omega) (by omega) 479 rfl (dd_L_act_2 56 _ _ _ rfl) ?_
    refine r_bipush (by decide) 481 rfl (dd_L_act_2 57 _ _ _ rfl) ?_
    refine r_iload_1 482 rfl (dd_L_act_2 58 _ _ _ rfl) ?_
    refine r_bipush (by decide) 484 rfl (dd_L_act_2 59 _ _ _ rfl) ?_
    refine r_ishr 485 rfl (dd_L_act_3 0 _ _ _ rfl) ?_
    refine r_iconst 486 rfl (dd_L_act_3 1 _ _ _ rfl) ?_
    refine r_callS2 (lvl := 10) (mc1 := 0) (ms1 := 0) bc bs hg rfl md_L_low ws_L_low (tb_1 155 _ rfl) (by decide) (by decide) rfl (Nat.le_of_ble_eq_true rfl) (by omega) (by omega) 489 rfl (dd_L_act_3 2 _ _ _ rfl) ?_
    refine c_L_low hg (by omega) (fun la2 lb2 => ?_)
    dsimp only [zCont, Option.toList, List.cons_append, List.nil_append]
    refine r_iadd 490 rfl (dd_L_act_3 3 _ _ _ rfl) ?_
    refine r_i2c (by omega) (by omega) 491 rfl (dd_L_act_3 4 _ _ _ rfl) ?_
    refine r_iload_9 493 rfl (dd_L_act_3 5 _ _ _ rfl) ?_
    refine r_callSH (lvl := 15) (mc1 := 4) (ms1 := 40) (As := [.ref x, .int (zI (65 + zlow (zshr v 5) 2)), .int (zI (65 + zlow (zshr v 8) 2)), .int (zI (is))]) (rest := []) (bc - 4) (bs - 40) hg rfl mh_bar ws_L_bar (tb_4 111 _ rfl) (by decide) (by decide) rfl (Nat.le_of_ble_eq_true rfl) (by omega) (by omega) rfl 496 rfl (dd_L_act_3 6 _ _ _ rfl) ?_
    refine hd x o h _ c (fun o1 h1 c1 st1 => ?_)
    dsimp only [zCont, Option.toList, List.cons_append, List.nil_append]
    refine r_lreturn rfl (dd_L_act_3 7 _ _ _ rfl) ?_
    exact k o1 h1 c1 st1
  · have z1 := zlow_range (a := zshr v 5) (n := 40) (by decide)
    have z2 := zlow_range (a := zshr v 8) (n := 2) (by decide)
    obtain ⟨t, S2, R, hd⟩ := d_bar hg hnx hS hn (a := 65 + zlow (zshr v 5) 40) (b := 65 + zlow (zshr v 8) 2) (is := is) (by omega) (by omega) his
    refine ⟨t, S2, R, fun x o h mc ms Q bc bs c hb hb2 k => ?_⟩
    refine r_aload_0 459 rfl (dd_L_act_2 44 _ _ _ rfl) ?_
    refine r_bipush (by decide) 461 rfl (dd_L_act_2 45 _ _ _ rfl) ?_
    refine r_iload_1 462 rfl (dd_L_act_2 46 _ _ _ rfl) ?_
    refine r_iconst 463 rfl (dd_L_act_2 47 _ _ _ rfl) ?_
    refine r_ishr 464 rfl (dd_L_act_2 48 _ _ _ rfl) ?_
    refine r_iload_3 465 rfl (dd_L_act_2 49 _ _ _ rfl) ?_
    refine r_ifeq (by omega) 468 rfl 473 rfl (dd_L_act_2 50 _ _ _ rfl) (fun q => absurd q (by decide)) (fun _ => ?_)
    refine r_bipush (by decide) 470 rfl (dd_L_act_2 51 _ _ _ rfl) ?_
    refine r_goto 474 rfl (dd_L_act_2 52 _ _ _ rfl) ?_
    refine r_callS2 (lvl := 10) (mc1 := 0) (ms1 := 0) bc bs hg rfl md_L_low ws_L_low (tb_1 155 _ rfl) (by decide) (by decide) rfl (Nat.le_of_ble_eq_true rfl) (by omega) (by omega) 477 rfl (dd_L_act_2 54 _ _ _ rfl) ?_
    refine c_L_low hg (by omega) (fun la1 lb1 => ?_)
    dsimp only [zCont, Option.toList, List.cons_append, List.nil_append]
    refine r_iadd 478 rfl (dd_L_act_2 55 _ _ _ rfl) ?_
    refine r_i2c (by omega) (by omega) 479 rfl (dd_L_act_2 56 _ _ _ rfl) ?_
    refine r_bipush (by decide) 481 rfl (dd_L_act_2 57 _ _ _ rfl) ?_
    refine r_iload_1 482 rfl (dd_L_act_2 58 _ _ _ rfl) ?_
    refine r_bipush (by decide) 484 rfl (dd_L_act_2 59 _ _ _ rfl) ?_
    refine r_ishr 485 rfl (dd_L_act_3 0 _ _ _ rfl) ?_
    refine r_iconst 486 rfl (dd_L_act_3 1 _ _ _ rfl) ?_
    refine r_callS2 (lvl := 10) (mc1 := 0) (ms1 := 0) bc bs hg rfl md_L_low ws_L_low (tb_1 155 _ rfl) (by decide) (by decide) rfl (Nat.le_of_ble_eq_true rfl) (by omega) (by omega) 489 rfl (dd_L_act_3 2 _ _ _ rfl) ?_
    refine c_L_low hg (by omega) (fun la2 lb2 => ?_)
    dsimp only [zCont, Option.toList, List.cons_append, List.nil_append]
    refine r_iadd 490 rfl (dd_L_act_3 3 _ _ _ rfl) ?_
    refine r_i2c (by omega) (by omega) 491 rfl (dd_L_act_3 4 _ _ _ rfl) ?_
    refine r_iload_9 493 rfl (dd_L_act_3 5 _ _ _ rfl) ?_
    refine r_callSH (lvl := 15) (mc1 := 4) (ms1 := 40) (As := [.ref x, .int (zI (65 + zlow (zshr v 5) 40)), .int (zI (65 + zlow (zshr v 8) 2)), .int (zI (is))]) (rest := []) (bc - 4) (bs - 40) hg rfl mh_bar ws_L_bar (tb_4 111 _ rfl) (by decide) (by decide) rfl (Nat.le_of_ble_eq_true rfl) (by omega) (by omega) rfl 496 rfl (dd_L_act_3 6 _ _ _ rfl) ?_
    refine hd x o h _ c (fun o1 h1 c1 st1 => ?_)
    dsimp only [zCont, Option.toList, List.cons_append, List.nil_append]
    refine r_lreturn rfl (dd_L_act_3 7 _ _ _ rfl) ?_
    exact k o1 h1 c1 st1
theorem a_allot {g : zGT} (hg : zG g) (hnx : zNX g) {n : Nat} {S : zS} (hS : zOK n S) (hn : n < 512) {v td od ve pe mu fe wh is so : Int} (hv : zR v) (hA : zArgs td od ve pe mu fe wh is so) : ∃ (t : Int) (S2 : zS), zRes n S t S2 ∧ aX g S n 497 v td od ve pe mu fe wh is so t S2 := by
  obtain ⟨hod, hve, hpe, hmu, hfe, hwh, his, hso, htd, hnd⟩ := hA
  obtain ⟨t, S2, R, hd⟩ := d_allot hg hnx hS hn (v := ve) (by omega)
  refine ⟨t, S2, R, fun x o h mc ms Q bc bs c hb hb2 k => ?_⟩
  refine r_aload_0 498 rfl (dd_L_act_3 8 _ _ _ rfl) ?_
  refine r_iload_4 500 rfl (dd_L_act_3 9 _ _ _ rfl) ?_
  refine r_callSH (lvl := 16) (mc1 := 8) (ms1 := 4300) (As := [.ref x, .int (zI (ve))]) (rest := []) (bc - 8) (bs - 4300) hg rfl mh_allot ws_L_allot (tb_4 125 _ rfl) (by decide) (by decide) rfl (Nat.le_of_ble_eq_true rfl) (by omega) (by omega) rfl 503 rfl (dd_L_act_3 10 _ _ _ rfl) ?_
  refine hd x o h _ c (fun o1 h1 c1 st1 => ?_)
  dsimp only [zCont, Option.toList, List.cons_append, List.nil_append]
  refine r_lreturn rfl (dd_L_act_3 11 _ _ _ rfl) ?_
  exact k o1 h1 c1 st1
theorem a_wish {g : zGT} (hg : zG g) (hnx : zNX g) {n : Nat} {S : zS} (hS : zOK n S) (hn : n < 512) {v td od ve pe mu fe wh is so : Int} (hv : zR v) (hA : zArgs td od ve pe mu fe wh is so) : ∃ (t : Int) (S2 : zS), zRt n S t S2 ∧ aX g S n 504 v td od ve pe mu fe wh is so t S2 := by
  obtain ⟨hod, hve, hpe, hmu, hfe, hwh, his, hso, htd, hnd⟩ := hA
  obtain ⟨S1, R1, hh⟩ := c_types hg hS (zshr v 5)
  obtain ⟨t, S2, R, hd⟩ := d_wish hg hnx R1.1 hn (v := ve) (by omega)
  refine ⟨t, S2, .of R1 R, fun x o h mc ms Q bc bs c hb hb2 k => ?_⟩
  refine r_aload_0 505 rfl (dd_L_act_3 12 _ _ _ rfl) ?_
  refine r_iload_1 506 rfl (dd_L_act_3 13 _ _ _ rfl) ?_
  refine r_iconst 507 rfl (dd_L_act_3 14 _ _ _ rfl) ?_
  refine r_ishr 508 rfl (dd_L_act_3 15 _ _ _ rfl) ?_
  refine r_callS2 (lvl := 15) (mc1 := 44) (ms1 := 440) (bc - 44) (bs - 440) hg rfl md_L_types ws_L_types (tb_4 177 _ rfl) (by decide) (by decide) rfl (Nat.le_of_ble_eq_true rfl) (by omega) (by omega) 511 rfl (dd_L_act_3 16 _ _ _ rfl) ?_
  refine hh x o h _ c (fun o1 h1 c1 st1 => ?_)
  dsimp only [zCont, Option.toList, List.cons_append, List.nil_append]
  refine r_aload_0 512 rfl (dd_L_act_3 17 _ _ _ rfl) ?_
  refine r_iload_4 514 rfl (dd_L_act_3 18 _ _ _ rfl) ?_
  refine r_callSH (lvl := 16) (mc1 := 8) (ms1 := 4300) (As := [.ref x, .int (zI (ve))]) (rest := []) ((bc - 44) - 8) ((bs - 440) - 4300) hg rfl mh_wish ws_L_wish (tb_4 200 _ rfl) (by decide) (by decide) rfl (Nat.le_of_ble_eq_true rfl) (by omega) (by omega) rfl 517 rfl (dd_L_act_3 19 _ _ _ rfl) ?_
  refine hd x o1 h1 _ c1 (fun o2 h2 c2 st2 => ?_)
  dsimp only [zCont, Option.toList, List.cons_append, List.nil_append]
  refine r_lreturn rfl (dd_L_act_3 20 _ _ _ rfl) ?_
  exact k o2 h2 c2 (st1.trans st2)
theorem a_plate {g : zGT} (hg : zG g) (hnx : zNX g) {n : Nat} {S : zS} (hS : zOK n S) (hn : n < 512) {v td od ve pe mu fe wh is so : Int} (hv : zR v) (hA : zArgs td od ve pe mu fe wh is so) : ∃ (t : Int) (S2 : zS), zRq S t S2 ∧ aX g S n 518 v td od ve pe mu fe wh is so t S2 := by
  obtain ⟨hod, hve, hpe, hmu, hfe, hwh, his, hso, htd, hnd⟩ := hA
  rcases hod with rfl | rfl
  · have hn0 := hnd rfl
    have z1 := zlow_range (a := zshr v 5) (n := 4) (by decide)
    obtain ⟨t, R, hd⟩ := d_plate hg hnx hS (v := ve) (w := wh) (q := zlow (zshr v 5) 4) (by omega) (by omega) (by omega)
    refine ⟨t, S, ⟨rfl, by have e := R.1; omega⟩, fun x o h mc ms Q bc bs c hb hb2 k => ?_⟩
    refine r_aload_0 519 rfl (dd_L_act_3 21 _ _ _ rfl) ?_
    refine r_iload_4 521 rfl (dd_L_act_3 22 _ _ _ rfl) ?_
    refine r_iload_8 523 rfl (dd_L_act_3 23 _ _ _ rfl) ?_
    refine r_iload_3 524 rfl (dd_L_act_3 24 _ _ _ rfl) ?_
    refine r_ifeq (by omega) 527 rfl 532 rfl (dd_L_act_3 25 _ _ _ rfl) (fun _ => ?_) (fun q => absurd q (by decide))
    refine r_iload_1 533 rfl (dd_L_act_3 28 _ _ _ rfl) ?_
    refine r_iconst 534 rfl (dd_L_act_3 29 _ _ _ rfl) ?_
    refine r_ishr 535 rfl (dd_L_act_3 30 _ _ _ rfl) ?_
    refine r_iconst 536 rfl (dd_L_act_3 31 _ _ _ rfl) ?_
    refine r_callS2 (lvl := 10) (mc1 := 0) (ms1 := 0) bc bs hg rfl md_L_low ws_L_low (tb_1 155 _ rfl) (by decide) (by decide) rfl (Nat.le_of_ble_eq_true rfl) (by omega) (by omega) 539 rfl (dd_L_act_3 32 _ _ _ rfl) ?_
    refine c_L_low hg (by omega) (fun la1 lb1 => ?_)
    dsimp only [zCont, Option.toList, List.cons_append, List.nil_append]
    refine r_callSH (lvl := 16) (mc1 := 4) (ms1 := 40) (As := [.ref x, .int (zI (ve)), .int (zI (wh)), .int (zI (zlow (zshr v 5) 4))]) (rest := []) (bc - 4) (bs - 40) hg rfl mh_plate ws_L_plate (tb_4 222 _ rfl) (by decide) (by decide) rfl (Nat.le_of_ble_eq_true rfl) (by omega) (by omega) rfl 542 rfl (dd_L_act_3 33 _ _ _ rfl) ?_
    refine hd x o h _ c ?_
    dsimp only [zCont, Option.toList, List.cons_append, List.nil_append]
    refine r_lreturn rfl (dd_L_act_3 34 _ _ _ rfl) ?_
    exact k o h c.up .refl
  · obtain ⟨t, R, hd⟩ := d_plate hg hnx hS (v := ve) (w := wh) (q := mu) (by omega) (by omega) (by omega)
    refine ⟨t, S, ⟨rfl, by have e := R.1; omega⟩, fun x o h mc ms Q bc bs c hb hb2 k => ?_⟩
    refine r_aload_0 519 rfl (dd_L_act_3 21 _ _ _ rfl) ?_
    refine r_iload_4 521 rfl (dd_L_act_3 22 _ _ _ rfl) ?_
    refine r_iload_8 523 rfl (dd_L_act_3 23 _ _ _ rfl) ?_
    refine r_iload_3 524 rfl (dd_L_act_3 24 _ _ _ rfl) ?_
    refine r_ifeq (by omega) 527 rfl 532 rfl (dd_L_act_3 25 _ _ _ rfl) (fun q => absurd q (by decide)) (fun _ => ?_)
    refine r_iload_6 529 rfl (dd_L_act_3 26 _ _ _ rfl) ?_
    refine r_goto 539 rfl (dd_L_act_3 27 _ _ _ rfl) ?_
    refine r_callSH (lvl := 16) (mc1 := 4) (ms1 := 40) (As := [.ref x, .int (zI (ve)), .int (zI (wh)), .int (zI (mu))]) (rest := []) (bc - 4) (bs - 40) hg rfl mh_plate ws_L_plate (tb_4 222 _ rfl) (by decide) (by decide) rfl (Nat.le_of_ble_eq_true rfl) (by omega) (by omega) rfl 542 rfl (dd_L_act_3 33 _ _ _ rfl) ?_
    refine hd x o h _ c ?_
    dsimp only [zCont, Option.toList, List.cons_append, List.nil_append]
    refine r_lreturn rfl (dd_L_act_3 34 _ _ _ rfl) ?_
    exact k o h c.up .refl
theorem a_rate {g : zGT} (hg : zG g) (hnx : zNX g) {n : Nat} {S : zS} (hS : zOK n S) (hn : n < 512) {v td od ve pe mu fe wh is so : Int} (hv : zR v) (hA : zArgs td od ve pe mu fe wh is so) : ∃ (t : Int) (S2 : zS), zRes n S t S2 ∧ aX g S n 543 v td od ve pe mu fe wh is so t S2 := by
  obtain ⟨hod, hve, hpe, hmu, hfe, hwh, his, hso, htd, hnd⟩ := hA
  rcases hod with rfl | rfl
  · have hn0 := hnd rfl
    have z1 := zlow_range (a := zshr v 6) (n := 4) (by decide)
    have z2 := zlow_range (a := zshr v 3) (n := 900) (by decide)
    obtain ⟨t, S2, R, hd⟩ := d_rate hg hnx hS hn (a := zlow (zshr v 6) 4) (b := 3 * mu) (c9 := zlow (zshr v 3) 900) (by omega) (by omega) (by omega)
    refine ⟨t, S2, R, fun x o h mc ms Q bc bs c hb hb2 k => ?_⟩
    refine r_aload_0 544 rfl (dd_L_act_3 35 _ _ _ rfl) ?_
    refine r_iload_3 545 rfl (dd_L_act_3 36 _ _ _ rfl) ?_
    refine r_ifeq (by omega) 548 rfl 553 rfl (dd_L_act_3 37 _ _ _ rfl) (fun _ => ?_) (fun q => absurd q (by decide))
    refine r_iload_1 554 rfl (dd_L_act_3 40 _ _ _ rfl) ?_
    refine r_bipush (by decide) 556 rfl (dd_L_act_3 41 _ _ _ rfl) ?_
    refine r_ishr 557 rfl (dd_L_act_3 42 _ _ _ rfl) ?_
    refine r_iconst 558 rfl (dd_L_act_3 43 _ _ _ rfl) ?_
    refine r_callS2 (lvl := 10) (mc1 := 0) (ms1 := 0) bc bs hg rfl md_L_low ws_L_low (tb_1 155 _ rfl) (by decide) (by decide) rfl (Nat.le_of_ble_eq_true rfl) (by omega) (by omega) 561 rfl (dd_L_act_3 44 _ _ _ rfl) ?_
    refine c_L_low hg (by omega) (fun la1 lb1 => ?_)
    dsimp only [zCont, Option.toList, List.cons_append, List.nil_append]
    refine r_iload_3 562 rfl (dd_L_act_3 45 _ _ _ rfl) ?_
    refine r_ifeq (by omega) 565 rfl 570 rfl (dd_L_act_3 46 _ _ _ rfl) (fun _ => ?_) (fun q => absurd q (by decide))
    refine r_iconst 571 rfl (dd_L_act_3 49 _ _ _ rfl) ?_
    refine r_iload_6 573 rfl (dd_L_act_3 50 _ _ _ rfl) ?_
    refine r_imul 574 rfl (dd_L_act_3 51 _ _ _ rfl) ?_
    refine r_iload_3 575 rfl (dd_L_act_3 52 _ _ _ rfl) ?_
    refine r_ifeq (by omega) 578 rfl 582 rfl (dd_L_act_3 53 _ _ _ rfl) (fun _ => ?_) (fun q => absurd q (by decide))
    refine r_iload_1 583 rfl (dd_L_act_3 56 _ _ _ rfl) ?_
    refine r_iconst 584 rfl (dd_L_act_3 57 _ _ _ rfl) ?_
    refine r_ishr 585 rfl (dd_L_act_3 58 _ _ _ rfl) ?_
    refine r_sipush (by decide) 588 rfl (dd_L_act_3 59 _ _ _ rfl) ?_
    refine r_callS2 (lvl := 10) (mc1 := 0) (ms1 := 0) bc bs hg rfl md_L_low ws_L_low (tb_1 155 _ rfl) (by decide) (by decide) rfl (Nat.le_of_ble_eq_true rfl) (by omega) (by omega) 591 rfl (dd_L_act_4 0 _ _ _ rfl) ?_
    refine c_L_low hg (by omega) (fun la2 lb2 => ?_)
    dsimp only [zCont, Option.toList, List.cons_append, List.nil_append]
    refine r_callSH (lvl := 16) (mc1 := 6) (ms1 := 4300) (As := [.ref x, .int (zI (zlow (zshr v 6) 4)), .int (zI (3 * mu)), .int (zI (zlow (zshr v 3) 900))]) (rest := []) (bc - 6) (bs - 4300) hg rfl mh_rate ws_L_rate (tb_4 236 _ rfl) (by decide) (by decide) rfl (Nat.le_of_ble_eq_true rfl) (by omega) (by omega) rfl 594 rfl (dd_L_act_4 1 _ _ _ rfl) ?_
    refine hd x o h _ c (fun o1 h1 c1 st1 => ?_)
    dsimp only [zCont, Option.toList, List.cons_append, List.nil_append]
    refine r_lreturn rfl (dd_L_act_4 2 _ _ _ rfl) ?_
    exact k o1 h1 c1 st1
  · obtain ⟨t, S2, R, hd⟩ := d_rate hg hnx hS hn (a := fe) (b := mu) (c9 := v) (by omega) (by omega) (by omega)
    refine ⟨t, S2, R, fun x o h mc ms Q bc bs c hb hb2 k => ?_⟩
    refine r_aload_0 544 rfl (dd_L_act_3 35 _ _ _ rfl) ?_
    refine r_iload_3 545 rfl (dd_L_act_3 36 _ _ _ rfl) ?_
    refine r_ifeq (by omega) 548 rfl 553 rfl (dd_L_act_3 37 _ _ _ rfl) (fun q => absurd q (by decide)) (fun _ => ?_)
    refine r_iload_7 550 rfl (dd_L_act_3 38 _ _ _ rfl) ?_
    refine r_goto 561 rfl (dd_L_act_3 39 _ _ _ rfl) ?_
    refine r_iload_3 562 rfl (dd_L_act_3 45 _ _ _ rfl) ?_
    refine r_ifeq (by omega) 565 rfl 570 rfl (dd_L_act_3 46 _ _ _ rfl) (fun q => absurd q (by decide)) (fun _ => ?_)
    refine r_iload_6 567 rfl (dd_L_act_3 47 _ _ _ rfl) ?_
    refine r_goto 574 rfl (dd_L_act_3 48 _ _ _ rfl) ?_
    refine r_iload_3 575 rfl (dd_L_act_3 52 _ _ _ rfl) ?_
    refine r_ifeq (by omega) 578 rfl 582 rfl (dd_L_act_3 53 _ _ _ rfl) (fun q => absurd q (by decide)) (fun _ => ?_)
    refine r_iload_1 579 rfl (dd_L_act_3 54 _ _ _ rfl) ?_
    refine r_goto 591 rfl (dd_L_act_3 55 _ _ _ rfl) ?_
    refine r_callSH (lvl := 16) (mc1 := 6) (ms1 := 4300) (As := [.ref x, .int (zI (fe)), .int (zI (mu)), .int (zI (v))]) (rest := []) (bc - 6) (bs - 4300) hg rfl mh_rate ws_L_rate (tb_4 236 _ rfl) (by decide) (by decide) rfl (Nat.le_of_ble_eq_true rfl) (by omega) (by omega) rfl 594 rfl (dd_L_act_4 1 _ _ _ rfl) ?_
    refine hd x o h _ c (fun o1 h1 c1 st1 => ?_)
    dsimp only [zCont, Option.toList, List.cons_append, List.nil_append]
    refine r_lreturn rfl (dd_L_act_4 2 _ _ _ rfl) ?_
    exact k o1 h1 c1 st1
theorem a_pay {g : zGT} (hg : zG g) (hnx : zNX g) {n : Nat} {S : zS} (hS : zOK n S) (hn : n < 512) {v td od ve pe mu fe wh is so : Int} (hv : zR v) (hA : zArgs td od ve pe mu fe wh is so) : ∃ (t : Int) (S2 : zS), zRes n S t S2 ∧ aX g S n 595 v td od ve pe mu fe wh is so t S2 := by
  obtain ⟨hod, hve, hpe, hmu, hfe, hwh, his, hso, htd, hnd⟩ := hA
  rcases hod with rfl | rfl
  · have hn0 := hnd rfl
    obtain ⟨t, S2, R, hd⟩ := d_pay hg hnx hS hn (v := ve) (b := 1 + mu) (by omega) (by omega)
    refine ⟨t, S2, R, fun x o h mc ms Q bc bs c hb hb2 k => ?_⟩
    refine r_aload_0 596 rfl (dd_L_act_4 3 _ _ _ rfl) ?_
    refine r_iload_4 598 rfl (dd_L_act_4 4 _ _ _ rfl) ?_
    refine r_iload_3 599 rfl (dd_L_act_4 5 _ _ _ rfl) ?_
    refine r_ifeq (by omega) 602 rfl 607 rfl (dd_L_act_4 6 _ _ _ rfl) (fun _ => ?_) (fun q => absurd q (by decide))
    refine r_iconst 608 rfl (dd_L_act_4 9 _ _ _ rfl) ?_
    refine r_iload_6 610 rfl (dd_L_act_4 10 _ _ _ rfl) ?_
    refine r_iadd 611 rfl (dd_L_act_4 11 _ _ _ rfl) ?_
    refine r_callSH (lvl := 18) (mc1 := 4) (ms1 := 40) (As := [.ref x, .int (zI (ve)), .int (zI (1 + mu))]) (rest := []) (bc - 4) (bs - 40) hg rfl mh_pay ws_L_pay (tb_5 4 _ rfl) (by decide) (by decide) rfl (Nat.le_of_ble_eq_true rfl) (by omega) (by omega) rfl 614 rfl (dd_L_act_4 12 _ _ _ rfl) ?_
    refine hd x o h _ c (fun o1 h1 c1 st1 => ?_)
    dsimp only [zCont, Option.toList, List.cons_append, List.nil_append]
    refine r_lreturn rfl (dd_L_act_4 13 _ _ _ rfl) ?_
    exact k o1 h1 c1 st1
  · obtain ⟨t, S2, R, hd⟩ := d_pay hg hnx hS hn (v := ve) (b := mu) (by omega) (by omega)
    refine ⟨t, S2, R, fun x o h mc ms Q bc bs c hb hb2 k => ?_⟩
    refine r_aload_0 596 rfl (dd_L_act_4 3 _ _ _ rfl) ?_
    refine r_iload_4 598 rfl (dd_L_act_4 4 _ _ _ rfl) ?_
    refine r_iload_3 599 rfl (dd_L_act_4 5 _ _ _ rfl) ?_
    refine r_ifeq (by omega) 602 rfl 607 rfl (dd_L_act_4 6 _ _ _ rfl) (fun q => absurd q (by decide)) (fun _ => ?_)
    refine r_iload_6 604 rfl (dd_L_act_4 7 _ _ _ rfl) ?_
    refine r_goto 611 rfl (dd_L_act_4 8 _ _ _ rfl) ?_
    refine r_callSH (lvl := 18) (mc1 := 4) (ms1 := 40) (As := [.ref x, .int (zI (ve)), .int (zI (mu))]) (rest := []) (bc - 4) (bs - 40) hg rfl mh_pay ws_L_pay (tb_5 4 _ rfl) (by decide) (by decide) rfl (Nat.le_of_ble_eq_true rfl) (by omega) (by omega) rfl 614 rfl (dd_L_act_4 12 _ _ _ rfl) ?_
    refine hd x o h _ c (fun o1 h1 c1 st1 => ?_)
    dsimp only [zCont, Option.toList, List.cons_append, List.nil_append]
    refine r_lreturn rfl (dd_L_act_4 13 _ _ _ rfl) ?_
    exact k o1 h1 c1 st1
theorem a_owes {g : zGT} (hg : zG g) (hnx : zNX g) {n : Nat} {S : zS} (hS : zOK n S) (hn : n < 512) {v td od ve pe mu fe wh is so : Int} (hv : zR v) (hA : zArgs td od ve pe mu fe wh is so) : ∃ (t : Int) (S2 : zS), zRq S t S2 ∧ aX g S n 615 v td od ve pe mu fe wh is so t S2 := by
  obtain ⟨hod, hve, hpe, hmu, hfe, hwh, his, hso, htd, hnd⟩ := hA
  by_cases q1 : zlow (zshr v 13) 3 = 0
  · have z1 := zlow_range (a := zshr v 13) (n := 3) (by decide)
    obtain ⟨t, R, hd⟩ := d_owes hg hnx hS (v := ve) (by omega)
    refine ⟨t, S, ⟨rfl, by have e := R; omega⟩, fun x o h mc ms Q bc bs c hb hb2 k => ?_⟩
    refine r_iload_1 616 rfl (dd_L_act_4 14 _ _ _ rfl) ?_
    refine r_bipush (by decide) 618 rfl (dd_L_act_4 15 _ _ _ rfl) ?_
    refine r_ishr 619 rfl (dd_L_act_4 16 _ _ _ rfl) ?_
    refine r_iconst 620 rfl (dd_L_act_4 17 _ _ _ rfl) ?_
    refine r_callS2 (lvl := 10) (mc1 := 0) (ms1 := 0) bc bs hg rfl md_L_low ws_L_low (tb_1 155 _ rfl) (by decide) (by decide) rfl (Nat.le_of_ble_eq_true rfl) (by omega) (by omega) 623 rfl (dd_L_act_4 18 _ _ _ rfl) ?_
    refine c_L_low hg (by omega) (fun la1 lb1 => ?_)
    dsimp only [zCont, Option.toList, List.cons_append, List.nil_append]
    refine r_ifne (by omega) 626 rfl 635 rfl (dd_L_act_4 19 _ _ _ rfl) (fun q => by exfalso; omega) (fun _ => ?_)
    refine r_aload_0 627 rfl (dd_L_act_4 20 _ _ _ rfl) ?_
    refine r_iload_4 629 rfl (dd_L_act_4 21 _ _ _ rfl) ?_
    refine r_callSH (lvl := 17) (mc1 := 4) (ms1 := 40) (As := [.ref x, .int (zI (ve))]) (rest := []) (bc - 4) (bs - 40) hg rfl mh_owes ws_L_owes (tb_5 28 _ rfl) (by decide) (by decide) rfl (Nat.le_of_ble_eq_true rfl) (by omega) (by omega) rfl 632 rfl (dd_L_act_4 22 _ _ _ rfl) ?_
    refine hd x o h _ c ?_
    dsimp only [zCont, Option.toList, List.cons_append, List.nil_append]
    refine r_goto 641 rfl (dd_L_act_4 23 _ _ _ rfl) ?_
    refine r_lreturn rfl (dd_L_act_4 27 _ _ _ rfl) ?_
    exact k o h c.up .refl
  have z1 := zlow_range (a := zshr v 13) (n := 3) (by decide)
  obtain ⟨t, R, hd⟩ := d_looked hg hnx hS (v := pe) (by omega)
  refine ⟨t, S, ⟨rfl, by have e := R; omega⟩, fun x o h mc ms Q bc bs c hb hb2 k => ?_⟩
  refine r_iload_1 616 rfl (dd_L_act_4 14 _ _ _ rfl) ?_
  refine r_bipush (by decide) 618 rfl (dd_L_act_4 15 _ _ _ rfl) ?_
  refine r_ishr 619 rfl (dd_L_act_4 16 _ _ _ rfl) ?_
  refine r_iconst 620 rfl (dd_L_act_4 17 _ _ _ rfl) ?_
  refine r_callS2 (lvl := 10) (mc1 := 0) (ms1 := 0) bc bs hg rfl md_L_low ws_L_low (tb_1 155 _ rfl) (by decide) (by decide) rfl (Nat.le_of_ble_eq_true rfl) (by omega) (by omega) 623 rfl (dd_L_act_4 18 _ _ _ rfl) ?_
  refine c_L_low hg (by omega) (fun la1 lb1 => ?_)
  dsimp only [zCont, Option.toList, List.cons_append, List.nil_append]
  refine r_ifne (by omega) 626 rfl 635 rfl (dd_L_act_4 19 _ _ _ rfl) (fun _ => ?_) (fun q => by exfalso; omega)
  refine r_aload_0 636 rfl (dd_L_act_4 24 _ _ _ rfl) ?_
  refine r_iload_5 638 rfl (dd_L_act_4 25 _ _ _ rfl) ?_
  refine r_callSH (lvl := 15) (mc1 := 4) (ms1 := 40) (As := [.ref x, .int (zI (pe))]) (rest := []) (bc - 4) (bs - 40) hg rfl mh_looked ws_L_looked (tb_5 35 _ rfl) (by decide) (by decide) rfl (Nat.le_of_ble_eq_true rfl) (by omega) (by omega) rfl 641 rfl (dd_L_act_4 26 _ _ _ rfl) ?_
  refine hd x o h _ c ?_
  dsimp only [zCont, Option.toList, List.cons_append, List.nil_append]
  refine r_lreturn rfl (dd_L_act_4 27 _ _ _ rfl) ?_
  exact k o h c.up .refl
theorem a_test {g : zGT} (hg : zG g) (hnx : zNX g) {n : Nat} {S : zS} (hS : zOK n S) (hn : n < 512) {v td od ve pe mu fe wh is so : Int} (hv : zR v) (hA : zArgs td od ve pe mu fe wh is so) : ∃ (t : Int) (S2 : zS), zRes n S t S2 ∧ aX g S n 642 v td od ve pe mu fe wh is so t S2 := by
  obtain ⟨hod, hve, hpe, hmu, hfe, hwh, his, hso, htd, hnd⟩ := hA
  rcases hod with rfl | rfl
  · have hn0 := hnd rfl
    have z1 := zlow_range (a := zshr v 6) (n := 3) (by decide)
    obtain ⟨t, S2, R, hd⟩ := d_test hg hnx hS hn (v := ve) (w := td) (gr := zlow (zshr v 6) 3) (far := 100 * mu) (by omega) (by omega) (by omega) (by omega)
    refine ⟨t, S2, R, fun x o h mc ms Q bc bs c hb hb2 k => ?_⟩
    refine r_aload_0 643 rfl (dd_L_act_4 28 _ _ _ rfl) ?_
    refine r_iload_4 645 rfl (dd_L_act_4 29 _ _ _ rfl) ?_
    refine r_iload_3 646 rfl (dd_L_act_4 30 _ _ _ rfl) ?_
    refine r_ifeq (by omega) 649 rfl 654 rfl (dd_L_act_4 31 _ _ _ rfl) (fun _ => ?_) (fun q => absurd q (by decide))
    refine r_iload_2 655 rfl (dd_L_act_4 34 _ _ _ rfl) ?_
    refine r_iload_3 656 rfl (dd_L_act_4 35 _ _ _ rfl) ?_
    refine r_ifeq (by omega) 659 rfl 664 rfl (dd_L_act_4 36 _ _ _ rfl) (fun _ => ?_) (fun q => absurd q (by decide))
    refine r_iload_1 665 rfl (dd_L_act_4 39 _ _ _ rfl) ?_
    refine r_bipush (by decide) 667 rfl (dd_L_act_4 40 _ _ _ rfl) ?_
    refine r_ishr 668 rfl (dd_L_act_4 41 _ _ _ rfl) ?_
    refine r_iconst 669 rfl (dd_L_act_4 42 _ _ _ rfl) ?_
    refine r_callS2 (lvl := 10) (mc1 := 0) (ms1 := 0) bc bs hg rfl md_L_low ws_L_low (tb_1 155 _ rfl) (by decide) (by decide) rfl (Nat.le_of_ble_eq_true rfl) (by omega) (by omega) 672 rfl (dd_L_act_4 43 _ _ _ rfl) ?_
    refine c_L_low hg (by omega) (fun la1 lb1 => ?_)
    dsimp only [zCont, Option.toList, List.cons_append, List.nil_append]
    refine r_iload_3 673 rfl (dd_L_act_4 44 _ _ _ rfl) ?_
    refine r_ifeq (by omega) 676 rfl 680 rfl (dd_L_act_4 45 _ _ _ rfl) (fun _ => ?_) (fun q => absurd q (by decide))
    refine r_bipush (by decide) 682 rfl (dd_L_act_4 48 _ _ _ rfl) ?_
    refine r_iload_6 684 rfl (dd_L_act_4 49 _ _ _ rfl) ?_
    refine r_imul 685 rfl (dd_L_act_4 50 _ _ _ rfl) ?_
    refine r_callSH (lvl := 16) (mc1 := 4) (ms1 := 40) (As := [.ref x, .int (zI (ve)), .int (zI (td)), .int (zI (zlow (zshr v 6) 3)), .int (zI (100 * mu))]) (rest := []) (bc - 4) (bs - 40) hg rfl mh_test ws_L_test (tb_5 42 _ rfl) (by decide) (by decide) rfl (Nat.le_of_ble_eq_true rfl) (by omega) (by omega) rfl 688 rfl (dd_L_act_4 51 _ _ _ rfl) ?_
    refine hd x o h _ c (fun o1 h1 c1 st1 => ?_)
    dsimp only [zCont, Option.toList, List.cons_append, List.nil_append]
    refine r_lreturn rfl (dd_L_act_4 52 _ _ _ rfl) ?_
    exact k o1 h1 c1 st1
  · obtain ⟨t, S2, R, hd⟩ := d_test hg hnx hS hn (v := ve) (w := wh) (gr := fe) (far := v) (by omega) (by omega) (by omega) (by omega)
    refine ⟨t, S2, R, fun x o h mc ms Q bc bs c hb hb2 k => ?_⟩
    refine r_aload_0 643 rfl (dd_L_act_4 28 _ _ _ rfl) ?_
    refine r_iload_4 645 rfl (dd_L_act_4 29 _ _ _ rfl) ?_
    refine r_iload_3 646 rfl (dd_L_act_4 30 _ _ _ rfl) ?_
    refine r_ifeq (by omega) 649 rfl 654 rfl (dd_L_act_4 31 _ _ _ rfl) (fun q => absurd q (by decide)) (fun _ => ?_)
    refine r_iload_8 651 rfl (dd_L_act_4 32 _ _ _ rfl) ?_
    refine r_goto 655 rfl (dd_L_act_4 33 _ _ _ rfl) ?_
    refine r_iload_3 656 rfl (dd_L_act_4 35 _ _ _ rfl) ?_
    refine r_ifeq (by omega) 659 rfl 664 rfl (dd_L_act_4 36 _ _ _ rfl) (fun q => absurd q (by decide)) (fun _ => ?_)
    refine r_iload_7 661 rfl (dd_L_act_4 37 _ _ _ rfl) ?_
    refine r_goto 672 rfl (dd_L_act_4 38 _ _ _ rfl) ?_
    refine r_iload_3 673 rfl (dd_L_act_4 44 _ _ _ rfl) ?_
    refine r_ifeq (by omega) 676 rfl 680 rfl (dd_L_act_4 45 _ _ _ rfl) (fun q => absurd q (by decide)) (fun _ => ?_)
    refine r_iload_1 677 rfl (dd_L_act_4 46 _ _ _ rfl) ?_
    refine r_goto 685 rfl (dd_L_act_4 47 _ _ _ rfl) ?_
    refine r_callSH (lvl := 16) (mc1 := 4) (ms1 := 40) (As := [.ref x, .int (zI (ve)), .int (zI (wh)), .int (zI (fe)), .int (zI (v))]) (rest := []) (bc - 4) (bs - 40) hg rfl mh_test ws_L_test (tb_5 42 _ rfl) (by decide) (by decide) rfl (Nat.le_of_ble_eq_true rfl) (by omega) (by omega) rfl 688 rfl (dd_L_act_4 51 _ _ _ rfl) ?_
    refine hd x o h _ c (fun o1 h1 c1 st1 => ?_)
    dsimp only [zCont, Option.toList, List.cons_append, List.nil_append]
    refine r_lreturn rfl (dd_L_act_4 52 _ _ _ rfl) ?_
    exact k o1 h1 c1 st1
theorem a_insure {g : zGT} (hg : zG g) (hnx : zNX g) {n : Nat} {S : zS} (hS : zOK n S) (hn : n < 512) {v td od ve pe mu fe wh is so : Int} (hv : zR v) (hA : zArgs td od ve pe mu fe wh is so) : ∃ (t : Int) (S2 : zS), zRes n S t S2 ∧ aX g S n 689 v td od ve pe mu fe wh is so t S2 := by
  obtain ⟨hod, hve, hpe, hmu, hfe, hwh, his, hso, htd, hnd⟩ := hA
  rcases hod with rfl | rfl
  · have hn0 := hnd rfl
    obtain ⟨t, S2, R, hd⟩ := d_insure hg hnx hS hn (v := ve) (to := td + mu - 1) (by omega) (by omega)
    refine ⟨t, S2, R, fun x o h mc ms Q bc bs c hb hb2 k => ?_⟩
    refine r_aload_0 690 rfl (dd_L_act_4 53 _ _ _ rfl) ?_
    refine r_iload_4 692 rfl (dd_L_act_4 54 _ _ _ rfl) ?_
    refine r_iload_3 693 rfl (dd_L_act_4 55 _ _ _ rfl) ?_
    refine r_ifeq (by omega) 696 rfl 702 rfl (dd_L_act_4 56 _ _ _ rfl) (fun _ => ?_) (fun q => absurd q (by decide))
    refine r_iload_2 703 rfl (dd_L_act_5 1 _ _ _ rfl) ?_
    refine r_iload_6 705 rfl (dd_L_act_5 2 _ _ _ rfl) ?_
    refine r_iadd 706 rfl (dd_L_act_5 3 _ _ _ rfl) ?_
    refine r_iconst 707 rfl (dd_L_act_5 4 _ _ _ rfl) ?_
    refine r_isub 708 rfl (dd_L_act_5 5 _ _ _ rfl) ?_
    refine r_callSH (lvl := 16) (mc1 := 6) (ms1 := 4300) (As := [.ref x, .int (zI (ve)), .int (zI (td + mu - 1))]) (rest := []) (bc - 6) (bs - 4300) hg rfl mh_insure ws_L_insure (tb_5 56 _ rfl) (by decide) (by decide) rfl (Nat.le_of_ble_eq_true rfl) (by omega) (by omega) rfl 711 rfl (dd_L_act_5 6 _ _ _ rfl) ?_
    refine hd x o h _ c (fun o1 h1 c1 st1 => ?_)
    dsimp only [zCont, Option.toList, List.cons_append, List.nil_append]
    refine r_lreturn rfl (dd_L_act_5 7 _ _ _ rfl) ?_
    exact k o1 h1 c1 st1
  · obtain ⟨t, S2, R, hd⟩ := d_insure hg hnx hS hn (v := ve) (to := zshr v 5) (by omega) (zshr_R _ _)
    refine ⟨t, S2, R, fun x o h mc ms Q bc bs c hb hb2 k => ?_⟩
    refine r_aload_0 690 rfl (dd_L_act_4 53 _ _ _ rfl) ?_
    refine r_iload_4 692 rfl (dd_L_act_4 54 _ _ _ rfl) ?_
    refine r_iload_3 693 rfl (dd_L_act_4 55 _ _ _ rfl) ?_
    refine r_ifeq (by omega) 696 rfl 702 rfl (dd_L_act_4 56 _ _ _ rfl) (fun q => absurd q (by decide)) (fun _ => ?_)
    refine r_iload_1 697 rfl (dd_L_act_4 57 _ _ _ rfl) ?_
    refine r_iconst 698 rfl (dd_L_act_4 58 _ _ _ rfl) ?_
    refine r_ishr 699 rfl (dd_L_act_4 59 _ _ _ rfl) ?_
    refine r_goto 708 rfl (dd_L_act_5 0 _ _ _ rfl) ?_
    refine r_callSH (lvl := 16) (mc1 := 6) (ms1 := 4300) (As := [.ref x, .int (zI (ve)), .int (zI (zshr v 5))]) (rest := []) (bc - 6) (bs - 4300) hg rfl mh_insure ws_L_insure (tb_5 56 _ rfl) (by decide) (by decide) rfl (Nat.le_of_ble_eq_true rfl) (by omega) (by omega) rfl 711 rfl (dd_L_act_5 6 _ _ _ rfl) ?_
    refine hd x o h _ c (fun o1 h1 c1 st1 => ?_)
    dsimp only [zCont, Option.toList, List.cons_append, List.nil_append]
    refine r_lreturn rfl (dd_L_act_5 7 _ _ _ rfl) ?_
    exact k o1 h1 c1 st1
theorem a_ofVehicle {g : zGT} (hg : zG g) (hnx : zNX g) {n : Nat} {S : zS} (hS : zOK n S) (hn : n < 512) {v td od ve pe mu fe wh is so : Int} (hv : zR v) (hA : zArgs td od ve pe mu fe wh is so) : ∃ (t : Int) (S2 : zS), zRq S t S2 ∧ aX g S n 712 v td od ve pe mu fe wh is so t S2 := by
  obtain ⟨hod, hve, hpe, hmu, hfe, hwh, his, hso, htd, hnd⟩ := hA
  rcases hod with rfl | rfl
  · have hn0 := hnd rfl
    have z1 := zlow_range (a := zshr v 9) (n := 5) (by decide)
    obtain ⟨t, R, hd⟩ := d_ofVehicle hg hnx hS (v := ve) (q := zlow (zshr v 9) 5) (by omega) (by omega)
    refine ⟨t, S, ⟨rfl, by have e := R.1; omega⟩, fun x o h mc ms Q bc bs c hb hb2 k => ?_⟩
    refine r_aload_0 713 rfl (dd_L_act_5 8 _ _ _ rfl) ?_
    refine r_iload_4 715 rfl (dd_L_act_5 9 _ _ _ rfl) ?_
    refine r_iload_3 716 rfl (dd_L_act_5 10 _ _ _ rfl) ?_
    refine r_ifeq (by omega) 719 rfl 724 rfl (dd_L_act_5 11 _ _ _ rfl) (fun _ => ?_) (fun q => absurd q (by decide))
    refine r_iload_1 725 rfl (dd_L_act_5 14 _ _ _ rfl) ?_
    refine r_bipush (by decide) 727 rfl (dd_L_act_5 15 _ _ _ rfl) ?_
    refine r_ishr 728 rfl (dd_L_act_5 16 _ _ _ rfl) ?_
    refine r_iconst 729 rfl (dd_L_act_5 17 _ _ _ rfl) ?_
    refine r_callS2 (lvl := 10) (mc1 := 0) (ms1 := 0) bc bs hg rfl md_L_low ws_L_low (tb_1 155 _ rfl) (by decide) (by decide) rfl (Nat.le_of_ble_eq_true rfl) (by omega) (by omega) 732 rfl (dd_L_act_5 18 _ _ _ rfl) ?_
    refine c_L_low hg (by omega) (fun la1 lb1 => ?_)
    dsimp only [zCont, Option.toList, List.cons_append, List.nil_append]
    refine r_callSH (lvl := 18) (mc1 := 4) (ms1 := 40) (As := [.ref x, .int (zI (ve)), .int (zI (zlow (zshr v 9) 5))]) (rest := []) (bc - 4) (bs - 40) hg rfl mh_ofVehicle ws_L_ofVehicle (tb_5 63 _ rfl) (by decide) (by decide) rfl (Nat.le_of_ble_eq_true rfl) (by omega) (by omega) rfl 735 rfl (dd_L_act_5 19 _ _ _ rfl) ?_
    refine hd x o h _ c ?_
    dsimp only [zCont, Option.toList, List.cons_append, List.nil_append]
    refine r_lreturn rfl (dd_L_act_5 20 _ _ _ rfl) ?_
    exact k o h c.up .refl
  · obtain ⟨t, R, hd⟩ := d_ofVehicle hg hnx hS (v := ve) (q := mu) (by omega) (by omega)
    refine ⟨t, S, ⟨rfl, by have e := R.1; omega⟩, fun x o h mc ms Q bc bs c hb hb2 k => ?_⟩
    refine r_aload_0 713 rfl (dd_L_act_5 8 _ _ _ rfl) ?_
    refine r_iload_4 715 rfl (dd_L_act_5 9 _ _ _ rfl) ?_
    refine r_iload_3 716 rfl (dd_L_act_5 10 _ _ _ rfl) ?_
    refine r_ifeq (by omega) 719 rfl 724 rfl (dd_L_act_5 11 _ _ _ rfl) (fun q => absurd q (by decide)) (fun _ => ?_)
    refine r_iload_6 721 rfl (dd_L_act_5 12 _ _ _ rfl) ?_
    refine r_goto 732 rfl (dd_L_act_5 13 _ _ _ rfl) ?_
    refine r_callSH (lvl := 18) (mc1 := 4) (ms1 := 40) (As := [.ref x, .int (zI (ve)), .int (zI (mu))]) (rest := []) (bc - 4) (bs - 40) hg rfl mh_ofVehicle ws_L_ofVehicle (tb_5 63 _ rfl) (by decide) (by decide) rfl (Nat.le_of_ble_eq_true rfl) (by omega) (by omega) rfl 735 rfl (dd_L_act_5 19 _ _ _ rfl) ?_
    refine hd x o h _ c ?_
    dsimp only [zCont, Option.toList, List.cons_append, List.nil_append]
    refine r_lreturn rfl (dd_L_act_5 20 _ _ _ rfl) ?_
    exact k o h c.up .refl
theorem a_sight {g : zGT} (hg : zG g) (hnx : zNX g) {mi : Nat} (hm : zMi g mi) {n : Nat} {S : zS} (hS : zOK n S) (hn : n < 512) {v td od ve pe mu fe wh is so : Int} (hv : zR v) (hA : zArgs td od ve pe mu fe wh is so) : ∃ (t : Int) (S2 : zS), zRt n S t S2 ∧ aX g S n 736 v td od ve pe mu fe wh is so t S2 := by
  obtain ⟨hod, hve, hpe, hmu, hfe, hwh, his, hso, htd, hnd⟩ := hA
  rcases hod with rfl | rfl
  · have hn0 := hnd rfl
    have z1 := zlow_range (a := zshr v 9) (n := 10) (by decide)
    have z2 := zlow_range (a := zshr v 3) (n := 1440) (by decide)
    obtain ⟨S1, R1, hh⟩ := c_types hg hS (zlow (zshr v 5) 3 + 6 * zand (zshr v 8) 65535)
    obtain ⟨t, S2, R, hd⟩ := d_sight hg hnx hm R1.1 hn (a := zlow (zshr v 9) 10) (c := zlow (zshr v 3) 1440) (by omega) (by omega)
    refine ⟨t, S2, .of R1 R, fun x o h mc ms Q bc bs c hb hb2 k => ?_⟩
    refine r_aload_0 737 rfl (dd_L_act_5 21 _ _ _ rfl) ?_
    refine r_iload_1 738 rfl (dd_L_act_5 22 _ _ _ rfl) ?_
    refine r_iconst 739 rfl (dd_L_act_5 23 _ _ _ rfl) ?_
    refine r_ishr 740 rfl (dd_L_act_5 24 _ _ _ rfl) ?_
    refine r_iconst 741 rfl (dd_L_act_5 25 _ _ _ rfl) ?_
    refine r_callS2 (lvl := 10) (mc1 := 0) (ms1 := 0) bc bs hg rfl md_L_low ws_L_low (tb_1 155 _ rfl) (by decide) (by decide) rfl (Nat.le_of_ble_eq_true rfl) (by omega) (by omega) 744 rfl (dd_L_act_5 26 _ _ _ rfl) ?_
    refine c_L_low hg (by omega) (fun la1 lb1 => ?_)
    dsimp only [zCont, Option.toList, List.cons_append, List.nil_append]
    refine r_bipush (by decide) 746 rfl (dd_L_act_5 27 _ _ _ rfl) ?_
    refine r_iload_1 747 rfl (dd_L_act_5 28 _ _ _ rfl) ?_
    refine r_bipush (by decide) 749 rfl (dd_L_act_5 29 _ _ _ rfl) ?_
    refine r_ishr 750 rfl (dd_L_act_5 30 _ _ _ rfl) ?_
    refine r_ldc hg (tb_5 104 _ rfl) 752 rfl (dd_L_act_5 31 _ _ _ rfl) ?_
    refine r_top 65535 rfl ?_
    refine r_iandz 753 rfl (dd_L_act_5 32 _ _ _ rfl) ?_
    refine r_imul 754 rfl (dd_L_act_5 33 _ _ _ rfl) ?_
    refine r_iadd 755 rfl (dd_L_act_5 34 _ _ _ rfl) ?_
    refine r_callS2 (lvl := 15) (mc1 := 44) (ms1 := 440) (bc - 44) (bs - 440) hg rfl md_L_types ws_L_types (tb_4 177 _ rfl) (by decide) (by decide) rfl (Nat.le_of_ble_eq_true rfl) (by omega) (by omega) 758 rfl (dd_L_act_5 35 _ _ _ rfl) ?_
    refine hh x o h _ c (fun o1 h1 c1 st1 => ?_)
    dsimp only [zCont, Option.toList, List.cons_append, List.nil_append]
    refine r_aload_0 759 rfl (dd_L_act_5 36 _ _ _ rfl) ?_
    refine r_iload_3 760 rfl (dd_L_act_5 37 _ _ _ rfl) ?_
    refine r_ifeq (by omega) 763 rfl 768 rfl (dd_L_act_5 38 _ _ _ rfl) (fun _ => ?_) (fun q => absurd q (by decide))
    refine r_iload_1 769 rfl (dd_L_act_5 41 _ _ _ rfl) ?_
    refine r_bipush (by decide) 771 rfl (dd_L_act_5 42 _ _ _ rfl) ?_
    refine r_ishr 772 rfl (dd_L_act_5 43 _ _ _ rfl) ?_
    refine r_bipush (by decide) 774 rfl (dd_L_act_5 44 _ _ _ rfl) ?_
    refine r_callS2 (lvl := 10) (mc1 := 0) (ms1 := 0) (bc - 44) (bs - 440) hg rfl md_L_low ws_L_low (tb_1 155 _ rfl) (by decide) (by decide) rfl (Nat.le_of_ble_eq_true rfl) (by omega) (by omega) 777 rfl (dd_L_act_5 45 _ _ _ rfl) ?_
    refine c_L_low hg (by omega) (fun la2 lb2 => ?_)
    dsimp only [zCont, Option.toList, List.cons_append, List.nil_append]
    refine r_iload_3 778 rfl (dd_L_act_5 46 _ _ _ rfl) ?_
    refine r_ifeq (by omega) 781 rfl 785 rfl (dd_L_act_5 47 _ _ _ rfl) (fun _ => ?_) (fun q => absurd q (by decide))
    refine r_iload_1 786 rfl (dd_L_act_5 50 _ _ _ rfl) ?_
    refine r_iconst 787 rfl (dd_L_act_5 51 _ _ _ rfl) ?_
    refine r_ishr 788 rfl (dd_L_act_5 52 _ _ _ rfl) ?_
    refine r_sipush (by decide) 791 rfl (dd_L_act_5 53 _ _ _ rfl) ?_
    refine r_callS2 (lvl := 10) (mc1 := 0) (ms1 := 0) (bc - 44) (bs - 440) hg rfl md_L_low ws_L_low (tb_1 155 _ rfl) (by decide) (by decide) rfl (Nat.le_of_ble_eq_true rfl) (by omega) (by omega) 794 rfl (dd_L_act_5 54 _ _ _ rfl) ?_
    refine c_L_low hg (by omega) (fun la3 lb3 => ?_)
    dsimp only [zCont, Option.toList, List.cons_append, List.nil_append]
    refine r_callSH (lvl := 19) (mc1 := 14) (ms1 := 300) (As := [.ref x, .int (zI (zlow (zshr v 9) 10)), .int (zI (zlow (zshr v 3) 1440))]) (rest := []) ((bc - 44) - 14) ((bs - 440) - 300) hg rfl mh_sight ws_L_sight (tb_5 105 _ rfl) (by decide) (by decide) rfl (Nat.le_of_ble_eq_true rfl) (by omega) (by omega) rfl 797 rfl (dd_L_act_5 55 _ _ _ rfl) ?_
    refine hd x o1 h1 _ c1 (fun o2 h2 c2 st2 => ?_)
    dsimp only [zCont, Option.toList, List.cons_append, List.nil_append]
    refine r_lreturn rfl (dd_L_act_5 56 _ _ _ rfl) ?_
    exact k o2 h2 c2 (st1.trans st2)
  · obtain ⟨S1, R1, hh⟩ := c_types hg hS (zlow (zshr v 5) 3 + 6 * zand (zshr v 8) 65535)
    obtain ⟨t, S2, R, hd⟩ := d_sight hg hnx hm R1.1 hn (a := mu) (c := v) (by omega) (by omega)
    refine ⟨t, S2, .of R1 R, fun x o h mc ms Q bc bs c hb hb2 k => ?_⟩
    refine r_aload_0 737 rfl (dd_L_act_5 21 _ _ _ rfl) ?_
    refine r_iload_1 738 rfl (dd_L_act_5 22 _ _ _ rfl) ?_
    refine r_iconst 739 rfl (dd_L_act_5 23 _ _ _ rfl) ?_
    refine r_ishr 740 rfl (dd_L_act_5 24 _ _ _ rfl) ?_
    refine r_iconst 741 rfl (dd_L_act_5 25 _ _ _ rfl) ?_
    refine r_callS2 (lvl := 10) (mc1 := 0) (ms1 := 0) bc bs hg rfl md_L_low ws_L_low (tb_1 155 _ rfl) (by decide) (by decide) rfl (Nat.le_of_ble_eq_true rfl) (by omega) (by omega) 744 rfl (dd_L_act_5 26 _ _ _ rfl) ?_
    refine c_L_low hg (by omega) (fun la1 lb1 => ?_)
    dsimp only [zCont, Option.toList, List.cons_append, List.nil_append]
    refine r_bipush (by decide) 746 rfl (dd_L_act_5 27 _ _ _ rfl) ?_
    refine r_iload_1 747 rfl (dd_L_act_5 28 _ _ _ rfl) ?_
    refine r_bipush (by decide) 749 rfl (dd_L_act_5 29 _ _ _ rfl) ?_
    refine r_ishr 750 rfl (dd_L_act_5 30 _ _ _ rfl) ?_
    refine r_ldc hg (tb_5 104 _ rfl) 752 rfl (dd_L_act_5 31 _ _ _ rfl) ?_
    refine r_top 65535 rfl ?_
    refine r_iandz 753 rfl (dd_L_act_5 32 _ _ _ rfl) ?_
    refine r_imul 754 rfl (dd_L_act_5 33 _ _ _ rfl) ?_
    refine r_iadd 755 rfl (dd_L_act_5 34 _ _ _ rfl) ?_
    refine r_callS2 (lvl := 15) (mc1 := 44) (ms1 := 440) (bc - 44) (bs - 440) hg rfl md_L_types ws_L_types (tb_4 177 _ rfl) (by decide) (by decide) rfl (Nat.le_of_ble_eq_true rfl) (by omega) (by omega) 758 rfl (dd_L_act_5 35 _ _ _ rfl) ?_
    refine hh x o h _ c (fun o1 h1 c1 st1 => ?_)
    dsimp only [zCont, Option.toList, List.cons_append, List.nil_append]
    refine r_aload_0 759 rfl (dd_L_act_5 36 _ _ _ rfl) ?_
    refine r_iload_3 760 rfl (dd_L_act_5 37 _ _ _ rfl) ?_
    refine r_ifeq (by omega) 763 rfl 768 rfl (dd_L_act_5 38 _ _ _ rfl) (fun q => absurd q (by decide)) (fun _ => ?_)
    refine r_iload_6 765 rfl (dd_L_act_5 39 _ _ _ rfl) ?_
    refine r_goto 777 rfl (dd_L_act_5 40 _ _ _ rfl) ?_
    refine r_iload_3 778 rfl (dd_L_act_5 46 _ _ _ rfl) ?_
    refine r_ifeq (by omega) 781 rfl 785 rfl (dd_L_act_5 47 _ _ _ rfl) (fun q => absurd q (by decide)) (fun _ => ?_)
    refine r_iload_1 782 rfl (dd_L_act_5 48 _ _ _ rfl) ?_
    refine r_goto 794 rfl (dd_L_act_5 49 _ _ _ rfl) ?_
    refine r_callSH (lvl := 19) (mc1 := 14) (ms1 := 300) (As := [.ref x, .int (zI (mu)), .int (zI (v))]) (rest := []) ((bc - 44) - 14) ((bs - 440) - 300) hg rfl mh_sight ws_L_sight (tb_5 105 _ rfl) (by decide) (by decide) rfl (Nat.le_of_ble_eq_true rfl) (by omega) (by omega) rfl 797 rfl (dd_L_act_5 55 _ _ _ rfl) ?_
    refine hd x o1 h1 _ c1 (fun o2 h2 c2 st2 => ?_)
    dsimp only [zCont, Option.toList, List.cons_append, List.nil_append]
    refine r_lreturn rfl (dd_L_act_5 56 _ _ _ rfl) ?_
    exact k o2 h2 c2 (st1.trans st2)
theorem a_seen {g : zGT} (hg : zG g) (hnx : zNX g) {n : Nat} {S : zS} (hS : zOK n S) (hn : n < 512) {v td od ve pe mu fe wh is so : Int} (hv : zR v) (hA : zArgs td od ve pe mu fe wh is so) : ∃ (t : Int) (S2 : zS), zRq S t S2 ∧ aX g S n 798 v td od ve pe mu fe wh is so t S2 := by
  obtain ⟨hod, hve, hpe, hmu, hfe, hwh, his, hso, htd, hnd⟩ := hA
  obtain ⟨t, R, hd⟩ := d_seen hg hnx hS (v := so) (by omega)
  refine ⟨t, S, ⟨rfl, by have e := R.1; omega⟩, fun x o h mc ms Q bc bs c hb hb2 k => ?_⟩
  refine r_aload_0 799 rfl (dd_L_act_5 57 _ _ _ rfl) ?_
  refine r_iload_10 801 rfl (dd_L_act_5 58 _ _ _ rfl) ?_
  refine r_callSH (lvl := 17) (mc1 := 4) (ms1 := 40) (As := [.ref x, .int (zI (so))]) (rest := []) (bc - 4) (bs - 40) hg rfl mh_seen ws_L_seen (tb_5 143 _ rfl) (by decide) (by decide) rfl (Nat.le_of_ble_eq_true rfl) (by omega) (by omega) rfl 804 rfl (dd_L_act_5 59 _ _ _ rfl) ?_
  refine hd x o h _ c ?_
  dsimp only [zCont, Option.toList, List.cons_append, List.nil_append]
  refine r_lreturn rfl (dd_L_act_6 0 _ _ _ rfl) ?_
  exact k o h c.up .refl
theorem a_fine {g : zGT} (hg : zG g) (hnx : zNX g) {mi : Nat} (hm : zMi g mi) {n : Nat} {S : zS} (hS : zOK n S) (hn : n < 512) {v td od ve pe mu fe wh is so : Int} (hv : zR v) (hA : zArgs td od ve pe mu fe wh is so) : ∃ (t : Int) (S2 : zS), zRes n S t S2 ∧ aX g S n 805 v td od ve pe mu fe wh is so t S2 := by
  obtain ⟨hod, hve, hpe, hmu, hfe, hwh, his, hso, htd, hnd⟩ := hA
  rcases hod with rfl | rfl
  · have hn0 := hnd rfl
    obtain ⟨t, S2, R, hd⟩ := d_fine hg hnx hm hS hn (v := so) (b := 1 + mu) (by omega) (by omega)
    refine ⟨t, S2, R, fun x o h mc ms Q bc bs c hb hb2 k => ?_⟩
    refine r_aload_0 806 rfl (dd_L_act_6 1 _ _ _ rfl) ?_
    refine r_iload_10 808 rfl (dd_L_act_6 2 _ _ _ rfl) ?_
    refine r_iload_3 809 rfl (dd_L_act_6 3 _ _ _ rfl) ?_
    refine r_ifeq (by omega) 812 rfl 817 rfl (dd_L_act_6 4 _ _ _ rfl) (fun _ => ?_) (fun q => absurd q (by decide))
    refine r_iconst 818 rfl (dd_L_act_6 7 _ _ _ rfl) ?_
    refine r_iload_6 820 rfl (dd_L_act_6 8 _ _ _ rfl) ?_
    refine r_iadd 821 rfl (dd_L_act_6 9 _ _ _ rfl) ?_
    refine r_callSH (lvl := 18) (mc1 := 6) (ms1 := 150) (As := [.ref x, .int (zI (so)), .int (zI (1 + mu))]) (rest := []) (bc - 6) (bs - 150) hg rfl mh_fine ws_L_fine (tb_5 154 _ rfl) (by decide) (by decide) rfl (Nat.le_of_ble_eq_true rfl) (by omega) (by omega) rfl 824 rfl (dd_L_act_6 10 _ _ _ rfl) ?_
    refine hd x o h _ c (fun o1 h1 c1 st1 => ?_)
    dsimp only [zCont, Option.toList, List.cons_append, List.nil_append]
    refine r_lreturn rfl (dd_L_act_6 11 _ _ _ rfl) ?_
    exact k o1 h1 c1 st1
  · obtain ⟨t, S2, R, hd⟩ := d_fine hg hnx hm hS hn (v := so) (b := mu) (by omega) (by omega)
    refine ⟨t, S2, R, fun x o h mc ms Q bc bs c hb hb2 k => ?_⟩
    refine r_aload_0 806 rfl (dd_L_act_6 1 _ _ _ rfl) ?_
    refine r_iload_10 808 rfl (dd_L_act_6 2 _ _ _ rfl) ?_
    refine r_iload_3 809 rfl (dd_L_act_6 3 _ _ _ rfl) ?_
    refine r_ifeq (by omega) 812 rfl 817 rfl (dd_L_act_6 4 _ _ _ rfl) (fun q => absurd q (by decide)) (fun _ => ?_)
    refine r_iload_6 814 rfl (dd_L_act_6 5 _ _ _ rfl) ?_
    refine r_goto 821 rfl (dd_L_act_6 6 _ _ _ rfl) ?_
    refine r_callSH (lvl := 18) (mc1 := 6) (ms1 := 150) (As := [.ref x, .int (zI (so)), .int (zI (mu))]) (rest := []) (bc - 6) (bs - 150) hg rfl mh_fine ws_L_fine (tb_5 154 _ rfl) (by decide) (by decide) rfl (Nat.le_of_ble_eq_true rfl) (by omega) (by omega) rfl 824 rfl (dd_L_act_6 10 _ _ _ rfl) ?_
    refine hd x o h _ c (fun o1 h1 c1 st1 => ?_)
    dsimp only [zCont, Option.toList, List.cons_append, List.nil_append]
    refine r_lreturn rfl (dd_L_act_6 11 _ _ _ rfl) ?_
    exact k o1 h1 c1 st1
theorem a_name {g : zGT} (hg : zG g) (hnx : zNX g) {n : Nat} {S : zS} (hS : zOK n S) (hn : n < 512) {v td od ve pe mu fe wh is so : Int} (hv : zR v) (hA : zArgs td od ve pe mu fe wh is so) : ∃ (t : Int) (S2 : zS), zRes n S t S2 ∧ aX g S n 825 v td od ve pe mu fe wh is so t S2 := by
  obtain ⟨hod, hve, hpe, hmu, hfe, hwh, his, hso, htd, hnd⟩ := hA
  rcases hod with rfl | rfl
  · have hn0 := hnd rfl
    have z1 := zlow_range (a := zshr v 11) (n := 2) (by decide)
    obtain ⟨t, S2, R, hd⟩ := d_name hg hnx hS hn (v := zlow (zshr v 11) 2) (b := pe) (by omega) (by omega)
    refine ⟨t, S2, R, fun x o h mc ms Q bc bs c hb hb2 k => ?_⟩
    refine r_aload_0 826 rfl (dd_L_act_6 12 _ _ _ rfl) ?_
    refine r_iload_3 827 rfl (dd_L_act_6 13 _ _ _ rfl) ?_
    refine r_ifeq (by omega) 830 rfl 835 rfl (dd_L_act_6 14 _ _ _ rfl) (fun _ => ?_) (fun q => absurd q (by decide))
    refine r_iload_1 836 rfl (dd_L_act_6 17 _ _ _ rfl) ?_
    refine r_bipush (by decide) 838 rfl (dd_L_act_6 18 _ _ _ rfl) ?_
    refine r_ishr 839 rfl (dd_L_act_6 19 _ _ _ rfl) ?_
    refine r_iconst 840 rfl (dd_L_act_6 20 _ _ _ rfl) ?_
    refine r_callS2 (lvl := 10) (mc1 := 0) (ms1 := 0) bc bs hg rfl md_L_low ws_L_low (tb_1 155 _ rfl) (by decide) (by decide) rfl (Nat.le_of_ble_eq_true rfl) (by omega) (by omega) 843 rfl (dd_L_act_6 21 _ _ _ rfl) ?_
    refine c_L_low hg (by omega) (fun la1 lb1 => ?_)
    dsimp only [zCont, Option.toList, List.cons_append, List.nil_append]
    refine r_iload_5 845 rfl (dd_L_act_6 22 _ _ _ rfl) ?_
    refine r_callSH (lvl := 18) (mc1 := 4) (ms1 := 40) (As := [.ref x, .int (zI (zlow (zshr v 11) 2)), .int (zI (pe))]) (rest := []) (bc - 4) (bs - 40) hg rfl mh_name ws_L_name (tb_5 188 _ rfl) (by decide) (by decide) rfl (Nat.le_of_ble_eq_true rfl) (by omega) (by omega) rfl 848 rfl (dd_L_act_6 23 _ _ _ rfl) ?_
    refine hd x o h _ c (fun o1 h1 c1 st1 => ?_)
    dsimp only [zCont, Option.toList, List.cons_append, List.nil_append]
    refine r_lreturn rfl (dd_L_act_6 24 _ _ _ rfl) ?_
    exact k o1 h1 c1 st1
  · obtain ⟨t, S2, R, hd⟩ := d_name hg hnx hS hn (v := so) (b := pe) (by omega) (by omega)
    refine ⟨t, S2, R, fun x o h mc ms Q bc bs c hb hb2 k => ?_⟩
    refine r_aload_0 826 rfl (dd_L_act_6 12 _ _ _ rfl) ?_
    refine r_iload_3 827 rfl (dd_L_act_6 13 _ _ _ rfl) ?_
    refine r_ifeq (by omega) 830 rfl 835 rfl (dd_L_act_6 14 _ _ _ rfl) (fun q => absurd q (by decide)) (fun _ => ?_)
    refine r_iload_10 832 rfl (dd_L_act_6 15 _ _ _ rfl) ?_
    refine r_goto 843 rfl (dd_L_act_6 16 _ _ _ rfl) ?_
    refine r_iload_5 845 rfl (dd_L_act_6 22 _ _ _ rfl) ?_
    refine r_callSH (lvl := 18) (mc1 := 4) (ms1 := 40) (As := [.ref x, .int (zI (so)), .int (zI (pe))]) (rest := []) (bc - 4) (bs - 40) hg rfl mh_name ws_L_name (tb_5 188 _ rfl) (by decide) (by decide) rfl (Nat.le_of_ble_eq_true rfl) (by omega) (by omega) rfl 848 rfl (dd_L_act_6 23 _ _ _ rfl) ?_
    refine hd x o h _ c (fun o1 h1 c1 st1 => ?_)
    dsimp only [zCont, Option.toList, List.cons_append, List.nil_append]
    refine r_lreturn rfl (dd_L_act_6 24 _ _ _ rfl) ?_
    exact k o1 h1 c1 st1
theorem a_whose {g : zGT} (hg : zG g) (hnx : zNX g) {n : Nat} {S : zS} (hS : zOK n S) (hn : n < 512) {v td od ve pe mu fe wh is so : Int} (hv : zR v) (hA : zArgs td od ve pe mu fe wh is so) : ∃ (t : Int) (S2 : zS), zRq S t S2 ∧ aX g S n 849 v td od ve pe mu fe wh is so t S2 := by
  obtain ⟨hod, hve, hpe, hmu, hfe, hwh, his, hso, htd, hnd⟩ := hA
  obtain ⟨t1, B1, hd1⟩ := d_whose hg hnx hS (v := so) (by omega)
  obtain ⟨t2, B2, hd2⟩ := d_fines hg hnx hS (v := pe) (by omega)
  refine ⟨t1 + t2, S, ⟨rfl, by have e := B1; have e2 := B2.1; omega⟩, fun x o h mc ms Q bc bs c hb hb2 k => ?_⟩
  refine r_aload_0 850 rfl (dd_L_act_6 25 _ _ _ rfl) ?_
  refine r_iload_10 852 rfl (dd_L_act_6 26 _ _ _ rfl) ?_
  refine r_callSH (lvl := 18) (mc1 := 4) (ms1 := 40) (As := [.ref x, .int (zI (so))]) (rest := []) (bc - 4) (bs - 40) hg rfl mh_whose ws_L_whose (tb_5 207 _ rfl) (by decide) (by decide) rfl (Nat.le_of_ble_eq_true rfl) (by omega) (by omega) rfl 855 rfl (dd_L_act_6 27 _ _ _ rfl) ?_
  refine hd1 x o h _ c ?_
  dsimp only [zCont, Option.toList, List.cons_append, List.nil_append]
  refine r_aload_0 856 rfl (dd_L_act_6 28 _ _ _ rfl) ?_
  refine r_iload_5 858 rfl (dd_L_act_6 29 _ _ _ rfl) ?_
  refine r_callSH (lvl := 18) (mc1 := 4) (ms1 := 40) (As := [.ref x, .int (zI (pe))]) (rest := [.long (zL t1)]) ((bc - 4) - 4) ((bs - 40) - 40) hg rfl mh_fines ws_L_fines (tb_5 214 _ rfl) (by decide) (by decide) rfl (Nat.le_of_ble_eq_true rfl) (by omega) (by omega) rfl 861 rfl (dd_L_act_6 30 _ _ _ rfl) ?_
  refine hd2 x o h _ c ?_
  dsimp only [zCont, Option.toList, List.cons_append, List.nil_append]
  refine r_ladd 862 rfl (dd_L_act_6 31 _ _ _ rfl) ?_
  refine r_lreturn rfl (dd_L_act_6 32 _ _ _ rfl) ?_
  exact k o h c.up .refl
theorem a_look {g : zGT} (hg : zG g) (hnx : zNX g) (hcs : zCS g) {p0 p1 p2 : Nat} (g0 : zSR g 360 "police" p0) (w0 : zWd g p0 [112, 111, 108, 105, 99, 101]) (g1 : zSR g 372 "insurer" p1) (w1 : zWd g p1 [105, 110, 115, 117, 114, 101, 114]) (g2 : zSR g 374 "clamper" p2) (w2 : zWd g p2 [99, 108, 97, 109, 112, 101, 114]) {n : Nat} {S : zS} (hS : zOK n S) (hn : n < 512) {v td od ve pe mu fe wh is so : Int} (hv : zR v) (hA : zArgs td od ve pe mu fe wh is so) : ∃ (t : Int) (S2 : zS), zRt n S t S2 ∧ aX g S n 863 v td od ve pe mu fe wh is so t S2 := by
  obtain ⟨hod, hve, hpe, hmu, hfe, hwh, his, hso, htd, hnd⟩ := hA
  obtain ⟨S1, R1, hh⟩ := c_types hg hS (3 + zlow (zshr v 5) 3 + 6 * zand (zshr v 8) 255)
  obtain ⟨t, S2, R, hd⟩ := d_look hg hnx R1.1 hn hcs g0 w0 g1 w1 g2 w2 (v := ve) (by omega)
  refine ⟨t, S2, .of R1 R, fun x o h mc ms Q bc bs c hb hb2 k => ?_⟩
  refine r_aload_0 864 rfl (dd_L_act_6 33 _ _ _ rfl) ?_
  refine r_iconst 865 rfl (dd_L_act_6 34 _ _ _ rfl) ?_
  refine r_iload_1 866 rfl (dd_L_act_6 35 _ _ _ rfl) ?_
  refine r_iconst 867 rfl (dd_L_act_6 36 _ _ _ rfl) ?_
  refine r_ishr 868 rfl (dd_L_act_6 37 _ _ _ rfl) ?_
  refine r_iconst 869 rfl (dd_L_act_6 38 _ _ _ rfl) ?_
  refine r_callS2 (lvl := 10) (mc1 := 0) (ms1 := 0) bc bs hg rfl md_L_low ws_L_low (tb_1 155 _ rfl) (by decide) (by decide) rfl (Nat.le_of_ble_eq_true rfl) (by omega) (by omega) 872 rfl (dd_L_act_6 39 _ _ _ rfl) ?_
  refine c_L_low hg (by omega) (fun la1 lb1 => ?_)
  dsimp only [zCont, Option.toList, List.cons_append, List.nil_append]
  refine r_iadd 873 rfl (dd_L_act_6 40 _ _ _ rfl) ?_
  refine r_bipush (by decide) 875 rfl (dd_L_act_6 41 _ _ _ rfl) ?_
  refine r_iload_1 876 rfl (dd_L_act_6 42 _ _ _ rfl) ?_
  refine r_bipush (by decide) 878 rfl (dd_L_act_6 43 _ _ _ rfl) ?_
  refine r_ishr 879 rfl (dd_L_act_6 44 _ _ _ rfl) ?_
  refine r_sipush (by decide) 882 rfl (dd_L_act_6 45 _ _ _ rfl) ?_
  refine r_iandz 883 rfl (dd_L_act_6 46 _ _ _ rfl) ?_
  refine r_imul 884 rfl (dd_L_act_6 47 _ _ _ rfl) ?_
  refine r_iadd 885 rfl (dd_L_act_6 48 _ _ _ rfl) ?_
  refine r_callS2 (lvl := 15) (mc1 := 44) (ms1 := 440) (bc - 44) (bs - 440) hg rfl md_L_types ws_L_types (tb_4 177 _ rfl) (by decide) (by decide) rfl (Nat.le_of_ble_eq_true rfl) (by omega) (by omega) 888 rfl (dd_L_act_6 49 _ _ _ rfl) ?_
  refine hh x o h _ c (fun o1 h1 c1 st1 => ?_)
  dsimp only [zCont, Option.toList, List.cons_append, List.nil_append]
  refine r_aload_0 889 rfl (dd_L_act_6 50 _ _ _ rfl) ?_
  refine r_iload_4 891 rfl (dd_L_act_6 51 _ _ _ rfl) ?_
  refine r_callSH (lvl := 18) (mc1 := 4) (ms1 := 40) (As := [.ref x, .int (zI (ve))]) (rest := []) ((bc - 44) - 4) ((bs - 440) - 40) hg rfl mh_look ws_L_look (tb_5 221 _ rfl) (by decide) (by decide) rfl (Nat.le_of_ble_eq_true rfl) (by omega) (by omega) rfl 894 rfl (dd_L_act_6 52 _ _ _ rfl) ?_
  refine hd x o1 h1 _ c1 (fun o2 h2 c2 st2 => ?_)
  dsimp only [zCont, Option.toList, List.cons_append, List.nil_append]
  refine r_lreturn rfl (dd_L_act_6 53 _ _ _ rfl) ?_
  exact k o2 h2 c2 (st1.trans st2)
theorem a_pass {g : zGT} (hg : zG g) (hnx : zNX g) {n : Nat} {S : zS} (hS : zOK n S) (hn : n < 512) {v td od ve pe mu fe wh is so : Int} (hv : zR v) (hA : zArgs td od ve pe mu fe wh is so) : ∃ (t : Int) (S2 : zS), (zOK (n + 1) S2 ∧ zBd t ∧ (0 ≤ t → t = S2.1 1) ∧ (t < 0 → S2 = S)) ∧ aX g S n 895 v td od ve pe mu fe wh is so t S2 := by
  obtain ⟨hod, hve, hpe, hmu, hfe, hwh, his, hso, htd, hnd⟩ := hA
  rcases hod with rfl | rfl
  · have hn0 := hnd rfl
    have z1 := zlow_range (a := zshr v 9) (n := 60) (by decide)
    obtain ⟨t, S2, R, hd⟩ := d_pass hg hnx hS hn (v := 1 + zlow (zshr v 9) 60) (by omega)
    refine ⟨t, S2, R, fun x o h mc ms Q bc bs c hb hb2 k => ?_⟩
    refine r_aload_0 896 rfl (dd_L_act_6 54 _ _ _ rfl) ?_
    refine r_iload_3 897 rfl (dd_L_act_6 55 _ _ _ rfl) ?_
    refine r_ifeq (by omega) 900 rfl 905 rfl (dd_L_act_6 56 _ _ _ rfl) (fun _ => ?_) (fun q => absurd q (by decide))
    refine r_iconst 906 rfl (dd_L_act_6 59 _ _ _ rfl) ?_
    refine r_iload_1 907 rfl (dd_L_act_7 0 _ _ _ rfl) ?_
    refine r_bipush (by decide) 909 rfl (dd_L_act_7 1 _ _ _ rfl) ?_
    refine r_ishr 910 rfl (dd_L_act_7 2 _ _ _ rfl) ?_
    refine r_bipush (by decide) 912 rfl (dd_L_act_7 3 _ _ _ rfl) ?_
    refine r_callS2 (lvl := 10) (mc1 := 0) (ms1 := 0) bc bs hg rfl md_L_low ws_L_low (tb_1 155 _ rfl) (by decide) (by decide) rfl (Nat.le_of_ble_eq_true rfl) (by omega) (by omega) 915 rfl (dd_L_act_7 4 _ _ _ rfl) ?_
    refine c_L_low hg (by omega) (fun la1 lb1 => ?_)
    dsimp only [zCont, Option.toList, List.cons_append, List.nil_append]
    refine r_iadd 916 rfl (dd_L_act_7 5 _ _ _ rfl) ?_
    refine r_callSH (lvl := 15) (mc1 := 4) (ms1 := 40) (As := [.ref x, .int (zI (1 + zlow (zshr v 9) 60))]) (rest := []) (bc - 4) (bs - 40) hg rfl mh_pass ws_L_pass (tb_6 22 _ rfl) (by decide) (by decide) rfl (Nat.le_of_ble_eq_true rfl) (by omega) (by omega) rfl 919 rfl (dd_L_act_7 6 _ _ _ rfl) ?_
    refine hd x o h _ c (fun o1 h1 c1 st1 => ?_)
    dsimp only [zCont, Option.toList, List.cons_append, List.nil_append]
    refine r_lreturn rfl (dd_L_act_7 7 _ _ _ rfl) ?_
    exact k o1 h1 c1 st1
  · obtain ⟨t, S2, R, hd⟩ := d_pass hg hnx hS hn (v := mu) (by omega)
    refine ⟨t, S2, R, fun x o h mc ms Q bc bs c hb hb2 k => ?_⟩
    refine r_aload_0 896 rfl (dd_L_act_6 54 _ _ _ rfl) ?_
    refine r_iload_3 897 rfl (dd_L_act_6 55 _ _ _ rfl) ?_
    refine r_ifeq (by omega) 900 rfl 905 rfl (dd_L_act_6 56 _ _ _ rfl) (fun q => absurd q (by decide)) (fun _ => ?_)
    refine r_iload_6 902 rfl (dd_L_act_6 57 _ _ _ rfl) ?_
    refine r_goto 916 rfl (dd_L_act_6 58 _ _ _ rfl) ?_
    refine r_callSH (lvl := 15) (mc1 := 4) (ms1 := 40) (As := [.ref x, .int (zI (mu))]) (rest := []) (bc - 4) (bs - 40) hg rfl mh_pass ws_L_pass (tb_6 22 _ rfl) (by decide) (by decide) rfl (Nat.le_of_ble_eq_true rfl) (by omega) (by omega) rfl 919 rfl (dd_L_act_7 6 _ _ _ rfl) ?_
    refine hd x o h _ c (fun o1 h1 c1 st1 => ?_)
    dsimp only [zCont, Option.toList, List.cons_append, List.nil_append]
    refine r_lreturn rfl (dd_L_act_7 7 _ _ _ rfl) ?_
    exact k o1 h1 c1 st1
