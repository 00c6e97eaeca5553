set_option maxRecDepth 20000
theorem act_head {g : zGT} (hg : zG g) {v td : Int} (hv : zR v) (htd : 0 ≤ td ∧ td ≤ 20000) : ∃ od ve pe mu fe wh is so : Int, zArgs td od ve pe mu fe wh is so ∧ ∀ (x : Nat) (h : zH) (mc ms : Nat) (Q : zO → zH → Prop) (bc bs : Nat), zX g mL_act mc ms Q 182 [some (.ref x), some (.int (zI v)), some (.int (zI td)), some (.int (zI od)), some (.int (zI ve)), some (.int (zI pe)), some (.int (zI mu)), some (.int (zI fe)), some (.int (zI wh)), some (.int (zI is)), some (.int (zI so))] [.int (zI (zlow v 40))] h bc bs → zX g mL_act mc ms Q 0 [some (.ref x), some (.int (zI v)), some (.int (zI td)), none, none, none, none, none, none, none, none] [] h bc bs := by
  have z1 := zlow_range (a := zshr v 4) (n := 16) (by decide)
  have z2 := zlow_range (a := zshr v 4) (n := 3) (by decide)
  have z3 := zlow_range (a := zshr v 7) (n := 14) (by decide)
  have z4 := zlow_range (a := zshr v 7) (n := 4) (by decide)
  have z5 := zlow_range (a := zshr v 9) (n := 90) (by decide)
  have z6 := zlow_range (a := zshr v 6) (n := 8) (by decide)
  have z7 := zlow_range (a := zshr v 10) (n := td + 1) (by omega)
  have z8 := zlow_range (a := zshr v 11) (n := 5) (by decide)
  have z9 := zlow_range (a := zshr v 26) (n := 14) (by decide)
  have r1 := zshr_R v 9
  have r2 := zshr_R v 6
  have r3 := zshr_R v 3
  have r4 := zshr_R v 8
  have r5 := zand_R (zshr v 15) 1
  by_cases q1 : zlow (zshr v 26) 14 = 0
  · by_cases q2 : zand (zshr v 15) 1 = 1
    · refine ⟨1, zlow (zshr v 4) 16 - 2, zlow (zshr v 7) 14 - 2, zshr v 9, zshr v 6, zshr v 3, 1, zshr v 8, ⟨by omega, by omega, by omega, by omega, by omega, by omega, by omega, by omega, htd, by omega⟩, fun x h mc ms Q bc bs k => ?_⟩
      refine r_iload_1 1 rfl (dd_L_act_0 0 _ _ _ rfl) ?_
      refine r_bipush (by decide) 3 rfl (dd_L_act_0 1 _ _ _ rfl) ?_
      refine r_ishr 4 rfl (dd_L_act_0 2 _ _ _ rfl) ?_
      refine r_bipush (by decide) 6 rfl (dd_L_act_0 3 _ _ _ rfl) ?_
      refine r_callS2 (lvl := 10) (mc1 := 0) (ms1 := 0) bc bs hg rfl md_L_low ws_L_low (tb_1 155 _ rfl) (by decide) (by decide) rfl (Nat.le_of_ble_eq_true rfl) (by omega) (by omega) 9 rfl (dd_L_act_0 4 _ _ _ rfl) ?_
      refine c_L_low hg (by omega) (fun la1 lb1 => ?_)
      dsimp only [zCont, Option.toList, List.cons_append, List.nil_append]
      refine r_ifne (by omega) 12 rfl 16 rfl (dd_L_act_0 5 _ _ _ rfl) (fun q => by exfalso; omega) (fun _ => ?_)
      refine r_iconst 13 rfl (dd_L_act_0 6 _ _ _ rfl) ?_
      refine r_goto 17 rfl (dd_L_act_0 7 _ _ _ rfl) ?_
      refine r_istore_3 18 rfl (by decide) rfl (dd_L_act_0 9 _ _ _ rfl) ?_
      refine r_iload_3 19 rfl (dd_L_act_0 10 _ _ _ rfl) ?_
      refine r_ifeq (by omega) 22 rfl 35 rfl (dd_L_act_0 11 _ _ _ rfl) (fun q => absurd q (by decide)) (fun _ => ?_)
      refine r_iload_1 23 rfl (dd_L_act_0 12 _ _ _ rfl) ?_
      refine r_iconst 24 rfl (dd_L_act_0 13 _ _ _ rfl) ?_
      refine r_ishr 25 rfl (dd_L_act_0 14 _ _ _ rfl) ?_
      refine r_bipush (by decide) 27 rfl (dd_L_act_0 15 _ _ _ rfl) ?_
      refine r_callS2 (lvl := 10) (mc1 := 0) (ms1 := 0) bc bs hg rfl md_L_low ws_L_low (tb_1 155 _ rfl) (by decide) (by decide) rfl (Nat.le_of_ble_eq_true rfl) (by omega) (by omega) 30 rfl (dd_L_act_0 16 _ _ _ rfl) ?_
      refine c_L_low hg (by omega) (fun la2 lb2 => ?_)
      dsimp only [zCont, Option.toList, List.cons_append, List.nil_append]
      refine r_iconst 31 rfl (dd_L_act_0 17 _ _ _ rfl) ?_
      refine r_isub 32 rfl (dd_L_act_0 18 _ _ _ rfl) ?_
      refine r_goto 42 rfl (dd_L_act_0 19 _ _ _ rfl) ?_
      refine r_istore_4 44 rfl (by decide) rfl (dd_L_act_0 25 _ _ _ rfl) ?_
      refine r_iload_3 45 rfl (dd_L_act_0 26 _ _ _ rfl) ?_
      refine r_ifeq (by omega) 48 rfl 62 rfl (dd_L_act_0 27 _ _ _ rfl) (fun q => absurd q (by decide)) (fun _ => ?_)
      refine r_iload_1 49 rfl (dd_L_act_0 28 _ _ _ rfl) ?_
      refine r_bipush (by decide) 51 rfl (dd_L_act_0 29 _ _ _ rfl) ?_
      refine r_ishr 52 rfl (dd_L_act_0 30 _ _ _ rfl) ?_
      refine r_bipush (by decide) 54 rfl (dd_L_act_0 31 _ _ _ rfl) ?_
      refine r_callS2 (lvl := 10) (mc1 := 0) (ms1 := 0) bc bs hg rfl md_L_low ws_L_low (tb_1 155 _ rfl) (by decide) (by decide) rfl (Nat.le_of_ble_eq_true rfl) (by omega) (by omega) 57 rfl (dd_L_act_0 32 _ _ _ rfl) ?_
      refine c_L_low hg (by omega) (fun la3 lb3 => ?_)
      dsimp only [zCont, Option.toList, List.cons_append, List.nil_append]
      refine r_iconst 58 rfl (dd_L_act_0 33 _ _ _ rfl) ?_
      refine r_isub 59 rfl (dd_L_act_0 34 _ _ _ rfl) ?_
      refine r_goto 70 rfl (dd_L_act_0 35 _ _ _ rfl) ?_
      refine r_istore_5 72 rfl (by decide) rfl (dd_L_act_0 41 _ _ _ rfl) ?_
      refine r_iload_3 73 rfl (dd_L_act_0 42 _ _ _ rfl) ?_
      refine r_ifeq (by omega) 76 rfl 83 rfl (dd_L_act_0 43 _ _ _ rfl) (fun q => absurd q (by decide)) (fun _ => ?_)
      refine r_iload_1 77 rfl (dd_L_act_0 44 _ _ _ rfl) ?_
      refine r_bipush (by decide) 79 rfl (dd_L_act_0 45 _ _ _ rfl) ?_
      refine r_ishr 80 rfl (dd_L_act_0 46 _ _ _ rfl) ?_
      refine r_goto 92 rfl (dd_L_act_0 47 _ _ _ rfl) ?_
      refine r_istore_6 94 rfl (by decide) rfl (dd_L_act_0 53 _ _ _ rfl) ?_
      refine r_iload_3 95 rfl (dd_L_act_0 54 _ _ _ rfl) ?_
      refine r_ifeq (by omega) 98 rfl 105 rfl (dd_L_act_0 55 _ _ _ rfl) (fun q => absurd q (by decide)) (fun _ => ?_)
      refine r_iload_1 99 rfl (dd_L_act_0 56 _ _ _ rfl) ?_
      refine r_bipush (by decide) 101 rfl (dd_L_act_0 57 _ _ _ rfl) ?_
      refine r_ishr 102 rfl (dd_L_act_0 58 _ _ _ rfl) ?_
      refine r_goto 114 rfl (dd_L_act_0 59 _ _ _ rfl) ?_
      refine r_istore_7 116 rfl (by decide) rfl (dd_L_act_1 5 _ _ _ rfl) ?_
      refine r_iload_3 117 rfl (dd_L_act_1 6 _ _ _ rfl) ?_
      refine r_ifeq (by omega) 120 rfl 126 rfl (dd_L_act_1 7 _ _ _ rfl) (fun q => absurd q (by decide)) (fun _ => ?_)
      refine r_iload_1 121 rfl (dd_L_act_1 8 _ _ _ rfl) ?_
      refine r_iconst 122 rfl (dd_L_act_1 9 _ _ _ rfl) ?_
      refine r_ishr 123 rfl (dd_L_act_1 10 _ _ _ rfl) ?_
      refine r_goto 136 rfl (dd_L_act_1 11 _ _ _ rfl) ?_
      refine r_istore_8 138 rfl (by decide) rfl (dd_L_act_1 19 _ _ _ rfl) ?_
      refine r_iload_1 139 rfl (dd_L_act_1 20 _ _ _ rfl) ?_
      refine r_bipush (by decide) 141 rfl (dd_L_act_1 21 _ _ _ rfl) ?_
      refine r_ishr 142 rfl (dd_L_act_1 22 _ _ _ rfl) ?_
      refine r_iconst 143 rfl (dd_L_act_1 23 _ _ _ rfl) ?_
      refine r_iandz 144 rfl (dd_L_act_1 24 _ _ _ rfl) ?_
      refine r_iconst 145 rfl (dd_L_act_1 25 _ _ _ rfl) ?_
      refine r_if_icmpne (by omega) (by omega) 148 rfl 152 rfl (dd_L_act_1 26 _ _ _ rfl) (fun q => by exfalso; omega) (fun _ => ?_)
      refine r_iconst 149 rfl (dd_L_act_1 27 _ _ _ rfl) ?_
      refine r_goto 153 rfl (dd_L_act_1 28 _ _ _ rfl) ?_
      refine r_istore_9 155 rfl (by decide) rfl (dd_L_act_1 30 _ _ _ rfl) ?_
      refine r_iload_3 156 rfl (dd_L_act_1 31 _ _ _ rfl) ?_
      refine r_ifeq (by omega) 159 rfl 166 rfl (dd_L_act_1 32 _ _ _ rfl) (fun q => absurd q (by decide)) (fun _ => ?_)
      refine r_iload_1 160 rfl (dd_L_act_1 33 _ _ _ rfl) ?_
      refine r_bipush (by decide) 162 rfl (dd_L_act_1 34 _ _ _ rfl) ?_
      refine r_ishr 163 rfl (dd_L_act_1 35 _ _ _ rfl) ?_
      refine r_goto 174 rfl (dd_L_act_1 36 _ _ _ rfl) ?_
      refine r_istore_10 176 rfl (by decide) rfl (dd_L_act_1 42 _ _ _ rfl) ?_
      refine r_iload_1 177 rfl (dd_L_act_1 43 _ _ _ rfl) ?_
      refine r_bipush (by decide) 179 rfl (dd_L_act_1 44 _ _ _ rfl) ?_
      refine r_callS2 (lvl := 10) (mc1 := 0) (ms1 := 0) bc bs hg rfl md_L_low ws_L_low (tb_1 155 _ rfl) (by decide) (by decide) rfl (Nat.le_of_ble_eq_true rfl) (by omega) (by omega) 182 rfl (dd_L_act_1 45 _ _ _ rfl) ?_
      refine c_L_low hg (by omega) (fun la4 lb4 => ?_)
      dsimp only [zCont, Option.toList, List.cons_append, List.nil_append]
      exact k
    · refine ⟨1, zlow (zshr v 4) 16 - 2, zlow (zshr v 7) 14 - 2, zshr v 9, zshr v 6, zshr v 3, 0, zshr v 8, ⟨by omega, by omega, by omega, by omega, by omega, by omega, by omega, by omega, htd, by omega⟩, fun x h mc ms Q bc bs k => ?_⟩
      refine r_iload_1 1 rfl (dd_L_act_0 0 _ _ _ rfl) ?_
      refine r_bipush (by decide) 3 rfl (dd_L_act_0 1 _ _ _ rfl) ?_
      refine r_ishr 4 rfl (dd_L_act_0 2 _ _ _ rfl) ?_
      refine r_bipush (by decide) 6 rfl (dd_L_act_0 3 _ _ _ rfl) ?_
      refine r_callS2 (lvl := 10) (mc1 := 0) (ms1 := 0) bc bs hg rfl md_L_low ws_L_low (tb_1 155 _ rfl) (by decide) (by decide) rfl (Nat.le_of_ble_eq_true rfl) (by omega) (by omega) 9 rfl (dd_L_act_0 4 _ _ _ rfl) ?_
      refine c_L_low hg (by omega) (fun la1 lb1 => ?_)
      dsimp only [zCont, Option.toList, List.cons_append, List.nil_append]
      refine r_ifne (by omega) 12 rfl 16 rfl (dd_L_act_0 5 _ _ _ rfl) (fun q => by exfalso; omega) (fun _ => ?_)
      refine r_iconst 13 rfl (dd_L_act_0 6 _ _ _ rfl) ?_
      refine r_goto 17 rfl (dd_L_act_0 7 _ _ _ rfl) ?_
      refine r_istore_3 18 rfl (by decide) rfl (dd_L_act_0 9 _ _ _ rfl) ?_
      refine r_iload_3 19 rfl (dd_L_act_0 10 _ _ _ rfl) ?_
      refine r_ifeq (by omega) 22 rfl 35 rfl (dd_L_act_0 11 _ _ _ rfl) (fun q => absurd q (by decide)) (fun _ => ?_)
      refine r_iload_1 23 rfl (dd_L_act_0 12 _ _ _ rfl) ?_
      refine r_iconst 24 rfl (dd_L_act_0 13 _ _ _ rfl) ?_
      refine r_ishr 25 rfl (dd_L_act_0 14 _ _ _ rfl) ?_
      refine r_bipush (by decide) 27 rfl (dd_L_act_0 15 _ _ _ rfl) ?_
      refine r_callS2 (lvl := 10) (mc1 := 0) (ms1 := 0) bc bs hg rfl md_L_low ws_L_low (tb_1 155 _ rfl) (by decide) (by decide) rfl (Nat.le_of_ble_eq_true rfl) (by omega) (by omega) 30 rfl (dd_L_act_0 16 _ _ _ rfl) ?_
      refine c_L_low hg (by omega) (fun la2 lb2 => ?_)
      dsimp only [zCont, Option.toList, List.cons_append, List.nil_append]
      refine r_iconst 31 rfl (dd_L_act_0 17 _ _ _ rfl) ?_
      refine r_isub 32 rfl (dd_L_act_0 18 _ _ _ rfl) ?_
      refine r_goto 42 rfl (dd_L_act_0 19 _ _ _ rfl) ?_
      refine r_istore_4 44 rfl (by decide) rfl (dd_L_act_0 25 _ _ _ rfl) ?_
      refine r_iload_3 45 rfl (dd_L_act_0 26 _ _ _ rfl) ?_
      refine r_ifeq (by omega) 48 rfl 62 rfl (dd_L_act_0 27 _ _ _ rfl) (fun q => absurd q (by decide)) (fun _ => ?_)
      refine r_iload_1 49 rfl (dd_L_act_0 28 _ _ _ rfl) ?_
      refine r_bipush (by decide) 51 rfl (dd_L_act_0 29 _ _ _ rfl) ?_
      refine r_ishr 52 rfl (dd_L_act_0 30 _ _ _ rfl) ?_
      refine r_bipush (by decide) 54 rfl (dd_L_act_0 31 _ _ _ rfl) ?_
      refine r_callS2 (lvl := 10) (mc1 := 0) (ms1 := 0) bc bs hg rfl md_L_low ws_L_low (tb_1 155 _ rfl) (by decide) (by decide) rfl (Nat.le_of_ble_eq_true rfl) (by omega) (by omega) 57 rfl (dd_L_act_0 32 _ _ _ rfl) ?_
      refine c_L_low hg (by omega) (fun la3 lb3 => ?_)
      dsimp only [zCont, Option.toList, List.cons_append, List.nil_append]
      refine r_iconst 58 rfl (dd_L_act_0 33 _ _ _ rfl) ?_
      refine r_isub 59 rfl (dd_L_act_0 34 _ _ _ rfl) ?_
      refine r_goto 70 rfl (dd_L_act_0 35 _ _ _ rfl) ?_
      refine r_istore_5 72 rfl (by decide) rfl (dd_L_act_0 41 _ _ _ rfl) ?_
      refine r_iload_3 73 rfl (dd_L_act_0 42 _ _ _ rfl) ?_
      refine r_ifeq (by omega) 76 rfl 83 rfl (dd_L_act_0 43 _ _ _ rfl) (fun q => absurd q (by decide)) (fun _ => ?_)
      refine r_iload_1 77 rfl (dd_L_act_0 44 _ _ _ rfl) ?_
      refine r_bipush (by decide) 79 rfl (dd_L_act_0 45 _ _ _ rfl) ?_
      refine r_ishr 80 rfl (dd_L_act_0 46 _ _ _ rfl) ?_
      refine r_goto 92 rfl (dd_L_act_0 47 _ _ _ rfl) ?_
      refine r_istore_6 94 rfl (by decide) rfl (dd_L_act_0 53 _ _ _ rfl) ?_
      refine r_iload_3 95 rfl (dd_L_act_0 54 _ _ _ rfl) ?_
      refine r_ifeq (by omega) 98 rfl 105 rfl (dd_L_act_0 55 _ _ _ rfl) (fun q => absurd q (by decide)) (fun _ => ?_)
      refine r_iload_1 99 rfl (dd_L_act_0 56 _ _ _ rfl) ?_
      refine r_bipush (by decide) 101 rfl (dd_L_act_0 57 _ _ _ rfl) ?_
      refine r_ishr 102 rfl (dd_L_act_0 58 _ _ _ rfl) ?_
      refine r_goto 114 rfl (dd_L_act_0 59 _ _ _ rfl) ?_
      refine r_istore_7 116 rfl (by decide) rfl (dd_L_act_1 5 _ _ _ rfl) ?_
      refine r_iload_3 117 rfl (dd_L_act_1 6 _ _ _ rfl) ?_
      refine r_ifeq (by omega) 120 rfl 126 rfl (dd_L_act_1 7 _ _ _ rfl) (fun q => absurd q (by decide)) (fun _ => ?_)
      refine r_iload_1 121 rfl (dd_L_act_1 8 _ _ _ rfl) ?_
      refine r_iconst 122 rfl (dd_L_act_1 9 _ _ _ rfl) ?_
      refine r_ishr 123 rfl (dd_L_act_1 10 _ _ _ rfl) ?_
      refine r_goto 136 rfl (dd_L_act_1 11 _ _ _ rfl) ?_
      refine r_istore_8 138 rfl (by decide) rfl (dd_L_act_1 19 _ _ _ rfl) ?_
      refine r_iload_1 139 rfl (dd_L_act_1 20 _ _ _ rfl) ?_
      refine r_bipush (by decide) 141 rfl (dd_L_act_1 21 _ _ _ rfl) ?_
      refine r_ishr 142 rfl (dd_L_act_1 22 _ _ _ rfl) ?_
      refine r_iconst 143 rfl (dd_L_act_1 23 _ _ _ rfl) ?_
      refine r_iandz 144 rfl (dd_L_act_1 24 _ _ _ rfl) ?_
      refine r_iconst 145 rfl (dd_L_act_1 25 _ _ _ rfl) ?_
      refine r_if_icmpne (by omega) (by omega) 148 rfl 152 rfl (dd_L_act_1 26 _ _ _ rfl) (fun _ => ?_) (fun q => by exfalso; omega)
      refine r_iconst 153 rfl (dd_L_act_1 29 _ _ _ rfl) ?_
      refine r_istore_9 155 rfl (by decide) rfl (dd_L_act_1 30 _ _ _ rfl) ?_
      refine r_iload_3 156 rfl (dd_L_act_1 31 _ _ _ rfl) ?_
      refine r_ifeq (by omega) 159 rfl 166 rfl (dd_L_act_1 32 _ _ _ rfl) (fun q => absurd q (by decide)) (fun _ => ?_)
      refine r_iload_1 160 rfl (dd_L_act_1 33 _ _ _ rfl) ?_
      refine r_bipush (by decide) 162 rfl (dd_L_act_1 34 _ _ _ rfl) ?_
      refine r_ishr 163 rfl (dd_L_act_1 35 _ _ _ rfl) ?_
      refine r_goto 174 rfl (dd_L_act_1 36 _ _ _ rfl) ?_
      refine r_istore_10 176 rfl (by decide) rfl (dd_L_act_1 42 _ _ _ rfl) ?_
      refine r_iload_1 177 rfl (dd_L_act_1 43 _ _ _ rfl) ?_
      refine r_bipush (by decide) 179 rfl (dd_L_act_1 44 _ _ _ rfl) ?_
      refine r_callS2 (lvl := 10) (mc1 := 0) (ms1 := 0) bc bs hg rfl md_L_low ws_L_low (tb_1 155 _ rfl) (by decide) (by decide) rfl (Nat.le_of_ble_eq_true rfl) (by omega) (by omega) 182 rfl (dd_L_act_1 45 _ _ _ rfl) ?_
      refine c_L_low hg (by omega) (fun la4 lb4 => ?_)
      dsimp only [zCont, Option.toList, List.cons_append, List.nil_append]
      exact k
  · by_cases q2 : zand (zshr v 15) 1 = 1
    · refine ⟨0, zlow (zshr v 4) 3, zlow (zshr v 7) 4, zlow (zshr v 9) 90, zlow (zshr v 6) 8, zlow (zshr v 10) (td + 1), 1, zlow (zshr v 11) 5, ⟨by omega, by omega, by omega, by omega, by omega, by omega, by omega, by omega, htd, by omega⟩, fun x h mc ms Q bc bs k => ?_⟩
      refine r_iload_1 1 rfl (dd_L_act_0 0 _ _ _ rfl) ?_
      refine r_bipush (by decide) 3 rfl (dd_L_act_0 1 _ _ _ rfl) ?_
      refine r_ishr 4 rfl (dd_L_act_0 2 _ _ _ rfl) ?_
      refine r_bipush (by decide) 6 rfl (dd_L_act_0 3 _ _ _ rfl) ?_
      refine r_callS2 (lvl := 10) (mc1 := 0) (ms1 := 0) bc bs hg rfl md_L_low ws_L_low (tb_1 155 _ rfl) (by decide) (by decide) rfl (Nat.le_of_ble_eq_true rfl) (by omega) (by omega) 9 rfl (dd_L_act_0 4 _ _ _ rfl) ?_
      refine c_L_low hg (by omega) (fun la1 lb1 => ?_)
      dsimp only [zCont, Option.toList, List.cons_append, List.nil_append]
      refine r_ifne (by omega) 12 rfl 16 rfl (dd_L_act_0 5 _ _ _ rfl) (fun _ => ?_) (fun q => by exfalso; omega)
      refine r_iconst 17 rfl (dd_L_act_0 8 _ _ _ rfl) ?_
      refine r_istore_3 18 rfl (by decide) rfl (dd_L_act_0 9 _ _ _ rfl) ?_
      refine r_iload_3 19 rfl (dd_L_act_0 10 _ _ _ rfl) ?_
      refine r_ifeq (by omega) 22 rfl 35 rfl (dd_L_act_0 11 _ _ _ rfl) (fun _ => ?_) (fun q => absurd q (by decide))
      refine r_iload_1 36 rfl (dd_L_act_0 20 _ _ _ rfl) ?_
      refine r_iconst 37 rfl (dd_L_act_0 21 _ _ _ rfl) ?_
      refine r_ishr 38 rfl (dd_L_act_0 22 _ _ _ rfl) ?_
      refine r_iconst 39 rfl (dd_L_act_0 23 _ _ _ rfl) ?_
      refine r_callS2 (lvl := 10) (mc1 := 0) (ms1 := 0) bc bs hg rfl md_L_low ws_L_low (tb_1 155 _ rfl) (by decide) (by decide) rfl (Nat.le_of_ble_eq_true rfl) (by omega) (by omega) 42 rfl (dd_L_act_0 24 _ _ _ rfl) ?_
      refine c_L_low hg (by omega) (fun la2 lb2 => ?_)
      dsimp only [zCont, Option.toList, List.cons_append, List.nil_append]
      refine r_istore_4 44 rfl (by decide) rfl (dd_L_act_0 25 _ _ _ rfl) ?_
      refine r_iload_3 45 rfl (dd_L_act_0 26 _ _ _ rfl) ?_
      refine r_ifeq (by omega) 48 rfl 62 rfl (dd_L_act_0 27 _ _ _ rfl) (fun _ => ?_) (fun q => absurd q (by decide))
      refine r_iload_1 63 rfl (dd_L_act_0 36 _ _ _ rfl) ?_
      refine r_bipush (by decide) 65 rfl (dd_L_act_0 37 _ _ _ rfl) ?_
      refine r_ishr 66 rfl (dd_L_act_0 38 _ _ _ rfl) ?_
      refine r_iconst 67 rfl (dd_L_act_0 39 _ _ _ rfl) ?_
      refine r_callS2 (lvl := 10) (mc1 := 0) (ms1 := 0) bc bs hg rfl md_L_low ws_L_low (tb_1 155 _ rfl) (by decide) (by decide) rfl (Nat.le_of_ble_eq_true rfl) (by omega) (by omega) 70 rfl (dd_L_act_0 40 _ _ _ rfl) ?_
      refine c_L_low hg (by omega) (fun la3 lb3 => ?_)
      dsimp only [zCont, Option.toList, List.cons_append, List.nil_append]
      refine r_istore_5 72 rfl (by decide) rfl (dd_L_act_0 41 _ _ _ rfl) ?_
      refine r_iload_3 73 rfl (dd_L_act_0 42 _ _ _ rfl) ?_
      refine r_ifeq (by omega) 76 rfl 83 rfl (dd_L_act_0 43 _ _ _ rfl) (fun _ => ?_) (fun q => absurd q (by decide))
      refine r_iload_1 84 rfl (dd_L_act_0 48 _ _ _ rfl) ?_
      refine r_bipush (by decide) 86 rfl (dd_L_act_0 49 _ _ _ rfl) ?_
      refine r_ishr 87 rfl (dd_L_act_0 50 _ _ _ rfl) ?_
      refine r_bipush (by decide) 89 rfl (dd_L_act_0 51 _ _ _ rfl) ?_
      refine r_callS2 (lvl := 10) (mc1 := 0) (ms1 := 0) bc bs hg rfl md_L_low ws_L_low (tb_1 155 _ rfl) (by decide) (by decide) rfl (Nat.le_of_ble_eq_true rfl) (by omega) (by omega) 92 rfl (dd_L_act_0 52 _ _ _ rfl) ?_
      refine c_L_low hg (by omega) (fun la4 lb4 => ?_)
      dsimp only [zCont, Option.toList, List.cons_append, List.nil_append]
      refine r_istore_6 94 rfl (by decide) rfl (dd_L_act_0 53 _ _ _ rfl) ?_
      refine r_iload_3 95 rfl (dd_L_act_0 54 _ _ _ rfl) ?_
      refine r_ifeq (by omega) 98 rfl 105 rfl (dd_L_act_0 55 _ _ _ rfl) (fun _ => ?_) (fun q => absurd q (by decide))
      refine r_iload_1 106 rfl (dd_L_act_1 0 _ _ _ rfl) ?_
      refine r_bipush (by decide) 108 rfl (dd_L_act_1 1 _ _ _ rfl) ?_
      refine r_ishr 109 rfl (dd_L_act_1 2 _ _ _ rfl) ?_
      refine r_bipush (by decide) 111 rfl (dd_L_act_1 3 _ _ _ rfl) ?_
      refine r_callS2 (lvl := 10) (mc1 := 0) (ms1 := 0) bc bs hg rfl md_L_low ws_L_low (tb_1 155 _ rfl) (by decide) (by decide) rfl (Nat.le_of_ble_eq_true rfl) (by omega) (by omega) 114 rfl (dd_L_act_1 4 _ _ _ rfl) ?_
      refine c_L_low hg (by omega) (fun la5 lb5 => ?_)
      dsimp only [zCont, Option.toList, List.cons_append, List.nil_append]
      refine r_istore_7 116 rfl (by decide) rfl (dd_L_act_1 5 _ _ _ rfl) ?_
      refine r_iload_3 117 rfl (dd_L_act_1 6 _ _ _ rfl) ?_
      refine r_ifeq (by omega) 120 rfl 126 rfl (dd_L_act_1 7 _ _ _ rfl) (fun _ => ?_) (fun q => absurd q (by decide))
      refine r_iload_1 127 rfl (dd_L_act_1 12 _ _ _ rfl) ?_
      refine r_bipush (by decide) 129 rfl (dd_L_act_1 13 _ _ _ rfl) ?_
      refine r_ishr 130 rfl (dd_L_act_1 14 _ _ _ rfl) ?_
      refine r_iload_2 131 rfl (dd_L_act_1 15 _ _ _ rfl) ?_
      refine r_iconst 132 rfl (dd_L_act_1 16 _ _ _ rfl) ?_
      refine r_iadd 133 rfl (dd_L_act_1 17 _ _ _ rfl) ?_
      refine r_callS2 (lvl := 10) (mc1 := 0) (ms1 := 0) bc bs hg rfl md_L_low ws_L_low (tb_1 155 _ rfl) (by decide) (by decide) rfl (Nat.le_of_ble_eq_true rfl) (by omega) (by omega) 136 rfl (dd_L_act_1 18 _ _ _ rfl) ?_
      refine c_L_low hg (by omega) (fun la6 lb6 => ?_)
      dsimp only [zCont, Option.toList, List.cons_append, List.nil_append]
      refine r_istore_8 138 rfl (by decide) rfl (dd_L_act_1 19 _ _ _ rfl) ?_
      refine r_iload_1 139 rfl (dd_L_act_1 20 _ _ _ rfl) ?_
      refine r_bipush (by decide) 141 rfl (dd_L_act_1 21 _ _ _ rfl) ?_
      refine r_ishr 142 rfl (dd_L_act_1 22 _ _ _ rfl) ?_
      refine r_iconst 143 rfl (dd_L_act_1 23 _ _ _ rfl) ?_
      refine r_iandz 144 rfl (dd_L_act_1 24 _ _ _ rfl) ?_
      refine r_iconst 145 rfl (dd_L_act_1 25 _ _ _ rfl) ?_
      refine r_if_icmpne (by omega) (by omega) 148 rfl 152 rfl (dd_L_act_1 26 _ _ _ rfl) (fun q => by exfalso; omega) (fun _ => ?_)
      refine r_iconst 149 rfl (dd_L_act_1 27 _ _ _ rfl) ?_
      refine r_goto 153 rfl (dd_L_act_1 28 _ _ _ rfl) ?_
      refine r_istore_9 155 rfl (by decide) rfl (dd_L_act_1 30 _ _ _ rfl) ?_
      refine r_iload_3 156 rfl (dd_L_act_1 31 _ _ _ rfl) ?_
      refine r_ifeq (by omega) 159 rfl 166 rfl (dd_L_act_1 32 _ _ _ rfl) (fun _ => ?_) (fun q => absurd q (by decide))
      refine r_iload_1 167 rfl (dd_L_act_1 37 _ _ _ rfl) ?_
      refine r_bipush (by decide) 169 rfl (dd_L_act_1 38 _ _ _ rfl) ?_
      refine r_ishr 170 rfl (dd_L_act_1 39 _ _ _ rfl) ?_
      refine r_iconst 171 rfl (dd_L_act_1 40 _ _ _ rfl) ?_
      refine r_callS2 (lvl := 10) (mc1 := 0) (ms1 := 0) bc bs hg rfl md_L_low ws_L_low (tb_1 155 _ rfl) (by decide) (by decide) rfl (Nat.le_of_ble_eq_true rfl) (by omega) (by omega) 174 rfl (dd_L_act_1 41 _ _ _ rfl) ?_
      refine c_L_low hg (by omega) (fun la7 lb7 => ?_)
      dsimp only [zCont, Option.toList, List.cons_append, List.nil_append]
      refine r_istore_10 176 rfl (by decide) rfl (dd_L_act_1 42 _ _ _ rfl) ?_
      refine r_iload_1 177 rfl (dd_L_act_1 43 _ _ _ rfl) ?_
      refine r_bipush (by decide) 179 rfl (dd_L_act_1 44 _ _ _ rfl) ?_
      refine r_callS2 (lvl := 10) (mc1 := 0) (ms1 := 0) bc bs hg rfl md_L_low ws_L_low (tb_1 155 _ rfl) (by decide) (by decide) rfl (Nat.le_of_ble_eq_true rfl) (by omega) (by omega) 182 rfl (dd_L_act_1 45 _ _ _ rfl) ?_
      refine c_L_low hg (by omega) (fun la8 lb8 => ?_)
      dsimp only [zCont, Option.toList, List.cons_append, List.nil_append]
      exact k
    · refine ⟨0, zlow (zshr v 4) 3, zlow (zshr v 7) 4, zlow (zshr v 9) 90, zlow (zshr v 6) 8, zlow (zshr v 10) (td + 1), 0, zlow (zshr v 11) 5, ⟨by omega, by omega, by omega, by omega, by omega, by omega, by omega, by omega, htd, by omega⟩, fun x h mc ms Q bc bs k => ?_⟩
      refine r_iload_1 1 rfl (dd_L_act_0 0 _ _ _ rfl) ?_
      refine r_bipush (by decide) 3 rfl (dd_L_act_0 1 _ _ _ rfl) ?_
      refine r_ishr 4 rfl (dd_L_act_0 2 _ _ _ rfl) ?_
      refine r_bipush (by decide) 6 rfl (dd_L_act_0 3 _ _ _ rfl) ?_
      refine r_callS2 (lvl := 10) (mc1 := 0) (ms1 := 0) bc bs hg rfl md_L_low ws_L_low (tb_1 155 _ rfl) (by decide) (by decide) rfl (Nat.le_of_ble_eq_true rfl) (by omega) (by omega) 9 rfl (dd_L_act_0 4 _ _ _ rfl) ?_
      refine c_L_low hg (by omega) (fun la1 lb1 => ?_)
      dsimp only [zCont, Option.toList, List.cons_append, List.nil_append]
      refine r_ifne (by omega) 12 rfl 16 rfl (dd_L_act_0 5 _ _ _ rfl) (fun _ => ?_) (fun q => by exfalso; omega)
      refine r_iconst 17 rfl (dd_L_act_0 8 _ _ _ rfl) ?_
      refine r_istore_3 18 rfl (by decide) rfl (dd_L_act_0 9 _ _ _ rfl) ?_
      refine r_iload_3 19 rfl (dd_L_act_0 10 _ _ _ rfl) ?_
      refine r_ifeq (by omega) 22 rfl 35 rfl (dd_L_act_0 11 _ _ _ rfl) (fun _ => ?_) (fun q => absurd q (by decide))
      refine r_iload_1 36 rfl (dd_L_act_0 20 _ _ _ rfl) ?_
      refine r_iconst 37 rfl (dd_L_act_0 21 _ _ _ rfl) ?_
      refine r_ishr 38 rfl (dd_L_act_0 22 _ _ _ rfl) ?_
      refine r_iconst 39 rfl (dd_L_act_0 23 _ _ _ rfl) ?_
      refine r_callS2 (lvl := 10) (mc1 := 0) (ms1 := 0) bc bs hg rfl md_L_low ws_L_low (tb_1 155 _ rfl) (by decide) (by decide) rfl (Nat.le_of_ble_eq_true rfl) (by omega) (by omega) 42 rfl (dd_L_act_0 24 _ _ _ rfl) ?_
      refine c_L_low hg (by omega) (fun la2 lb2 => ?_)
      dsimp only [zCont, Option.toList, List.cons_append, List.nil_append]
      refine r_istore_4 44 rfl (by decide) rfl (dd_L_act_0 25 _ _ _ rfl) ?_
      refine r_iload_3 45 rfl (dd_L_act_0 26 _ _ _ rfl) ?_
      refine r_ifeq (by omega) 48 rfl 62 rfl (dd_L_act_0 27 _ _ _ rfl) (fun _ => ?_) (fun q => absurd q (by decide))
      refine r_iload_1 63 rfl (dd_L_act_0 36 _ _ _ rfl) ?_
      refine r_bipush (by decide) 65 rfl (dd_L_act_0 37 _ _ _ rfl) ?_
      refine r_ishr 66 rfl (dd_L_act_0 38 _ _ _ rfl) ?_
      refine r_iconst 67 rfl (dd_L_act_0 39 _ _ _ rfl) ?_
      refine r_callS2 (lvl := 10) (mc1 := 0) (ms1 := 0) bc bs hg rfl md_L_low ws_L_low (tb_1 155 _ rfl) (by decide) (by decide) rfl (Nat.le_of_ble_eq_true rfl) (by omega) (by omega) 70 rfl (dd_L_act_0 40 _ _ _ rfl) ?_
      refine c_L_low hg (by omega) (fun la3 lb3 => ?_)
      dsimp only [zCont, Option.toList, List.cons_append, List.nil_append]
      refine r_istore_5 72 rfl (by decide) rfl (dd_L_act_0 41 _ _ _ rfl) ?_
      refine r_iload_3 73 rfl (dd_L_act_0 42 _ _ _ rfl) ?_
      refine r_ifeq (by omega) 76 rfl 83 rfl (dd_L_act_0 43 _ _ _ rfl) (fun _ => ?_) (fun q => absurd q (by decide))
      refine r_iload_1 84 rfl (dd_L_act_0 48 _ _ _ rfl) ?_
      refine r_bipush (by decide) 86 rfl (dd_L_act_0 49 _ _ _ rfl) ?_
      refine r_ishr 87 rfl (dd_L_act_0 50 _ _ _ rfl) ?_
      refine r_bipush (by decide) 89 rfl (dd_L_act_0 51 _ _ _ rfl) ?_
      refine r_callS2 (lvl := 10) (mc1 := 0) (ms1 := 0) bc bs hg rfl md_L_low ws_L_low (tb_1 155 _ rfl) (by decide) (by decide) rfl (Nat.le_of_ble_eq_true rfl) (by omega) (by omega) 92 rfl (dd_L_act_0 52 _ _ _ rfl) ?_
      refine c_L_low hg (by omega) (fun la4 lb4 => ?_)
      dsimp only [zCont, Option.toList, List.cons_append, List.nil_append]
      refine r_istore_6 94 rfl (by decide) rfl (dd_L_act_0 53 _ _ _ rfl) ?_
      refine r_iload_3 95 rfl (dd_L_act_0 54 _ _ _ rfl) ?_
      refine r_ifeq (by omega) 98 rfl 105 rfl (dd_L_act_0 55 _ _ _ rfl) (fun _ => ?_) (fun q => absurd q (by decide))
      refine r_iload_1 106 rfl (dd_L_act_1 0 _ _ _ rfl) ?_
      refine r_bipush (by decide) 108 rfl (dd_L_act_1 1 _ _ _ rfl) ?_
      refine r_ishr 109 rfl (dd_L_act_1 2 _ _ _ rfl) ?_
      refine r_bipush (by decide) 111 rfl (dd_L_act_1 3 _ _ _ rfl) ?_
      refine r_callS2 (lvl := 10) (mc1 := 0) (ms1 := 0) bc bs hg rfl md_L_low ws_L_low (tb_1 155 _ rfl) (by decide) (by decide) rfl (Nat.le_of_ble_eq_true rfl) (by omega) (by omega) 114 rfl (dd_L_act_1 4 _ _ _ rfl) ?_
      refine c_L_low hg (by omega) (fun la5 lb5 => ?_)
      dsimp only [zCont, Option.toList, List.cons_append, List.nil_append]
      refine r_istore_7 116 rfl (by decide) rfl (dd_L_act_1 5 _ _ _ rfl) ?_
      refine r_iload_3 117 rfl (dd_L_act_1 6 _ _ _ rfl) ?_
      refine r_ifeq (by omega) 120 rfl 126 rfl (dd_L_act_1 7 _ _ _ rfl) (fun _ => ?_) (fun q => absurd q (by decide))
      refine r_iload_1 127 rfl (dd_L_act_1 12 _ _ _ rfl) ?_
      refine r_bipush (by decide) 129 rfl (dd_L_act_1 13 _ _ _ rfl) ?_
      refine r_ishr 130 rfl (dd_L_act_1 14 _ _ _ rfl) ?_
      refine r_iload_2 131 rfl (dd_L_act_1 15 _ _ _ rfl) ?_
      refine r_iconst 132 rfl (dd_L_act_1 16 _ _ _ rfl) ?_
      refine r_iadd 133 rfl (dd_L_act_1 17 _ _ _ rfl) ?_
      refine r_callS2 (lvl := 10) (mc1 := 0) (ms1 := 0) bc bs hg rfl md_L_low ws_L_low (tb_1 155 _ rfl) (by decide) (by decide) rfl (Nat.le_of_ble_eq_true rfl) (by omega) (by omega) 136 rfl (dd_L_act_1 18 _ _ _ rfl) ?_
      refine c_L_low hg (by omega) (fun la6 lb6 => ?_)
      dsimp only [zCont, Option.toList, List.cons_append, List.nil_append]
      refine r_istore_8 138 rfl (by decide) rfl (dd_L_act_1 19 _ _ _ rfl) ?_
      refine r_iload_1 139 rfl (dd_L_act_1 20 _ _ _ rfl) ?_
      refine r_bipush (by decide) 141 rfl (dd_L_act_1 21 _ _ _ rfl) ?_
      refine r_ishr 142 rfl (dd_L_act_1 22 _ _ _ rfl) ?_
      refine r_iconst 143 rfl (dd_L_act_1 23 _ _ _ rfl) ?_
      refine r_iandz 144 rfl (dd_L_act_1 24 _ _ _ rfl) ?_
      refine r_iconst 145 rfl (dd_L_act_1 25 _ _ _ rfl) ?_
      refine r_if_icmpne (by omega) (by omega) 148 rfl 152 rfl (dd_L_act_1 26 _ _ _ rfl) (fun _ => ?_) (fun q => by exfalso; omega)
      refine r_iconst 153 rfl (dd_L_act_1 29 _ _ _ rfl) ?_
      refine r_istore_9 155 rfl (by decide) rfl (dd_L_act_1 30 _ _ _ rfl) ?_
      refine r_iload_3 156 rfl (dd_L_act_1 31 _ _ _ rfl) ?_
      refine r_ifeq (by omega) 159 rfl 166 rfl (dd_L_act_1 32 _ _ _ rfl) (fun _ => ?_) (fun q => absurd q (by decide))
      refine r_iload_1 167 rfl (dd_L_act_1 37 _ _ _ rfl) ?_
      refine r_bipush (by decide) 169 rfl (dd_L_act_1 38 _ _ _ rfl) ?_
      refine r_ishr 170 rfl (dd_L_act_1 39 _ _ _ rfl) ?_
      refine r_iconst 171 rfl (dd_L_act_1 40 _ _ _ rfl) ?_
      refine r_callS2 (lvl := 10) (mc1 := 0) (ms1 := 0) bc bs hg rfl md_L_low ws_L_low (tb_1 155 _ rfl) (by decide) (by decide) rfl (Nat.le_of_ble_eq_true rfl) (by omega) (by omega) 174 rfl (dd_L_act_1 41 _ _ _ rfl) ?_
      refine c_L_low hg (by omega) (fun la7 lb7 => ?_)
      dsimp only [zCont, Option.toList, List.cons_append, List.nil_append]
      refine r_istore_10 176 rfl (by decide) rfl (dd_L_act_1 42 _ _ _ rfl) ?_
      refine r_iload_1 177 rfl (dd_L_act_1 43 _ _ _ rfl) ?_
      refine r_bipush (by decide) 179 rfl (dd_L_act_1 44 _ _ _ rfl) ?_
      refine r_callS2 (lvl := 10) (mc1 := 0) (ms1 := 0) bc bs hg rfl md_L_low ws_L_low (tb_1 155 _ rfl) (by decide) (by decide) rfl (Nat.le_of_ble_eq_true rfl) (by omega) (by omega) 182 rfl (dd_L_act_1 45 _ _ _ rfl) ?_
      refine c_L_low hg (by omega) (fun la8 lb8 => ?_)
      dsimp only [zCont, Option.toList, List.cons_append, List.nil_append]
      exact k
def zty (j : Int) : Prop := j = 18 ∨ j = 19 ∨ (28 < j ∧ j < 32) ∨ j = 36 ∨ j = 37
def zAct (n : Nat) (j : Int) (S : zS) (t : Int) (S2 : zS) : Prop := zOK (n + 1) S2 ∧ zQ t ∧ (t = zNine → ¬ zty j → S2 = S) ∧ (37 < j → 0 ≤ t → zR t ∧ t = S2.1 1) ∧ (¬ (37 < j ∧ 0 ≤ t) → S2.1 1 = S.1 1)
theorem zAct.res {n : Nat} {j : Int} {S : zS} {t : Int} {S2 : zS} (x : zRes n S t S2) (hj : j ≤ 37) : zAct n j S t S2 := ⟨x.1, by have e := x.2.2.2; omega, fun q _ => x.2.2.1 q, fun q => by exfalso; omega, fun _ => x.2.1⟩
theorem zAct.rq {n : Nat} {j : Int} {S : zS} {t : Int} {S2 : zS} (hS : zOK n S) (hn : n < 512) (x : zRq S t S2) (hj : j ≤ 37) : zAct n j S t S2 := ⟨by rw [x.1]; exact hS.next hn, x.2, fun _ _ => x.1, fun q => by exfalso; omega, fun _ => by rw [x.1]⟩
theorem zAct.rt {n : Nat} {j : Int} {S : zS} {t : Int} {S2 : zS} (x : zRt n S t S2) (hj : j ≤ 37) (hy : zty j) : zAct n j S t S2 := ⟨x.1, x.2.2, fun _ q => absurd hy q, fun q => by exfalso; omega, fun _ => x.2.1⟩
theorem zAct.ps {n : Nat} {j : Int} {S : zS} {t : Int} {S2 : zS} (x : zOK (n + 1) S2 ∧ zBd t ∧ (0 ≤ t → t = S2.1 1) ∧ (t < 0 → S2 = S)) (hj : 37 < j) : zAct n j S t S2 := by
  obtain ⟨x1, x2, x3, x4⟩ := x
  refine ⟨x1, by omega, fun q _ => x4 (by have q : t = -9000000000000000 := q; omega), fun _ q => ⟨?_, x3 q⟩, fun q => ?_⟩
  · have e := x1.1.1.today
    rw [x3 q]
    omega
  · rw [x4 (by omega)]
theorem d_act {g : zGT} (hg : zG g) (hnx : zNX g) {mi : Nat} (hm : zMi g mi) (hcs : zCS g) {p0 p1 p2 : Nat} (g0 : zSR g 360 "police" p0) (w0 : zWd g p0 [112, 111, 108, 105, 99, 101]) (g1 : zSR g 372 "insurer" p1) (w1 : zWd g p1 [105, 110, 115, 117, 114, 101, 114]) (g2 : zSR g 374 "clamper" p2) (w2 : zWd g p2 [99, 108, 97, 109, 112, 101, 114]) {n : Nat} {S : zS} (hS : zOK n S) (hn : n < 512) {v : Int} (hv : zR v) : ∃ (t : Int) (S2 : zS), zAct n (zlow v 40) S t S2 ∧ dM g S n (.code yL_act cL_act 11 (Option.some Jvm.ClassFile.FieldType.long)) yL_act 20 70 5000 [.int (zI v), .int (zI (S.1 1))] t S2 := by
  have hj := zlow_range (a := v) (n := 40) (by decide)
  obtain ⟨od, ve, pe, mu, fe, wh, is, so, hA, hh⟩ := act_head hg hv hS.1.1.today
  have q2 : zlow v 40 = 0 ∨ zlow v 40 = 1 ∨ zlow v 40 = 2 ∨ zlow v 40 = 3 ∨ zlow v 40 = 4 ∨ zlow v 40 = 5 ∨ zlow v 40 = 6 ∨ zlow v 40 = 7 ∨ zlow v 40 = 8 ∨ zlow v 40 = 9 ∨ zlow v 40 = 10 ∨ zlow v 40 = 11 ∨ zlow v 40 = 12 ∨ zlow v 40 = 13 ∨ zlow v 40 = 14 ∨ zlow v 40 = 15 ∨ zlow v 40 = 16 ∨ zlow v 40 = 17 ∨ zlow v 40 = 18 ∨ zlow v 40 = 19 ∨ zlow v 40 = 20 ∨ zlow v 40 = 21 ∨ zlow v 40 = 22 ∨ zlow v 40 = 23 ∨ zlow v 40 = 24 ∨ zlow v 40 = 25 ∨ zlow v 40 = 26 ∨ zlow v 40 = 27 ∨ zlow v 40 = 28 ∨ zlow v 40 = 29 ∨ zlow v 40 = 30 ∨ zlow v 40 = 31 ∨ zlow v 40 = 32 ∨ zlow v 40 = 33 ∨ zlow v 40 = 34 ∨ zlow v 40 = 35 ∨ zlow v 40 = 36 ∨ zlow v 40 = 37 ∨ zlow v 40 = 38 ∨ zlow v 40 = 39 := by omega
  rcases q2 with ej | ej | ej | ej | ej | ej | ej | ej | ej | ej | ej | ej | ej | ej | ej | ej | ej | ej | ej | ej | ej | ej | ej | ej | ej | ej | ej | ej | ej | ej | ej | ej | ej | ej | ej | ej | ej | ej | ej | ej
  · obtain ⟨t, S2, R, ha⟩ := a_vehicle hg hnx hm hS hn hv hA
    refine ⟨t, S2, .res R (by omega), fun x o h Q c k => ?_⟩
    refine zC_of (M := mL_act) (lv := [some (.ref x), some (.int (zI v)), some (.int (zI (S.1 1))), none, none, none, none, none, none, none, none]) (by decide) rfl rfl (Nat.le_of_ble_eq_true rfl) rfl rfl ?_
    refine hh x h 70 5000 Q 70 5000 ?_
    rw [ej]
    refine r_tsIn 348 (by decide) (by decide) (by rfl) rfl (dd_L_act_1 46 _ _ _ rfl) ?_
    exact ha x o h 70 5000 Q 70 5000 c (by decide) (by decide) k
  · obtain ⟨t, S2, R, ha⟩ := a_vehicle hg hnx hm hS hn hv hA
    refine ⟨t, S2, .res R (by omega), fun x o h Q c k => ?_⟩
    refine zC_of (M := mL_act) (lv := [some (.ref x), some (.int (zI v)), some (.int (zI (S.1 1))), none, none, none, none, none, none, none, none]) (by decide) rfl rfl (Nat.le_of_ble_eq_true rfl) rfl rfl ?_
    refine hh x h 70 5000 Q 70 5000 ?_
    rw [ej]
    refine r_tsIn 348 (by decide) (by decide) (by rfl) rfl (dd_L_act_1 46 _ _ _ rfl) ?_
    exact ha x o h 70 5000 Q 70 5000 c (by decide) (by decide) k
  · obtain ⟨t, S2, R, ha⟩ := a_vehicle hg hnx hm hS hn hv hA
    refine ⟨t, S2, .res R (by omega), fun x o h Q c k => ?_⟩
    refine zC_of (M := mL_act) (lv := [some (.ref x), some (.int (zI v)), some (.int (zI (S.1 1))), none, none, none, none, none, none, none, none]) (by decide) rfl rfl (Nat.le_of_ble_eq_true rfl) rfl rfl ?_
    refine hh x h 70 5000 Q 70 5000 ?_
    rw [ej]
    refine r_tsIn 348 (by decide) (by decide) (by rfl) rfl (dd_L_act_1 46 _ _ _ rfl) ?_
    exact ha x o h 70 5000 Q 70 5000 c (by decide) (by decide) k
  · obtain ⟨t, S2, R, ha⟩ := a_person hg hnx hm hS hn hv hA
    refine ⟨t, S2, .res R (by omega), fun x o h Q c k => ?_⟩
    refine zC_of (M := mL_act) (lv := [some (.ref x), some (.int (zI v)), some (.int (zI (S.1 1))), none, none, none, none, none, none, none, none]) (by decide) rfl rfl (Nat.le_of_ble_eq_true rfl) rfl rfl ?_
    refine hh x h 70 5000 Q 70 5000 ?_
    rw [ej]
    refine r_tsIn 394 (by decide) (by decide) (by rfl) rfl (dd_L_act_1 46 _ _ _ rfl) ?_
    exact ha x o h 70 5000 Q 70 5000 c (by decide) (by decide) k
  · obtain ⟨t, S2, R, ha⟩ := a_person hg hnx hm hS hn hv hA
    refine ⟨t, S2, .res R (by omega), fun x o h Q c k => ?_⟩
    refine zC_of (M := mL_act) (lv := [some (.ref x), some (.int (zI v)), some (.int (zI (S.1 1))), none, none, none, none, none, none, none, none]) (by decide) rfl rfl (Nat.le_of_ble_eq_true rfl) rfl rfl ?_
    refine hh x h 70 5000 Q 70 5000 ?_
    rw [ej]
    refine r_tsIn 394 (by decide) (by decide) (by rfl) rfl (dd_L_act_1 46 _ _ _ rfl) ?_
    exact ha x o h 70 5000 Q 70 5000 c (by decide) (by decide) k
  · obtain ⟨t, S2, R, ha⟩ := a_protect hg hnx hS hn hv hA
    refine ⟨t, S2, .res R (by omega), fun x o h Q c k => ?_⟩
    refine zC_of (M := mL_act) (lv := [some (.ref x), some (.int (zI v)), some (.int (zI (S.1 1))), none, none, none, none, none, none, none, none]) (by decide) rfl rfl (Nat.le_of_ble_eq_true rfl) rfl rfl ?_
    refine hh x h 70 5000 Q 70 5000 ?_
    rw [ej]
    refine r_tsIn 399 (by decide) (by decide) (by rfl) rfl (dd_L_act_1 46 _ _ _ rfl) ?_
    exact ha x o h 70 5000 Q 70 5000 c (by decide) (by decide) k
  · obtain ⟨t, S2, R, ha⟩ := a_tell hg hnx hm hS hn hv hA
    refine ⟨t, S2, .res R (by omega), fun x o h Q c k => ?_⟩
    refine zC_of (M := mL_act) (lv := [some (.ref x), some (.int (zI v)), some (.int (zI (S.1 1))), none, none, none, none, none, none, none, none]) (by decide) rfl rfl (Nat.le_of_ble_eq_true rfl) rfl rfl ?_
    refine hh x h 70 5000 Q 70 5000 ?_
    rw [ej]
    refine r_tsIn 408 (by decide) (by decide) (by rfl) rfl (dd_L_act_1 46 _ _ _ rfl) ?_
    exact ha x o h 70 5000 Q 70 5000 c (by decide) (by decide) k
  · obtain ⟨t, S2, R, ha⟩ := a_tell hg hnx hm hS hn hv hA
    refine ⟨t, S2, .res R (by omega), fun x o h Q c k => ?_⟩
    refine zC_of (M := mL_act) (lv := [some (.ref x), some (.int (zI v)), some (.int (zI (S.1 1))), none, none, none, none, none, none, none, none]) (by decide) rfl rfl (Nat.le_of_ble_eq_true rfl) rfl rfl ?_
    refine hh x h 70 5000 Q 70 5000 ?_
    rw [ej]
    refine r_tsIn 408 (by decide) (by decide) (by rfl) rfl (dd_L_act_1 46 _ _ _ rfl) ?_
    exact ha x o h 70 5000 Q 70 5000 c (by decide) (by decide) k
  · obtain ⟨t, S2, R, ha⟩ := a_tell hg hnx hm hS hn hv hA
    refine ⟨t, S2, .res R (by omega), fun x o h Q c k => ?_⟩
    refine zC_of (M := mL_act) (lv := [some (.ref x), some (.int (zI v)), some (.int (zI (S.1 1))), none, none, none, none, none, none, none, none]) (by decide) rfl rfl (Nat.le_of_ble_eq_true rfl) rfl rfl ?_
    refine hh x h 70 5000 Q 70 5000 ?_
    rw [ej]
    refine r_tsIn 408 (by decide) (by decide) (by rfl) rfl (dd_L_act_1 46 _ _ _ rfl) ?_
    exact ha x o h 70 5000 Q 70 5000 c (by decide) (by decide) k
  · obtain ⟨t, S2, R, ha⟩ := a_tell hg hnx hm hS hn hv hA
    refine ⟨t, S2, .res R (by omega), fun x o h Q c k => ?_⟩
    refine zC_of (M := mL_act) (lv := [some (.ref x), some (.int (zI v)), some (.int (zI (S.1 1))), none, none, none, none, none, none, none, none]) (by decide) rfl rfl (Nat.le_of_ble_eq_true rfl) rfl rfl ?_
    refine hh x h 70 5000 Q 70 5000 ?_
    rw [ej]
    refine r_tsIn 408 (by decide) (by decide) (by rfl) rfl (dd_L_act_1 46 _ _ _ rfl) ?_
    exact ha x o h 70 5000 Q 70 5000 c (by decide) (by decide) k
  · obtain ⟨t, S2, R, ha⟩ := a_tell hg hnx hm hS hn hv hA
    refine ⟨t, S2, .res R (by omega), fun x o h Q c k => ?_⟩
    refine zC_of (M := mL_act) (lv := [some (.ref x), some (.int (zI v)), some (.int (zI (S.1 1))), none, none, none, none, none, none, none, none]) (by decide) rfl rfl (Nat.le_of_ble_eq_true rfl) rfl rfl ?_
    refine hh x h 70 5000 Q 70 5000 ?_
    rw [ej]
    refine r_tsIn 408 (by decide) (by decide) (by rfl) rfl (dd_L_act_1 46 _ _ _ rfl) ?_
    exact ha x o h 70 5000 Q 70 5000 c (by decide) (by decide) k
  · obtain ⟨t, S2, R, ha⟩ := a_tell hg hnx hm hS hn hv hA
    refine ⟨t, S2, .res R (by omega), fun x o h Q c k => ?_⟩
    refine zC_of (M := mL_act) (lv := [some (.ref x), some (.int (zI v)), some (.int (zI (S.1 1))), none, none, none, none, none, none, none, none]) (by decide) rfl rfl (Nat.le_of_ble_eq_true rfl) rfl rfl ?_
    refine hh x h 70 5000 Q 70 5000 ?_
    rw [ej]
    refine r_tsIn 408 (by decide) (by decide) (by rfl) rfl (dd_L_act_1 46 _ _ _ rfl) ?_
    exact ha x o h 70 5000 Q 70 5000 c (by decide) (by decide) k
  · obtain ⟨t, S2, R, ha⟩ := a_tell hg hnx hm hS hn hv hA
    refine ⟨t, S2, .res R (by omega), fun x o h Q c k => ?_⟩
    refine zC_of (M := mL_act) (lv := [some (.ref x), some (.int (zI v)), some (.int (zI (S.1 1))), none, none, none, none, none, none, none, none]) (by decide) rfl rfl (Nat.le_of_ble_eq_true rfl) rfl rfl ?_
    refine hh x h 70 5000 Q 70 5000 ?_
    rw [ej]
    refine r_tsIn 408 (by decide) (by decide) (by rfl) rfl (dd_L_act_1 46 _ _ _ rfl) ?_
    exact ha x o h 70 5000 Q 70 5000 c (by decide) (by decide) k
  · obtain ⟨t, S2, R, ha⟩ := a_tell hg hnx hm hS hn hv hA
    refine ⟨t, S2, .res R (by omega), fun x o h Q c k => ?_⟩
    refine zC_of (M := mL_act) (lv := [some (.ref x), some (.int (zI v)), some (.int (zI (S.1 1))), none, none, none, none, none, none, none, none]) (by decide) rfl rfl (Nat.le_of_ble_eq_true rfl) rfl rfl ?_
    refine hh x h 70 5000 Q 70 5000 ?_
    rw [ej]
    refine r_tsIn 408 (by decide) (by decide) (by rfl) rfl (dd_L_act_1 46 _ _ _ rfl) ?_
    exact ha x o h 70 5000 Q 70 5000 c (by decide) (by decide) k
  · obtain ⟨t, S2, R, ha⟩ := a_bar hg hnx hS hn hv hA
    refine ⟨t, S2, .res R (by omega), fun x o h Q c k => ?_⟩
    refine zC_of (M := mL_act) (lv := [some (.ref x), some (.int (zI v)), some (.int (zI (S.1 1))), none, none, none, none, none, none, none, none]) (by decide) rfl rfl (Nat.le_of_ble_eq_true rfl) rfl rfl ?_
    refine hh x h 70 5000 Q 70 5000 ?_
    rw [ej]
    refine r_tsIn 458 (by decide) (by decide) (by rfl) rfl (dd_L_act_1 46 _ _ _ rfl) ?_
    exact ha x o h 70 5000 Q 70 5000 c (by decide) (by decide) k
  · obtain ⟨t, S2, R, ha⟩ := a_allot hg hnx hS hn hv hA
    refine ⟨t, S2, .res R (by omega), fun x o h Q c k => ?_⟩
    refine zC_of (M := mL_act) (lv := [some (.ref x), some (.int (zI v)), some (.int (zI (S.1 1))), none, none, none, none, none, none, none, none]) (by decide) rfl rfl (Nat.le_of_ble_eq_true rfl) rfl rfl ?_
    refine hh x h 70 5000 Q 70 5000 ?_
    rw [ej]
    refine r_tsIn 497 (by decide) (by decide) (by rfl) rfl (dd_L_act_1 46 _ _ _ rfl) ?_
    exact ha x o h 70 5000 Q 70 5000 c (by decide) (by decide) k
  · obtain ⟨t, S2, R, ha⟩ := a_allot hg hnx hS hn hv hA
    refine ⟨t, S2, .res R (by omega), fun x o h Q c k => ?_⟩
    refine zC_of (M := mL_act) (lv := [some (.ref x), some (.int (zI v)), some (.int (zI (S.1 1))), none, none, none, none, none, none, none, none]) (by decide) rfl rfl (Nat.le_of_ble_eq_true rfl) rfl rfl ?_
    refine hh x h 70 5000 Q 70 5000 ?_
    rw [ej]
    refine r_tsIn 497 (by decide) (by decide) (by rfl) rfl (dd_L_act_1 46 _ _ _ rfl) ?_
    exact ha x o h 70 5000 Q 70 5000 c (by decide) (by decide) k
  · obtain ⟨t, S2, R, ha⟩ := a_allot hg hnx hS hn hv hA
    refine ⟨t, S2, .res R (by omega), fun x o h Q c k => ?_⟩
    refine zC_of (M := mL_act) (lv := [some (.ref x), some (.int (zI v)), some (.int (zI (S.1 1))), none, none, none, none, none, none, none, none]) (by decide) rfl rfl (Nat.le_of_ble_eq_true rfl) rfl rfl ?_
    refine hh x h 70 5000 Q 70 5000 ?_
    rw [ej]
    refine r_tsIn 497 (by decide) (by decide) (by rfl) rfl (dd_L_act_1 46 _ _ _ rfl) ?_
    exact ha x o h 70 5000 Q 70 5000 c (by decide) (by decide) k
  · obtain ⟨t, S2, R, ha⟩ := a_wish hg hnx hS hn hv hA
    refine ⟨t, S2, .rt R (by omega) (by rw [ej]; unfold zty; omega), fun x o h Q c k => ?_⟩
    refine zC_of (M := mL_act) (lv := [some (.ref x), some (.int (zI v)), some (.int (zI (S.1 1))), none, none, none, none, none, none, none, none]) (by decide) rfl rfl (Nat.le_of_ble_eq_true rfl) rfl rfl ?_
    refine hh x h 70 5000 Q 70 5000 ?_
    rw [ej]
    refine r_tsIn 504 (by decide) (by decide) (by rfl) rfl (dd_L_act_1 46 _ _ _ rfl) ?_
    exact ha x o h 70 5000 Q 70 5000 c (by decide) (by decide) k
  · obtain ⟨t, S2, R, ha⟩ := a_wish hg hnx hS hn hv hA
    refine ⟨t, S2, .rt R (by omega) (by rw [ej]; unfold zty; omega), fun x o h Q c k => ?_⟩
    refine zC_of (M := mL_act) (lv := [some (.ref x), some (.int (zI v)), some (.int (zI (S.1 1))), none, none, none, none, none, none, none, none]) (by decide) rfl rfl (Nat.le_of_ble_eq_true rfl) rfl rfl ?_
    refine hh x h 70 5000 Q 70 5000 ?_
    rw [ej]
    refine r_tsIn 504 (by decide) (by decide) (by rfl) rfl (dd_L_act_1 46 _ _ _ rfl) ?_
    exact ha x o h 70 5000 Q 70 5000 c (by decide) (by decide) k
  · obtain ⟨t, S2, R, ha⟩ := a_plate hg hnx hS hn hv hA
    refine ⟨t, S2, .rq hS hn R (by omega), fun x o h Q c k => ?_⟩
    refine zC_of (M := mL_act) (lv := [some (.ref x), some (.int (zI v)), some (.int (zI (S.1 1))), none, none, none, none, none, none, none, none]) (by decide) rfl rfl (Nat.le_of_ble_eq_true rfl) rfl rfl ?_
    refine hh x h 70 5000 Q 70 5000 ?_
    rw [ej]
    refine r_tsIn 518 (by decide) (by decide) (by rfl) rfl (dd_L_act_1 46 _ _ _ rfl) ?_
    exact ha x o h 70 5000 Q 70 5000 c (by decide) (by decide) k
  · obtain ⟨t, S2, R, ha⟩ := a_rate hg hnx hS hn hv hA
    refine ⟨t, S2, .res R (by omega), fun x o h Q c k => ?_⟩
    refine zC_of (M := mL_act) (lv := [some (.ref x), some (.int (zI v)), some (.int (zI (S.1 1))), none, none, none, none, none, none, none, none]) (by decide) rfl rfl (Nat.le_of_ble_eq_true rfl) rfl rfl ?_
    refine hh x h 70 5000 Q 70 5000 ?_
    rw [ej]
    refine r_tsIn 543 (by decide) (by decide) (by rfl) rfl (dd_L_act_1 46 _ _ _ rfl) ?_
    exact ha x o h 70 5000 Q 70 5000 c (by decide) (by decide) k
  · obtain ⟨t, S2, R, ha⟩ := a_rate hg hnx hS hn hv hA
    refine ⟨t, S2, .res R (by omega), fun x o h Q c k => ?_⟩
    refine zC_of (M := mL_act) (lv := [some (.ref x), some (.int (zI v)), some (.int (zI (S.1 1))), none, none, none, none, none, none, none, none]) (by decide) rfl rfl (Nat.le_of_ble_eq_true rfl) rfl rfl ?_
    refine hh x h 70 5000 Q 70 5000 ?_
    rw [ej]
    refine r_tsIn 543 (by decide) (by decide) (by rfl) rfl (dd_L_act_1 46 _ _ _ rfl) ?_
    exact ha x o h 70 5000 Q 70 5000 c (by decide) (by decide) k
  · obtain ⟨t, S2, R, ha⟩ := a_pay hg hnx hS hn hv hA
    refine ⟨t, S2, .res R (by omega), fun x o h Q c k => ?_⟩
    refine zC_of (M := mL_act) (lv := [some (.ref x), some (.int (zI v)), some (.int (zI (S.1 1))), none, none, none, none, none, none, none, none]) (by decide) rfl rfl (Nat.le_of_ble_eq_true rfl) rfl rfl ?_
    refine hh x h 70 5000 Q 70 5000 ?_
    rw [ej]
    refine r_tsIn 595 (by decide) (by decide) (by rfl) rfl (dd_L_act_1 46 _ _ _ rfl) ?_
    exact ha x o h 70 5000 Q 70 5000 c (by decide) (by decide) k
  · obtain ⟨t, S2, R, ha⟩ := a_owes hg hnx hS hn hv hA
    refine ⟨t, S2, .rq hS hn R (by omega), fun x o h Q c k => ?_⟩
    refine zC_of (M := mL_act) (lv := [some (.ref x), some (.int (zI v)), some (.int (zI (S.1 1))), none, none, none, none, none, none, none, none]) (by decide) rfl rfl (Nat.le_of_ble_eq_true rfl) rfl rfl ?_
    refine hh x h 70 5000 Q 70 5000 ?_
    rw [ej]
    refine r_tsIn 615 (by decide) (by decide) (by rfl) rfl (dd_L_act_1 46 _ _ _ rfl) ?_
    exact ha x o h 70 5000 Q 70 5000 c (by decide) (by decide) k
  · obtain ⟨t, S2, R, ha⟩ := a_test hg hnx hS hn hv hA
    refine ⟨t, S2, .res R (by omega), fun x o h Q c k => ?_⟩
    refine zC_of (M := mL_act) (lv := [some (.ref x), some (.int (zI v)), some (.int (zI (S.1 1))), none, none, none, none, none, none, none, none]) (by decide) rfl rfl (Nat.le_of_ble_eq_true rfl) rfl rfl ?_
    refine hh x h 70 5000 Q 70 5000 ?_
    rw [ej]
    refine r_tsIn 642 (by decide) (by decide) (by rfl) rfl (dd_L_act_1 46 _ _ _ rfl) ?_
    exact ha x o h 70 5000 Q 70 5000 c (by decide) (by decide) k
  · obtain ⟨t, S2, R, ha⟩ := a_test hg hnx hS hn hv hA
    refine ⟨t, S2, .res R (by omega), fun x o h Q c k => ?_⟩
    refine zC_of (M := mL_act) (lv := [some (.ref x), some (.int (zI v)), some (.int (zI (S.1 1))), none, none, none, none, none, none, none, none]) (by decide) rfl rfl (Nat.le_of_ble_eq_true rfl) rfl rfl ?_
    refine hh x h 70 5000 Q 70 5000 ?_
    rw [ej]
    refine r_tsIn 642 (by decide) (by decide) (by rfl) rfl (dd_L_act_1 46 _ _ _ rfl) ?_
    exact ha x o h 70 5000 Q 70 5000 c (by decide) (by decide) k
  · obtain ⟨t, S2, R, ha⟩ := a_insure hg hnx hS hn hv hA
    refine ⟨t, S2, .res R (by omega), fun x o h Q c k => ?_⟩
    refine zC_of (M := mL_act) (lv := [some (.ref x), some (.int (zI v)), some (.int (zI (S.1 1))), none, none, none, none, none, none, none, none]) (by decide) rfl rfl (Nat.le_of_ble_eq_true rfl) rfl rfl ?_
    refine hh x h 70 5000 Q 70 5000 ?_
    rw [ej]
    refine r_tsIn 689 (by decide) (by decide) (by rfl) rfl (dd_L_act_1 46 _ _ _ rfl) ?_
    exact ha x o h 70 5000 Q 70 5000 c (by decide) (by decide) k
  · obtain ⟨t, S2, R, ha⟩ := a_ofVehicle hg hnx hS hn hv hA
    refine ⟨t, S2, .rq hS hn R (by omega), fun x o h Q c k => ?_⟩
    refine zC_of (M := mL_act) (lv := [some (.ref x), some (.int (zI v)), some (.int (zI (S.1 1))), none, none, none, none, none, none, none, none]) (by decide) rfl rfl (Nat.le_of_ble_eq_true rfl) rfl rfl ?_
    refine hh x h 70 5000 Q 70 5000 ?_
    rw [ej]
    refine r_tsIn 712 (by decide) (by decide) (by rfl) rfl (dd_L_act_1 46 _ _ _ rfl) ?_
    exact ha x o h 70 5000 Q 70 5000 c (by decide) (by decide) k
  · obtain ⟨t, S2, R, ha⟩ := a_sight hg hnx hm hS hn hv hA
    refine ⟨t, S2, .rt R (by omega) (by rw [ej]; unfold zty; omega), fun x o h Q c k => ?_⟩
    refine zC_of (M := mL_act) (lv := [some (.ref x), some (.int (zI v)), some (.int (zI (S.1 1))), none, none, none, none, none, none, none, none]) (by decide) rfl rfl (Nat.le_of_ble_eq_true rfl) rfl rfl ?_
    refine hh x h 70 5000 Q 70 5000 ?_
    rw [ej]
    refine r_tsIn 736 (by decide) (by decide) (by rfl) rfl (dd_L_act_1 46 _ _ _ rfl) ?_
    exact ha x o h 70 5000 Q 70 5000 c (by decide) (by decide) k
  · obtain ⟨t, S2, R, ha⟩ := a_sight hg hnx hm hS hn hv hA
    refine ⟨t, S2, .rt R (by omega) (by rw [ej]; unfold zty; omega), fun x o h Q c k => ?_⟩
    refine zC_of (M := mL_act) (lv := [some (.ref x), some (.int (zI v)), some (.int (zI (S.1 1))), none, none, none, none, none, none, none, none]) (by decide) rfl rfl (Nat.le_of_ble_eq_true rfl) rfl rfl ?_
    refine hh x h 70 5000 Q 70 5000 ?_
    rw [ej]
    refine r_tsIn 736 (by decide) (by decide) (by rfl) rfl (dd_L_act_1 46 _ _ _ rfl) ?_
    exact ha x o h 70 5000 Q 70 5000 c (by decide) (by decide) k
  · obtain ⟨t, S2, R, ha⟩ := a_sight hg hnx hm hS hn hv hA
    refine ⟨t, S2, .rt R (by omega) (by rw [ej]; unfold zty; omega), fun x o h Q c k => ?_⟩
    refine zC_of (M := mL_act) (lv := [some (.ref x), some (.int (zI v)), some (.int (zI (S.1 1))), none, none, none, none, none, none, none, none]) (by decide) rfl rfl (Nat.le_of_ble_eq_true rfl) rfl rfl ?_
    refine hh x h 70 5000 Q 70 5000 ?_
    rw [ej]
    refine r_tsIn 736 (by decide) (by decide) (by rfl) rfl (dd_L_act_1 46 _ _ _ rfl) ?_
    exact ha x o h 70 5000 Q 70 5000 c (by decide) (by decide) k
  · obtain ⟨t, S2, R, ha⟩ := a_seen hg hnx hS hn hv hA
    refine ⟨t, S2, .rq hS hn R (by omega), fun x o h Q c k => ?_⟩
    refine zC_of (M := mL_act) (lv := [some (.ref x), some (.int (zI v)), some (.int (zI (S.1 1))), none, none, none, none, none, none, none, none]) (by decide) rfl rfl (Nat.le_of_ble_eq_true rfl) rfl rfl ?_
    refine hh x h 70 5000 Q 70 5000 ?_
    rw [ej]
    refine r_tsIn 798 (by decide) (by decide) (by rfl) rfl (dd_L_act_1 46 _ _ _ rfl) ?_
    exact ha x o h 70 5000 Q 70 5000 c (by decide) (by decide) k
  · obtain ⟨t, S2, R, ha⟩ := a_fine hg hnx hm hS hn hv hA
    refine ⟨t, S2, .res R (by omega), fun x o h Q c k => ?_⟩
    refine zC_of (M := mL_act) (lv := [some (.ref x), some (.int (zI v)), some (.int (zI (S.1 1))), none, none, none, none, none, none, none, none]) (by decide) rfl rfl (Nat.le_of_ble_eq_true rfl) rfl rfl ?_
    refine hh x h 70 5000 Q 70 5000 ?_
    rw [ej]
    refine r_tsIn 805 (by decide) (by decide) (by rfl) rfl (dd_L_act_1 46 _ _ _ rfl) ?_
    exact ha x o h 70 5000 Q 70 5000 c (by decide) (by decide) k
  · obtain ⟨t, S2, R, ha⟩ := a_name hg hnx hS hn hv hA
    refine ⟨t, S2, .res R (by omega), fun x o h Q c k => ?_⟩
    refine zC_of (M := mL_act) (lv := [some (.ref x), some (.int (zI v)), some (.int (zI (S.1 1))), none, none, none, none, none, none, none, none]) (by decide) rfl rfl (Nat.le_of_ble_eq_true rfl) rfl rfl ?_
    refine hh x h 70 5000 Q 70 5000 ?_
    rw [ej]
    refine r_tsIn 825 (by decide) (by decide) (by rfl) rfl (dd_L_act_1 46 _ _ _ rfl) ?_
    exact ha x o h 70 5000 Q 70 5000 c (by decide) (by decide) k
  · obtain ⟨t, S2, R, ha⟩ := a_whose hg hnx hS hn hv hA
    refine ⟨t, S2, .rq hS hn R (by omega), fun x o h Q c k => ?_⟩
    refine zC_of (M := mL_act) (lv := [some (.ref x), some (.int (zI v)), some (.int (zI (S.1 1))), none, none, none, none, none, none, none, none]) (by decide) rfl rfl (Nat.le_of_ble_eq_true rfl) rfl rfl ?_
    refine hh x h 70 5000 Q 70 5000 ?_
    rw [ej]
    refine r_tsIn 849 (by decide) (by decide) (by rfl) rfl (dd_L_act_1 46 _ _ _ rfl) ?_
    exact ha x o h 70 5000 Q 70 5000 c (by decide) (by decide) k
  · obtain ⟨t, S2, R, ha⟩ := a_look hg hnx hcs g0 w0 g1 w1 g2 w2 hS hn hv hA
    refine ⟨t, S2, .rt R (by omega) (by rw [ej]; unfold zty; omega), fun x o h Q c k => ?_⟩
    refine zC_of (M := mL_act) (lv := [some (.ref x), some (.int (zI v)), some (.int (zI (S.1 1))), none, none, none, none, none, none, none, none]) (by decide) rfl rfl (Nat.le_of_ble_eq_true rfl) rfl rfl ?_
    refine hh x h 70 5000 Q 70 5000 ?_
    rw [ej]
    refine r_tsIn 863 (by decide) (by decide) (by rfl) rfl (dd_L_act_1 46 _ _ _ rfl) ?_
    exact ha x o h 70 5000 Q 70 5000 c (by decide) (by decide) k
  · obtain ⟨t, S2, R, ha⟩ := a_look hg hnx hcs g0 w0 g1 w1 g2 w2 hS hn hv hA
    refine ⟨t, S2, .rt R (by omega) (by rw [ej]; unfold zty; omega), fun x o h Q c k => ?_⟩
    refine zC_of (M := mL_act) (lv := [some (.ref x), some (.int (zI v)), some (.int (zI (S.1 1))), none, none, none, none, none, none, none, none]) (by decide) rfl rfl (Nat.le_of_ble_eq_true rfl) rfl rfl ?_
    refine hh x h 70 5000 Q 70 5000 ?_
    rw [ej]
    refine r_tsIn 863 (by decide) (by decide) (by rfl) rfl (dd_L_act_1 46 _ _ _ rfl) ?_
    exact ha x o h 70 5000 Q 70 5000 c (by decide) (by decide) k
  · obtain ⟨t, S2, R, ha⟩ := a_pass hg hnx hS hn hv hA
    refine ⟨t, S2, .ps R (by omega), fun x o h Q c k => ?_⟩
    refine zC_of (M := mL_act) (lv := [some (.ref x), some (.int (zI v)), some (.int (zI (S.1 1))), none, none, none, none, none, none, none, none]) (by decide) rfl rfl (Nat.le_of_ble_eq_true rfl) rfl rfl ?_
    refine hh x h 70 5000 Q 70 5000 ?_
    rw [ej]
    refine r_tsOut 895 (by decide) rfl (dd_L_act_1 46 _ _ _ rfl) ?_
    exact ha x o h 70 5000 Q 70 5000 c (by decide) (by decide) k
  · obtain ⟨t, S2, R, ha⟩ := a_pass hg hnx hS hn hv hA
    refine ⟨t, S2, .ps R (by omega), fun x o h Q c k => ?_⟩
    refine zC_of (M := mL_act) (lv := [some (.ref x), some (.int (zI v)), some (.int (zI (S.1 1))), none, none, none, none, none, none, none, none]) (by decide) rfl rfl (Nat.le_of_ble_eq_true rfl) rfl rfl ?_
    refine hh x h 70 5000 Q 70 5000 ?_
    rw [ej]
    refine r_tsOut 895 (by decide) rfl (dd_L_act_1 46 _ _ _ rfl) ?_
    exact ha x o h 70 5000 Q 70 5000 c (by decide) (by decide) k
