theorem two_keep {g : zGT} {y n : Nat} {S : zS} {o o1 o2 : Nat → Nat} {h h1 : zH} (dj : ∀ b, kd_ h b ≠ 0 → o b = 0 ∨ o2 b = 0) (st : zStep zOwn o h o1 h1) (c : CEx g o2 h y S n) : CEx g (fun b => if kd_ h b = 0 then 0 else o2 b) h1 y S n ∧ ∀ b, kd_ h1 b ≠ 0 → o1 b = 0 ∨ (fun b => if kd_ h b = 0 then 0 else o2 b) b = 0 := by
  obtain ⟨Vs, Ps, Ss, Ts, Fs, Tn, A, G, Rc, cr⟩ := c
  refine ⟨⟨Vs, Ps, Ss, Ts, Fs, Tn, A, G, Rc, cr.fr (fun r h0 _ b hb hk => ?_)⟩, fun b hb => ?_⟩
  · have hob : o b = 0 := (dj b hk).resolve_right (by rw [hb]; exact h0)
    have e := st.1 b (by show ¬ o b ≠ 0; rw [hob]; exact fun q => q rfl) hk
    exact ⟨(if_neg hk).trans hb, e⟩
  · show o1 b = 0 ∨ (if kd_ h b = 0 then 0 else o2 b) = 0
    by_cases q : kd_ h b = 0
    · exact Or.inr (if_pos q)
    · rw [(st.2 b q).1, if_neg q]; exact dj b q
theorem dj_swap {h : zH} {o o2 : Nat → Nat} (dj : ∀ b, kd_ h b ≠ 0 → o b = 0 ∨ o2 b = 0) : ∀ b, kd_ h b ≠ 0 → o2 b = 0 ∨ o b = 0 := fun b hb => (dj b hb).symm
set_option maxRecDepth 20000
abbrev mL_areAlike : zM := (RL, cL_areAlike, 5, (Option.some Jvm.ClassFile.FieldType.boolean), [], "areAlike", 20)
theorem al_loop {g : zGT} (hg : zG g) (hnx : zNX g) {n : Nat} {S : zS} (hS : zOK n S) {w : Int} {x y : Nat} {o o2 : Nat → Nat} {h : zH} (c : CEx g o h x S n) (c2 : CEx g o2 h y S n) {mc ms : Nat} {Q : zO → zH → Prop} {b1 b2 : Nat} (kk : zX g mL_areAlike mc ms Q 173 [some (.ref x), some (.ref y), some (.int (zI w)), some (.int (zI 1)), none] [] h b1 b2) : ∀ (r : Nat) (k : Int), k + r = 4 → 0 ≤ k → ∀ bc bs, 56 * r + b1 ≤ bc → 560 * r + b2 ≤ bs → zX g mL_areAlike mc ms Q 5 [some (.ref x), some (.ref y), some (.int (zI w)), some (.int (zI 1)), some (.int (zI k))] [] h bc bs := by
  intro r
  induction r with
  | zero =>
    intro k hk h0 bc bs hb hb2
    refine r_iload_4 7 rfl (dd_L_areAlike_0 4 _ _ _ rfl) ?_
    refine r_iconst 8 rfl (dd_L_areAlike_0 5 _ _ _ rfl) ?_
    refine r_if_icmpge (by omega) (by omega) 11 rfl 173 rfl (dd_L_areAlike_0 6 _ _ _ rfl) (fun hc1 => ?_) (fun hc1 => ?_)
    · first | (exfalso; omega) | exact r_sub _ (z_s1 (z_s1 (z_s1 (z_s1 (z_s0 z_sN))))) (r_room (by omega) (by omega) kk)
    · exfalso; omega
  | succ r ih =>
    intro k hk h0 bc bs hb hb2
    have z1 := zlow_range (a := w) (n := 5) (by decide)
    have z2 := zlow_range (a := w) (n := 4) (by decide)
    obtain ⟨t_ofVehicle, R_ofVehicle, d9_ofVehicle⟩ := d_ofVehicle hg hnx hS (v := k) (q := zlow w 5) (by omega) (by omega)
    obtain ⟨t_owes, R_owes, d9_owes⟩ := d_owes hg hnx hS (v := k) (by omega)
    obtain ⟨t_on, R_on, d9_on⟩ := d_on hg hnx hS (v := k) (w := 0) (q := zlow w 4) (by omega) (by omega) (by omega)
    obtain ⟨t_plate, R_plate, d9_plate⟩ := d_plate hg hnx hS (v := k) (w := 0) (q := zlow w 4) (by omega) (by omega) (by omega)
    obtain ⟨t_seen, R_seen, d9_seen⟩ := d_seen hg hnx hS (v := k) (by omega)
    obtain ⟨t_whose, R_whose, d9_whose⟩ := d_whose hg hnx hS (v := k) (by omega)
    obtain ⟨t_looked, R_looked, d9_looked⟩ := d_looked hg hnx hS (v := k) (by omega)
    refine r_iload_4 7 rfl (dd_L_areAlike_0 4 _ _ _ rfl) ?_
    refine r_iconst 8 rfl (dd_L_areAlike_0 5 _ _ _ rfl) ?_
    refine r_if_icmpge (by omega) (by omega) 11 rfl 173 rfl (dd_L_areAlike_0 6 _ _ _ rfl) (fun hc1 => ?_) (fun hc1 => ?_)
    · exfalso; omega
    · refine r_iload_3 12 rfl (dd_L_areAlike_0 7 _ _ _ rfl) ?_
      refine r_ifeq (by omega) 15 rfl 173 rfl (dd_L_areAlike_0 8 _ _ _ rfl) (fun q => absurd q (by decide)) (fun _ => ?_)
      refine r_aload_0 16 rfl (dd_L_areAlike_0 9 _ _ _ rfl) ?_
      refine r_iload_4 18 rfl (dd_L_areAlike_0 10 _ _ _ rfl) ?_
      refine r_iload_2 19 rfl (dd_L_areAlike_0 11 _ _ _ rfl) ?_
      refine r_iconst 20 rfl (dd_L_areAlike_0 12 _ _ _ rfl) ?_
      refine r_callS2 (lvl := 10) (mc1 := 0) (ms1 := 0) bc bs hg rfl md_L_low ws_L_low (tb_1 155 _ rfl) (by decide) (by decide) rfl (Nat.le_of_ble_eq_true rfl) (by omega) (by omega) 23 rfl (dd_L_areAlike_0 13 _ _ _ rfl) ?_
      refine c_L_low hg (by omega) (fun la1 lb1 => ?_)
      dsimp only [zCont, Option.toList, List.cons_append, List.nil_append]
      refine r_callSH (lvl := 18) (mc1 := 4) (ms1 := 40) (As := [.ref x, .int (zI (k)), .int (zI (zlow w 5))]) (rest := []) (bc - 4) (bs - 40) hg rfl mh_ofVehicle ws_L_ofVehicle (tb_5 63 _ rfl) (by decide) (by decide) rfl (Nat.le_of_ble_eq_true rfl) (by omega) (by omega) rfl 26 rfl (dd_L_areAlike_0 14 _ _ _ rfl) ?_
      refine d9_ofVehicle x o h _ c ?_
      dsimp only [zCont, Option.toList, List.cons_append, List.nil_append]
      refine r_aload_1 27 rfl (dd_L_areAlike_0 15 _ _ _ rfl) ?_
      refine r_iload_4 29 rfl (dd_L_areAlike_0 16 _ _ _ rfl) ?_
      refine r_iload_2 30 rfl (dd_L_areAlike_0 17 _ _ _ rfl) ?_
      refine r_iconst 31 rfl (dd_L_areAlike_0 18 _ _ _ rfl) ?_
      refine r_callS2 (lvl := 10) (mc1 := 0) (ms1 := 0) (bc - 4) (bs - 40) hg rfl md_L_low ws_L_low (tb_1 155 _ rfl) (by decide) (by decide) rfl (Nat.le_of_ble_eq_true rfl) (by omega) (by omega) 34 rfl (dd_L_areAlike_0 19 _ _ _ rfl) ?_
      refine c_L_low hg (by omega) (fun la2 lb2 => ?_)
      dsimp only [zCont, Option.toList, List.cons_append, List.nil_append]
      refine r_callSH (lvl := 18) (mc1 := 4) (ms1 := 40) (As := [.ref y, .int (zI (k)), .int (zI (zlow w 5))]) (rest := [.long (zL t_ofVehicle)]) ((bc - 4) - 4) ((bs - 40) - 40) hg rfl mh_ofVehicle ws_L_ofVehicle (tb_5 63 _ rfl) (by decide) (by decide) rfl (Nat.le_of_ble_eq_true rfl) (by omega) (by omega) rfl 37 rfl (dd_L_areAlike_0 20 _ _ _ rfl) ?_
      refine d9_ofVehicle y o2 h _ c2 ?_
      dsimp only [zCont, Option.toList, List.cons_append, List.nil_append]
      refine r_lcmpe 38 rfl (dd_L_areAlike_0 21 _ _ _ rfl) ?_
      refine r_ifne (by omega) 41 rfl 165 rfl (dd_L_areAlike_0 22 _ _ _ rfl) (fun q => absurd q (by decide)) (fun _ => ?_)
      refine r_aload_0 42 rfl (dd_L_areAlike_0 23 _ _ _ rfl) ?_
      refine r_iload_4 44 rfl (dd_L_areAlike_0 24 _ _ _ rfl) ?_
      refine r_callSH (lvl := 17) (mc1 := 4) (ms1 := 40) (As := [.ref x, .int (zI (k))]) (rest := []) (((bc - 4) - 4) - 4) (((bs - 40) - 40) - 40) hg rfl mh_owes ws_L_owes (tb_5 28 _ rfl) (by decide) (by decide) rfl (Nat.le_of_ble_eq_true rfl) (by omega) (by omega) rfl 47 rfl (dd_L_areAlike_0 25 _ _ _ rfl) ?_
      refine d9_owes x o h _ c ?_
      dsimp only [zCont, Option.toList, List.cons_append, List.nil_append]
      refine r_aload_1 48 rfl (dd_L_areAlike_0 26 _ _ _ rfl) ?_
      refine r_iload_4 50 rfl (dd_L_areAlike_0 27 _ _ _ rfl) ?_
      refine r_callSH (lvl := 17) (mc1 := 4) (ms1 := 40) (As := [.ref y, .int (zI (k))]) (rest := [.long (zL t_owes)]) ((((bc - 4) - 4) - 4) - 4) ((((bs - 40) - 40) - 40) - 40) hg rfl mh_owes ws_L_owes (tb_5 28 _ rfl) (by decide) (by decide) rfl (Nat.le_of_ble_eq_true rfl) (by omega) (by omega) rfl 53 rfl (dd_L_areAlike_0 28 _ _ _ rfl) ?_
      refine d9_owes y o2 h _ c2 ?_
      dsimp only [zCont, Option.toList, List.cons_append, List.nil_append]
      refine r_lcmpe 54 rfl (dd_L_areAlike_0 29 _ _ _ rfl) ?_
      refine r_ifne (by omega) 57 rfl 165 rfl (dd_L_areAlike_0 30 _ _ _ rfl) (fun q => absurd q (by decide)) (fun _ => ?_)
      refine r_aload_0 58 rfl (dd_L_areAlike_0 31 _ _ _ rfl) ?_
      refine r_iload_4 60 rfl (dd_L_areAlike_0 32 _ _ _ rfl) ?_
      refine r_iconst 61 rfl (dd_L_areAlike_0 33 _ _ _ rfl) ?_
      refine r_iload_2 62 rfl (dd_L_areAlike_0 34 _ _ _ rfl) ?_
      refine r_iconst 63 rfl (dd_L_areAlike_0 35 _ _ _ rfl) ?_
      refine r_callS2 (lvl := 10) (mc1 := 0) (ms1 := 0) ((((bc - 4) - 4) - 4) - 4) ((((bs - 40) - 40) - 40) - 40) hg rfl md_L_low ws_L_low (tb_1 155 _ rfl) (by decide) (by decide) rfl (Nat.le_of_ble_eq_true rfl) (by omega) (by omega) 66 rfl (dd_L_areAlike_0 36 _ _ _ rfl) ?_
      refine c_L_low hg (by omega) (fun la3 lb3 => ?_)
      dsimp only [zCont, Option.toList, List.cons_append, List.nil_append]
      refine r_callSH (lvl := 16) (mc1 := 4) (ms1 := 40) (As := [.ref x, .int (zI (k)), .int (zI (0)), .int (zI (zlow w 4))]) (rest := []) (((((bc - 4) - 4) - 4) - 4) - 4) (((((bs - 40) - 40) - 40) - 40) - 40) hg rfl mh_on ws_L_on (tb_6 32 _ rfl) (by decide) (by decide) rfl (Nat.le_of_ble_eq_true rfl) (by omega) (by omega) rfl 69 rfl (dd_L_areAlike_0 37 _ _ _ rfl) ?_
      refine d9_on x o h _ c ?_
      dsimp only [zCont, Option.toList, List.cons_append, List.nil_append]
      refine r_aload_1 70 rfl (dd_L_areAlike_0 38 _ _ _ rfl) ?_
      refine r_iload_4 72 rfl (dd_L_areAlike_0 39 _ _ _ rfl) ?_
      refine r_iconst 73 rfl (dd_L_areAlike_0 40 _ _ _ rfl) ?_
      refine r_iload_2 74 rfl (dd_L_areAlike_0 41 _ _ _ rfl) ?_
      refine r_iconst 75 rfl (dd_L_areAlike_0 42 _ _ _ rfl) ?_
      refine r_callS2 (lvl := 10) (mc1 := 0) (ms1 := 0) (((((bc - 4) - 4) - 4) - 4) - 4) (((((bs - 40) - 40) - 40) - 40) - 40) hg rfl md_L_low ws_L_low (tb_1 155 _ rfl) (by decide) (by decide) rfl (Nat.le_of_ble_eq_true rfl) (by omega) (by omega) 78 rfl (dd_L_areAlike_0 43 _ _ _ rfl) ?_
      refine c_L_low hg (by omega) (fun la4 lb4 => ?_)
      dsimp only [zCont, Option.toList, List.cons_append, List.nil_append]
      refine r_callSH (lvl := 16) (mc1 := 4) (ms1 := 40) (As := [.ref y, .int (zI (k)), .int (zI (0)), .int (zI (zlow w 4))]) (rest := [.long (zL t_on)]) ((((((bc - 4) - 4) - 4) - 4) - 4) - 4) ((((((bs - 40) - 40) - 40) - 40) - 40) - 40) hg rfl mh_on ws_L_on (tb_6 32 _ rfl) (by decide) (by decide) rfl (Nat.le_of_ble_eq_true rfl) (by omega) (by omega) rfl 81 rfl (dd_L_areAlike_0 44 _ _ _ rfl) ?_
      refine d9_on y o2 h _ c2 ?_
      dsimp only [zCont, Option.toList, List.cons_append, List.nil_append]
      refine r_lcmpe 82 rfl (dd_L_areAlike_0 45 _ _ _ rfl) ?_
      refine r_ifne (by omega) 85 rfl 165 rfl (dd_L_areAlike_0 46 _ _ _ rfl) (fun q => absurd q (by decide)) (fun _ => ?_)
      refine r_aload_0 86 rfl (dd_L_areAlike_0 47 _ _ _ rfl) ?_
      refine r_iload_4 88 rfl (dd_L_areAlike_0 48 _ _ _ rfl) ?_
      refine r_iconst 89 rfl (dd_L_areAlike_0 49 _ _ _ rfl) ?_
      refine r_iload_2 90 rfl (dd_L_areAlike_0 50 _ _ _ rfl) ?_
      refine r_iconst 91 rfl (dd_L_areAlike_0 51 _ _ _ rfl) ?_
      refine r_callS2 (lvl := 10) (mc1 := 0) (ms1 := 0) ((((((bc - 4) - 4) - 4) - 4) - 4) - 4) ((((((bs - 40) - 40) - 40) - 40) - 40) - 40) hg rfl md_L_low ws_L_low (tb_1 155 _ rfl) (by decide) (by decide) rfl (Nat.le_of_ble_eq_true rfl) (by omega) (by omega) 94 rfl (dd_L_areAlike_0 52 _ _ _ rfl) ?_
      refine c_L_low hg (by omega) (fun la5 lb5 => ?_)
      dsimp only [zCont, Option.toList, List.cons_append, List.nil_append]
      refine r_callSH (lvl := 16) (mc1 := 4) (ms1 := 40) (As := [.ref x, .int (zI (k)), .int (zI (0)), .int (zI (zlow w 4))]) (rest := []) (((((((bc - 4) - 4) - 4) - 4) - 4) - 4) - 4) (((((((bs - 40) - 40) - 40) - 40) - 40) - 40) - 40) hg rfl mh_plate ws_L_plate (tb_4 222 _ rfl) (by decide) (by decide) rfl (Nat.le_of_ble_eq_true rfl) (by omega) (by omega) rfl 97 rfl (dd_L_areAlike_0 53 _ _ _ rfl) ?_
      refine d9_plate x o h _ c ?_
      dsimp only [zCont, Option.toList, List.cons_append, List.nil_append]
      refine r_aload_1 98 rfl (dd_L_areAlike_0 54 _ _ _ rfl) ?_
      refine r_iload_4 100 rfl (dd_L_areAlike_0 55 _ _ _ rfl) ?_
      refine r_iconst 101 rfl (dd_L_areAlike_0 56 _ _ _ rfl) ?_
      refine r_iload_2 102 rfl (dd_L_areAlike_0 57 _ _ _ rfl) ?_
      refine r_iconst 103 rfl (dd_L_areAlike_0 58 _ _ _ rfl) ?_
      refine r_callS2 (lvl := 10) (mc1 := 0) (ms1 := 0) (((((((bc - 4) - 4) - 4) - 4) - 4) - 4) - 4) (((((((bs - 40) - 40) - 40) - 40) - 40) - 40) - 40) hg rfl md_L_low ws_L_low (tb_1 155 _ rfl) (by decide) (by decide) rfl (Nat.le_of_ble_eq_true rfl) (by omega) (by omega) 106 rfl (dd_L_areAlike_0 59 _ _ _ rfl) ?_
      refine c_L_low hg (by omega) (fun la6 lb6 => ?_)
      dsimp only [zCont, Option.toList, List.cons_append, List.nil_append]
      refine r_callSH (lvl := 16) (mc1 := 4) (ms1 := 40) (As := [.ref y, .int (zI (k)), .int (zI (0)), .int (zI (zlow w 4))]) (rest := [.long (zL t_plate)]) ((((((((bc - 4) - 4) - 4) - 4) - 4) - 4) - 4) - 4) ((((((((bs - 40) - 40) - 40) - 40) - 40) - 40) - 40) - 40) hg rfl mh_plate ws_L_plate (tb_4 222 _ rfl) (by decide) (by decide) rfl (Nat.le_of_ble_eq_true rfl) (by omega) (by omega) rfl 109 rfl (dd_L_areAlike_1 0 _ _ _ rfl) ?_
      refine d9_plate y o2 h _ c2 ?_
      dsimp only [zCont, Option.toList, List.cons_append, List.nil_append]
      refine r_lcmpe 110 rfl (dd_L_areAlike_1 1 _ _ _ rfl) ?_
      refine r_ifne (by omega) 113 rfl 165 rfl (dd_L_areAlike_1 2 _ _ _ rfl) (fun q => absurd q (by decide)) (fun _ => ?_)
      refine r_aload_0 114 rfl (dd_L_areAlike_1 3 _ _ _ rfl) ?_
      refine r_iload_4 116 rfl (dd_L_areAlike_1 4 _ _ _ rfl) ?_
      refine r_callSH (lvl := 17) (mc1 := 4) (ms1 := 40) (As := [.ref x, .int (zI (k))]) (rest := []) (((((((((bc - 4) - 4) - 4) - 4) - 4) - 4) - 4) - 4) - 4) (((((((((bs - 40) - 40) - 40) - 40) - 40) - 40) - 40) - 40) - 40) hg rfl mh_seen ws_L_seen (tb_5 143 _ rfl) (by decide) (by decide) rfl (Nat.le_of_ble_eq_true rfl) (by omega) (by omega) rfl 119 rfl (dd_L_areAlike_1 5 _ _ _ rfl) ?_
      refine d9_seen x o h _ c ?_
      dsimp only [zCont, Option.toList, List.cons_append, List.nil_append]
      refine r_aload_1 120 rfl (dd_L_areAlike_1 6 _ _ _ rfl) ?_
      refine r_iload_4 122 rfl (dd_L_areAlike_1 7 _ _ _ rfl) ?_
      refine r_callSH (lvl := 17) (mc1 := 4) (ms1 := 40) (As := [.ref y, .int (zI (k))]) (rest := [.long (zL t_seen)]) ((((((((((bc - 4) - 4) - 4) - 4) - 4) - 4) - 4) - 4) - 4) - 4) ((((((((((bs - 40) - 40) - 40) - 40) - 40) - 40) - 40) - 40) - 40) - 40) hg rfl mh_seen ws_L_seen (tb_5 143 _ rfl) (by decide) (by decide) rfl (Nat.le_of_ble_eq_true rfl) (by omega) (by omega) rfl 125 rfl (dd_L_areAlike_1 8 _ _ _ rfl) ?_
      refine d9_seen y o2 h _ c2 ?_
      dsimp only [zCont, Option.toList, List.cons_append, List.nil_append]
      refine r_lcmpe 126 rfl (dd_L_areAlike_1 9 _ _ _ rfl) ?_
      refine r_ifne (by omega) 129 rfl 165 rfl (dd_L_areAlike_1 10 _ _ _ rfl) (fun q => absurd q (by decide)) (fun _ => ?_)
      refine r_aload_0 130 rfl (dd_L_areAlike_1 11 _ _ _ rfl) ?_
      refine r_iload_4 132 rfl (dd_L_areAlike_1 12 _ _ _ rfl) ?_
      refine r_callSH (lvl := 18) (mc1 := 4) (ms1 := 40) (As := [.ref x, .int (zI (k))]) (rest := []) (((((((((((bc - 4) - 4) - 4) - 4) - 4) - 4) - 4) - 4) - 4) - 4) - 4) (((((((((((bs - 40) - 40) - 40) - 40) - 40) - 40) - 40) - 40) - 40) - 40) - 40) hg rfl mh_whose ws_L_whose (tb_5 207 _ rfl) (by decide) (by decide) rfl (Nat.le_of_ble_eq_true rfl) (by omega) (by omega) rfl 135 rfl (dd_L_areAlike_1 13 _ _ _ rfl) ?_
      refine d9_whose x o h _ c ?_
      dsimp only [zCont, Option.toList, List.cons_append, List.nil_append]
      refine r_aload_1 136 rfl (dd_L_areAlike_1 14 _ _ _ rfl) ?_
      refine r_iload_4 138 rfl (dd_L_areAlike_1 15 _ _ _ rfl) ?_
      refine r_callSH (lvl := 18) (mc1 := 4) (ms1 := 40) (As := [.ref y, .int (zI (k))]) (rest := [.long (zL t_whose)]) ((((((((((((bc - 4) - 4) - 4) - 4) - 4) - 4) - 4) - 4) - 4) - 4) - 4) - 4) ((((((((((((bs - 40) - 40) - 40) - 40) - 40) - 40) - 40) - 40) - 40) - 40) - 40) - 40) hg rfl mh_whose ws_L_whose (tb_5 207 _ rfl) (by decide) (by decide) rfl (Nat.le_of_ble_eq_true rfl) (by omega) (by omega) rfl 141 rfl (dd_L_areAlike_1 16 _ _ _ rfl) ?_
      refine d9_whose y o2 h _ c2 ?_
      dsimp only [zCont, Option.toList, List.cons_append, List.nil_append]
      refine r_lcmpe 142 rfl (dd_L_areAlike_1 17 _ _ _ rfl) ?_
      refine r_ifne (by omega) 145 rfl 165 rfl (dd_L_areAlike_1 18 _ _ _ rfl) (fun q => absurd q (by decide)) (fun _ => ?_)
      refine r_aload_0 146 rfl (dd_L_areAlike_1 19 _ _ _ rfl) ?_
      refine r_iload_4 148 rfl (dd_L_areAlike_1 20 _ _ _ rfl) ?_
      refine r_callSH (lvl := 15) (mc1 := 4) (ms1 := 40) (As := [.ref x, .int (zI (k))]) (rest := []) (((((((((((((bc - 4) - 4) - 4) - 4) - 4) - 4) - 4) - 4) - 4) - 4) - 4) - 4) - 4) (((((((((((((bs - 40) - 40) - 40) - 40) - 40) - 40) - 40) - 40) - 40) - 40) - 40) - 40) - 40) hg rfl mh_looked ws_L_looked (tb_5 35 _ rfl) (by decide) (by decide) rfl (Nat.le_of_ble_eq_true rfl) (by omega) (by omega) rfl 151 rfl (dd_L_areAlike_1 21 _ _ _ rfl) ?_
      refine d9_looked x o h _ c ?_
      dsimp only [zCont, Option.toList, List.cons_append, List.nil_append]
      refine r_aload_1 152 rfl (dd_L_areAlike_1 22 _ _ _ rfl) ?_
      refine r_iload_4 154 rfl (dd_L_areAlike_1 23 _ _ _ rfl) ?_
      refine r_callSH (lvl := 15) (mc1 := 4) (ms1 := 40) (As := [.ref y, .int (zI (k))]) (rest := [.long (zL t_looked)]) ((((((((((((((bc - 4) - 4) - 4) - 4) - 4) - 4) - 4) - 4) - 4) - 4) - 4) - 4) - 4) - 4) ((((((((((((((bs - 40) - 40) - 40) - 40) - 40) - 40) - 40) - 40) - 40) - 40) - 40) - 40) - 40) - 40) hg rfl mh_looked ws_L_looked (tb_5 35 _ rfl) (by decide) (by decide) rfl (Nat.le_of_ble_eq_true rfl) (by omega) (by omega) rfl 157 rfl (dd_L_areAlike_1 24 _ _ _ rfl) ?_
      refine d9_looked y o2 h _ c2 ?_
      dsimp only [zCont, Option.toList, List.cons_append, List.nil_append]
      refine r_lcmpe 158 rfl (dd_L_areAlike_1 25 _ _ _ rfl) ?_
      refine r_ifne (by omega) 161 rfl 165 rfl (dd_L_areAlike_1 26 _ _ _ rfl) (fun q => absurd q (by decide)) (fun _ => ?_)
      refine r_iconst 162 rfl (dd_L_areAlike_1 27 _ _ _ rfl) ?_
      refine r_goto 166 rfl (dd_L_areAlike_1 28 _ _ _ rfl) ?_
      refine r_istore_3 167 rfl (by decide) rfl (dd_L_areAlike_1 30 _ _ _ rfl) ?_
      refine r_iinc_4 170 rfl (by decide) rfl (dd_L_areAlike_1 31 _ _ _ rfl) ?_
      refine r_goto 5 rfl (dd_L_areAlike_1 32 _ _ _ rfl) ?_
      exact r_sub _ (z_s1 (z_s1 (z_s1 (z_s1 (z_s1 z_sN))))) (ih (k + 1) (by omega) (by omega) _ _ (by omega) (by omega))
theorem c_alike {g : zGT} (hg : zG g) (hnx : zNX g) {n : Nat} {S : zS} (hS : zOK n S) {w : Int} {x y : Nat} {o o2 : Nat → Nat} {h : zH} {Q : zO → zH → Prop} (c : CEx g o h x S n) (c2 : CEx g o2 h y S n) (dj : ∀ b, kd_ h b ≠ 0 → o b = 0 ∨ o2 b = 0) (k : ∀ o1 o3 h1, CEx g o1 h1 x (zu1 S.1 2 0, S.2) n → CEx g o3 h1 y (zu1 S.1 2 0, S.2) n → (∀ b, kd_ h1 b ≠ 0 → o1 b = 0 ∨ o3 b = 0) → Q (.inl (some (.int (zI 1)))) h1) : zC g (.code yL_areAlike cL_areAlike 5 (Option.some Jvm.ClassFile.FieldType.boolean)) yL_areAlike 20 224 2240 [.ref x, .ref y, .int (zI w)] h Q := by
  have e9 := hS.1.1.signs
  refine zC_of (M := mL_areAlike) (lv := [some (.ref x), some (.ref y), some (.int (zI w)), none, none]) (by decide) rfl rfl (Nat.le_of_ble_eq_true rfl) rfl rfl ?_
  refine r_iconst 1 rfl (dd_L_areAlike_0 0 _ _ _ rfl) ?_
  refine r_istore_3 2 rfl (by decide) rfl (dd_L_areAlike_0 1 _ _ _ rfl) ?_
  refine r_iconst 3 rfl (dd_L_areAlike_0 2 _ _ _ rfl) ?_
  refine r_istore_4 5 rfl (by decide) rfl (dd_L_areAlike_0 3 _ _ _ rfl) ?_
  refine r_sub [some (.ref x), some (.ref y), some (.int (zI w)), some (.int (zI 1)), some (.int (zI 0))] (z_s1 (z_s1 (z_s1 (z_s1 (z_s1 z_sN))))) ?_
  refine al_loop hg hnx hS c c2 (b1 := 0) (b2 := 0) ?_ 4 0 rfl (by decide) 224 2240 (by decide) (by decide)
  refine r_iload_3 174 rfl (dd_L_areAlike_1 33 _ _ _ rfl) ?_
  refine r_ifeq (by omega) 177 rfl 192 rfl (dd_L_areAlike_1 34 _ _ _ rfl) (fun q => absurd q (by decide)) (fun _ => ?_)
  refine r_aload_0 178 rfl (dd_L_areAlike_1 35 _ _ _ rfl) ?_
  refine r_callV0 (lvl := 14) (mc1 := 0) (ms1 := 0) 0 0 hg rfl md_X11_clear zc_X11 c.kd wi_X11_clear wv_X11_clear (tb_4 180 _ rfl) (by decide) (by decide) rfl (Nat.le_of_ble_eq_true rfl) (by omega) (by omega) 181 rfl (dd_L_areAlike_1 36 _ _ _ rfl) ?_
  obtain ⟨Vs, Ps, Ss, Ts, Fs, Tn, A, G, Rc, yy⟩ := id c
  refine c_X11_clear hg hS.1.1 yy (fun o1 h1 cx st => ?_)
  obtain ⟨cy1, dj1⟩ := two_keep dj st c2
  dsimp only [zCont, Option.toList, List.cons_append, List.nil_append]
  refine r_aload_1 182 rfl (dd_L_areAlike_1 37 _ _ _ rfl) ?_
  refine r_callV0 (lvl := 14) (mc1 := 0) (ms1 := 0) 0 0 hg rfl md_X11_clear zc_X11 cy1.kd wi_X11_clear wv_X11_clear (tb_4 180 _ rfl) (by decide) (by decide) rfl (Nat.le_of_ble_eq_true rfl) (by omega) (by omega) 185 rfl (dd_L_areAlike_1 38 _ _ _ rfl) ?_
  obtain ⟨Vs1, Ps1, Ss1, Ts1, Fs1, Tn1, A1, G1, Rc1, yy1⟩ := id cy1
  refine c_X11_clear hg hS.1.1 yy1 (fun o3 h3 cy3 st3 => ?_)
  obtain ⟨cx3, dj3⟩ := two_keep (dj_swap dj1) st3 cx
  dsimp only [zCont, Option.toList, List.cons_append, List.nil_append]
  refine r_if_icmpne (by omega) (by omega) 188 rfl 192 rfl (dd_L_areAlike_1 39 _ _ _ rfl) (fun q => by exfalso; omega) (fun _ => ?_)
  refine r_iconst 189 rfl (dd_L_areAlike_1 40 _ _ _ rfl) ?_
  refine r_goto 193 rfl (dd_L_areAlike_1 41 _ _ _ rfl) ?_
  refine r_ireturn rfl rfl (dd_L_areAlike_1 43 _ _ _ rfl) ?_
  exact k _ _ _ cx3 cy3 (dj_swap dj3)
