abbrev mL_law : zM := (RL, cL_law, 9, ret, [], "law", 21)
set_option maxRecDepth 20000
theorem law_ty {g : zGT} (hg : zG g) {mc ms : Nat} {Q : zO → zH → Prop} {a x y : Nat} {h : zH} {bc bs : Nat} {v td e t : Int} {ty : Int} (hT : (zty (zlow v 40) ∧ ty = 1) ∨ (¬ zty (zlow v 40) ∧ ty = 0)) (kk : zX g mL_law mc ms Q 124 [some (.ref a), some (.ref x), some (.ref y), some (.int (zI (td))), some (.int (zI (e))), some (.int (zI (v))), some (.long (zL t)), none, some (.int (zI (ty)))] [] h bc bs) : zX g mL_law mc ms Q 45 [some (.ref a), some (.ref x), some (.ref y), some (.int (zI (td))), some (.int (zI (e))), some (.int (zI (v))), some (.long (zL t)), none, none] [] h bc bs := by
  unfold zty at hT
  refine r_iload_5 47 rfl (dd_L_law_0 24 _ _ _ rfl) ?_
  refine r_bipush (by decide) 49 rfl (dd_L_law_0 25 _ _ _ rfl) ?_
  refine r_callS2 (lvl := 10) (mc1 := 0) (ms1 := 0) bc bs hg rfl md_L_low ws_L_low (tb_1 155 _ rfl) (by decide) (by decide) rfl (Nat.le_of_ble_eq_true rfl) (by omega) (by omega) 52 rfl (dd_L_law_0 26 _ _ _ rfl) ?_
  refine c_L_low hg (by omega) (fun la1 lb1 => ?_)
  dsimp only [zCont, Option.toList, List.cons_append, List.nil_append]
  refine r_bipush (by decide) 54 rfl (dd_L_law_0 27 _ _ _ rfl) ?_
  refine r_if_icmpeq (by omega) (by omega) 57 rfl 117 rfl (dd_L_law_0 28 _ _ _ rfl) (fun hc1 => ?_) (fun hc1 => ?_)
  · refine r_iconst 118 rfl (dd_L_law_0 54 _ _ _ rfl) ?_
    refine r_goto 122 rfl (dd_L_law_0 55 _ _ _ rfl) ?_
    refine r_top ty (congrArg zI (by omega)) ?_
    refine r_istore_8 124 rfl (by decide) rfl (dd_L_law_0 57 _ _ _ rfl) ?_
    exact kk
  · refine r_iload_5 59 rfl (dd_L_law_0 29 _ _ _ rfl) ?_
    refine r_bipush (by decide) 61 rfl (dd_L_law_0 30 _ _ _ rfl) ?_
    refine r_callS2 (lvl := 10) (mc1 := 0) (ms1 := 0) bc bs hg rfl md_L_low ws_L_low (tb_1 155 _ rfl) (by decide) (by decide) rfl (Nat.le_of_ble_eq_true rfl) (by omega) (by omega) 64 rfl (dd_L_law_0 31 _ _ _ rfl) ?_
    refine c_L_low hg (by omega) (fun la2 lb2 => ?_)
    dsimp only [zCont, Option.toList, List.cons_append, List.nil_append]
    refine r_bipush (by decide) 66 rfl (dd_L_law_0 32 _ _ _ rfl) ?_
    refine r_if_icmpeq (by omega) (by omega) 69 rfl 117 rfl (dd_L_law_0 33 _ _ _ rfl) (fun hc2 => ?_) (fun hc2 => ?_)
    · refine r_iconst 118 rfl (dd_L_law_0 54 _ _ _ rfl) ?_
      refine r_goto 122 rfl (dd_L_law_0 55 _ _ _ rfl) ?_
      refine r_top ty (congrArg zI (by omega)) ?_
      refine r_istore_8 124 rfl (by decide) rfl (dd_L_law_0 57 _ _ _ rfl) ?_
      exact kk
    · refine r_iload_5 71 rfl (dd_L_law_0 34 _ _ _ rfl) ?_
      refine r_bipush (by decide) 73 rfl (dd_L_law_0 35 _ _ _ rfl) ?_
      refine r_callS2 (lvl := 10) (mc1 := 0) (ms1 := 0) bc bs hg rfl md_L_low ws_L_low (tb_1 155 _ rfl) (by decide) (by decide) rfl (Nat.le_of_ble_eq_true rfl) (by omega) (by omega) 76 rfl (dd_L_law_0 36 _ _ _ rfl) ?_
      refine c_L_low hg (by omega) (fun la3 lb3 => ?_)
      dsimp only [zCont, Option.toList, List.cons_append, List.nil_append]
      refine r_bipush (by decide) 78 rfl (dd_L_law_0 37 _ _ _ rfl) ?_
      refine r_if_icmple (by omega) (by omega) 81 rfl 93 rfl (dd_L_law_0 38 _ _ _ rfl) (fun hc3 => ?_) (fun hc3 => ?_)
      · refine r_iload_5 95 rfl (dd_L_law_0 44 _ _ _ rfl) ?_
        refine r_bipush (by decide) 97 rfl (dd_L_law_0 45 _ _ _ rfl) ?_
        refine r_callS2 (lvl := 10) (mc1 := 0) (ms1 := 0) bc bs hg rfl md_L_low ws_L_low (tb_1 155 _ rfl) (by decide) (by decide) rfl (Nat.le_of_ble_eq_true rfl) (by omega) (by omega) 100 rfl (dd_L_law_0 46 _ _ _ rfl) ?_
        refine c_L_low hg (by omega) (fun la4 lb4 => ?_)
        dsimp only [zCont, Option.toList, List.cons_append, List.nil_append]
        refine r_bipush (by decide) 102 rfl (dd_L_law_0 47 _ _ _ rfl) ?_
        refine r_if_icmpeq (by omega) (by omega) 105 rfl 117 rfl (dd_L_law_0 48 _ _ _ rfl) (fun hc4 => ?_) (fun hc4 => ?_)
        · refine r_iconst 118 rfl (dd_L_law_0 54 _ _ _ rfl) ?_
          refine r_goto 122 rfl (dd_L_law_0 55 _ _ _ rfl) ?_
          refine r_top ty (congrArg zI (by omega)) ?_
          refine r_istore_8 124 rfl (by decide) rfl (dd_L_law_0 57 _ _ _ rfl) ?_
          exact kk
        · refine r_iload_5 107 rfl (dd_L_law_0 49 _ _ _ rfl) ?_
          refine r_bipush (by decide) 109 rfl (dd_L_law_0 50 _ _ _ rfl) ?_
          refine r_callS2 (lvl := 10) (mc1 := 0) (ms1 := 0) bc bs hg rfl md_L_low ws_L_low (tb_1 155 _ rfl) (by decide) (by decide) rfl (Nat.le_of_ble_eq_true rfl) (by omega) (by omega) 112 rfl (dd_L_law_0 51 _ _ _ rfl) ?_
          refine c_L_low hg (by omega) (fun la5 lb5 => ?_)
          dsimp only [zCont, Option.toList, List.cons_append, List.nil_append]
          refine r_bipush (by decide) 114 rfl (dd_L_law_0 52 _ _ _ rfl) ?_
          refine r_if_icmpne (by omega) (by omega) 117 rfl 121 rfl (dd_L_law_0 53 _ _ _ rfl) (fun hc5 => ?_) (fun hc5 => ?_)
          · refine r_iconst 122 rfl (dd_L_law_0 56 _ _ _ rfl) ?_
            refine r_top ty (congrArg zI (by omega)) ?_
            refine r_istore_8 124 rfl (by decide) rfl (dd_L_law_0 57 _ _ _ rfl) ?_
            exact kk
          · refine r_iconst 118 rfl (dd_L_law_0 54 _ _ _ rfl) ?_
            refine r_goto 122 rfl (dd_L_law_0 55 _ _ _ rfl) ?_
            refine r_top ty (congrArg zI (by omega)) ?_
            refine r_istore_8 124 rfl (by decide) rfl (dd_L_law_0 57 _ _ _ rfl) ?_
            exact kk
      · refine r_iload_5 83 rfl (dd_L_law_0 39 _ _ _ rfl) ?_
        refine r_bipush (by decide) 85 rfl (dd_L_law_0 40 _ _ _ rfl) ?_
        refine r_callS2 (lvl := 10) (mc1 := 0) (ms1 := 0) bc bs hg rfl md_L_low ws_L_low (tb_1 155 _ rfl) (by decide) (by decide) rfl (Nat.le_of_ble_eq_true rfl) (by omega) (by omega) 88 rfl (dd_L_law_0 41 _ _ _ rfl) ?_
        refine c_L_low hg (by omega) (fun la6 lb6 => ?_)
        dsimp only [zCont, Option.toList, List.cons_append, List.nil_append]
        refine r_bipush (by decide) 90 rfl (dd_L_law_0 42 _ _ _ rfl) ?_
        refine r_if_icmplt (by omega) (by omega) 93 rfl 117 rfl (dd_L_law_0 43 _ _ _ rfl) (fun hc6 => ?_) (fun hc6 => ?_)
        · refine r_iconst 118 rfl (dd_L_law_0 54 _ _ _ rfl) ?_
          refine r_goto 122 rfl (dd_L_law_0 55 _ _ _ rfl) ?_
          refine r_top ty (congrArg zI (by omega)) ?_
          refine r_istore_8 124 rfl (by decide) rfl (dd_L_law_0 57 _ _ _ rfl) ?_
          exact kk
        · refine r_iload_5 95 rfl (dd_L_law_0 44 _ _ _ rfl) ?_
          refine r_bipush (by decide) 97 rfl (dd_L_law_0 45 _ _ _ rfl) ?_
          refine r_callS2 (lvl := 10) (mc1 := 0) (ms1 := 0) bc bs hg rfl md_L_low ws_L_low (tb_1 155 _ rfl) (by decide) (by decide) rfl (Nat.le_of_ble_eq_true rfl) (by omega) (by omega) 100 rfl (dd_L_law_0 46 _ _ _ rfl) ?_
          refine c_L_low hg (by omega) (fun la7 lb7 => ?_)
          dsimp only [zCont, Option.toList, List.cons_append, List.nil_append]
          refine r_bipush (by decide) 102 rfl (dd_L_law_0 47 _ _ _ rfl) ?_
          refine r_if_icmpeq (by omega) (by omega) 105 rfl 117 rfl (dd_L_law_0 48 _ _ _ rfl) (fun hc7 => ?_) (fun hc7 => ?_)
          · refine r_iconst 118 rfl (dd_L_law_0 54 _ _ _ rfl) ?_
            refine r_goto 122 rfl (dd_L_law_0 55 _ _ _ rfl) ?_
            refine r_top ty (congrArg zI (by omega)) ?_
            refine r_istore_8 124 rfl (by decide) rfl (dd_L_law_0 57 _ _ _ rfl) ?_
            exact kk
          · refine r_iload_5 107 rfl (dd_L_law_0 49 _ _ _ rfl) ?_
            refine r_bipush (by decide) 109 rfl (dd_L_law_0 50 _ _ _ rfl) ?_
            refine r_callS2 (lvl := 10) (mc1 := 0) (ms1 := 0) bc bs hg rfl md_L_low ws_L_low (tb_1 155 _ rfl) (by decide) (by decide) rfl (Nat.le_of_ble_eq_true rfl) (by omega) (by omega) 112 rfl (dd_L_law_0 51 _ _ _ rfl) ?_
            refine c_L_low hg (by omega) (fun la8 lb8 => ?_)
            dsimp only [zCont, Option.toList, List.cons_append, List.nil_append]
            refine r_bipush (by decide) 114 rfl (dd_L_law_0 52 _ _ _ rfl) ?_
            refine r_if_icmpne (by omega) (by omega) 117 rfl 121 rfl (dd_L_law_0 53 _ _ _ rfl) (fun hc8 => ?_) (fun hc8 => ?_)
            · refine r_iconst 122 rfl (dd_L_law_0 56 _ _ _ rfl) ?_
              refine r_top ty (congrArg zI (by omega)) ?_
              refine r_istore_8 124 rfl (by decide) rfl (dd_L_law_0 57 _ _ _ rfl) ?_
              exact kk
            · refine r_iconst 118 rfl (dd_L_law_0 54 _ _ _ rfl) ?_
              refine r_goto 122 rfl (dd_L_law_0 55 _ _ _ rfl) ?_
              refine r_top ty (congrArg zI (by omega)) ?_
              refine r_istore_8 124 rfl (by decide) rfl (dd_L_law_0 57 _ _ _ rfl) ?_
              exact kk
theorem law_end {g : zGT} (hg : zG g) {mc ms : Nat} {Q : zO → zH → Prop} {a x y : Nat} {h : zH} {bc bs : Nat} {v td e t : Int} {nt : Int} (hN : (37 < zlow v 40 ∧ 0 ≤ t ∧ zR t ∧ nt = t) ∨ (¬ (37 < zlow v 40 ∧ 0 ≤ t) ∧ nt = td)) (hq : zQ t) (kk : zX g mL_law mc ms Q 21 [some (.ref a), some (.ref x), some (.ref y), some (.int (zI (nt))), some (.int (zI (e + 1))), none, none, none, none] [] h bc bs) : zX g mL_law mc ms Q 175 [some (.ref a), some (.ref x), some (.ref y), some (.int (zI (td))), some (.int (zI (e))), some (.int (zI (v))), some (.long (zL t)), none, none] [] h bc bs := by
  rcases hN with ⟨n1, n2, n3, rfl⟩ | ⟨n1, rfl⟩
  · refine r_iload_5 177 rfl (dd_L_law_1 25 _ _ _ rfl) ?_
    refine r_bipush (by decide) 179 rfl (dd_L_law_1 26 _ _ _ rfl) ?_
    refine r_callS2 (lvl := 10) (mc1 := 0) (ms1 := 0) bc bs hg rfl md_L_low ws_L_low (tb_1 155 _ rfl) (by decide) (by decide) rfl (Nat.le_of_ble_eq_true rfl) (by omega) (by omega) 182 rfl (dd_L_law_1 27 _ _ _ rfl) ?_
    refine c_L_low hg (by omega) (fun la1 lb1 => ?_)
    dsimp only [zCont, Option.toList, List.cons_append, List.nil_append]
    refine r_bipush (by decide) 184 rfl (dd_L_law_1 28 _ _ _ rfl) ?_
    refine r_if_icmple (by omega) (by omega) 187 rfl 200 rfl (dd_L_law_1 29 _ _ _ rfl) (fun q => by exfalso; omega) (fun _ => ?_)
    refine r_lload_6 189 rfl (dd_L_law_1 30 _ _ _ rfl) ?_
    refine r_lconst0 190 rfl (dd_L_law_1 31 _ _ _ rfl) ?_
    refine r_lcmp (by omega) (by omega) 191 rfl (dd_L_law_1 32 _ _ _ rfl) (fun hcl => by exfalso; omega) (fun hcl => ?_) (fun hcl => ?_)
    · refine r_iflt (by omega) 194 rfl 200 rfl (dd_L_law_1 33 _ _ _ rfl) (fun q => absurd q (by decide)) (fun _ => ?_)
      refine r_lload_6 196 rfl (dd_L_law_1 34 _ _ _ rfl) ?_
      refine r_l2iz (by omega) 197 rfl (dd_L_law_1 35 _ _ _ rfl) ?_
      refine r_goto 201 rfl (dd_L_law_1 36 _ _ _ rfl) ?_
      refine r_istore_3 202 rfl (by decide) rfl (dd_L_law_1 38 _ _ _ rfl) ?_
      refine r_iinc_4 205 rfl (by decide) rfl (dd_L_law_1 39 _ _ _ rfl) ?_
      refine r_goto 21 rfl (dd_L_law_1 40 _ _ _ rfl) ?_
      first | (exfalso; omega) | exact r_sub _ (z_s1 (z_s1 (z_s1 (z_s1 (z_s1 (z_s0 (z_s0 (z_s0 (z_s0 z_sN))))))))) kk
    · refine r_iflt (by omega) 194 rfl 200 rfl (dd_L_law_1 33 _ _ _ rfl) (fun q => absurd q (by decide)) (fun _ => ?_)
      refine r_lload_6 196 rfl (dd_L_law_1 34 _ _ _ rfl) ?_
      refine r_l2iz (by omega) 197 rfl (dd_L_law_1 35 _ _ _ rfl) ?_
      refine r_goto 201 rfl (dd_L_law_1 36 _ _ _ rfl) ?_
      refine r_istore_3 202 rfl (by decide) rfl (dd_L_law_1 38 _ _ _ rfl) ?_
      refine r_iinc_4 205 rfl (by decide) rfl (dd_L_law_1 39 _ _ _ rfl) ?_
      refine r_goto 21 rfl (dd_L_law_1 40 _ _ _ rfl) ?_
      first | (exfalso; omega) | exact r_sub _ (z_s1 (z_s1 (z_s1 (z_s1 (z_s1 (z_s0 (z_s0 (z_s0 (z_s0 z_sN))))))))) kk
  · by_cases n2 : 37 < zlow v 40
    · refine r_iload_5 177 rfl (dd_L_law_1 25 _ _ _ rfl) ?_
      refine r_bipush (by decide) 179 rfl (dd_L_law_1 26 _ _ _ rfl) ?_
      refine r_callS2 (lvl := 10) (mc1 := 0) (ms1 := 0) bc bs hg rfl md_L_low ws_L_low (tb_1 155 _ rfl) (by decide) (by decide) rfl (Nat.le_of_ble_eq_true rfl) (by omega) (by omega) 182 rfl (dd_L_law_1 27 _ _ _ rfl) ?_
      refine c_L_low hg (by omega) (fun la1 lb1 => ?_)
      dsimp only [zCont, Option.toList, List.cons_append, List.nil_append]
      refine r_bipush (by decide) 184 rfl (dd_L_law_1 28 _ _ _ rfl) ?_
      refine r_if_icmple (by omega) (by omega) 187 rfl 200 rfl (dd_L_law_1 29 _ _ _ rfl) (fun q => by exfalso; omega) (fun _ => ?_)
      refine r_lload_6 189 rfl (dd_L_law_1 30 _ _ _ rfl) ?_
      refine r_lconst0 190 rfl (dd_L_law_1 31 _ _ _ rfl) ?_
      refine r_lcmp (by omega) (by omega) 191 rfl (dd_L_law_1 32 _ _ _ rfl) (fun _ => ?_) (fun q => by exfalso; omega) (fun q => by exfalso; omega)
      refine r_iflt (by omega) 194 rfl 200 rfl (dd_L_law_1 33 _ _ _ rfl) (fun _ => ?_) (fun q => absurd q (by decide))
      refine r_iload_3 201 rfl (dd_L_law_1 37 _ _ _ rfl) ?_
      refine r_istore_3 202 rfl (by decide) rfl (dd_L_law_1 38 _ _ _ rfl) ?_
      refine r_iinc_4 205 rfl (by decide) rfl (dd_L_law_1 39 _ _ _ rfl) ?_
      refine r_goto 21 rfl (dd_L_law_1 40 _ _ _ rfl) ?_
      first | (exfalso; omega) | exact r_sub _ (z_s1 (z_s1 (z_s1 (z_s1 (z_s1 (z_s0 (z_s0 (z_s0 (z_s0 z_sN))))))))) kk
    · refine r_iload_5 177 rfl (dd_L_law_1 25 _ _ _ rfl) ?_
      refine r_bipush (by decide) 179 rfl (dd_L_law_1 26 _ _ _ rfl) ?_
      refine r_callS2 (lvl := 10) (mc1 := 0) (ms1 := 0) bc bs hg rfl md_L_low ws_L_low (tb_1 155 _ rfl) (by decide) (by decide) rfl (Nat.le_of_ble_eq_true rfl) (by omega) (by omega) 182 rfl (dd_L_law_1 27 _ _ _ rfl) ?_
      refine c_L_low hg (by omega) (fun la1 lb1 => ?_)
      dsimp only [zCont, Option.toList, List.cons_append, List.nil_append]
      refine r_bipush (by decide) 184 rfl (dd_L_law_1 28 _ _ _ rfl) ?_
      refine r_if_icmple (by omega) (by omega) 187 rfl 200 rfl (dd_L_law_1 29 _ _ _ rfl) (fun _ => ?_) (fun q => by exfalso; omega)
      refine r_iload_3 201 rfl (dd_L_law_1 37 _ _ _ rfl) ?_
      refine r_istore_3 202 rfl (by decide) rfl (dd_L_law_1 38 _ _ _ rfl) ?_
      refine r_iinc_4 205 rfl (by decide) rfl (dd_L_law_1 39 _ _ _ rfl) ?_
      refine r_goto 21 rfl (dd_L_law_1 40 _ _ _ rfl) ?_
      first | (exfalso; omega) | exact r_sub _ (z_s1 (z_s1 (z_s1 (z_s1 (z_s1 (z_s0 (z_s0 (z_s0 (z_s0 z_sN))))))))) kk
theorem law_loop {g : zGT} (hg : zG g) (hnx : zNX g) {mi : Nat} (hm : zMi g mi) (hcs : zCS g) {p0 p1 p2 : Nat} (g0 : zSR g 360 "police" p0) (w0 : zWd g p0 [112, 111, 108, 105, 99, 101]) (g1 : zSR g 372 "insurer" p1) (w1 : zWd g p1 [105, 110, 115, 117, 114, 101, 114]) (g2 : zSR g 374 "clamper" p2) (w2 : zWd g p2 [99, 108, 97, 109, 112, 101, 114]) {mc ms : Nat} {Q : zO → zH → Prop} {a x y L : Nat} {sv : Nat → Int} (hA : zLA g a sv L) (kQ : ∀ h, Q (.inl (some (.int (zI 1)))) h) : ∀ (r e : Nat), e + r = 110 → ∀ (S : zS) (o o2 : Nat → Nat) (h : zH), zOK e S → CEx g o h x S e → CEx g o2 h y S e → (∀ b, kd_ h b ≠ 0 → o b = 0 ∨ o2 b = 0) → ∀ bc bs, 364 * r + 2920 ≤ bc → 12240 * r + 29200 ≤ bs → zX g mL_law mc ms Q 21 [some (.ref a), some (.ref x), some (.ref y), some (.int (zI (S.1 1))), some (.int (zI ((e : Int)))), none, none, none, none] [] h bc bs := by
  intro r
  induction r with
  | zero =>
    intro e he S o o2 h hS c c2 dj bc bs hb hb2
    refine r_iload_4 23 rfl (dd_L_law_0 12 _ _ _ rfl) ?_
    refine r_bipush (by decide) 25 rfl (dd_L_law_0 13 _ _ _ rfl) ?_
    refine r_if_icmpge (by omega) (by omega) 28 rfl 208 rfl (dd_L_law_0 14 _ _ _ rfl) (fun _ => ?_) (fun q => by exfalso; omega)
    refine r_aload_1 209 rfl (dd_L_law_1 41 _ _ _ rfl) ?_
    refine r_iload_3 210 rfl (dd_L_law_1 42 _ _ _ rfl) ?_
    refine r_callS2 (lvl := 20) (mc1 := 2920) (ms1 := 29200) (bc - 2920) (bs - 29200) hg rfl md_L_isSo ws_L_isSo (tb_6 47 _ rfl) (by decide) (by decide) rfl (Nat.le_of_ble_eq_true rfl) (by omega) (by omega) 213 rfl (dd_L_law_1 43 _ _ _ rfl) ?_
    refine c_isSo hg hnx hS c (fun h1 => ?_)
    dsimp only [zCont, Option.toList, List.cons_append, List.nil_append]
    refine r_ireturn rfl rfl (dd_L_law_1 44 _ _ _ rfl) ?_
    exact kQ _
  | succ r ih =>
    intro e he S o o2 h hS c c2 dj bc bs hb hb2
    have hv := zcell_R hA (e : Int)
    have hI := hS.1.1
    have htd := hI.today
    obtain ⟨t, S2, ⟨R1, R2, R3, R4, R5⟩, hd⟩ := d_act hg hnx hm hcs g0 w0 g1 w1 g2 w2 hS (by omega) hv
    obtain ⟨nt, hN, hnt⟩ : ∃ nt : Int, ((37 < zlow (zcell sv L (e : Int)) 40 ∧ 0 ≤ t ∧ zR t ∧ nt = t) ∨ (¬ (37 < zlow (zcell sv L (e : Int)) 40 ∧ 0 ≤ t) ∧ nt = S.1 1)) ∧ nt = S2.1 1 := by
      by_cases q : 37 < zlow (zcell sv L (e : Int)) 40 ∧ 0 ≤ t
      · exact ⟨t, Or.inl ⟨q.1, q.2, (R4 q.1 q.2).1, rfl⟩, (R4 q.1 q.2).2⟩
      · exact ⟨S.1 1, Or.inr ⟨q, rfl⟩, (R5 q).symm⟩
    obtain ⟨ty, hT⟩ : ∃ ty : Int, (zty (zlow (zcell sv L (e : Int)) 40) ∧ ty = 1) ∨ (¬ zty (zlow (zcell sv L (e : Int)) 40) ∧ ty = 0) := by
      by_cases q : zty (zlow (zcell sv L (e : Int)) 40)
      · exact ⟨1, Or.inl ⟨q, rfl⟩⟩
      · exact ⟨0, Or.inr ⟨q, rfl⟩⟩
    have rest175 : ∀ (S3 : zS) (o o2 : Nat → Nat) (h : zH), zOK (e + 1) S3 → S3.1 1 = S2.1 1 → CEx g o h x S3 (e + 1) → CEx g o2 h y S3 (e + 1) → (∀ b, kd_ h b ≠ 0 → o b = 0 ∨ o2 b = 0) → zX g mL_law mc ms Q 175 [some (.ref a), some (.ref x), some (.ref y), some (.int (zI (S.1 1))), some (.int (zI ((e : Int)))), some (.int (zI (zcell sv L (e : Int)))), some (.long (zL t)), none, none] [] h (364 * r + 2920) (12240 * r + 29200) := by
      intro S3 o o2 h hS3 h31 c c2 dj
      refine law_end hg hN R2 ?_
      have z := ih (e + 1) (by omega) S3 o o2 h hS3 c c2 dj _ _ (Nat.le_refl _) (Nat.le_refl _)
      rw [h31, ← hnt, show ((e + 1 : Nat) : Int) = (e : Int) + 1 by omega] at z
      exact z
    have rest151 : ∀ (o o2 : Nat → Nat) (h : zH), CEx g o h x S2 (e + 1) → CEx g o2 h y S2 (e + 1) → (∀ b, kd_ h b ≠ 0 → o b = 0 ∨ o2 b = 0) → zX g mL_law mc ms Q 151 [some (.ref a), some (.ref x), some (.ref y), some (.int (zI (S.1 1))), some (.int (zI ((e : Int)))), some (.int (zI (zcell sv L (e : Int)))), some (.long (zL t)), none, none] [] h (364 * r + 3144) (12240 * r + 31440) := by
      intro o o2 h c c2 dj
      by_cases q : (e : Int) % 36 = 35
      · refine r_iload_4 153 rfl (dd_L_law_1 11 _ _ _ rfl) ?_
        refine r_bipush (by decide) 155 rfl (dd_L_law_1 12 _ _ _ rfl) ?_
        refine r_irem (by omega) (by omega) (by omega) (by omega) 156 rfl (dd_L_law_1 13 _ _ _ rfl) ?_
        refine r_bipush (by decide) 158 rfl (dd_L_law_1 14 _ _ _ rfl) ?_
        refine r_if_icmpne (by omega) (by omega) 161 rfl 175 rfl (dd_L_law_1 15 _ _ _ rfl) (fun q => by exfalso; omega) (fun _ => ?_)
        refine r_aload_1 162 rfl (dd_L_law_1 16 _ _ _ rfl) ?_
        refine r_aload_2 163 rfl (dd_L_law_1 17 _ _ _ rfl) ?_
        refine r_iload_5 165 rfl (dd_L_law_1 18 _ _ _ rfl) ?_
        refine r_iconst 166 rfl (dd_L_law_1 19 _ _ _ rfl) ?_
        refine r_ishr 167 rfl (dd_L_law_1 20 _ _ _ rfl) ?_
        refine r_callS3 (lvl := 20) (mc1 := 224) (ms1 := 2240) ((364 * r + 3144) - 224) ((12240 * r + 31440) - 2240) hg rfl md_L_areAlike ws_L_areAlike (tb_6 29 _ rfl) (by decide) (by decide) rfl (Nat.le_of_ble_eq_true rfl) (by omega) (by omega) 170 rfl (dd_L_law_1 21 _ _ _ rfl) ?_
        refine c_alike hg hnx R1 c c2 dj (fun o5 o6 h5 c5 c6 dj5 => ?_)
        dsimp only [zCont, Option.toList, List.cons_append, List.nil_append]
        refine r_ifne (by omega) 173 rfl 175 rfl (dd_L_law_1 22 _ _ _ rfl) (fun _ => ?_) (fun q => absurd q (by decide))
        exact r_room (by omega) (by omega) (rest175 _ o5 o6 h5 (ty_clear R1).1 ((ty_clear R1).2 1 (by decide)) c5 c6 dj5)
      · refine r_iload_4 153 rfl (dd_L_law_1 11 _ _ _ rfl) ?_
        refine r_bipush (by decide) 155 rfl (dd_L_law_1 12 _ _ _ rfl) ?_
        refine r_irem (by omega) (by omega) (by omega) (by omega) 156 rfl (dd_L_law_1 13 _ _ _ rfl) ?_
        refine r_bipush (by decide) 158 rfl (dd_L_law_1 14 _ _ _ rfl) ?_
        refine r_if_icmpne (by omega) (by omega) 161 rfl 175 rfl (dd_L_law_1 15 _ _ _ rfl) (fun _ => ?_) (fun q => by exfalso; omega)
        exact r_room (by omega) (by omega) (rest175 _ o o2 h R1 rfl c c2 dj)
    have rest138 : ∀ (o o2 : Nat → Nat) (h : zH), CEx g o h x S2 (e + 1) → CEx g o2 h y S e → (∀ b, kd_ h b ≠ 0 → o b = 0 ∨ o2 b = 0) → zX g mL_law mc ms Q 138 [some (.ref a), some (.ref x), some (.ref y), some (.int (zI (S.1 1))), some (.int (zI ((e : Int)))), some (.int (zI (zcell sv L (e : Int)))), some (.long (zL t)), none, none] [] h (364 * r + 3214) (12240 * r + 36440) := by
      intro o o2 h c c2 dj
      refine r_aload_2 139 rfl (dd_L_law_1 4 _ _ _ rfl) ?_
      refine r_iload_5 141 rfl (dd_L_law_1 5 _ _ _ rfl) ?_
      refine r_iload_3 142 rfl (dd_L_law_1 6 _ _ _ rfl) ?_
      refine r_callS3 (lvl := 20) (mc1 := 70) (ms1 := 5000) ((364 * r + 3214) - 70) ((12240 * r + 36440) - 5000) hg rfl md_L_act ws_L_act (tb_1 159 _ rfl) (by decide) (by decide) rfl (Nat.le_of_ble_eq_true rfl) (by omega) (by omega) 145 rfl (dd_L_law_1 7 _ _ _ rfl) ?_
      refine hd y o2 h _ c2 (fun o3 h3 c3 st3 => ?_)
      obtain ⟨c4, dj4⟩ := two_keep (dj_swap dj) st3 c
      dsimp only [zCont, Option.toList, List.cons_append, List.nil_append]
      refine r_lload_6 147 rfl (dd_L_law_1 8 _ _ _ rfl) ?_
      refine r_lcmpe 148 rfl (dd_L_law_1 9 _ _ _ rfl) ?_
      refine r_ifne (by omega) 151 rfl 173 rfl (dd_L_law_1 10 _ _ _ rfl) (fun q => absurd q (by decide)) (fun _ => ?_)
      exact r_room (by omega) (by omega) (rest151 _ _ h3 c4 c3 (dj_swap dj4))
    refine r_iload_4 23 rfl (dd_L_law_0 12 _ _ _ rfl) ?_
    refine r_bipush (by decide) 25 rfl (dd_L_law_0 13 _ _ _ rfl) ?_
    refine r_if_icmpge (by omega) (by omega) 28 rfl 208 rfl (dd_L_law_0 14 _ _ _ rfl) (fun q => by exfalso; omega) (fun _ => ?_)
    refine r_aload_0 29 rfl (dd_L_law_0 15 _ _ _ rfl) ?_
    refine r_iload_4 31 rfl (dd_L_law_0 16 _ _ _ rfl) ?_
    refine r_callS2 (lvl := 10) (mc1 := 0) (ms1 := 0) bc bs hg rfl md_L_cell ws_L_cell (tb_1 152 _ rfl) (by decide) (by decide) rfl (Nat.le_of_ble_eq_true rfl) (by omega) (by omega) 34 rfl (dd_L_law_0 17 _ _ _ rfl) ?_
    refine c_L_cell hg hA (e := (e : Int)) (by omega) ?_
    dsimp only [zCont, Option.toList, List.cons_append, List.nil_append]
    refine r_istore_5 36 rfl (by decide) rfl (dd_L_law_0 18 _ _ _ rfl) ?_
    refine r_aload_1 37 rfl (dd_L_law_0 19 _ _ _ rfl) ?_
    refine r_iload_5 39 rfl (dd_L_law_0 20 _ _ _ rfl) ?_
    refine r_iload_3 40 rfl (dd_L_law_0 21 _ _ _ rfl) ?_
    refine r_callS3 (lvl := 20) (mc1 := 70) (ms1 := 5000) (bc - 70) (bs - 5000) hg rfl md_L_act ws_L_act (tb_1 159 _ rfl) (by decide) (by decide) rfl (Nat.le_of_ble_eq_true rfl) (by omega) (by omega) 43 rfl (dd_L_law_0 22 _ _ _ rfl) ?_
    refine hd x o h _ c (fun o1 h1 c1 st1 => ?_)
    obtain ⟨c3, dj3⟩ := two_keep dj st1 c2
    dsimp only [zCont, Option.toList, List.cons_append, List.nil_append]
    refine r_lstore_6 45 rfl (by decide) rfl (dd_L_law_0 23 _ _ _ rfl) ?_
    refine r_sub [some (.ref a), some (.ref x), some (.ref y), some (.int (zI (S.1 1))), some (.int (zI ((e : Int)))), some (.int (zI (zcell sv L (e : Int)))), some (.long (zL t)), none, none] (z_s1 (z_s1 (z_s1 (z_s1 (z_s1 (z_s1 (z_s1 (z_s0 (z_s0 z_sN))))))))) ?_
    refine law_ty hg hT ?_
    by_cases qq : t = -9000000000000000 ∧ ¬ zty (zlow (zcell sv L (e : Int)) 40)
    · have e2 : S2 = S := R3 qq.1 qq.2
      have ety : ty = 0 := hT.elim (fun q => absurd q.1 qq.2) (fun q => q.2)
      have q1 := qq.1
      refine r_lload_6 126 rfl (dd_L_law_0 58 _ _ _ rfl) ?_
      refine r_ldc2 hg (tb_2 212 _ rfl) 129 rfl (dd_L_law_0 59 _ _ _ rfl) ?_
      refine r_topl (-9000000000000000) rfl ?_
      refine r_lcmp (by omega) (by omega) 130 rfl (dd_L_law_1 0 _ _ _ rfl) (fun q => by exfalso; omega) (fun _ => ?_) (fun q => by exfalso; omega)
      refine r_ifne (by omega) 133 rfl 138 rfl (dd_L_law_1 1 _ _ _ rfl) (fun q => absurd q (by decide)) (fun _ => ?_)
      refine r_iload_8 135 rfl (dd_L_law_1 2 _ _ _ rfl) ?_
      refine r_ifeq (by omega) 138 rfl 151 rfl (dd_L_law_1 3 _ _ _ rfl) (fun _ => ?_) (fun q => by exfalso; omega)
      exact r_sub _ (z_s1 (z_s1 (z_s1 (z_s1 (z_s1 (z_s1 (z_s1 (z_s0 (z_s0 z_sN))))))))) (r_room (by omega) (by omega) (rest151 _ _ h1 c1 (by rw [e2]; exact c3.up) dj3))
    · refine r_lload_6 126 rfl (dd_L_law_0 58 _ _ _ rfl) ?_
      refine r_ldc2 hg (tb_2 212 _ rfl) 129 rfl (dd_L_law_0 59 _ _ _ rfl) ?_
      refine r_topl (-9000000000000000) rfl ?_
      refine r_lcmp (by omega) (by omega) 130 rfl (dd_L_law_1 0 _ _ _ rfl) (fun hcl => ?_) (fun hcl => ?_) (fun hcl => ?_)
      · refine r_ifne (by omega) 133 rfl 138 rfl (dd_L_law_1 1 _ _ _ rfl) (fun _ => ?_) (fun q => absurd q (by decide))
        exact r_sub _ (z_s1 (z_s1 (z_s1 (z_s1 (z_s1 (z_s1 (z_s1 (z_s0 (z_s0 z_sN))))))))) (r_room (by omega) (by omega) (rest138 _ _ h1 c1 c3 dj3))
      · refine r_ifne (by omega) 133 rfl 138 rfl (dd_L_law_1 1 _ _ _ rfl) (fun q => absurd q (by decide)) (fun _ => ?_)
        have ety : ty = 1 := hT.elim (fun q => q.2) (fun q => absurd ⟨by omega, q.1⟩ qq)
        refine r_iload_8 135 rfl (dd_L_law_1 2 _ _ _ rfl) ?_
        refine r_ifeq (by omega) 138 rfl 151 rfl (dd_L_law_1 3 _ _ _ rfl) (fun q => by exfalso; omega) (fun _ => ?_)
        exact r_sub _ (z_s1 (z_s1 (z_s1 (z_s1 (z_s1 (z_s1 (z_s1 (z_s0 (z_s0 z_sN))))))))) (r_room (by omega) (by omega) (rest138 _ _ h1 c1 c3 dj3))
      · refine r_ifne (by omega) 133 rfl 138 rfl (dd_L_law_1 1 _ _ _ rfl) (fun _ => ?_) (fun q => absurd q (by decide))
        exact r_sub _ (z_s1 (z_s1 (z_s1 (z_s1 (z_s1 (z_s1 (z_s1 (z_s0 (z_s0 z_sN))))))))) (r_room (by omega) (by omega) (rest138 _ _ h1 c1 c3 dj3))
theorem law_birth {g : zGT} {x y : Nat} {h0 h2 h4 : zH} {o1 o3 : Nat → Nat} (cx : CEx g o1 h2 x zS0 0) (hy : kd_ h2 y = 0) (st : zStep zOwn (fun b => if b = y then 1 else 0) (nob h2 y 14) o3 h4) : CEx g (fun b => if kd_ h2 b = 0 then 0 else o1 b) h4 x zS0 0 ∧ ∀ b, kd_ h4 b ≠ 0 → (fun b => if kd_ h2 b = 0 then 0 else o1 b) b = 0 ∨ o3 b = 0 := by
  have hb : ∀ b, kd_ h2 b ≠ 0 → ¬ b = y := fun b hk q => hk (by rw [q]; exact hy)
  have hk2 : ∀ b, kd_ h2 b ≠ 0 → kd_ (nob h2 y 14) b = kd_ h2 b := fun b hk => zu1_ne (hb b hk)
  refine ⟨?_, fun b h9 => ?_⟩
  · obtain ⟨Vs, Ps, Ss, Ts, Fs, Tn, A, G, Rc, c⟩ := cx
    refine ⟨Vs, Ps, Ss, Ts, Fs, Tn, A, G, Rc, c.fr (fun r h9 _ b hbr hk => ⟨(if_neg hk).trans hbr, ?_⟩)⟩
    have e1 := agree_nob (P := fun b => b = y) (h := h2) (c := 14) hy b (hb b hk) hk
    have e2 := st.1 b (by show ¬ (if b = y then 1 else 0) ≠ 0; rw [if_neg (hb b hk)]; exact fun q => q rfl) (by rw [hk2 b hk]; exact hk)
    exact ⟨e2.1.trans e1.1, e2.2.1.trans e1.2.1, fun j => (e2.2.2.1 j).trans (e1.2.2.1 j), fun j => (e2.2.2.2.1 j).trans (e1.2.2.2.1 j), fun j => (e2.2.2.2.2.1 j).trans (e1.2.2.2.2.1 j), fun j => (e2.2.2.2.2.2.1 j).trans (e1.2.2.2.2.2.1 j), fun j => (e2.2.2.2.2.2.2.1 j).trans (e1.2.2.2.2.2.2.1 j), fun j => (e2.2.2.2.2.2.2.2 j).trans (e1.2.2.2.2.2.2.2 j)⟩
  · show (if kd_ h2 b = 0 then 0 else o1 b) = 0 ∨ o3 b = 0
    by_cases q : kd_ h2 b = 0
    · exact Or.inl (if_pos q)
    · right
      exact (st.2 b (by rw [hk2 b q]; exact q)).1.trans (if_neg (hb b q))
theorem zOK_0 : zOK 0 zS0 := ⟨ok_0, fun i => Int.le_refl 0⟩
theorem law_all {g : zGT} {Q : zO → zH → Prop} (hg : zG g) (hnx : zNX g) {a L : Nat} {sv : Nat → Int} (hA : zLA g a sv L) {mi : Nat} (hm : zMi g mi) (hcs : zCS g) {p0 p1 p2 : Nat} (g0 : zSR g 360 "police" p0) (g1 : zSR g 372 "insurer" p1) (g2 : zSR g 374 "clamper" p2) {h0 : zH} (w0 : zWd g p0 [112, 111, 108, 105, 99, 101]) (w1 : zWd g p1 [105, 110, 115, 117, 114, 101, 114]) (w2 : zWd g p2 [99, 108, 97, 109, 112, 101, 114]) (kQ : ∀ h, Q (.inl (some (.int (zI 1)))) h) : zX g mL_law 600104 7301314 Q 0 [some (.ref a), none, none, none, none, none, none, none, none] [] h0 600104 7301314 := by
  refine r_new 600103 7301304 hg zc_X11 (tb_1 35 _ rfl) (tb_1 36 _ rfl) (tb_1 1 _ rfl) (Nat.le_of_ble_eq_true rfl) (Nat.le_of_ble_eq_true rfl) zd_X11 3 rfl (dd_L_law_0 0 _ _ _ rfl) (fun x hx => ?_)
  refine r_dup rfl 4 rfl (dd_L_law_0 1 _ _ _ rfl) ?_
  refine r_callI0 (lvl := 14) (mc1 := 23) (ms1 := 1809) 600080 7299495 hg rfl md_X11_init wi_X11_init rfl rfl (tb_1 37 _ rfl) (by decide) (by decide) rfl (Nat.le_of_ble_eq_true rfl) (Nat.le_of_ble_eq_true rfl) (Nat.le_of_ble_eq_true rfl) 7 rfl (dd_L_law_0 2 _ _ _ rfl) ?_
  refine c_X11_init hg (o := fun b => if b = x then 1 else 0) zu1_at (if_pos rfl) (fun o1 h2 cx st => ?_)
  dsimp only [zCont, Option.toList, List.cons_append, List.nil_append]
  refine r_astore_1 8 rfl (by decide) rfl (dd_L_law_0 3 _ _ _ rfl) ?_
  refine r_new 600079 7299485 hg zc_X11 (tb_1 35 _ rfl) (tb_1 36 _ rfl) (tb_1 1 _ rfl) (Nat.le_of_ble_eq_true rfl) (Nat.le_of_ble_eq_true rfl) zd_X11 11 rfl (dd_L_law_0 4 _ _ _ rfl) (fun y hy => ?_)
  refine r_dup rfl 12 rfl (dd_L_law_0 5 _ _ _ rfl) ?_
  refine r_callI0 (lvl := 14) (mc1 := 23) (ms1 := 1809) 600056 7297676 hg rfl md_X11_init wi_X11_init rfl rfl (tb_1 37 _ rfl) (by decide) (by decide) rfl (Nat.le_of_ble_eq_true rfl) (Nat.le_of_ble_eq_true rfl) (Nat.le_of_ble_eq_true rfl) 15 rfl (dd_L_law_0 6 _ _ _ rfl) ?_
  refine c_X11_init hg (o := fun b => if b = y then 1 else 0) zu1_at (if_pos rfl) (fun o3 h4 cy st3 => ?_)
  dsimp only [zCont, Option.toList, List.cons_append, List.nil_append]
  refine r_astore_2 16 rfl (by decide) rfl (dd_L_law_0 7 _ _ _ rfl) ?_
  refine r_iconst 17 rfl (dd_L_law_0 8 _ _ _ rfl) ?_
  refine r_istore_3 18 rfl (by decide) rfl (dd_L_law_0 9 _ _ _ rfl) ?_
  refine r_iconst 19 rfl (dd_L_law_0 10 _ _ _ rfl) ?_
  refine r_istore_4 21 rfl (by decide) rfl (dd_L_law_0 11 _ _ _ rfl) ?_
  obtain ⟨c1, dj⟩ := law_birth (h0 := h0) cx hy st3
  exact law_loop hg hnx hm hcs g0 w0 g1 w1 g2 w2 hA kQ 110 0 rfl zS0 _ _ _ zOK_0 c1 cy dj _ _ (by decide) (by decide)
