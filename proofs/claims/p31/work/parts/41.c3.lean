abbrev mX1_makeRoomAt : zM := (RX1, cX1_makeRoomAt, 3, (Option.none : Option Jvm.ClassFile.FieldType), [], "makeRoomAt", 12)
set_option maxRecDepth 20000 in
theorem c_X1_makeRoomAt {g : zGT} {Q : zO → zH → Prop} {h : zH} (hg : zG g) {o : Nat → Nat} {r a ef ev c n : Nat} {F V : Nat → Int} (x : CoRep o r h a ef ev F V c) (ok : CoOK F V c n) {p : Nat} (hp : p ≤ c) (hc : c ≤ 1000) (k : ∀ o1 h1 e1 e2, CoMid o1 r h1 a e1 e2 F V c p → zStep (fun q => q = r) o h o1 (sfi h1 a 2 ((c : Int) + 1)) → Q (.inl none) (sfi h1 a 2 ((c : Int) + 1))) : zC g (.code yX1_makeRoomAt cX1_makeRoomAt 3 (Option.none : Option Jvm.ClassFile.FieldType)) yX1_makeRoomAt 12 2 4200 [.ref a, .int (zI (p : Int))] h Q := by
  refine zC_of (M := mX1_makeRoomAt) (lv := [some (.ref a), some (.int (zI (p : Int))), none]) (by decide) rfl rfl (Nat.le_of_ble_eq_true rfl) rfl rfl ?_
  obtain ⟨x1, x2, x3, x4, x5, x6, x7, x8, x9, x10, x11, x12, x13, x14, x15, x16⟩ := id x
  refine r_aload_0 1 rfl (dd_X1_makeRoomAt 0 _ _ _ rfl) ?_
  refine r_geti hg zc_X1 2 (by decide) (fun _ _ _ => rfl) x5 x1 (Or.inl rfl) (tb_1 112 _ rfl) 4 rfl (dd_X1_makeRoomAt 1 _ _ _ rfl) ?_
  refine r_aload_0 5 rfl (dd_X1_makeRoomAt 2 _ _ _ rfl) ?_
  refine r_getr hg zc_X1 0 (by decide) (fun _ _ _ => rfl) x3 x1 (Or.inl rfl) (tb_1 110 _ rfl) 8 rfl (dd_X1_makeRoomAt 3 _ _ _ rfl) ?_
  refine r_arraylength hg x6 (by decide) (by decide) 9 rfl (dd_X1_makeRoomAt 4 _ _ _ rfl) ?_
  refine r_if_icmplt (by omega) (by omega) 12 rfl 46 rfl (dd_X1_makeRoomAt 5 _ _ _ rfl) (fun hc1 => ?_) (fun hc1 => ?_)
  · have hM := x.mid (by omega)
    have hst : zStep (fun q => q = r) o h o h := .refl
    skip
    refine r_aload_0 47 rfl (dd_X1_makeRoomAt 24 _ _ _ rfl) ?_
    refine r_geti hg zc_X1 2 (by decide) (fun _ _ _ => rfl) hM.2.2.2.2.1 hM.1 (Or.inl rfl) (tb_1 112 _ rfl) 50 rfl (dd_X1_makeRoomAt 25 _ _ _ rfl) ?_
    refine r_istore_2 51 rfl (by decide) rfl (dd_X1_makeRoomAt 26 _ _ _ rfl) ?_
    have L51 : ∀ (tt : Nat), ∀ (j : Nat) (b : Int) (h4 : zH), j < tt → (p ≤ j ∧ j ≤ c) → (b = j) → CoMid o r h4 a ef ev F V c j → zStep (fun q => q = r) o h o h4 → zX g mX1_makeRoomAt 2 4200 Q 51 [some (.ref a), some (.int (zI (p : Int))), some (.int (zI b))] [] h4 2 4200 := by
      intro tt51
      induction tt51 with
      | zero => intros; exfalso; omega
      | succ tt51 ih51 =>
        intro j b h4 hlt51 hj hb hM hst4
        subst hb
        have m11 := hM.2.2.2.2.2.2.2.2.2.2.1
        have m12 := hM.2.2.2.2.2.2.2.2.2.2.2.1
        have m14 := hM.2.2.2.2.2.2.2.2.2.2.2.2.2.1
        have m15 := hM.2.2.2.2.2.2.2.2.2.2.2.2.2.2.1
        have m16 := hM.2.2.2.2.2.2.2.2.2.2.2.2.2.2.2.1
        refine r_iload_2 52 rfl (dd_X1_makeRoomAt 27 _ _ _ rfl) ?_
        refine r_iload_1 53 rfl (dd_X1_makeRoomAt 28 _ _ _ rfl) ?_
        refine r_if_icmple (by omega) (by omega) 56 rfl 90 rfl (dd_X1_makeRoomAt 29 _ _ _ rfl) (fun hc2 => ?_) (fun hc2 => ?_)
        · obtain rfl : j = p := (by omega)
          refine r_aload_0 91 rfl (dd_X1_makeRoomAt 52 _ _ _ rfl) ?_
          refine r_dup rfl 92 rfl (dd_X1_makeRoomAt 53 _ _ _ rfl) ?_
          refine r_geti hg zc_X1 2 (by decide) (fun _ _ _ => rfl) hM.2.2.2.2.1 hM.1 (Or.inl rfl) (tb_1 112 _ rfl) 95 rfl (dd_X1_makeRoomAt 54 _ _ _ rfl) ?_
          refine r_iconst 96 rfl (dd_X1_makeRoomAt 55 _ _ _ rfl) ?_
          refine r_iadd 97 rfl (dd_X1_makeRoomAt 56 _ _ _ rfl) ?_
          refine r_puti hg zc_X1 2 (by decide) rfl (fun _ _ _ => rfl) rfl rfl (by decide) hM.1 (Or.inl rfl) (tb_1 112 _ rfl) 100 rfl (dd_X1_makeRoomAt 57 _ _ _ rfl) ?_
          refine r_vreturn rfl (dd_X1_makeRoomAt 58 _ _ _ rfl) ?_
          exact k _ _ _ _ hM ((hst.trans hst4).trans (step_sfi hM.2.1))
        · obtain ⟨j, rfl⟩ : ∃ i, j = i + 1 := ⟨j - 1, by omega⟩
          refine r_aload_0 57 rfl (dd_X1_makeRoomAt 30 _ _ _ rfl) ?_
          refine r_getr hg zc_X1 0 (by decide) (fun _ _ _ => rfl) hM.2.2.1 hM.1 (Or.inl rfl) (tb_1 110 _ rfl) 60 rfl (dd_X1_makeRoomAt 31 _ _ _ rfl) ?_
          refine r_iload_2 61 rfl (dd_X1_makeRoomAt 32 _ _ _ rfl) ?_
          refine r_aload_0 62 rfl (dd_X1_makeRoomAt 33 _ _ _ rfl) ?_
          refine r_getr hg zc_X1 0 (by decide) (fun _ _ _ => rfl) hM.2.2.1 hM.1 (Or.inl rfl) (tb_1 110 _ rfl) 65 rfl (dd_X1_makeRoomAt 34 _ _ _ rfl) ?_
          refine r_iload_2 66 rfl (dd_X1_makeRoomAt 35 _ _ _ rfl) ?_
          refine r_iconst 67 rfl (dd_X1_makeRoomAt 36 _ _ _ rfl) ?_
          refine r_isub 68 rfl (dd_X1_makeRoomAt 37 _ _ _ rfl) ?_
          refine r_iaload hg hM.2.2.2.2.2.1 (by omega) (by omega) (by omega) 69 rfl (dd_X1_makeRoomAt 38 _ _ _ rfl) ?_
          rw [show (((j + 1 : Nat) : Int) - 1).toNat = j by omega, m15 j (by omega)]
          refine r_iastore hg hM.2.2.2.2.2.1 (by omega) (by omega) (by omega) 70 rfl (dd_X1_makeRoomAt 39 _ _ _ rfl) ?_
          rw [show (((j + 1 : Nat) : Int)).toNat = j + 1 by omega]
          have hM0 := hM
          have m16b : ai_ (sai h4 ef (j + 1) (F j)) ev j = V j := (zu2_ne (fun q => hM.2.2.2.2.2.2.2.2.2.1 q.1.symm)).trans (m16 j (by omega))
          refine r_aload_0 71 rfl (dd_X1_makeRoomAt 40 _ _ _ rfl) ?_
          refine r_getr hg zc_X1 1 (by decide) (fun _ _ _ => rfl) hM.2.2.2.1 hM.1 (Or.inl rfl) (tb_1 111 _ rfl) 74 rfl (dd_X1_makeRoomAt 41 _ _ _ rfl) ?_
          refine r_iload_2 75 rfl (dd_X1_makeRoomAt 42 _ _ _ rfl) ?_
          refine r_aload_0 76 rfl (dd_X1_makeRoomAt 43 _ _ _ rfl) ?_
          refine r_getr hg zc_X1 1 (by decide) (fun _ _ _ => rfl) hM.2.2.2.1 hM.1 (Or.inl rfl) (tb_1 111 _ rfl) 79 rfl (dd_X1_makeRoomAt 44 _ _ _ rfl) ?_
          refine r_iload_2 80 rfl (dd_X1_makeRoomAt 45 _ _ _ rfl) ?_
          refine r_iconst 81 rfl (dd_X1_makeRoomAt 46 _ _ _ rfl) ?_
          refine r_isub 82 rfl (dd_X1_makeRoomAt 47 _ _ _ rfl) ?_
          refine r_iaload hg hM.2.2.2.2.2.2.1 (by omega) (by omega) (by show _ < ((ln_ h4 _ : Nat) : Int); omega) 83 rfl (dd_X1_makeRoomAt 48 _ _ _ rfl) ?_
          rw [show (((j + 1 : Nat) : Int) - 1).toNat = j by omega, m16b]
          refine r_iastore hg hM.2.2.2.2.2.2.1 (by omega) (by omega) (by show _ < ((ln_ h4 _ : Nat) : Int); omega) 84 rfl (dd_X1_makeRoomAt 49 _ _ _ rfl) ?_
          rw [show (((j + 1 : Nat) : Int)).toNat = j + 1 by omega]
          refine r_iinc_2 87 rfl (by decide) rfl (dd_X1_makeRoomAt 50 _ _ _ rfl) ?_
          refine r_goto 51 rfl (dd_X1_makeRoomAt 51 _ _ _ rfl) ?_
          exact r_sub _ (z_s1 (z_s1 (z_s1 z_sN))) (ih51 j _ _ (by omega) (by omega) (by omega) hM.step.1 (hst4.trans hM.step.2))
    exact r_sub _ (z_s1 (z_s1 (z_s1 z_sN))) (L51 1000000 c _ _ (by omega) (by omega) rfl hM .refl)
  · refine r_aload_0 13 rfl (dd_X1_makeRoomAt 6 _ _ _ rfl) ?_
    refine r_aload_0 14 rfl (dd_X1_makeRoomAt 7 _ _ _ rfl) ?_
    refine r_getr hg zc_X1 0 (by decide) (fun _ _ _ => rfl) x3 x1 (Or.inl rfl) (tb_1 110 _ rfl) 17 rfl (dd_X1_makeRoomAt 8 _ _ _ rfl) ?_
    refine r_aload_0 18 rfl (dd_X1_makeRoomAt 9 _ _ _ rfl) ?_
    refine r_geti hg zc_X1 2 (by decide) (fun _ _ _ => rfl) x5 x1 (Or.inl rfl) (tb_1 112 _ rfl) 21 rfl (dd_X1_makeRoomAt 10 _ _ _ rfl) ?_
    refine r_iconst 22 rfl (dd_X1_makeRoomAt 11 _ _ _ rfl) ?_
    refine r_imul 23 rfl (dd_X1_makeRoomAt 12 _ _ _ rfl) ?_
    refine r_callS2 (lvl := 11) (mc1 := 1) (ms1 := 2100) 1 2100 hg rfl md_J7_copyOf_59c91 ws_J7_copyOf_59c91 (tb_4 169 _ rfl) (by decide) (by decide) rfl (Nat.le_of_ble_eq_true rfl) (Nat.le_of_ble_eq_true rfl) (Nat.le_of_ble_eq_true rfl) 26 rfl (dd_X1_makeRoomAt 13 _ _ _ rfl) ?_
    refine c_J7_copyOf_59c91 hg x6 (by omega) (by omega) (fun e1 h1 b1 b2 b3 b4 b5 => ?_)
    dsimp only [zCont, Option.toList, List.cons_append, List.nil_append]
    obtain ⟨y1, y2, y3, y4, y5, y6, y7, y8⟩ := b5 a id (by omega)
    obtain ⟨z1, z2, -, -, -, -, -, -⟩ := b5 ev id (by omega)
    have hka : kd_ h1 a = 5 := y1.trans x1
    refine r_putr hg zc_X1 0 (by decide) rfl (fun _ _ _ => rfl) rfl rfl (by decide) hka (Or.inl rfl) (tb_1 110 _ rfl) 29 rfl (dd_X1_makeRoomAt 14 _ _ _ rfl) ?_
    have hae : ¬ a = e1 := fun q => by rw [q, b1] at x1; cases x1
    have hfv : fr_ (sfr h1 a 0 (some e1)) a 1 = some ev := (zu2_ne (fun q => by omega)).trans ((y5 1).trans x4)
    have hfc : fi_ (sfr h1 a 0 (some e1)) a 2 = (c : Int) := (y3 2).trans x5
    have hkv : kd_ (sfr h1 a 0 (some e1)) ev = 20 := z1.trans x7
    have hlv : ln_ (sfr h1 a 0 (some e1)) ev = ln_ h ef := z2.trans x12
    refine r_aload_0 30 rfl (dd_X1_makeRoomAt 15 _ _ _ rfl) ?_
    refine r_aload_0 31 rfl (dd_X1_makeRoomAt 16 _ _ _ rfl) ?_
    refine r_getr hg zc_X1 1 (by decide) (fun _ _ _ => rfl) hfv hka (Or.inl rfl) (tb_1 111 _ rfl) 34 rfl (dd_X1_makeRoomAt 17 _ _ _ rfl) ?_
    refine r_aload_0 35 rfl (dd_X1_makeRoomAt 18 _ _ _ rfl) ?_
    refine r_geti hg zc_X1 2 (by decide) (fun _ _ _ => rfl) hfc hka (Or.inl rfl) (tb_1 112 _ rfl) 38 rfl (dd_X1_makeRoomAt 19 _ _ _ rfl) ?_
    refine r_iconst 39 rfl (dd_X1_makeRoomAt 20 _ _ _ rfl) ?_
    refine r_imul 40 rfl (dd_X1_makeRoomAt 21 _ _ _ rfl) ?_
    refine r_callS2 (lvl := 11) (mc1 := 1) (ms1 := 2100) 0 0 hg rfl md_J7_copyOf_59c91 ws_J7_copyOf_59c91 (tb_4 169 _ rfl) (by decide) (by decide) rfl (Nat.le_of_ble_eq_true rfl) (Nat.le_of_ble_eq_true rfl) (Nat.le_of_ble_eq_true rfl) 43 rfl (dd_X1_makeRoomAt 22 _ _ _ rfl) ?_
    refine c_J7_copyOf_59c91 hg hkv (by omega) (by omega) (fun e2 h2 d1 d2 d3 d4 d5 => ?_)
    dsimp only [zCont, Option.toList, List.cons_append, List.nil_append]
    have hka2 : kd_ h2 a = 5 := (d5 a id (by show kd_ h1 a ≠ 0; omega)).1.trans hka
    refine r_putr hg zc_X1 1 (by decide) rfl (fun _ _ _ => rfl) rfl rfl (by decide) hka2 (Or.inl rfl) (tb_1 111 _ rfl) 46 rfl (dd_X1_makeRoomAt 23 _ _ _ rfl) ?_
    obtain ⟨hM, hst⟩ := x.grow (h1 := h1) (h2 := h2) (e1 := e1) (e2 := e2) (by omega) rfl b1 b2 b3 b4 b5 d1 d2 d3 d4 d5
    generalize sfr h2 a 1 (some e2) = h3 at hM hst ⊢
    generalize zu1 (zu1 o e1 r) e2 r = o3 at hM hst
    refine r_aload_0 47 rfl (dd_X1_makeRoomAt 24 _ _ _ rfl) ?_
    refine r_geti hg zc_X1 2 (by decide) (fun _ _ _ => rfl) hM.2.2.2.2.1 hM.1 (Or.inl rfl) (tb_1 112 _ rfl) 50 rfl (dd_X1_makeRoomAt 25 _ _ _ rfl) ?_
    refine r_istore_2 51 rfl (by decide) rfl (dd_X1_makeRoomAt 26 _ _ _ rfl) ?_
    have L51 : ∀ (tt : Nat), ∀ (j : Nat) (b : Int) (h4 : zH), j < tt → (p ≤ j ∧ j ≤ c) → (b = j) → CoMid o3 r h4 a e1 e2 F V c j → zStep (fun q => q = r) o3 h3 o3 h4 → zX g mX1_makeRoomAt 2 4200 Q 51 [some (.ref a), some (.int (zI (p : Int))), some (.int (zI b))] [] h4 0 0 := by
      intro tt51
      induction tt51 with
      | zero => intros; exfalso; omega
      | succ tt51 ih51 =>
        intro j b h4 hlt51 hj hb hM hst4
        subst hb
        have m11 := hM.2.2.2.2.2.2.2.2.2.2.1
        have m12 := hM.2.2.2.2.2.2.2.2.2.2.2.1
        have m14 := hM.2.2.2.2.2.2.2.2.2.2.2.2.2.1
        have m15 := hM.2.2.2.2.2.2.2.2.2.2.2.2.2.2.1
        have m16 := hM.2.2.2.2.2.2.2.2.2.2.2.2.2.2.2.1
        refine r_iload_2 52 rfl (dd_X1_makeRoomAt 27 _ _ _ rfl) ?_
        refine r_iload_1 53 rfl (dd_X1_makeRoomAt 28 _ _ _ rfl) ?_
        refine r_if_icmple (by omega) (by omega) 56 rfl 90 rfl (dd_X1_makeRoomAt 29 _ _ _ rfl) (fun hc3 => ?_) (fun hc3 => ?_)
        · obtain rfl : j = p := (by omega)
          refine r_aload_0 91 rfl (dd_X1_makeRoomAt 52 _ _ _ rfl) ?_
          refine r_dup rfl 92 rfl (dd_X1_makeRoomAt 53 _ _ _ rfl) ?_
          refine r_geti hg zc_X1 2 (by decide) (fun _ _ _ => rfl) hM.2.2.2.2.1 hM.1 (Or.inl rfl) (tb_1 112 _ rfl) 95 rfl (dd_X1_makeRoomAt 54 _ _ _ rfl) ?_
          refine r_iconst 96 rfl (dd_X1_makeRoomAt 55 _ _ _ rfl) ?_
          refine r_iadd 97 rfl (dd_X1_makeRoomAt 56 _ _ _ rfl) ?_
          refine r_puti hg zc_X1 2 (by decide) rfl (fun _ _ _ => rfl) rfl rfl (by decide) hM.1 (Or.inl rfl) (tb_1 112 _ rfl) 100 rfl (dd_X1_makeRoomAt 57 _ _ _ rfl) ?_
          refine r_vreturn rfl (dd_X1_makeRoomAt 58 _ _ _ rfl) ?_
          exact k _ _ _ _ hM ((hst.trans hst4).trans (step_sfi hM.2.1))
        · obtain ⟨j, rfl⟩ : ∃ i, j = i + 1 := ⟨j - 1, by omega⟩
          refine r_aload_0 57 rfl (dd_X1_makeRoomAt 30 _ _ _ rfl) ?_
          refine r_getr hg zc_X1 0 (by decide) (fun _ _ _ => rfl) hM.2.2.1 hM.1 (Or.inl rfl) (tb_1 110 _ rfl) 60 rfl (dd_X1_makeRoomAt 31 _ _ _ rfl) ?_
          refine r_iload_2 61 rfl (dd_X1_makeRoomAt 32 _ _ _ rfl) ?_
          refine r_aload_0 62 rfl (dd_X1_makeRoomAt 33 _ _ _ rfl) ?_
          refine r_getr hg zc_X1 0 (by decide) (fun _ _ _ => rfl) hM.2.2.1 hM.1 (Or.inl rfl) (tb_1 110 _ rfl) 65 rfl (dd_X1_makeRoomAt 34 _ _ _ rfl) ?_
          refine r_iload_2 66 rfl (dd_X1_makeRoomAt 35 _ _ _ rfl) ?_
          refine r_iconst 67 rfl (dd_X1_makeRoomAt 36 _ _ _ rfl) ?_
          refine r_isub 68 rfl (dd_X1_makeRoomAt 37 _ _ _ rfl) ?_
          refine r_iaload hg hM.2.2.2.2.2.1 (by omega) (by omega) (by omega) 69 rfl (dd_X1_makeRoomAt 38 _ _ _ rfl) ?_
          rw [show (((j + 1 : Nat) : Int) - 1).toNat = j by omega, m15 j (by omega)]
          refine r_iastore hg hM.2.2.2.2.2.1 (by omega) (by omega) (by omega) 70 rfl (dd_X1_makeRoomAt 39 _ _ _ rfl) ?_
          rw [show (((j + 1 : Nat) : Int)).toNat = j + 1 by omega]
          have hM0 := hM
          have m16b : ai_ (sai h4 e1 (j + 1) (F j)) e2 j = V j := (zu2_ne (fun q => hM.2.2.2.2.2.2.2.2.2.1 q.1.symm)).trans (m16 j (by omega))
          refine r_aload_0 71 rfl (dd_X1_makeRoomAt 40 _ _ _ rfl) ?_
          refine r_getr hg zc_X1 1 (by decide) (fun _ _ _ => rfl) hM.2.2.2.1 hM.1 (Or.inl rfl) (tb_1 111 _ rfl) 74 rfl (dd_X1_makeRoomAt 41 _ _ _ rfl) ?_
          refine r_iload_2 75 rfl (dd_X1_makeRoomAt 42 _ _ _ rfl) ?_
          refine r_aload_0 76 rfl (dd_X1_makeRoomAt 43 _ _ _ rfl) ?_
          refine r_getr hg zc_X1 1 (by decide) (fun _ _ _ => rfl) hM.2.2.2.1 hM.1 (Or.inl rfl) (tb_1 111 _ rfl) 79 rfl (dd_X1_makeRoomAt 44 _ _ _ rfl) ?_
          refine r_iload_2 80 rfl (dd_X1_makeRoomAt 45 _ _ _ rfl) ?_
          refine r_iconst 81 rfl (dd_X1_makeRoomAt 46 _ _ _ rfl) ?_
          refine r_isub 82 rfl (dd_X1_makeRoomAt 47 _ _ _ rfl) ?_
          refine r_iaload hg hM.2.2.2.2.2.2.1 (by omega) (by omega) (by show _ < ((ln_ h4 _ : Nat) : Int); omega) 83 rfl (dd_X1_makeRoomAt 48 _ _ _ rfl) ?_
          rw [show (((j + 1 : Nat) : Int) - 1).toNat = j by omega, m16b]
          refine r_iastore hg hM.2.2.2.2.2.2.1 (by omega) (by omega) (by show _ < ((ln_ h4 _ : Nat) : Int); omega) 84 rfl (dd_X1_makeRoomAt 49 _ _ _ rfl) ?_
          rw [show (((j + 1 : Nat) : Int)).toNat = j + 1 by omega]
          refine r_iinc_2 87 rfl (by decide) rfl (dd_X1_makeRoomAt 50 _ _ _ rfl) ?_
          refine r_goto 51 rfl (dd_X1_makeRoomAt 51 _ _ _ rfl) ?_
          exact r_sub _ (z_s1 (z_s1 (z_s1 z_sN))) (ih51 j _ _ (by omega) (by omega) (by omega) hM.step.1 (hst4.trans hM.step.2))
    exact r_sub _ (z_s1 (z_s1 (z_s1 z_sN))) (L51 1000000 c _ _ (by omega) (by omega) rfl hM .refl)

theorem CoOK.mono {F V : Nat → Int} {c n n2 : Nat} (ok : CoOK F V c n) (h : n ≤ n2) : CoOK F V c n2 := ⟨ok.1, ok.2.1, by have := ok.2.2; omega⟩
abbrev mX1_put : zM := (RX1, cX1_put, 4, (Option.none : Option Jvm.ClassFile.FieldType), [], "put", 13)
set_option maxRecDepth 20000 in
theorem c_X1_put {g : zGT} {Q : zO → zH → Prop} {h : zH} (hg : zG g) {o : Nat → Nat} {r a ef ev c n : Nat} {F V : Nat → Int} (x : CoRep o r h a ef ev F V c) (ok : CoOK F V c n) {d : Int} {R : Int → Int × Int} (hR : ∀ w, zcp1 F V d w c = R w) {t v : Int} (ht : 0 ≤ t ∧ t ≤ 20000) (hv : -1 ≤ v ∧ v ≤ 100000) (hc : c ≤ 1000) (k : ∀ o1 h1, CoSem o1 r h1 a (n + 1) d (fun w => if t ≤ w ∧ (R w).1 ≤ t then (t, v) else R w) → zStep (fun q => q = r) o h o1 h1 → Q (.inl none) h1) : zC g (.code yX1_put cX1_put 4 (Option.none : Option Jvm.ClassFile.FieldType)) yX1_put 13 2 4200 [.ref a, .int (zI t), .int (zI v)] h Q := by
  refine zC_of (M := mX1_put) (lv := [some (.ref a), some (.int (zI t)), some (.int (zI v)), none]) (by decide) rfl rfl (Nat.le_of_ble_eq_true rfl) rfl rfl ?_
  obtain ⟨x1, x2, x3, x4, x5, x6, x7, x8, x9, x10, x11, x12, x13, x14, x15, x16⟩ := id x
  have hz := zrow_range (F := F) (w := t) c
  have hzs := zrow_spec (F := F) (w := t) c
  refine r_aload_0 1 rfl (dd_X1_put 0 _ _ _ rfl) ?_
  refine r_iload_1 2 rfl (dd_X1_put 1 _ _ _ rfl) ?_
  refine r_callV1 (lvl := 10) (mc1 := 0) (ms1 := 0) 2 4200 hg rfl md_X1_rowOn zc_X1 x1 wi_X1_rowOn wv_X1_rowOn (tb_4 161 _ rfl) (by decide) (by decide) rfl (Nat.le_of_ble_eq_true rfl) (Nat.le_of_ble_eq_true rfl) (Nat.le_of_ble_eq_true rfl) 5 rfl (dd_X1_put 2 _ _ _ rfl) ?_
  refine c_X1_rowOn hg x ok (by omega) (by omega) ?_
  dsimp only [zCont, Option.toList, List.cons_append, List.nil_append]
  refine r_istore_3 6 rfl (by decide) rfl (dd_X1_put 3 _ _ _ rfl) ?_
  refine r_iload_3 7 rfl (dd_X1_put 4 _ _ _ rfl) ?_
  refine r_iflt (by omega) 10 rfl 20 rfl (dd_X1_put 5 _ _ _ rfl) (fun hc1 => ?_) (fun hc1 => ?_)
  · skip
    refine r_iinc_3 23 rfl (by decide) rfl (dd_X1_put 12 _ _ _ rfl) ?_
    have hlo : ∀ i, i < (zrow F t c + 1).toNat → F i < t := fun i hi => by have h2 := hzs.2 (by omega); by_cases hq : i = (zrow F t c).toNat; (rw [hq]; omega); (have h3 := ok.1 i (zrow F t c).toNat (by omega) (by omega); omega)
    have hhi : ∀ i, (zrow F t c + 1).toNat ≤ i → i < c → t < F i := fun i h1 h2 => hzs.1 i (by omega) h2
    refine r_aload_0 24 rfl (dd_X1_put 13 _ _ _ rfl) ?_
    refine r_iload_3 25 rfl (dd_X1_put 14 _ _ _ rfl) ?_
    rw [show zI (zrow F t c + 1) = zI (((zrow F t c + 1).toNat : Nat) : Int) by rw [Int.toNat_of_nonneg (by omega)]]
    refine r_callV1 (lvl := 12) (mc1 := 2) (ms1 := 4200) 0 0 hg rfl md_X1_makeRoomAt zc_X1 x1 wi_X1_makeRoomAt wv_X1_makeRoomAt (tb_4 165 _ rfl) (by decide) (by decide) rfl (Nat.le_of_ble_eq_true rfl) (Nat.le_of_ble_eq_true rfl) (Nat.le_of_ble_eq_true rfl) 28 rfl (dd_X1_put 15 _ _ _ rfl) ?_
    refine c_X1_makeRoomAt (p := (zrow F t c + 1).toNat) hg x ok (by omega) (by omega) (fun o1 h1 e1 e2 hM hst => ?_)
    dsimp only [zCont, Option.toList, List.cons_append, List.nil_append]
    have m11 := hM.2.2.2.2.2.2.2.2.2.2.1
    have m12 := hM.2.2.2.2.2.2.2.2.2.2.2.1
    have m14 := hM.2.2.2.2.2.2.2.2.2.2.2.2.2.1
    refine r_aload_0 29 rfl (dd_X1_put 16 _ _ _ rfl) ?_
    refine r_getr hg zc_X1 0 (by decide) (fun _ _ _ => rfl) hM.2.2.1 hM.1 (Or.inl rfl) (tb_1 110 _ rfl) 32 rfl (dd_X1_put 17 _ _ _ rfl) ?_
    refine r_iload_3 33 rfl (dd_X1_put 18 _ _ _ rfl) ?_
    refine r_iload_1 34 rfl (dd_X1_put 19 _ _ _ rfl) ?_
    refine r_iastore hg hM.2.2.2.2.2.1 (by omega) (by omega) (by show _ < ((ln_ h1 e1 : Nat) : Int); omega) 35 rfl (dd_X1_put 20 _ _ _ rfl) ?_
    refine r_aload_0 36 rfl (dd_X1_put 21 _ _ _ rfl) ?_
    refine r_getr hg zc_X1 1 (by decide) (fun _ _ _ => rfl) hM.2.2.2.1 hM.1 (Or.inl rfl) (tb_1 111 _ rfl) 39 rfl (dd_X1_put 22 _ _ _ rfl) ?_
    refine r_iload_3 40 rfl (dd_X1_put 23 _ _ _ rfl) ?_
    refine r_iload_2 41 rfl (dd_X1_put 24 _ _ _ rfl) ?_
    refine r_iastore hg hM.2.2.2.2.2.2.1 (by omega) (by omega) (by show _ < ((ln_ h1 e2 : Nat) : Int); omega) 42 rfl (dd_X1_put 25 _ _ _ rfl) ?_
    refine r_vreturn rfl (dd_X1_put 26 _ _ _ rfl) ?_
    have z := hM.fin (t := t) (v := v) (by omega)
    refine k _ _ ⟨_, _, _, _, _, z.1, ok.ins (p := (zrow F t c + 1).toNat) (by omega) ht hv hlo hhi (fun i hi => rfl) (fun i hi => rfl), fun w => ?_⟩ (hst.trans z.2)
    show _ = (if t ≤ w ∧ (R w).1 ≤ t then (t, v) else R w)
    rw [← hR w]
    exact zcp1_ins ok (by omega) ht.1 hlo hhi (fun i hi => rfl) (fun i hi => rfl)
  · have hF := ok.2.1 (zrow F t c).toNat (by omega)
    refine r_aload_0 11 rfl (dd_X1_put 6 _ _ _ rfl) ?_
    refine r_getr hg zc_X1 0 (by decide) (fun _ _ _ => rfl) x3 x1 (Or.inl rfl) (tb_1 110 _ rfl) 14 rfl (dd_X1_put 7 _ _ _ rfl) ?_
    refine r_iload_3 15 rfl (dd_X1_put 8 _ _ _ rfl) ?_
    refine r_iaload hg x6 (by omega) (by omega) (by omega) 16 rfl (dd_X1_put 9 _ _ _ rfl) ?_
    rw [x15 _ (by omega)]
    refine r_iload_1 17 rfl (dd_X1_put 10 _ _ _ rfl) ?_
    refine r_if_icmpeq (by omega) (by omega) 20 rfl 35 rfl (dd_X1_put 11 _ _ _ rfl) (fun hc2 => ?_) (fun hc2 => ?_)
    · refine r_aload_0 36 rfl (dd_X1_put 21 _ _ _ rfl) ?_
      refine r_getr hg zc_X1 1 (by decide) (fun _ _ _ => rfl) x4 x1 (Or.inl rfl) (tb_1 111 _ rfl) 39 rfl (dd_X1_put 22 _ _ _ rfl) ?_
      refine r_iload_3 40 rfl (dd_X1_put 23 _ _ _ rfl) ?_
      refine r_iload_2 41 rfl (dd_X1_put 24 _ _ _ rfl) ?_
      refine r_iastore hg x7 (by omega) (by omega) (by omega) 42 rfl (dd_X1_put 25 _ _ _ rfl) ?_
      refine r_vreturn rfl (dd_X1_put 26 _ _ _ rfl) ?_
      have z := x.set (p := (zrow F t c).toNat) (v := v)
      refine k _ _ ⟨_, _, _, _, _, z.1, (ok.set hv (fun i hi => rfl)).mono (by omega), fun w => ?_⟩ z.2
      show _ = (if t ≤ w ∧ (R w).1 ≤ t then (t, v) else R w)
      rw [← hR w]
      exact zcp1_set ok (by omega) (by omega) (fun i hi => rfl)
    · skip
      refine r_iinc_3 23 rfl (by decide) rfl (dd_X1_put 12 _ _ _ rfl) ?_
      have hlo : ∀ i, i < (zrow F t c + 1).toNat → F i < t := fun i hi => by have h2 := hzs.2 (by omega); by_cases hq : i = (zrow F t c).toNat; (rw [hq]; omega); (have h3 := ok.1 i (zrow F t c).toNat (by omega) (by omega); omega)
      have hhi : ∀ i, (zrow F t c + 1).toNat ≤ i → i < c → t < F i := fun i h1 h2 => hzs.1 i (by omega) h2
      refine r_aload_0 24 rfl (dd_X1_put 13 _ _ _ rfl) ?_
      refine r_iload_3 25 rfl (dd_X1_put 14 _ _ _ rfl) ?_
      rw [show zI (zrow F t c + 1) = zI (((zrow F t c + 1).toNat : Nat) : Int) by rw [Int.toNat_of_nonneg (by omega)]]
      refine r_callV1 (lvl := 12) (mc1 := 2) (ms1 := 4200) 0 0 hg rfl md_X1_makeRoomAt zc_X1 x1 wi_X1_makeRoomAt wv_X1_makeRoomAt (tb_4 165 _ rfl) (by decide) (by decide) rfl (Nat.le_of_ble_eq_true rfl) (Nat.le_of_ble_eq_true rfl) (Nat.le_of_ble_eq_true rfl) 28 rfl (dd_X1_put 15 _ _ _ rfl) ?_
      refine c_X1_makeRoomAt (p := (zrow F t c + 1).toNat) hg x ok (by omega) (by omega) (fun o1 h1 e1 e2 hM hst => ?_)
      dsimp only [zCont, Option.toList, List.cons_append, List.nil_append]
      have m11 := hM.2.2.2.2.2.2.2.2.2.2.1
      have m12 := hM.2.2.2.2.2.2.2.2.2.2.2.1
      have m14 := hM.2.2.2.2.2.2.2.2.2.2.2.2.2.1
      refine r_aload_0 29 rfl (dd_X1_put 16 _ _ _ rfl) ?_
      refine r_getr hg zc_X1 0 (by decide) (fun _ _ _ => rfl) hM.2.2.1 hM.1 (Or.inl rfl) (tb_1 110 _ rfl) 32 rfl (dd_X1_put 17 _ _ _ rfl) ?_
      refine r_iload_3 33 rfl (dd_X1_put 18 _ _ _ rfl) ?_
      refine r_iload_1 34 rfl (dd_X1_put 19 _ _ _ rfl) ?_
      refine r_iastore hg hM.2.2.2.2.2.1 (by omega) (by omega) (by show _ < ((ln_ h1 e1 : Nat) : Int); omega) 35 rfl (dd_X1_put 20 _ _ _ rfl) ?_
      refine r_aload_0 36 rfl (dd_X1_put 21 _ _ _ rfl) ?_
      refine r_getr hg zc_X1 1 (by decide) (fun _ _ _ => rfl) hM.2.2.2.1 hM.1 (Or.inl rfl) (tb_1 111 _ rfl) 39 rfl (dd_X1_put 22 _ _ _ rfl) ?_
      refine r_iload_3 40 rfl (dd_X1_put 23 _ _ _ rfl) ?_
      refine r_iload_2 41 rfl (dd_X1_put 24 _ _ _ rfl) ?_
      refine r_iastore hg hM.2.2.2.2.2.2.1 (by omega) (by omega) (by show _ < ((ln_ h1 e2 : Nat) : Int); omega) 42 rfl (dd_X1_put 25 _ _ _ rfl) ?_
      refine r_vreturn rfl (dd_X1_put 26 _ _ _ rfl) ?_
      have z := hM.fin (t := t) (v := v) (by omega)
      refine k _ _ ⟨_, _, _, _, _, z.1, ok.ins (p := (zrow F t c + 1).toNat) (by omega) ht hv hlo hhi (fun i hi => rfl) (fun i hi => rfl), fun w => ?_⟩ (hst.trans z.2)
      show _ = (if t ≤ w ∧ (R w).1 ≤ t then (t, v) else R w)
      rw [← hR w]
      exact zcp1_ins ok (by omega) ht.1 hlo hhi (fun i hi => rfl) (fun i hi => rfl)

theorem c_X1_putS {g : zGT} {Q : zO → zH → Prop} {h : zH} (hg : zG g) {o : Nat → Nat} {r a n : Nat} {d : Int} {R : Int → Int × Int} (x : CoSem o r h a n d R) {t v : Int} (ht : 0 ≤ t ∧ t ≤ 20000) (hv : -1 ≤ v ∧ v ≤ 100000) (hn : n ≤ 1000) (k : ∀ o1 h1, CoSem o1 r h1 a (n + 1) d (fun w => if t ≤ w ∧ (R w).1 ≤ t then (t, v) else R w) → zStep (fun q => q = r) o h o1 h1 → Q (.inl none) h1) : zC g (.code yX1_put cX1_put 4 (Option.none : Option Jvm.ClassFile.FieldType)) yX1_put 13 2 4200 [.ref a, .int (zI t), .int (zI v)] h Q := by
  obtain ⟨ef, ev, F, V, c, x, ok, hR⟩ := x
  exact c_X1_put hg x ok hR ht hv (by have := ok.2.2; omega) k
abbrev mX1_daysReached : zM := (RX1, cX1_daysReached, 6, (Option.some Jvm.ClassFile.FieldType.int), [], "daysReached", 10)
set_option maxRecDepth 20000 in
theorem c_X1_daysReached {g : zGT} {Q : zO → zH → Prop} {h : zH} (hg : zG g) {o : Nat → Nat} {r a ef ev c n : Nat} {F V : Nat → Int} (x : CoRep o r h a ef ev F V c) (ok : CoOK F V c n) {a0 e : Int} (ha : 0 ≤ a0) (hab : a0 ≤ e) (he : e ≤ 20000) (hc : c ≤ 1000) (k : Q (.inl (some (.int (zI (zdr F V c a0 e c))))) h) : zC g (.code yX1_daysReached cX1_daysReached 6 (Option.some Jvm.ClassFile.FieldType.int)) yX1_daysReached 10 0 0 [.ref a, .int (zI a0), .int (zI e)] h Q := by
  refine zC_of (M := mX1_daysReached) (lv := [some (.ref a), some (.int (zI a0)), some (.int (zI e)), none, none, none]) (by decide) rfl rfl (Nat.le_of_ble_eq_true rfl) rfl rfl ?_
  obtain ⟨x1, x2, x3, x4, x5, x6, x7, x8, x9, x10, x11, x12, x13, x14, x15, x16⟩ := id x
  refine r_iconst 1 rfl (dd_X1_daysReached 0 _ _ _ rfl) ?_
  refine r_istore_3 2 rfl (by decide) rfl (dd_X1_daysReached 1 _ _ _ rfl) ?_
  refine r_iconst 3 rfl (dd_X1_daysReached 2 _ _ _ rfl) ?_
  refine r_istore_4 5 rfl (by decide) rfl (dd_X1_daysReached 3 _ _ _ rfl) ?_
  have L5 : ∀ (tt : Nat), ∀ (j : Nat) (b dd : Int), 2000 - j < tt → (j ≤ c) → (b = j) → (dd = zdr F V c a0 e j) → zX g mX1_daysReached 0 0 Q 5 [some (.ref a), some (.int (zI a0)), some (.int (zI e)), some (.int (zI dd)), some (.int (zI b)), none] [] h 0 0 := by
    intro tt5
    induction tt5 with
    | zero => intros; exfalso; omega
    | succ tt5 ih5 =>
      intro j b dd hlt5 hj hb hd
      subst hb
      refine r_iload_4 7 rfl (dd_X1_daysReached 4 _ _ _ rfl) ?_
      refine r_aload_0 8 rfl (dd_X1_daysReached 5 _ _ _ rfl) ?_
      refine r_geti hg zc_X1 2 (by decide) (fun _ _ _ => rfl) x5 x1 (Or.inl rfl) (tb_1 112 _ rfl) 11 rfl (dd_X1_daysReached 6 _ _ _ rfl) ?_
      refine r_if_icmpge (by omega) (by omega) 14 rfl 85 rfl (dd_X1_daysReached 7 _ _ _ rfl) (fun hc1 => ?_) (fun hc1 => ?_)
      · refine r_iload_3 86 rfl (dd_X1_daysReached 49 _ _ _ rfl) ?_
        refine r_ireturn rfl rfl (dd_X1_daysReached 50 _ _ _ rfl) ?_
        obtain rfl : j = c := (by omega)
        rw [hd]
        exact k
      · have hF := ok.2.1 j (by omega)
        have hd9 := zdr_range (V := V) (c := c) hab ha (fun i hi => (ok.2.1 i hi).1) j (by omega)
        have hd8 : (e - a0 + 1) * (j : Int) ≤ 20001 * j := Int.mul_le_mul_of_nonneg_right (by omega) (by omega)
        refine r_aload_0 15 rfl (dd_X1_daysReached 8 _ _ _ rfl) ?_
        refine r_getr hg zc_X1 1 (by decide) (fun _ _ _ => rfl) x4 x1 (Or.inl rfl) (tb_1 111 _ rfl) 18 rfl (dd_X1_daysReached 9 _ _ _ rfl) ?_
        refine r_iload_4 20 rfl (dd_X1_daysReached 10 _ _ _ rfl) ?_
        refine r_iaload hg x7 (by omega) (by omega) (by omega) 21 rfl (dd_X1_daysReached 11 _ _ _ rfl) ?_
        rw [show ((j : Int)).toNat = j by omega, x16 j (by omega)]
        refine r_iload_4 23 rfl (dd_X1_daysReached 12 _ _ _ rfl) ?_
        refine r_iconst 24 rfl (dd_X1_daysReached 13 _ _ _ rfl) ?_
        refine r_iadd 25 rfl (dd_X1_daysReached 14 _ _ _ rfl) ?_
        refine r_aload_0 26 rfl (dd_X1_daysReached 15 _ _ _ rfl) ?_
        refine r_geti hg zc_X1 2 (by decide) (fun _ _ _ => rfl) x5 x1 (Or.inl rfl) (tb_1 112 _ rfl) 29 rfl (dd_X1_daysReached 16 _ _ _ rfl) ?_
        refine r_if_icmpge (by omega) (by omega) 32 rfl 46 rfl (dd_X1_daysReached 17 _ _ _ rfl) (fun hc2 => ?_) (fun hc2 => ?_)
        · refine r_iload_2 47 rfl (dd_X1_daysReached 27 _ _ _ rfl) ?_
          refine r_mmin (by omega) (by omega)  hg (by decide) (Nat.le_of_ble_eq_true rfl) (tb_5 81 _ rfl) 50 rfl (dd_X1_daysReached 28 _ _ _ rfl) ?_
          refine r_istore_5 52 rfl (by decide) rfl (dd_X1_daysReached 29 _ _ _ rfl) ?_
          refine r_iload_3 53 rfl (dd_X1_daysReached 30 _ _ _ rfl) ?_
          refine r_iconst 54 rfl (dd_X1_daysReached 31 _ _ _ rfl) ?_
          refine r_iload_5 56 rfl (dd_X1_daysReached 32 _ _ _ rfl) ?_
          refine r_iload_2 57 rfl (dd_X1_daysReached 33 _ _ _ rfl) ?_
          refine r_mmin (by omega) (by omega)  hg (by decide) (Nat.le_of_ble_eq_true rfl) (tb_5 81 _ rfl) 60 rfl (dd_X1_daysReached 34 _ _ _ rfl) ?_
          refine r_aload_0 61 rfl (dd_X1_daysReached 35 _ _ _ rfl) ?_
          refine r_getr hg zc_X1 0 (by decide) (fun _ _ _ => rfl) x3 x1 (Or.inl rfl) (tb_1 110 _ rfl) 64 rfl (dd_X1_daysReached 36 _ _ _ rfl) ?_
          refine r_iload_4 66 rfl (dd_X1_daysReached 37 _ _ _ rfl) ?_
          refine r_iaload hg x6 (by omega) (by omega) (by omega) 67 rfl (dd_X1_daysReached 38 _ _ _ rfl) ?_
          rw [show ((j : Int)).toNat = j by omega, x15 j (by omega)]
          refine r_iload_1 68 rfl (dd_X1_daysReached 39 _ _ _ rfl) ?_
          refine r_mmax (by omega) (by omega)  hg (by decide) (Nat.le_of_ble_eq_true rfl) (tb_5 82 _ rfl) 71 rfl (dd_X1_daysReached 40 _ _ _ rfl) ?_
          refine r_isub 72 rfl (dd_X1_daysReached 41 _ _ _ rfl) ?_
          refine r_iconst 73 rfl (dd_X1_daysReached 42 _ _ _ rfl) ?_
          refine r_iadd 74 rfl (dd_X1_daysReached 43 _ _ _ rfl) ?_
          refine r_mmax (by omega) (by omega)  hg (by decide) (Nat.le_of_ble_eq_true rfl) (tb_5 82 _ rfl) 77 rfl (dd_X1_daysReached 44 _ _ _ rfl) ?_
          refine r_iadd 78 rfl (dd_X1_daysReached 45 _ _ _ rfl) ?_
          refine r_istore_3 79 rfl (by decide) rfl (dd_X1_daysReached 46 _ _ _ rfl) ?_
          refine r_iinc_4 82 rfl (by decide) rfl (dd_X1_daysReached 47 _ _ _ rfl) ?_
          refine r_goto 5 rfl (dd_X1_daysReached 48 _ _ _ rfl) ?_
          exact r_sub _ (z_s1 (z_s1 (z_s1 (z_s1 (z_s1 (z_s0 z_sN)))))) (ih5 (j + 1) _ _ (by omega) (by omega) (by omega) (by rw [hd]; show _ = zdr F V c a0 e j + _; dsimp only; first | simp only [if_pos (show j + 1 < c by omega)] | simp only [if_neg (show ¬ j + 1 < c by omega)]))
        · have hF2 := ok.2.1 (j + 1) (by omega)
          refine r_aload_0 33 rfl (dd_X1_daysReached 18 _ _ _ rfl) ?_
          refine r_getr hg zc_X1 0 (by decide) (fun _ _ _ => rfl) x3 x1 (Or.inl rfl) (tb_1 110 _ rfl) 36 rfl (dd_X1_daysReached 19 _ _ _ rfl) ?_
          refine r_iload_4 38 rfl (dd_X1_daysReached 20 _ _ _ rfl) ?_
          refine r_iconst 39 rfl (dd_X1_daysReached 21 _ _ _ rfl) ?_
          refine r_iadd 40 rfl (dd_X1_daysReached 22 _ _ _ rfl) ?_
          refine r_iaload hg x6 (by omega) (by omega) (by omega) 41 rfl (dd_X1_daysReached 23 _ _ _ rfl) ?_
          rw [show ((j : Int) + 1).toNat = j + 1 by omega, x15 (j + 1) (by omega)]
          refine r_iconst 42 rfl (dd_X1_daysReached 24 _ _ _ rfl) ?_
          refine r_isub 43 rfl (dd_X1_daysReached 25 _ _ _ rfl) ?_
          refine r_goto 47 rfl (dd_X1_daysReached 26 _ _ _ rfl) ?_
          refine r_mmin (by omega) (by omega)  hg (by decide) (Nat.le_of_ble_eq_true rfl) (tb_5 81 _ rfl) 50 rfl (dd_X1_daysReached 28 _ _ _ rfl) ?_
          refine r_istore_5 52 rfl (by decide) rfl (dd_X1_daysReached 29 _ _ _ rfl) ?_
          refine r_iload_3 53 rfl (dd_X1_daysReached 30 _ _ _ rfl) ?_
          refine r_iconst 54 rfl (dd_X1_daysReached 31 _ _ _ rfl) ?_
          refine r_iload_5 56 rfl (dd_X1_daysReached 32 _ _ _ rfl) ?_
          refine r_iload_2 57 rfl (dd_X1_daysReached 33 _ _ _ rfl) ?_
          refine r_mmin (by omega) (by omega)  hg (by decide) (Nat.le_of_ble_eq_true rfl) (tb_5 81 _ rfl) 60 rfl (dd_X1_daysReached 34 _ _ _ rfl) ?_
          refine r_aload_0 61 rfl (dd_X1_daysReached 35 _ _ _ rfl) ?_
          refine r_getr hg zc_X1 0 (by decide) (fun _ _ _ => rfl) x3 x1 (Or.inl rfl) (tb_1 110 _ rfl) 64 rfl (dd_X1_daysReached 36 _ _ _ rfl) ?_
          refine r_iload_4 66 rfl (dd_X1_daysReached 37 _ _ _ rfl) ?_
          refine r_iaload hg x6 (by omega) (by omega) (by omega) 67 rfl (dd_X1_daysReached 38 _ _ _ rfl) ?_
          rw [show ((j : Int)).toNat = j by omega, x15 j (by omega)]
          refine r_iload_1 68 rfl (dd_X1_daysReached 39 _ _ _ rfl) ?_
          refine r_mmax (by omega) (by omega)  hg (by decide) (Nat.le_of_ble_eq_true rfl) (tb_5 82 _ rfl) 71 rfl (dd_X1_daysReached 40 _ _ _ rfl) ?_
          refine r_isub 72 rfl (dd_X1_daysReached 41 _ _ _ rfl) ?_
          refine r_iconst 73 rfl (dd_X1_daysReached 42 _ _ _ rfl) ?_
          refine r_iadd 74 rfl (dd_X1_daysReached 43 _ _ _ rfl) ?_
          refine r_mmax (by omega) (by omega)  hg (by decide) (Nat.le_of_ble_eq_true rfl) (tb_5 82 _ rfl) 77 rfl (dd_X1_daysReached 44 _ _ _ rfl) ?_
          refine r_iadd 78 rfl (dd_X1_daysReached 45 _ _ _ rfl) ?_
          refine r_istore_3 79 rfl (by decide) rfl (dd_X1_daysReached 46 _ _ _ rfl) ?_
          refine r_iinc_4 82 rfl (by decide) rfl (dd_X1_daysReached 47 _ _ _ rfl) ?_
          refine r_goto 5 rfl (dd_X1_daysReached 48 _ _ _ rfl) ?_
          exact r_sub _ (z_s1 (z_s1 (z_s1 (z_s1 (z_s1 (z_s0 z_sN)))))) (ih5 (j + 1) _ _ (by omega) (by omega) (by omega) (by rw [hd]; show _ = zdr F V c a0 e j + _; dsimp only; first | simp only [if_pos (show j + 1 < c by omega)] | simp only [if_neg (show ¬ j + 1 < c by omega)]))
  exact r_sub _ (z_s1 (z_s1 (z_s1 (z_s1 (z_s1 (z_s0 z_sN)))))) (L5 1000000 0 _ _ (by omega) (by omega) rfl rfl)
