theorem SeRep.bar {o : Nat → Nat} {r a p : Nat} {h : zH} {S : zS} {v : Int} (x : SeRep o r h a S) : ∀ ba, fr_ h a 0 = some ba → SeRep o r (sai h ba p v) a (S.1, zu2 S.2 15 p v) ∧ zStep (fun q => q = r) o h o (sai h ba p v) := by
  obtain ⟨ba, gv, x1, x2, x3, x4, x5, x6, x7, x8, x9, x10, x11, x12, x13⟩ := x
  intro b hb
  obtain rfl : ba = b := Option.some.inj (x3.symm.trans hb)
  refine ⟨⟨ba, gv, x1, x2, x3, x4, x5, x6, x7, x8, fun k hk => ?_, x10, x11, x12, fun k hk => (show _ = zu2 S.2 15 p v 17 k from (x13 k hk).trans (zu2_ne (fun q => by omega)).symm)⟩, step_sai x7⟩
  show zu2 (ai_ h) ba p v ba k = zu2 S.2 15 p v 15 k
  by_cases hq : k = p
  · subst hq; rw [zu2_at, zu2_at]
  · rw [zu2_ne (fun q => hq q.2), zu2_ne (fun q => hq q.2)]; exact x9 k hk
theorem SeRep.giv {o : Nat → Nat} {r a p : Nat} {h : zH} {S : zS} {v : Int} (x : SeRep o r h a S) : ∀ gv, fr_ h a 1 = some gv → SeRep o r (saj h gv p v) a (S.1, zu2 S.2 17 p v) ∧ zStep (fun q => q = r) o h o (saj h gv p v) := by
  obtain ⟨ba, gv, x1, x2, x3, x4, x5, x6, x7, x8, x9, x10, x11, x12, x13⟩ := x
  intro b hb
  obtain rfl : gv = b := Option.some.inj (x4.symm.trans hb)
  refine ⟨⟨ba, gv, x1, x2, x3, x4, x5, x6, x7, x8, fun k hk => (show _ = zu2 S.2 17 p v 15 k from (x9 k hk).trans (zu2_ne (fun q => by omega)).symm), x10, x11, x12, fun k hk => ?_⟩, step_saj x11⟩
  show zu2 (aj_ h) gv p v gv k = zu2 S.2 17 p v 17 k
  by_cases hq : k = p
  · subst hq; rw [zu2_at, zu2_at]
  · rw [zu2_ne (fun q => hq q.2), zu2_ne (fun q => hq q.2)]; exact x13 k hk
abbrev mX6_setBarred : zM := (RX6, cX6_setBarred, 4, (Option.some Jvm.ClassFile.FieldType.boolean), [], "setBarred", 10)
set_option maxRecDepth 20000 in
theorem c_X6_setBarred {g : zGT} {Q : zO → zH → Prop} {h : zH} (hg : zG g) {o : Nat → Nat} {r a n : Nat} {S : zS} (hI : MInv n S) (x : SeRep o r h a S) {p : Nat} {i : Int} (hp : p < 676) (hi : i = 0 ∨ i = 1) (k : ∀ h1, SeRep o r h1 a (S.1, zu2 S.2 15 p i) → zStep (fun q => q = r) o h o h1 → Q (.inl (some (.int (zI (S.2 15 p))))) h1) : zC g (.code yX6_setBarred cX6_setBarred 4 (Option.some Jvm.ClassFile.FieldType.boolean)) yX6_setBarred 10 0 0 [.ref a, .int (zI (p : Int)), .int (zI i)] h Q := by
  refine zC_of (M := mX6_setBarred) (lv := [some (.ref a), some (.int (zI (p : Int))), some (.int (zI i)), none]) (by decide) rfl rfl (Nat.le_of_ble_eq_true rfl) rfl rfl ?_
  obtain ⟨ba, gv, x1, x2, x3, x4, x5, x6, x7, x8, x9, x10, x11, x12, x13⟩ := id x
  have hbr := hI.barred p
  refine r_iload_1 1 rfl (dd_X6_setBarred 0 _ _ _ rfl) ?_
  refine r_iflt (by omega) 4 rfl 13 rfl (dd_X6_setBarred 1 _ _ _ rfl) (fun hc1 => ?_) (fun hc1 => ?_)
  · exfalso; omega
  · refine r_iload_1 5 rfl (dd_X6_setBarred 2 _ _ _ rfl) ?_
    refine r_aload_0 6 rfl (dd_X6_setBarred 3 _ _ _ rfl) ?_
    refine r_getr hg zc_X6 0 (by decide) (fun _ _ _ => rfl) x3 x1 (Or.inl rfl) (tb_1 64 _ rfl) 9 rfl (dd_X6_setBarred 4 _ _ _ rfl) ?_
    refine r_arraylength hg x6 (by decide) (by decide) 10 rfl (dd_X6_setBarred 5 _ _ _ rfl) ?_
    rw [x8]
    refine r_if_icmplt (by omega) (by omega) 13 rfl 15 rfl (dd_X6_setBarred 6 _ _ _ rfl) (fun hc2 => ?_) (fun hc2 => ?_)
    · refine r_aload_0 16 rfl (dd_X6_setBarred 9 _ _ _ rfl) ?_
      refine r_getr hg zc_X6 0 (by decide) (fun _ _ _ => rfl) x3 x1 (Or.inl rfl) (tb_1 64 _ rfl) 19 rfl (dd_X6_setBarred 10 _ _ _ rfl) ?_
      refine r_iload_1 20 rfl (dd_X6_setBarred 11 _ _ _ rfl) ?_
      refine r_zaload hg x6 (by omega) (by omega) (by omega) 21 rfl (dd_X6_setBarred 12 _ _ _ rfl) ?_
      rw [show ((p : Int)).toNat = p by omega, x9 p hp]
      refine r_istore_3 22 rfl (by decide) rfl (dd_X6_setBarred 13 _ _ _ rfl) ?_
      refine r_aload_0 23 rfl (dd_X6_setBarred 14 _ _ _ rfl) ?_
      refine r_getr hg zc_X6 0 (by decide) (fun _ _ _ => rfl) x3 x1 (Or.inl rfl) (tb_1 64 _ rfl) 26 rfl (dd_X6_setBarred 15 _ _ _ rfl) ?_
      refine r_iload_1 27 rfl (dd_X6_setBarred 16 _ _ _ rfl) ?_
      refine r_iload_2 28 rfl (dd_X6_setBarred 17 _ _ _ rfl) ?_
      refine r_zastore hg x6 (by omega) (by omega) (by omega) (by rcases hi with q | q <;> rw [q] <;> rfl) 29 rfl (dd_X6_setBarred 18 _ _ _ rfl) ?_
      rw [show ((p : Int)).toNat = p by omega]
      refine r_iload_3 30 rfl (dd_X6_setBarred 19 _ _ _ rfl) ?_
      refine r_ireturn rfl (by rcases hI.barred p with q | q <;> rw [q] <;> rfl) (dd_X6_setBarred 20 _ _ _ rfl) ?_
      exact k _ (x.bar ba x3).1 (x.bar ba x3).2
    · exfalso; omega

abbrev mX6_isFree : zM := (RX6, cX6_isFree, 2, (Option.some Jvm.ClassFile.FieldType.boolean), [], "isFree", 10)
set_option maxRecDepth 20000 in
theorem c_X6_isFree {g : zGT} {Q : zO → zH → Prop} {h : zH} (hg : zG g) {o : Nat → Nat} {r a n : Nat} {S : zS} (hI : MInv n S) (x : SeRep o r h a S) {p : Int} (hp : 0 ≤ p) (hp2 : p < 67600) (k1 : zfree S.2 p → Q (.inl (some (.int (zI 1)))) h) (k0 : ¬ zfree S.2 p → Q (.inl (some (.int (zI 0)))) h) : zC g (.code yX6_isFree cX6_isFree 2 (Option.some Jvm.ClassFile.FieldType.boolean)) yX6_isFree 10 0 0 [.ref a, .int (zI p)] h Q := by
  refine zC_of (M := mX6_isFree) (lv := [some (.ref a), some (.int (zI p))]) (by decide) rfl rfl (Nat.le_of_ble_eq_true rfl) rfl rfl ?_
  obtain ⟨ba, gv, x1, x2, x3, x4, x5, x6, x7, x8, x9, x10, x11, x12, x13⟩ := id x
  have hbr := hI.barred (p / 100).toNat
  refine r_iload_1 1 rfl (dd_X6_isFree 0 _ _ _ rfl) ?_
  refine r_iflt (by omega) 4 rfl 10 rfl (dd_X6_isFree 1 _ _ _ rfl) (fun hc1 => ?_) (fun hc1 => ?_)
  · exfalso; omega
  · refine r_iload_1 5 rfl (dd_X6_isFree 2 _ _ _ rfl) ?_
    refine r_ldc hg (tb_4 136 _ rfl) 7 rfl (dd_X6_isFree 3 _ _ _ rfl) ?_
    refine r_top 67600 rfl ?_
    refine r_if_icmplt (by omega) (by omega) 10 rfl 12 rfl (dd_X6_isFree 4 _ _ _ rfl) (fun hc2 => ?_) (fun hc2 => ?_)
    · refine r_aload_0 13 rfl (dd_X6_isFree 7 _ _ _ rfl) ?_
      refine r_getr hg zc_X6 0 (by decide) (fun _ _ _ => rfl) x3 x1 (Or.inl rfl) (tb_1 64 _ rfl) 16 rfl (dd_X6_isFree 8 _ _ _ rfl) ?_
      refine r_iload_1 17 rfl (dd_X6_isFree 9 _ _ _ rfl) ?_
      refine r_bipush (by decide) 19 rfl (dd_X6_isFree 10 _ _ _ rfl) ?_
      refine r_idiv (by omega) (by omega) (by omega) (by omega) 20 rfl (dd_X6_isFree 11 _ _ _ rfl) ?_
      refine r_zaload hg x6 (by omega) (by omega) (by omega) 21 rfl (dd_X6_isFree 12 _ _ _ rfl) ?_
      rw [x9 (p / 100).toNat (by omega)]
      refine r_ifne (by omega) 24 rfl 49 rfl (dd_X6_isFree 13 _ _ _ rfl) (fun hc3 => ?_) (fun hc3 => ?_)
      · refine r_iconst 50 rfl (dd_X6_isFree 31 _ _ _ rfl) ?_
        refine r_ireturn rfl rfl (dd_X6_isFree 32 _ _ _ rfl) ?_
        first | exact k0 (fun q => absurd (hb.symm.trans q.1) (by decide)) | exact k0 (fun q => by have := q.2; omega)
      · refine r_aload_0 25 rfl (dd_X6_isFree 14 _ _ _ rfl) ?_
        refine r_getr hg zc_X6 1 (by decide) (fun _ _ _ => rfl) x4 x1 (Or.inl rfl) (tb_1 65 _ rfl) 28 rfl (dd_X6_isFree 15 _ _ _ rfl) ?_
        refine r_iload_1 29 rfl (dd_X6_isFree 16 _ _ _ rfl) ?_
        refine r_bipush (by decide) 31 rfl (dd_X6_isFree 17 _ _ _ rfl) ?_
        refine r_idiv (by omega) (by omega) (by omega) (by omega) 32 rfl (dd_X6_isFree 18 _ _ _ rfl) ?_
        refine r_laload hg x10 (by omega) (by omega) (by omega) 33 rfl (dd_X6_isFree 19 _ _ _ rfl) ?_
        rw [x13 (p / 64).toNat (by omega)]
        refine r_iload_1 34 rfl (dd_X6_isFree 20 _ _ _ rfl) ?_
        refine r_bipush (by decide) 36 rfl (dd_X6_isFree 21 _ _ _ rfl) ?_
        refine r_irem (by omega) (by omega) (by omega) (by omega) 37 rfl (dd_X6_isFree 22 _ _ _ rfl) ?_
        refine r_lushr 38 rfl (dd_X6_isFree 23 _ _ _ rfl) ?_
        refine r_lconst1 39 rfl (dd_X6_isFree 24 _ _ _ rfl) ?_
        refine r_land 40 rfl (dd_X6_isFree 25 _ _ _ rfl) ?_
        refine r_topl (if zbit (S.2 17 (p / 64).toNat) (p % 64) = true then 1 else 0) (z_bit_ushr (by omega) (by omega)) ?_
        by_cases hb : zbit (S.2 17 (p / 64).toNat) (p % 64) = true
        · rw [if_pos hb]
          refine r_lconst0 41 rfl (dd_X6_isFree 26 _ _ _ rfl) ?_
          refine r_lcmp (by decide) (by decide) 42 rfl (dd_X6_isFree 27 _ _ _ rfl) (fun q => absurd q (by decide)) (fun q => absurd q (by decide)) (fun _ => ?_)
          refine r_ifne (by omega) 45 rfl 49 rfl (dd_X6_isFree 28 _ _ _ rfl) (fun _ => ?_) (fun q => absurd q (by decide))
          refine r_iconst 50 rfl (dd_X6_isFree 31 _ _ _ rfl) ?_
          refine r_ireturn rfl rfl (dd_X6_isFree 32 _ _ _ rfl) ?_
          first | exact k0 (fun q => absurd (hb.symm.trans q.1) (by decide)) | exact k0 (fun q => by have := q.2; omega)
        · rw [if_neg hb]
          refine r_lconst0 41 rfl (dd_X6_isFree 26 _ _ _ rfl) ?_
          refine r_lcmp (by decide) (by decide) 42 rfl (dd_X6_isFree 27 _ _ _ rfl) (fun q => absurd q (by decide)) (fun _ => ?_) (fun q => absurd q (by decide))
          refine r_ifne (by omega) 45 rfl 49 rfl (dd_X6_isFree 28 _ _ _ rfl) (fun q => absurd q (by decide)) (fun _ => ?_)
          refine r_iconst 46 rfl (dd_X6_isFree 29 _ _ _ rfl) ?_
          refine r_goto 50 rfl (dd_X6_isFree 30 _ _ _ rfl) ?_
          refine r_ireturn rfl rfl (dd_X6_isFree 32 _ _ _ rfl) ?_
          exact k1 ⟨by simpa using hb, by omega⟩
    · exfalso; omega

abbrev mX6_markGiven : zM := (RX6, cX6_markGiven, 2, (Option.none : Option Jvm.ClassFile.FieldType), [], "markGiven", 10)
set_option maxRecDepth 20000 in
theorem c_X6_markGiven {g : zGT} {Q : zO → zH → Prop} {h : zH} (hg : zG g) {o : Nat → Nat} {r a n : Nat} {S : zS} (hI : MInv n S) (x : SeRep o r h a S) {p : Int} (hp : 0 ≤ p) (hp2 : p < 67600) (k : ∀ h1, SeRep o r h1 a (S.1, zu2 S.2 17 (p / 64).toNat (zset (S.2 17 (p / 64).toNat) (p % 64))) → zStep (fun q => q = r) o h o h1 → Q (.inl none) h1) : zC g (.code yX6_markGiven cX6_markGiven 2 (Option.none : Option Jvm.ClassFile.FieldType)) yX6_markGiven 10 0 0 [.ref a, .int (zI p)] h Q := by
  refine zC_of (M := mX6_markGiven) (lv := [some (.ref a), some (.int (zI p))]) (by decide) rfl rfl (Nat.le_of_ble_eq_true rfl) rfl rfl ?_
  obtain ⟨ba, gv, x1, x2, x3, x4, x5, x6, x7, x8, x9, x10, x11, x12, x13⟩ := id x
  refine r_iload_1 1 rfl (dd_X6_markGiven 0 _ _ _ rfl) ?_
  refine r_iflt (by omega) 4 rfl 28 rfl (dd_X6_markGiven 1 _ _ _ rfl) (fun hc1 => ?_) (fun hc1 => ?_)
  · exfalso; omega
  · refine r_iload_1 5 rfl (dd_X6_markGiven 2 _ _ _ rfl) ?_
    refine r_ldc hg (tb_4 136 _ rfl) 7 rfl (dd_X6_markGiven 3 _ _ _ rfl) ?_
    refine r_top 67600 rfl ?_
    refine r_if_icmpge (by omega) (by omega) 10 rfl 28 rfl (dd_X6_markGiven 4 _ _ _ rfl) (fun hc2 => ?_) (fun hc2 => ?_)
    · exfalso; omega
    · refine r_aload_0 11 rfl (dd_X6_markGiven 5 _ _ _ rfl) ?_
      refine r_getr hg zc_X6 1 (by decide) (fun _ _ _ => rfl) x4 x1 (Or.inl rfl) (tb_1 65 _ rfl) 14 rfl (dd_X6_markGiven 6 _ _ _ rfl) ?_
      refine r_iload_1 15 rfl (dd_X6_markGiven 7 _ _ _ rfl) ?_
      refine r_bipush (by decide) 17 rfl (dd_X6_markGiven 8 _ _ _ rfl) ?_
      refine r_idiv (by omega) (by omega) (by omega) (by omega) 18 rfl (dd_X6_markGiven 9 _ _ _ rfl) ?_
      refine r_dup2 rfl rfl 19 rfl (dd_X6_markGiven 10 _ _ _ rfl) ?_
      refine r_laload hg x10 (by omega) (by omega) (by omega) 20 rfl (dd_X6_markGiven 11 _ _ _ rfl) ?_
      rw [x13 (p / 64).toNat (by omega)]
      refine r_lconst1 21 rfl (dd_X6_markGiven 12 _ _ _ rfl) ?_
      refine r_iload_1 22 rfl (dd_X6_markGiven 13 _ _ _ rfl) ?_
      refine r_bipush (by decide) 24 rfl (dd_X6_markGiven 14 _ _ _ rfl) ?_
      refine r_irem (by omega) (by omega) (by omega) (by omega) 25 rfl (dd_X6_markGiven 15 _ _ _ rfl) ?_
      refine r_lshl 26 rfl (dd_X6_markGiven 16 _ _ _ rfl) ?_
      refine r_lor 27 rfl (dd_X6_markGiven 17 _ _ _ rfl) ?_
      refine r_topl _ (zset_eq _ _) ?_
      refine r_lastore hg x10 (by omega) (by omega) (by omega) 28 rfl (dd_X6_markGiven 18 _ _ _ rfl) ?_
      refine r_vreturn rfl (dd_X6_markGiven 19 _ _ _ rfl) ?_
      exact k _ (x.giv gv x4).1 (x.giv gv x4).2

abbrev mX6_next : zM := (RX6, cX6_next, 2, (Option.some Jvm.ClassFile.FieldType.int), [], "next", 11)
set_option maxRecDepth 20000 in
theorem c_X6_next {g : zGT} {Q : zO → zH → Prop} {h : zH} (hg : zG g) {o : Nat → Nat} {r a n : Nat} {S : zS} (hI : MInv n S) (x : SeRep o r h a S) (k : Q (.inl (some (.int (zI (if znext S = 67600 then -1 else znext S))))) h) : zC g (.code yX6_next cX6_next 2 (Option.some Jvm.ClassFile.FieldType.int)) yX6_next 11 0 0 [.ref a] h Q := by
  refine zC_of (M := mX6_next) (lv := [some (.ref a), none]) (by decide) rfl rfl (Nat.le_of_ble_eq_true rfl) rfl rfl ?_
  obtain ⟨ba, gv, x1, x2, x3, x4, x5, x6, x7, x8, x9, x10, x11, x12, x13⟩ := id x
  have hsr := hI.series
  refine r_aload_0 1 rfl (dd_X6_next 0 _ _ _ rfl) ?_
  refine r_geti hg zc_X6 2 (by decide) (fun _ _ _ => rfl) x5 x1 (Or.inl rfl) (tb_1 66 _ rfl) 4 rfl (dd_X6_next 1 _ _ _ rfl) ?_
  refine r_iconst 5 rfl (dd_X6_next 2 _ _ _ rfl) ?_
  refine r_iadd 6 rfl (dd_X6_next 3 _ _ _ rfl) ?_
  refine r_istore_1 7 rfl (by decide) rfl (dd_X6_next 4 _ _ _ rfl) ?_
  have L7 : ∀ (tt : Nat), ∀ (j : Nat) (b : Int), 70000 - j < tt → (b = S.1 16 + 1 + j) → (b ≤ 67600) → (∀ i, i < j → (fun i : Nat => !zfreeB S.2 (S.1 16 + 1 + i)) i = true) → zX g mX6_next 0 0 Q 7 [some (.ref a), some (.int (zI b))] [] h 0 0 := by
    intro tt7
    induction tt7 with
    | zero => intros; exfalso; omega
    | succ tt7 ih7 =>
      intro j b hlt7 ha hj hall
      refine r_iload_1 8 rfl (dd_X6_next 5 _ _ _ rfl) ?_
      refine r_ldc hg (tb_4 136 _ rfl) 10 rfl (dd_X6_next 6 _ _ _ rfl) ?_
      refine r_top 67600 rfl ?_
      refine r_if_icmpge (by omega) (by omega) 13 rfl 29 rfl (dd_X6_next 7 _ _ _ rfl) (fun hc1 => ?_) (fun hc1 => ?_)
      · refine r_iconst 30 rfl (dd_X6_next 16 _ _ _ rfl) ?_
        refine r_ireturn rfl rfl (dd_X6_next 17 _ _ _ rfl) ?_
        have hz : znext S = b := znext_eq hI ha hj hall (by first | exact fun q => absurd q (by omega) | exact fun _ => hfr)
        rw [hz] at k
        first | (rw [if_pos (by omega)] at k; exact k) | (rw [if_neg (by omega)] at k; exact k)
      · refine r_aload_0 14 rfl (dd_X6_next 8 _ _ _ rfl) ?_
        refine r_iload_1 15 rfl (dd_X6_next 9 _ _ _ rfl) ?_
        refine r_callV1 (lvl := 10) (mc1 := 0) (ms1 := 0) 0 0 hg rfl md_X6_isFree zc_X6 x1 wi_X6_isFree wv_X6_isFree (tb_4 137 _ rfl) (by decide) (by decide) rfl (Nat.le_of_ble_eq_true rfl) (Nat.le_of_ble_eq_true rfl) (Nat.le_of_ble_eq_true rfl) 18 rfl (dd_X6_next 10 _ _ _ rfl) ?_
        refine c_X6_isFree hg hI x (by omega) (by omega) (fun hfr => ?_) (fun hfr => ?_)
        · dsimp only [zCont, Option.toList, List.cons_append, List.nil_append]
          refine r_ifeq (by omega) 21 rfl 23 rfl (dd_X6_next 11 _ _ _ rfl) (fun q => absurd q (by decide)) (fun _ => ?_)
          refine r_iload_1 22 rfl (dd_X6_next 12 _ _ _ rfl) ?_
          refine r_ireturn rfl rfl (dd_X6_next 13 _ _ _ rfl) ?_
          have hz : znext S = b := znext_eq hI ha hj hall (by first | exact fun q => absurd q (by omega) | exact fun _ => hfr)
          rw [hz] at k
          first | (rw [if_pos (by omega)] at k; exact k) | (rw [if_neg (by omega)] at k; exact k)
        · dsimp only [zCont, Option.toList, List.cons_append, List.nil_append]
          refine r_ifeq (by omega) 21 rfl 23 rfl (dd_X6_next 11 _ _ _ rfl) (fun _ => ?_) (fun q => absurd q (by decide))
          refine r_iinc_1 26 rfl (by decide) rfl (dd_X6_next 14 _ _ _ rfl) ?_
          refine r_goto 7 rfl (dd_X6_next 15 _ _ _ rfl) ?_
          exact r_sub _ (z_s1 (z_s1 z_sN)) (ih7 (j + 1) _ (by omega) (by omega) (by omega) (lt_s hall (by show (!zfreeB S.2 (S.1 16 + 1 + (j : Int))) = true; rw [← ha]; have := (not_congr (zfreeB_iff (ar := S.2) (p := b))).mpr hfr; simpa using this)))
  exact r_sub _ (z_s1 (z_s1 z_sN)) (L7 1000000 0 _ (by omega) (by omega) (by omega) lt_0)

theorem BuRep.put {o : Nat → Nat} {r a p : Nat} {h : zH} {S : zS} {v w : Int} (x : BuRep o r h a S) : ∀ sg, fr_ h a 0 = some sg → BuRep o r (sfi (sai h sg p v) a 1 w) a (zu1 S.1 2 w, zu2 S.2 3 p v) ∧ zStep (fun q => q = r) o h o (sfi (sai h sg p v) a 1 w) := by
  obtain ⟨sg, x1, x2, x3, x4, x5, x6, x7, x8⟩ := x
  intro b hb
  obtain rfl : sg = b := Option.some.inj (x3.symm.trans hb)
  refine ⟨⟨sg, x1, x2, x3, zu2_at.trans (show zu1 S.1 2 w 2 = w from zu1_at).symm, x5, x6, x7, fun k hk => ?_⟩, (step_sai x6).trans (step_sfi x2)⟩
  show zu2 (ai_ h) sg p v sg k = zu2 S.2 3 p v 3 k
  by_cases hq : k = p
  · subst hq; rw [zu2_at, zu2_at]
  · rw [zu2_ne (fun q => hq q.2), zu2_ne (fun q => hq q.2)]; exact x8 k hk
theorem BuRep.len {o : Nat → Nat} {r a : Nat} {h : zH} {S : zS} {w : Int} (x : BuRep o r h a S) : BuRep o r (sfi h a 1 w) a (zu1 S.1 2 w, S.2) ∧ zStep (fun q => q = r) o h o (sfi h a 1 w) := by
  obtain ⟨sg, x1, x2, x3, x4, x5, x6, x7, x8⟩ := x
  exact ⟨⟨sg, x1, x2, x3, zu2_at.trans (show zu1 S.1 2 w 2 = w from zu1_at).symm, x5, x6, x7, x8⟩, step_sfi x2⟩
/-- may the sign k of the buffer stand in a plate, or (d = 1) be doubtful? -/
def zpl (S : zS) (d : Int) (i : Nat) : Prop := (d = 1 ∧ S.2 3 i = 63) ∨ ((i : Int) < 2 ∧ 65 ≤ S.2 3 i ∧ S.2 3 i ≤ 90 ∨ 2 ≤ (i : Int) ∧ 48 ≤ S.2 3 i ∧ S.2 3 i ≤ 57)
theorem zpl_sight {S : zS} : (S.1 2 = 4 ∧ ∀ i, i < 4 → zpl S 1 i) ↔ zsightOK S := by
  have h : ∀ i, i < 4 → (zpl S 1 i ↔ zbuf S i) := fun i hi => by
    unfold zpl zbuf
    by_cases h2 : i < 2
    · rw [if_pos h2]; omega
    · rw [if_neg h2]; omega
  constructor
  · rintro ⟨q1, q2⟩; exact zsight_yes q1 fun i hi => (h i hi).mp (q2 i hi)
  · intro q
    refine ⟨q.1, fun i hi => (h i hi).mpr ?_⟩
    by_cases hz : zbuf S i
    · exact hz
    · exact (zsight_no hi q hz).elim
theorem zpl_plate {S : zS} : (S.1 2 = 4 ∧ ∀ i, i < 4 → zpl S 0 i) ↔ zplateOK S := by
  unfold zplateOK zpl
  constructor
  · rintro ⟨q1, q2⟩
    have a0 := q2 0 (by omega)
    have a1 := q2 1 (by omega)
    have a2 := q2 2 (by omega)
    have a3 := q2 3 (by omega)
    omega
  · rintro ⟨q1, q2, q3, q4, q5⟩
    refine ⟨q1, fun i hi => ?_⟩
    rcases (show i = 0 ∨ i = 1 ∨ i = 2 ∨ i = 3 by omega) with rfl | rfl | rfl | rfl <;> omega
abbrev mX0_append : zM := (RX0, cX0_append, 2, (Option.some Jvm.ClassFile.FieldType.boolean), [], "append", 10)
set_option maxRecDepth 20000 in
theorem c_X0_append {g : zGT} {Q : zO → zH → Prop} {h : zH} (hg : zG g) {o : Nat → Nat} {r a n : Nat} {S : zS} (hI : MInv n S) (x : BuRep o r h a S) {v : Int} (hv : 0 ≤ v ∧ v < 65536) (k0 : S.1 2 = 8 → Q (.inl (some (.int (zI 0)))) h) (k1 : S.1 2 ≠ 8 → ∀ h1, BuRep o r h1 a (zu1 S.1 2 (S.1 2 + 1), zu2 S.2 3 (S.1 2).toNat v) → zStep (fun q => q = r) o h o h1 → Q (.inl (some (.int (zI 1)))) h1) : zC g (.code yX0_append cX0_append 2 (Option.some Jvm.ClassFile.FieldType.boolean)) yX0_append 10 0 0 [.ref a, .int (zI v)] h Q := by
  refine zC_of (M := mX0_append) (lv := [some (.ref a), some (.int (zI v))]) (by decide) rfl rfl (Nat.le_of_ble_eq_true rfl) rfl rfl ?_
  obtain ⟨sg, x1, x2, x3, x4, x5, x6, x7, x8⟩ := id x
  have hs := hI.signs
  refine r_aload_0 1 rfl (dd_X0_append 0 _ _ _ rfl) ?_
  refine r_geti hg zc_X0 1 (by decide) (fun _ _ _ => rfl) x4 x1 (Or.inl rfl) (tb_1 50 _ rfl) 4 rfl (dd_X0_append 1 _ _ _ rfl) ?_
  refine r_iflt (by omega) 7 rfl 19 rfl (dd_X0_append 2 _ _ _ rfl) (fun hc1 => ?_) (fun hc1 => ?_)
  · refine r_iconst 20 rfl (dd_X0_append 9 _ _ _ rfl) ?_
    refine r_ireturn rfl rfl (dd_X0_append 10 _ _ _ rfl) ?_
    exact k0 (by omega)
  · refine r_aload_0 8 rfl (dd_X0_append 3 _ _ _ rfl) ?_
    refine r_geti hg zc_X0 1 (by decide) (fun _ _ _ => rfl) x4 x1 (Or.inl rfl) (tb_1 50 _ rfl) 11 rfl (dd_X0_append 4 _ _ _ rfl) ?_
    refine r_aload_0 12 rfl (dd_X0_append 5 _ _ _ rfl) ?_
    refine r_getr hg zc_X0 0 (by decide) (fun _ _ _ => rfl) x3 x1 (Or.inl rfl) (tb_1 49 _ rfl) 15 rfl (dd_X0_append 6 _ _ _ rfl) ?_
    refine r_arraylength hg x5 (by decide) (by decide) 16 rfl (dd_X0_append 7 _ _ _ rfl) ?_
    rw [x7]
    refine r_if_icmplt (by omega) (by omega) 19 rfl 21 rfl (dd_X0_append 8 _ _ _ rfl) (fun hc2 => ?_) (fun hc2 => ?_)
    · refine r_aload_0 22 rfl (dd_X0_append 11 _ _ _ rfl) ?_
      refine r_getr hg zc_X0 0 (by decide) (fun _ _ _ => rfl) x3 x1 (Or.inl rfl) (tb_1 49 _ rfl) 25 rfl (dd_X0_append 12 _ _ _ rfl) ?_
      refine r_aload_0 26 rfl (dd_X0_append 13 _ _ _ rfl) ?_
      refine r_geti hg zc_X0 1 (by decide) (fun _ _ _ => rfl) x4 x1 (Or.inl rfl) (tb_1 50 _ rfl) 29 rfl (dd_X0_append 14 _ _ _ rfl) ?_
      refine r_iload_1 30 rfl (dd_X0_append 15 _ _ _ rfl) ?_
      refine r_castore hg x5 (by omega) (by omega) (by omega) (z_nchar (by omega) (by omega)) 31 rfl (dd_X0_append 16 _ _ _ rfl) ?_
      refine r_aload_0 32 rfl (dd_X0_append 17 _ _ _ rfl) ?_
      refine r_dup rfl 33 rfl (dd_X0_append 18 _ _ _ rfl) ?_
      refine r_geti hg zc_X0 1 (by decide) (fun _ _ _ => rfl) x4 x1 (Or.inl rfl) (tb_1 50 _ rfl) 36 rfl (dd_X0_append 19 _ _ _ rfl) ?_
      refine r_iconst 37 rfl (dd_X0_append 20 _ _ _ rfl) ?_
      refine r_iadd 38 rfl (dd_X0_append 21 _ _ _ rfl) ?_
      refine r_puti hg zc_X0 1 (by decide) rfl (fun _ _ _ => rfl) rfl rfl (by decide) x1 (Or.inl rfl) (tb_1 50 _ rfl) 41 rfl (dd_X0_append 22 _ _ _ rfl) ?_
      refine r_iconst 42 rfl (dd_X0_append 23 _ _ _ rfl) ?_
      refine r_ireturn rfl rfl (dd_X0_append 24 _ _ _ rfl) ?_
      exact k1 (by omega) _ (x.put sg x3).1 (x.put sg x3).2
    · refine r_iconst 20 rfl (dd_X0_append 9 _ _ _ rfl) ?_
      refine r_ireturn rfl rfl (dd_X0_append 10 _ _ _ rfl) ?_
      exact k0 (by omega)

abbrev mX0_empty : zM := (RX0, cX0_empty, 2, (Option.some Jvm.ClassFile.FieldType.int), [], "empty", 10)
set_option maxRecDepth 20000 in
theorem c_X0_empty {g : zGT} {Q : zO → zH → Prop} {h : zH} (hg : zG g) {o : Nat → Nat} {r a n : Nat} {S : zS} (hI : MInv n S) (x : BuRep o r h a S) (k : ∀ h1, BuRep o r h1 a (zu1 S.1 2 0, S.2) → zStep (fun q => q = r) o h o h1 → Q (.inl (some (.int (zI (S.1 2))))) h1) : zC g (.code yX0_empty cX0_empty 2 (Option.some Jvm.ClassFile.FieldType.int)) yX0_empty 10 0 0 [.ref a] h Q := by
  refine zC_of (M := mX0_empty) (lv := [some (.ref a), none]) (by decide) rfl rfl (Nat.le_of_ble_eq_true rfl) rfl rfl ?_
  obtain ⟨sg, x1, x2, x3, x4, x5, x6, x7, x8⟩ := id x
  refine r_aload_0 1 rfl (dd_X0_empty 0 _ _ _ rfl) ?_
  refine r_geti hg zc_X0 1 (by decide) (fun _ _ _ => rfl) x4 x1 (Or.inl rfl) (tb_1 50 _ rfl) 4 rfl (dd_X0_empty 1 _ _ _ rfl) ?_
  refine r_istore_1 5 rfl (by decide) rfl (dd_X0_empty 2 _ _ _ rfl) ?_
  refine r_aload_0 6 rfl (dd_X0_empty 3 _ _ _ rfl) ?_
  refine r_iconst 7 rfl (dd_X0_empty 4 _ _ _ rfl) ?_
  refine r_puti hg zc_X0 1 (by decide) rfl (fun _ _ _ => rfl) rfl rfl (by decide) x1 (Or.inl rfl) (tb_1 50 _ rfl) 10 rfl (dd_X0_empty 5 _ _ _ rfl) ?_
  refine r_iload_1 11 rfl (dd_X0_empty 6 _ _ _ rfl) ?_
  refine r_ireturn rfl rfl (dd_X0_empty 7 _ _ _ rfl) ?_
  exact k _ x.len.1 x.len.2

abbrev mX0_isOfPlateSigns : zM := (RX0, cX0_isOfPlateSigns, 4, (Option.some Jvm.ClassFile.FieldType.boolean), [], "isOfPlateSigns", 12)
set_option maxRecDepth 20000 in
theorem c_X0_isOfPlateSigns {g : zGT} {Q : zO → zH → Prop} {h : zH} (hg : zG g) {o : Nat → Nat} {r a n : Nat} {S : zS} (hI : MInv n S) (x : BuRep o r h a S) {d : Int} (hd : d = 0 ∨ d = 1) (k1 : (S.1 2 = 4 ∧ ∀ i, i < 4 → zpl S d i) → Q (.inl (some (.int (zI 1)))) h) (k0 : ¬ ((S.1 2 = 4 ∧ ∀ i, i < 4 → zpl S d i)) → Q (.inl (some (.int (zI 0)))) h) : zC g (.code yX0_isOfPlateSigns cX0_isOfPlateSigns 4 (Option.some Jvm.ClassFile.FieldType.boolean)) yX0_isOfPlateSigns 12 0 0 [.ref a, .int (zI d)] h Q := by
  refine zC_of (M := mX0_isOfPlateSigns) (lv := [some (.ref a), some (.int (zI d)), none, none]) (by decide) rfl rfl (Nat.le_of_ble_eq_true rfl) rfl rfl ?_
  obtain ⟨sg, x1, x2, x3, x4, x5, x6, x7, x8⟩ := id x
  have hs := hI.signs
  refine r_aload_0 1 rfl (dd_X0_isOfPlateSigns 0 _ _ _ rfl) ?_
  refine r_geti hg zc_X0 1 (by decide) (fun _ _ _ => rfl) x4 x1 (Or.inl rfl) (tb_1 50 _ rfl) 4 rfl (dd_X0_isOfPlateSigns 1 _ _ _ rfl) ?_
  refine r_iconst 5 rfl (dd_X0_isOfPlateSigns 2 _ _ _ rfl) ?_
  refine r_if_icmpeq (by omega) (by omega) 8 rfl 10 rfl (dd_X0_isOfPlateSigns 3 _ _ _ rfl) (fun hc1 => ?_) (fun hc1 => ?_)
  · refine r_iconst 11 rfl (dd_X0_isOfPlateSigns 6 _ _ _ rfl) ?_
    refine r_istore_2 12 rfl (by decide) rfl (dd_X0_isOfPlateSigns 7 _ _ _ rfl) ?_
    have L12 : ∀ (tt : Nat), ∀ (j : Nat) (b : Int), 10 - j < tt → (j ≤ 4) → (b = j) → (∀ i, i < j → zpl S d i) → zX g mX0_isOfPlateSigns 0 0 Q 12 [some (.ref a), some (.int (zI d)), some (.int (zI b)), none] [] h 0 0 := by
      intro tt12
      induction tt12 with
      | zero => intros; exfalso; omega
      | succ tt12 ih12 =>
        intro j b hlt12 hj hb hall
        subst hb
        refine r_iload_2 13 rfl (dd_X0_isOfPlateSigns 8 _ _ _ rfl) ?_
        refine r_iconst 14 rfl (dd_X0_isOfPlateSigns 9 _ _ _ rfl) ?_
        refine r_if_icmpge (by omega) (by omega) 17 rfl 63 rfl (dd_X0_isOfPlateSigns 10 _ _ _ rfl) (fun hc2 => ?_) (fun hc2 => ?_)
        · refine r_iconst 64 rfl (dd_X0_isOfPlateSigns 36 _ _ _ rfl) ?_
          refine r_ireturn rfl rfl (dd_X0_isOfPlateSigns 37 _ _ _ rfl) ?_
          exact k1 ⟨by omega, fun i hi => hall i (by omega)⟩
        · have hbf := hI.buffer j
          refine r_iload_1 18 rfl (dd_X0_isOfPlateSigns 11 _ _ _ rfl) ?_
          refine r_ifeq (by omega) 21 rfl 36 rfl (dd_X0_isOfPlateSigns 12 _ _ _ rfl) (fun hc3 => ?_) (fun hc3 => ?_)
          · refine r_iconst 37 rfl (dd_X0_isOfPlateSigns 21 _ _ _ rfl) ?_
            refine r_istore_3 38 rfl (by decide) rfl (dd_X0_isOfPlateSigns 22 _ _ _ rfl) ?_
            refine r_iload_3 39 rfl (dd_X0_isOfPlateSigns 23 _ _ _ rfl) ?_
            refine r_ifne (by omega) 42 rfl 57 rfl (dd_X0_isOfPlateSigns 24 _ _ _ rfl) (fun q => absurd q (by decide)) (fun _ => ?_)
            refine r_aload_0 43 rfl (dd_X0_isOfPlateSigns 25 _ _ _ rfl) ?_
            refine r_getr hg zc_X0 0 (by decide) (fun _ _ _ => rfl) x3 x1 (Or.inl rfl) (tb_1 49 _ rfl) 46 rfl (dd_X0_isOfPlateSigns 26 _ _ _ rfl) ?_
            refine r_iload_2 47 rfl (dd_X0_isOfPlateSigns 27 _ _ _ rfl) ?_
            refine r_caload hg x5 (by omega) (by omega) (by omega) 48 rfl (dd_X0_isOfPlateSigns 28 _ _ _ rfl) ?_
            rw [show ((j : Int)).toNat = j by omega, x8 j (by omega)]
            refine r_iload_2 49 rfl (dd_X0_isOfPlateSigns 29 _ _ _ rfl) ?_
            refine r_callSN2 (lvl := 11) (mc1 := 0) (ms1 := 0) 0 0 hg rfl md_X11_fitsPlate ws_X11_fitsPlate (tb_4 215 _ rfl) (by decide) (by decide) rfl (Nat.le_of_ble_eq_true rfl) (Nat.le_of_ble_eq_true rfl) (Nat.le_of_ble_eq_true rfl) 52 rfl (dd_X0_isOfPlateSigns 30 _ _ _ rfl) ?_
            refine c_X11_fitsPlate hg (by omega) (by omega) (fun hb4 => ?_) (fun hb4 => ?_)
            · dsimp only [zCont, Option.toList, List.cons_append, List.nil_append]
              refine r_ifne (by omega) 55 rfl 57 rfl (dd_X0_isOfPlateSigns 31 _ _ _ rfl) (fun _ => ?_) (fun q => absurd q (by decide))
              refine r_iinc_2 60 rfl (by decide) rfl (dd_X0_isOfPlateSigns 34 _ _ _ rfl) ?_
              refine r_goto 12 rfl (dd_X0_isOfPlateSigns 35 _ _ _ rfl) ?_
              exact r_sub _ (z_s1 (z_s1 (z_s1 (z_s0 z_sN)))) (ih12 (j + 1) _ (by omega) (by omega) (by omega) (lt_s hall (by unfold zpl; omega)))
            · dsimp only [zCont, Option.toList, List.cons_append, List.nil_append]
              refine r_ifne (by omega) 55 rfl 57 rfl (dd_X0_isOfPlateSigns 31 _ _ _ rfl) (fun q => absurd q (by decide)) (fun _ => ?_)
              refine r_iconst 56 rfl (dd_X0_isOfPlateSigns 32 _ _ _ rfl) ?_
              refine r_ireturn rfl rfl (dd_X0_isOfPlateSigns 33 _ _ _ rfl) ?_
              first | exact k0 (fun q => by have := q.1; omega) | exact k0 (fun q => by have := q.2 j (by omega); unfold zpl at this; omega)
          · refine r_aload_0 22 rfl (dd_X0_isOfPlateSigns 13 _ _ _ rfl) ?_
            refine r_getr hg zc_X0 0 (by decide) (fun _ _ _ => rfl) x3 x1 (Or.inl rfl) (tb_1 49 _ rfl) 25 rfl (dd_X0_isOfPlateSigns 14 _ _ _ rfl) ?_
            refine r_iload_2 26 rfl (dd_X0_isOfPlateSigns 15 _ _ _ rfl) ?_
            refine r_caload hg x5 (by omega) (by omega) (by omega) 27 rfl (dd_X0_isOfPlateSigns 16 _ _ _ rfl) ?_
            rw [show ((j : Int)).toNat = j by omega, x8 j (by omega)]
            refine r_bipush (by decide) 29 rfl (dd_X0_isOfPlateSigns 17 _ _ _ rfl) ?_
            refine r_if_icmpne (by omega) (by omega) 32 rfl 36 rfl (dd_X0_isOfPlateSigns 18 _ _ _ rfl) (fun hc5 => ?_) (fun hc5 => ?_)
            · refine r_iconst 37 rfl (dd_X0_isOfPlateSigns 21 _ _ _ rfl) ?_
              refine r_istore_3 38 rfl (by decide) rfl (dd_X0_isOfPlateSigns 22 _ _ _ rfl) ?_
              refine r_iload_3 39 rfl (dd_X0_isOfPlateSigns 23 _ _ _ rfl) ?_
              refine r_ifne (by omega) 42 rfl 57 rfl (dd_X0_isOfPlateSigns 24 _ _ _ rfl) (fun q => absurd q (by decide)) (fun _ => ?_)
              refine r_aload_0 43 rfl (dd_X0_isOfPlateSigns 25 _ _ _ rfl) ?_
              refine r_getr hg zc_X0 0 (by decide) (fun _ _ _ => rfl) x3 x1 (Or.inl rfl) (tb_1 49 _ rfl) 46 rfl (dd_X0_isOfPlateSigns 26 _ _ _ rfl) ?_
              refine r_iload_2 47 rfl (dd_X0_isOfPlateSigns 27 _ _ _ rfl) ?_
              refine r_caload hg x5 (by omega) (by omega) (by omega) 48 rfl (dd_X0_isOfPlateSigns 28 _ _ _ rfl) ?_
              rw [show ((j : Int)).toNat = j by omega, x8 j (by omega)]
              refine r_iload_2 49 rfl (dd_X0_isOfPlateSigns 29 _ _ _ rfl) ?_
              refine r_callSN2 (lvl := 11) (mc1 := 0) (ms1 := 0) 0 0 hg rfl md_X11_fitsPlate ws_X11_fitsPlate (tb_4 215 _ rfl) (by decide) (by decide) rfl (Nat.le_of_ble_eq_true rfl) (Nat.le_of_ble_eq_true rfl) (Nat.le_of_ble_eq_true rfl) 52 rfl (dd_X0_isOfPlateSigns 30 _ _ _ rfl) ?_
              refine c_X11_fitsPlate hg (by omega) (by omega) (fun hb6 => ?_) (fun hb6 => ?_)
              · dsimp only [zCont, Option.toList, List.cons_append, List.nil_append]
                refine r_ifne (by omega) 55 rfl 57 rfl (dd_X0_isOfPlateSigns 31 _ _ _ rfl) (fun _ => ?_) (fun q => absurd q (by decide))
                refine r_iinc_2 60 rfl (by decide) rfl (dd_X0_isOfPlateSigns 34 _ _ _ rfl) ?_
                refine r_goto 12 rfl (dd_X0_isOfPlateSigns 35 _ _ _ rfl) ?_
                exact r_sub _ (z_s1 (z_s1 (z_s1 (z_s0 z_sN)))) (ih12 (j + 1) _ (by omega) (by omega) (by omega) (lt_s hall (by unfold zpl; omega)))
              · dsimp only [zCont, Option.toList, List.cons_append, List.nil_append]
                refine r_ifne (by omega) 55 rfl 57 rfl (dd_X0_isOfPlateSigns 31 _ _ _ rfl) (fun q => absurd q (by decide)) (fun _ => ?_)
                refine r_iconst 56 rfl (dd_X0_isOfPlateSigns 32 _ _ _ rfl) ?_
                refine r_ireturn rfl rfl (dd_X0_isOfPlateSigns 33 _ _ _ rfl) ?_
                first | exact k0 (fun q => by have := q.1; omega) | exact k0 (fun q => by have := q.2 j (by omega); unfold zpl at this; omega)
            · refine r_iconst 33 rfl (dd_X0_isOfPlateSigns 19 _ _ _ rfl) ?_
              refine r_goto 37 rfl (dd_X0_isOfPlateSigns 20 _ _ _ rfl) ?_
              refine r_istore_3 38 rfl (by decide) rfl (dd_X0_isOfPlateSigns 22 _ _ _ rfl) ?_
              refine r_iload_3 39 rfl (dd_X0_isOfPlateSigns 23 _ _ _ rfl) ?_
              refine r_ifne (by omega) 42 rfl 57 rfl (dd_X0_isOfPlateSigns 24 _ _ _ rfl) (fun _ => ?_) (fun q => absurd q (by decide))
              refine r_iinc_2 60 rfl (by decide) rfl (dd_X0_isOfPlateSigns 34 _ _ _ rfl) ?_
              refine r_goto 12 rfl (dd_X0_isOfPlateSigns 35 _ _ _ rfl) ?_
              exact r_sub _ (z_s1 (z_s1 (z_s1 (z_s0 z_sN)))) (ih12 (j + 1) _ (by omega) (by omega) (by omega) (lt_s hall (by unfold zpl; omega)))
    exact r_sub _ (z_s1 (z_s1 (z_s1 (z_s0 z_sN)))) (L12 1000000 0 _ (by omega) (by omega) rfl lt_0)
  · refine r_iconst 9 rfl (dd_X0_isOfPlateSigns 4 _ _ _ rfl) ?_
    refine r_ireturn rfl rfl (dd_X0_isOfPlateSigns 5 _ _ _ rfl) ?_
    first | exact k0 (fun q => by have := q.1; omega) | exact k0 (fun q => by have := q.2 j (by omega); unfold zpl at this; omega)

abbrev mX0_plateInIt : zM := (RX0, cX0_plateInIt, 2, (Option.some Jvm.ClassFile.FieldType.int), [], "plateInIt", 13)
set_option maxRecDepth 20000 in
theorem c_X0_plateInIt {g : zGT} {Q : zO → zH → Prop} {h : zH} (hg : zG g) {o : Nat → Nat} {r a n : Nat} {S : zS} (hI : MInv n S) (x : BuRep o r h a S) (k1 : zplateOK S → Q (.inl (some (.int (zI (zplateV S))))) h) (k0 : ¬ zplateOK S → Q (.inl (some (.int (zI (-1))))) h) : zC g (.code yX0_plateInIt cX0_plateInIt 2 (Option.some Jvm.ClassFile.FieldType.int)) yX0_plateInIt 13 0 0 [.ref a] h Q := by
  refine zC_of (M := mX0_plateInIt) (lv := [some (.ref a), none]) (by decide) rfl rfl (Nat.le_of_ble_eq_true rfl) rfl rfl ?_
  obtain ⟨sg, x1, x2, x3, x4, x5, x6, x7, x8⟩ := id x
  refine r_aload_0 1 rfl (dd_X0_plateInIt 0 _ _ _ rfl) ?_
  refine r_iconst 2 rfl (dd_X0_plateInIt 1 _ _ _ rfl) ?_
  refine r_callV1 (lvl := 12) (mc1 := 0) (ms1 := 0) 0 0 hg rfl md_X0_isOfPlateSigns zc_X0 x1 wi_X0_isOfPlateSigns wv_X0_isOfPlateSigns (tb_4 211 _ rfl) (by decide) (by decide) rfl (Nat.le_of_ble_eq_true rfl) (Nat.le_of_ble_eq_true rfl) (Nat.le_of_ble_eq_true rfl) 5 rfl (dd_X0_plateInIt 2 _ _ _ rfl) ?_
  refine c_X0_isOfPlateSigns hg hI x (by omega) (fun hpl => ?_) (fun hpl => ?_)
  · rw [zpl_plate] at hpl
    dsimp only [zCont, Option.toList, List.cons_append, List.nil_append]
    refine r_ifne (by omega) 8 rfl 10 rfl (dd_X0_plateInIt 3 _ _ _ rfl) (fun _ => ?_) (fun q => absurd q (by decide))
    refine r_aload_0 11 rfl (dd_X0_plateInIt 6 _ _ _ rfl) ?_
    refine r_getr hg zc_X0 0 (by decide) (fun _ _ _ => rfl) x3 x1 (Or.inl rfl) (tb_1 49 _ rfl) 14 rfl (dd_X0_plateInIt 7 _ _ _ rfl) ?_
    refine r_iconst 15 rfl (dd_X0_plateInIt 8 _ _ _ rfl) ?_
    refine r_caload hg x5 (by omega) (by omega) (by omega) 16 rfl (dd_X0_plateInIt 9 _ _ _ rfl) ?_
    rw [show ((0 : Int)).toNat = 0 by decide, x8 0 (by decide)]
    refine r_bipush (by decide) 18 rfl (dd_X0_plateInIt 10 _ _ _ rfl) ?_
    refine r_isub 19 rfl (dd_X0_plateInIt 11 _ _ _ rfl) ?_
    refine r_bipush (by decide) 21 rfl (dd_X0_plateInIt 12 _ _ _ rfl) ?_
    refine r_imul 22 rfl (dd_X0_plateInIt 13 _ _ _ rfl) ?_
    refine r_aload_0 23 rfl (dd_X0_plateInIt 14 _ _ _ rfl) ?_
    refine r_getr hg zc_X0 0 (by decide) (fun _ _ _ => rfl) x3 x1 (Or.inl rfl) (tb_1 49 _ rfl) 26 rfl (dd_X0_plateInIt 15 _ _ _ rfl) ?_
    refine r_iconst 27 rfl (dd_X0_plateInIt 16 _ _ _ rfl) ?_
    refine r_caload hg x5 (by omega) (by omega) (by omega) 28 rfl (dd_X0_plateInIt 17 _ _ _ rfl) ?_
    rw [show ((1 : Int)).toNat = 1 by decide, x8 1 (by decide)]
    refine r_bipush (by decide) 30 rfl (dd_X0_plateInIt 18 _ _ _ rfl) ?_
    refine r_isub 31 rfl (dd_X0_plateInIt 19 _ _ _ rfl) ?_
    refine r_iadd 32 rfl (dd_X0_plateInIt 20 _ _ _ rfl) ?_
    refine r_istore_1 33 rfl (by decide) rfl (dd_X0_plateInIt 21 _ _ _ rfl) ?_
    refine r_iload_1 34 rfl (dd_X0_plateInIt 22 _ _ _ rfl) ?_
    refine r_bipush (by decide) 36 rfl (dd_X0_plateInIt 23 _ _ _ rfl) ?_
    refine r_imul 37 rfl (dd_X0_plateInIt 24 _ _ _ rfl) ?_
    refine r_aload_0 38 rfl (dd_X0_plateInIt 25 _ _ _ rfl) ?_
    refine r_getr hg zc_X0 0 (by decide) (fun _ _ _ => rfl) x3 x1 (Or.inl rfl) (tb_1 49 _ rfl) 41 rfl (dd_X0_plateInIt 26 _ _ _ rfl) ?_
    refine r_iconst 42 rfl (dd_X0_plateInIt 27 _ _ _ rfl) ?_
    refine r_caload hg x5 (by omega) (by omega) (by omega) 43 rfl (dd_X0_plateInIt 28 _ _ _ rfl) ?_
    rw [show ((2 : Int)).toNat = 2 by decide, x8 2 (by decide)]
    refine r_bipush (by decide) 45 rfl (dd_X0_plateInIt 29 _ _ _ rfl) ?_
    refine r_isub 46 rfl (dd_X0_plateInIt 30 _ _ _ rfl) ?_
    refine r_bipush (by decide) 48 rfl (dd_X0_plateInIt 31 _ _ _ rfl) ?_
    refine r_imul 49 rfl (dd_X0_plateInIt 32 _ _ _ rfl) ?_
    refine r_iadd 50 rfl (dd_X0_plateInIt 33 _ _ _ rfl) ?_
    refine r_aload_0 51 rfl (dd_X0_plateInIt 34 _ _ _ rfl) ?_
    refine r_getr hg zc_X0 0 (by decide) (fun _ _ _ => rfl) x3 x1 (Or.inl rfl) (tb_1 49 _ rfl) 54 rfl (dd_X0_plateInIt 35 _ _ _ rfl) ?_
    refine r_iconst 55 rfl (dd_X0_plateInIt 36 _ _ _ rfl) ?_
    refine r_caload hg x5 (by omega) (by omega) (by omega) 56 rfl (dd_X0_plateInIt 37 _ _ _ rfl) ?_
    rw [show ((3 : Int)).toNat = 3 by decide, x8 3 (by decide)]
    refine r_bipush (by decide) 58 rfl (dd_X0_plateInIt 38 _ _ _ rfl) ?_
    refine r_isub 59 rfl (dd_X0_plateInIt 39 _ _ _ rfl) ?_
    refine r_iadd 60 rfl (dd_X0_plateInIt 40 _ _ _ rfl) ?_
    refine r_top (zplateV S) (congrArg zI (by unfold zplateV; omega)) ?_
    refine r_ireturn rfl rfl (dd_X0_plateInIt 41 _ _ _ rfl) ?_
    exact k1 hpl
  · rw [zpl_plate] at hpl
    dsimp only [zCont, Option.toList, List.cons_append, List.nil_append]
    refine r_ifne (by omega) 8 rfl 10 rfl (dd_X0_plateInIt 3 _ _ _ rfl) (fun q => absurd q (by decide)) (fun _ => ?_)
    refine r_iconst 9 rfl (dd_X0_plateInIt 4 _ _ _ rfl) ?_
    refine r_ireturn rfl rfl (dd_X0_plateInIt 5 _ _ _ rfl) ?_
    exact k0 hpl

abbrev mX0_copyTo : zM := (RX0, cX0_copyTo, 3, (Option.none : Option Jvm.ClassFile.FieldType), [], "copyTo", 10)
set_option maxRecDepth 20000 in
theorem c_X0_copyTo {g : zGT} {Q : zO → zH → Prop} {h : zH} (hg : zG g) {o : Nat → Nat} {r a n : Nat} {S : zS} (hI : MInv n S) (x : BuRep o r h a S) {t rt : Nat} (ht1 : kd_ h t = 21) (ht2 : ln_ h t = 4) (ht0 : o t = rt) (hr : ¬ r = rt) (k : ∀ h1, (∀ i, i < 4 → ai_ h1 t i = S.2 3 i) → ln_ h1 t = 4 → zStep (fun q => q = rt) o h o h1 → Q (.inl none) h1) : zC g (.code yX0_copyTo cX0_copyTo 3 (Option.none : Option Jvm.ClassFile.FieldType)) yX0_copyTo 10 0 0 [.ref a, .ref t] h Q := by
  refine zC_of (M := mX0_copyTo) (lv := [some (.ref a), some (.ref t), none]) (by decide) rfl rfl (Nat.le_of_ble_eq_true rfl) rfl rfl ?_
  have ht10 := ht1
  refine r_iconst 1 rfl (dd_X0_copyTo 0 _ _ _ rfl) ?_
  refine r_istore_2 2 rfl (by decide) rfl (dd_X0_copyTo 1 _ _ _ rfl) ?_
  have L2 : ∀ (tt : Nat), ∀ (j : Nat) (b : Int) (h4 : zH), 10 - j < tt → (j ≤ 4) → (b = j) → (zStep (fun q => q = rt) o h o h4) → (kd_ h4 t = 21) → (ln_ h4 t = 4) → (∀ i, i < j → ai_ h4 t i = S.2 3 i) → zX g mX0_copyTo 0 0 Q 2 [some (.ref a), some (.ref t), some (.int (zI b))] [] h4 0 0 := by
    intro tt2
    induction tt2 with
    | zero => intros; exfalso; omega
    | succ tt2 ih2 =>
      intro j b h4 hlt2 hj hb hst ht1 ht2 hall
      subst hb
      have x := x.fr (hst.fr hr)
      obtain ⟨sg, x1, x2, x3, x4, x5, x6, x7, x8⟩ := id x
      refine r_iload_2 3 rfl (dd_X0_copyTo 2 _ _ _ rfl) ?_
      refine r_aload_1 4 rfl (dd_X0_copyTo 3 _ _ _ rfl) ?_
      refine r_arraylength hg ht1 (by decide) (by decide) 5 rfl (dd_X0_copyTo 4 _ _ _ rfl) ?_
      rw [ht2]
      refine r_if_icmpge (by omega) (by omega) 8 rfl 32 rfl (dd_X0_copyTo 5 _ _ _ rfl) (fun hc1 => ?_) (fun hc1 => ?_)
      · refine r_vreturn rfl (dd_X0_copyTo 20 _ _ _ rfl) ?_
        exact k _ (fun i hi => hall i (by omega)) ht2 hst
      · refine r_iload_2 9 rfl (dd_X0_copyTo 6 _ _ _ rfl) ?_
        refine r_aload_0 10 rfl (dd_X0_copyTo 7 _ _ _ rfl) ?_
        refine r_getr hg zc_X0 0 (by decide) (fun _ _ _ => rfl) x3 x1 (Or.inl rfl) (tb_1 49 _ rfl) 13 rfl (dd_X0_copyTo 8 _ _ _ rfl) ?_
        refine r_arraylength hg x5 (by decide) (by decide) 14 rfl (dd_X0_copyTo 9 _ _ _ rfl) ?_
        rw [x7]
        refine r_if_icmpge (by omega) (by omega) 17 rfl 32 rfl (dd_X0_copyTo 10 _ _ _ rfl) (fun hc2 => ?_) (fun hc2 => ?_)
        · exfalso; omega
        · have hbf := hI.buffer j
          refine r_aload_1 18 rfl (dd_X0_copyTo 11 _ _ _ rfl) ?_
          refine r_iload_2 19 rfl (dd_X0_copyTo 12 _ _ _ rfl) ?_
          refine r_aload_0 20 rfl (dd_X0_copyTo 13 _ _ _ rfl) ?_
          refine r_getr hg zc_X0 0 (by decide) (fun _ _ _ => rfl) x3 x1 (Or.inl rfl) (tb_1 49 _ rfl) 23 rfl (dd_X0_copyTo 14 _ _ _ rfl) ?_
          refine r_iload_2 24 rfl (dd_X0_copyTo 15 _ _ _ rfl) ?_
          refine r_caload hg x5 (by omega) (by omega) (by omega) 25 rfl (dd_X0_copyTo 16 _ _ _ rfl) ?_
          rw [show ((j : Int)).toNat = j by omega, x8 j (by omega)]
          refine r_castore hg ht1 (by omega) (by omega) (by omega) (z_nchar (by omega) (by omega)) 26 rfl (dd_X0_copyTo 17 _ _ _ rfl) ?_
          rw [show ((j : Int)).toNat = j by omega]
          refine r_iinc_2 29 rfl (by decide) rfl (dd_X0_copyTo 18 _ _ _ rfl) ?_
          refine r_goto 2 rfl (dd_X0_copyTo 19 _ _ _ rfl) ?_
          exact r_sub _ (z_s1 (z_s1 (z_s1 z_sN))) (ih2 (j + 1) _ _ (by omega) (by omega) (by omega) (hst.trans (step_sai (hst.own (show kd_ h t ≠ 0 by rw [ht10]; decide) ht0))) ht1 ht2 (fun i hi => by by_cases hq : i = j; (subst hq; exact zu2_at); exact (zu2_ne (fun q => hq q.2)).trans (hall i (by omega))))
  exact r_sub _ (z_s1 (z_s1 (z_s1 z_sN))) (L2 1000000 0 _ _ (by omega) (by omega) rfl .refl ht1 ht2 lt_0)

abbrev mX7_agreesWith : zM := (RX7, cX7_agreesWith, 3, (Option.some Jvm.ClassFile.FieldType.boolean), [], "agreesWith", 11)
set_option maxRecDepth 20000 in
theorem c_X7_agreesWith {g : zGT} {Q : zO → zH → Prop} {h : zH} (hg : zG g) {o : Nat → Nat} {r a s n : Nat} {S : zS} (hI : MInv n S) (x : SiRep o r h a S s) {p : Int} (hp : 0 ≤ p ∧ p < 67600) (k1 : zagr S.2 s p → Q (.inl (some (.int (zI 1)))) h) (k0 : ¬ zagr S.2 s p → Q (.inl (some (.int (zI 0)))) h) : zC g (.code yX7_agreesWith cX7_agreesWith 3 (Option.some Jvm.ClassFile.FieldType.boolean)) yX7_agreesWith 11 0 0 [.ref a, .int (zI p)] h Q := by
  refine zC_of (M := mX7_agreesWith) (lv := [some (.ref a), some (.int (zI p)), none]) (by decide) rfl rfl (Nat.le_of_ble_eq_true rfl) rfl rfl ?_
  obtain ⟨sg, x1, x2, x3, x4, x5, x6, x7, x8, x9, x10⟩ := id x
  refine r_iconst 1 rfl (dd_X7_agreesWith 0 _ _ _ rfl) ?_
  refine r_istore_2 2 rfl (by decide) rfl (dd_X7_agreesWith 1 _ _ _ rfl) ?_
  have L2 : ∀ (tt : Nat), ∀ (j : Nat) (b : Int), 10 - j < tt → (j ≤ 4) → (b = j) → (∀ i, i < j → zok S.2 s p i) → zX g mX7_agreesWith 0 0 Q 2 [some (.ref a), some (.int (zI p)), some (.int (zI b))] [] h 0 0 := by
    intro tt2
    induction tt2 with
    | zero => intros; exfalso; omega
    | succ tt2 ih2 =>
      intro j b hlt2 hj hb hall
      subst hb
      refine r_iload_2 3 rfl (dd_X7_agreesWith 2 _ _ _ rfl) ?_
      refine r_aload_0 4 rfl (dd_X7_agreesWith 3 _ _ _ rfl) ?_
      refine r_getr hg zc_X7 0 (by decide) (fun _ _ _ => rfl) x3 x1 (Or.inl rfl) (tb_5 118 _ rfl) 7 rfl (dd_X7_agreesWith 4 _ _ _ rfl) ?_
      refine r_arraylength hg x7 (by decide) (by decide) 8 rfl (dd_X7_agreesWith 5 _ _ _ rfl) ?_
      rw [x9]
      refine r_if_icmpge (by omega) (by omega) 11 rfl 44 rfl (dd_X7_agreesWith 6 _ _ _ rfl) (fun hc1 => ?_) (fun hc1 => ?_)
      · refine r_iconst 45 rfl (dd_X7_agreesWith 25 _ _ _ rfl) ?_
        refine r_ireturn rfl rfl (dd_X7_agreesWith 26 _ _ _ rfl) ?_
        exact k1 (zagr_yes (by omega) (fun i hi => hall i (by omega)))
      · have hbf := hI.seenSigns (4 * s + j)
        have hs9 := zsign_range (p := p) (q := (j : Int)) (by omega) (by omega)
        refine r_aload_0 12 rfl (dd_X7_agreesWith 7 _ _ _ rfl) ?_
        refine r_getr hg zc_X7 0 (by decide) (fun _ _ _ => rfl) x3 x1 (Or.inl rfl) (tb_5 118 _ rfl) 15 rfl (dd_X7_agreesWith 8 _ _ _ rfl) ?_
        refine r_iload_2 16 rfl (dd_X7_agreesWith 9 _ _ _ rfl) ?_
        refine r_caload hg x7 (by omega) (by omega) (by omega) 17 rfl (dd_X7_agreesWith 10 _ _ _ rfl) ?_
        rw [show ((j : Int)).toNat = j by omega, x10 j (by omega)]
        refine r_bipush (by decide) 19 rfl (dd_X7_agreesWith 11 _ _ _ rfl) ?_
        refine r_if_icmpeq (by omega) (by omega) 22 rfl 38 rfl (dd_X7_agreesWith 12 _ _ _ rfl) (fun hc2 => ?_) (fun hc2 => ?_)
        · refine r_iinc_2 41 rfl (by decide) rfl (dd_X7_agreesWith 23 _ _ _ rfl) ?_
          refine r_goto 2 rfl (dd_X7_agreesWith 24 _ _ _ rfl) ?_
          exact r_sub _ (z_s1 (z_s1 (z_s1 z_sN))) (ih2 (j + 1) _ (by omega) (by omega) (by omega) (lt_s hall (by first | exact Or.inl (by assumption) | exact Or.inr (by assumption))))
        · refine r_aload_0 23 rfl (dd_X7_agreesWith 13 _ _ _ rfl) ?_
          refine r_getr hg zc_X7 0 (by decide) (fun _ _ _ => rfl) x3 x1 (Or.inl rfl) (tb_5 118 _ rfl) 26 rfl (dd_X7_agreesWith 14 _ _ _ rfl) ?_
          refine r_iload_2 27 rfl (dd_X7_agreesWith 15 _ _ _ rfl) ?_
          refine r_caload hg x7 (by omega) (by omega) (by omega) 28 rfl (dd_X7_agreesWith 16 _ _ _ rfl) ?_
          rw [show ((j : Int)).toNat = j by omega, x10 j (by omega)]
          refine r_iload_1 29 rfl (dd_X7_agreesWith 17 _ _ _ rfl) ?_
          refine r_iload_2 30 rfl (dd_X7_agreesWith 18 _ _ _ rfl) ?_
          refine r_callSN2 (lvl := 10) (mc1 := 0) (ms1 := 0) 0 0 hg rfl md_X11_signOf ws_X11_signOf (tb_5 96 _ rfl) (by decide) (by decide) rfl (Nat.le_of_ble_eq_true rfl) (Nat.le_of_ble_eq_true rfl) (Nat.le_of_ble_eq_true rfl) 33 rfl (dd_X7_agreesWith 19 _ _ _ rfl) ?_
          refine c_X11_signOf hg (by omega) (by omega) (by omega) ?_
          dsimp only [zCont, Option.toList, List.cons_append, List.nil_append]
          refine r_if_icmpeq (by omega) (by omega) 36 rfl 38 rfl (dd_X7_agreesWith 20 _ _ _ rfl) (fun hc3 => ?_) (fun hc3 => ?_)
          · refine r_iinc_2 41 rfl (by decide) rfl (dd_X7_agreesWith 23 _ _ _ rfl) ?_
            refine r_goto 2 rfl (dd_X7_agreesWith 24 _ _ _ rfl) ?_
            exact r_sub _ (z_s1 (z_s1 (z_s1 z_sN))) (ih2 (j + 1) _ (by omega) (by omega) (by omega) (lt_s hall (by first | exact Or.inl (by assumption) | exact Or.inr (by assumption))))
          · refine r_iconst 37 rfl (dd_X7_agreesWith 21 _ _ _ rfl) ?_
            refine r_ireturn rfl rfl (dd_X7_agreesWith 22 _ _ _ rfl) ?_
            exact k0 (fun q => zagr_no (show j < 4 by omega) q (by assumption) (by assumption))
  exact r_sub _ (z_s1 (z_s1 (z_s1 z_sN))) (L2 1000000 0 _ (by omega) (by omega) rfl lt_0)
