theorem c_X12_latestI {g : zGT} {Q : zO → zH → Prop} {h : zH} (hg : zG g) {h0 : zH} {m : Nat} {A : Nat → Nat} {S : zS} {n : Nat} {t : Int} (hI : MInv n S) (hM : MI h0 m A S t h) {a : Int} {v : Nat} {w its wo : Int} (ha : a = (v : Int)) (hv : v < 12) (hw : zR w) (hi : zR its) (k : Q (.inl (some (.int (zI (zlast S v w its wo))))) h) : zC g (.code yX12_latest cX12_latest 7 (Option.some Jvm.ClassFile.FieldType.int)) yX12_latest 11 0 0 [.ref m, .int (zI a), .int (zI w), .int (zI its), .int (zI wo)] h Q := by
  subst ha
  exact c_X12_latest hg hI hM hv hw hi k

abbrev mX12_seenBy : zM := (RX12, cX12_seenBy, 6, (Option.some Jvm.ClassFile.FieldType.int), [], "seenBy", 12)
set_option maxRecDepth 20000 in
theorem c_X12_seenBy {g : zGT} {Q : zO → zH → Prop} {h : zH} (hg : zG g) {h0 : zH} {m : Nat} {A : Nat → Nat} {S : zS} {n : Nat} {t : Int} (hI : MInv n S) (hM : MI h0 m A S t h) {a : Int} {s : Nat} (ha : a = (s : Int)) (hs : s < 40) (k : Q (.inl (some (.int (zI (zseen S s))))) h) : zC g (.code yX12_seenBy cX12_seenBy 6 (Option.some Jvm.ClassFile.FieldType.int)) yX12_seenBy 12 0 0 [.ref m, .int (zI a)] h Q := by
  refine zC_of (M := mX12_seenBy) (lv := [some (.ref m), some (.int (zI a)), none, none, none, none]) (by decide) rfl rfl (Nat.le_of_ble_eq_true rfl) rfl rfl ?_
  subst ha
  have e1 := hI.vehicles
  refine r_iconst 1 rfl (dd_X12_seenBy 0 _ _ _ rfl) ?_
  refine r_istore_2 2 rfl (by decide) rfl (dd_X12_seenBy 1 _ _ _ rfl) ?_
  refine r_iconst 3 rfl (dd_X12_seenBy 2 _ _ _ rfl) ?_
  refine r_istore_3 4 rfl (by decide) rfl (dd_X12_seenBy 3 _ _ _ rfl) ?_
  refine r_iconst 5 rfl (dd_X12_seenBy 4 _ _ _ rfl) ?_
  refine r_istore_4 7 rfl (by decide) rfl (dd_X12_seenBy 5 _ _ _ rfl) ?_
  have L7 : ∀ (tt : Nat), ∀ (j : Nat) (b f c : Int), 20 - j < tt → ((j : Int) ≤ S.1 4) → (b = j) → (f = (zsb S s j).1) → (c = (zsb S s j).2) → zX g mX12_seenBy 0 0 Q 7 [some (.ref m), some (.int (zI s)), some (.int (zI f)), some (.int (zI c)), some (.int (zI b)), none] [] h 0 0 := by
    intro tt7
    induction tt7 with
    | zero => intros; exfalso; omega
    | succ tt7 ih7 =>
      intro j b f c hlt7 hj hb hf hc
      subst hb
      have e2 := hI.sightDay s
      have e3 := zsb_range (S := S) (s := s) j
      have hp9 := zplate_range (v := (j : Int)) (w := S.2 34 s) hI
      refine r_iload_4 9 rfl (dd_X12_seenBy 6 _ _ _ rfl) ?_
      refine r_aload_0 10 rfl (dd_X12_seenBy 7 _ _ _ rfl) ?_
      refine m_get 4 hg hM (by unfold z_free; decide) rfl (by decide) (tb_6 60 _ rfl) 13 rfl (dd_X12_seenBy 8 _ _ _ rfl) ?_ (fun _ _ _ => rfl)
      refine r_if_icmpge (by omega) (by omega) 16 rfl 66 rfl (dd_X12_seenBy 9 _ _ _ rfl) (fun hc1 => ?_) (fun hc1 => ?_)
      · refine r_iload_3 67 rfl (dd_X12_seenBy 37 _ _ _ rfl) ?_
        refine r_iconst 68 rfl (dd_X12_seenBy 38 _ _ _ rfl) ?_
        refine r_if_icmpne (by omega) (by omega) 71 rfl 75 rfl (dd_X12_seenBy 39 _ _ _ rfl) (fun hc2 => ?_) (fun hc2 => ?_)
        · refine r_iconst 76 rfl (dd_X12_seenBy 42 _ _ _ rfl) ?_
          refine r_ireturn rfl rfl (dd_X12_seenBy 43 _ _ _ rfl) ?_
          unfold zseen at k
          rw [show (S.1 4).toNat = j by omega, ← hf, ← hc] at k
          first | (rw [if_pos (by omega)] at k; exact k) | (rw [if_neg (by omega)] at k; exact k)
        · refine r_iload_2 72 rfl (dd_X12_seenBy 40 _ _ _ rfl) ?_
          refine r_goto 76 rfl (dd_X12_seenBy 41 _ _ _ rfl) ?_
          refine r_ireturn rfl rfl (dd_X12_seenBy 43 _ _ _ rfl) ?_
          unfold zseen at k
          rw [show (S.1 4).toNat = j by omega, ← hf, ← hc] at k
          first | (rw [if_pos (by omega)] at k; exact k) | (rw [if_neg (by omega)] at k; exact k)
      · refine r_aload_0 17 rfl (dd_X12_seenBy 10 _ _ _ rfl) ?_
        refine r_iload_1 18 rfl (dd_X12_seenBy 11 _ _ _ rfl) ?_
        refine r_aload_0 19 rfl (dd_X12_seenBy 12 _ _ _ rfl) ?_
        refine r_iload_4 21 rfl (dd_X12_seenBy 13 _ _ _ rfl) ?_
        refine r_aload_0 22 rfl (dd_X12_seenBy 14 _ _ _ rfl) ?_
        refine m_arr 34 hg hM (by decide) (by decide) (tb_6 90 _ rfl) 25 rfl (dd_X12_seenBy 15 _ _ _ rfl) ?_ (fun _ _ _ => rfl)
        refine r_iload_1 26 rfl (dd_X12_seenBy 16 _ _ _ rfl) ?_
        refine m_iald 34 (s) (by omega) hg hM rfl (by omega) (z_lt (n2 := 40) rfl (by omega)) (by decide) 27 rfl (dd_X12_seenBy 17 _ _ _ rfl) ?_
        refine r_callV2 (lvl := 10) (mc1 := 0) (ms1 := 0) 0 0 hg rfl md_X12_plateOn zc_X12 hM.kd wi_X12_plateOn wv_X12_plateOn (tb_7 63 _ rfl) (by decide) (by decide) rfl (Nat.le_of_ble_eq_true rfl) (by decide) (by decide) 30 rfl (dd_X12_seenBy 18 _ _ _ rfl) ?_
        refine c_X12_plateOn hg hI hM (by omega) (by omega) ?_
        dsimp only [zCont, Option.toList, List.cons_append, List.nil_append]
        refine r_callV2 (lvl := 11) (mc1 := 0) (ms1 := 0) 0 0 hg rfl md_X12_agrees zc_X12 hM.kd wi_X12_agrees wv_X12_agrees (tb_7 124 _ rfl) (by decide) (by decide) rfl (Nat.le_of_ble_eq_true rfl) (by decide) (by decide) 33 rfl (dd_X12_seenBy 19 _ _ _ rfl) ?_
        refine c_X12_agrees (s := s) hg hI hM (by omega) hp9 (fun hg3 => ?_) (fun hg3 => ?_)
        · have hag := hg3
          dsimp only [zCont, Option.toList, List.cons_append, List.nil_append]
          refine r_istore_5 35 rfl (by decide) rfl (dd_X12_seenBy 20 _ _ _ rfl) ?_
          refine r_iload_5 37 rfl (dd_X12_seenBy 21 _ _ _ rfl) ?_
          refine r_ifeq (by omega) 40 rfl 45 rfl (dd_X12_seenBy 22 _ _ _ rfl) (fun q => absurd q (by decide)) (fun _ => ?_)
          refine r_iload_4 42 rfl (dd_X12_seenBy 23 _ _ _ rfl) ?_
          refine r_goto 46 rfl (dd_X12_seenBy 24 _ _ _ rfl) ?_
          refine r_istore_2 47 rfl (by decide) rfl (dd_X12_seenBy 26 _ _ _ rfl) ?_
          refine r_iload_3 48 rfl (dd_X12_seenBy 27 _ _ _ rfl) ?_
          refine r_iload_5 50 rfl (dd_X12_seenBy 28 _ _ _ rfl) ?_
          refine r_ifeq (by omega) 53 rfl 57 rfl (dd_X12_seenBy 29 _ _ _ rfl) (fun q => absurd q (by decide)) (fun _ => ?_)
          refine r_iconst 54 rfl (dd_X12_seenBy 30 _ _ _ rfl) ?_
          refine r_goto 58 rfl (dd_X12_seenBy 31 _ _ _ rfl) ?_
          refine r_iadd 59 rfl (dd_X12_seenBy 33 _ _ _ rfl) ?_
          refine r_istore_3 60 rfl (by decide) rfl (dd_X12_seenBy 34 _ _ _ rfl) ?_
          refine r_iinc_4 63 rfl (by decide) rfl (dd_X12_seenBy 35 _ _ _ rfl) ?_
          refine r_goto 7 rfl (dd_X12_seenBy 36 _ _ _ rfl) ?_
          exact r_sub _ (z_s1 (z_s1 (z_s1 (z_s1 (z_s1 (z_s0 z_sN)))))) (ih7 (j + 1) _ _ _ (by omega) (by omega) (by omega) (by first | rw [zsb_yes hag] | (rw [zsb_no hag]; exact hf)) (by first | (rw [zsb_yes hag]; show c + 1 = (zsb S s j).2 + 1; omega) | (rw [zsb_no hag]; omega)))
        · have hag := hg3
          dsimp only [zCont, Option.toList, List.cons_append, List.nil_append]
          refine r_istore_5 35 rfl (by decide) rfl (dd_X12_seenBy 20 _ _ _ rfl) ?_
          refine r_iload_5 37 rfl (dd_X12_seenBy 21 _ _ _ rfl) ?_
          refine r_ifeq (by omega) 40 rfl 45 rfl (dd_X12_seenBy 22 _ _ _ rfl) (fun _ => ?_) (fun q => absurd q (by decide))
          refine r_iload_2 46 rfl (dd_X12_seenBy 25 _ _ _ rfl) ?_
          refine r_istore_2 47 rfl (by decide) rfl (dd_X12_seenBy 26 _ _ _ rfl) ?_
          refine r_iload_3 48 rfl (dd_X12_seenBy 27 _ _ _ rfl) ?_
          refine r_iload_5 50 rfl (dd_X12_seenBy 28 _ _ _ rfl) ?_
          refine r_ifeq (by omega) 53 rfl 57 rfl (dd_X12_seenBy 29 _ _ _ rfl) (fun _ => ?_) (fun q => absurd q (by decide))
          refine r_iconst 58 rfl (dd_X12_seenBy 32 _ _ _ rfl) ?_
          refine r_iadd 59 rfl (dd_X12_seenBy 33 _ _ _ rfl) ?_
          refine r_istore_3 60 rfl (by decide) rfl (dd_X12_seenBy 34 _ _ _ rfl) ?_
          refine r_iinc_4 63 rfl (by decide) rfl (dd_X12_seenBy 35 _ _ _ rfl) ?_
          refine r_goto 7 rfl (dd_X12_seenBy 36 _ _ _ rfl) ?_
          exact r_sub _ (z_s1 (z_s1 (z_s1 (z_s1 (z_s1 (z_s0 z_sN)))))) (ih7 (j + 1) _ _ _ (by omega) (by omega) (by omega) (by first | rw [zsb_yes hag] | (rw [zsb_no hag]; exact hf)) (by first | (rw [zsb_yes hag]; show c + 1 = (zsb S s j).2 + 1; omega) | (rw [zsb_no hag]; omega)))
  exact r_sub _ (z_s1 (z_s1 (z_s1 (z_s1 (z_s1 (z_s0 z_sN)))))) (L7 1000000 0 _ _ _ (by omega) (by omega) rfl rfl rfl)

abbrev mX12_seen : zM := (RX12, cX12_seen, 2, (Option.some Jvm.ClassFile.FieldType.int), [], "seen", 13)
set_option maxRecDepth 20000 in
theorem c_X12_seen {g : zGT} {Q : zO → zH → Prop} {h : zH} (hg : zG g) {h0 : zH} {m : Nat} {A : Nat → Nat} {S : zS} {n : Nat} {t : Int} (hI : MInv n S) (hM : MI h0 m A S t h) {a : Int} (ha : zR a) (k1 : ¬ (0 ≤ a ∧ a < S.1 31) → ∀ h1, MI h0 m A S 1 h1 → Q (.inl (some (.int (zI 0)))) h1) (k0 : ∀ s : Nat, a = s → a < S.1 31 → ∀ h1, MI h0 m A S 0 h1 → Q (.inl (some (.int (zI (zseen S s))))) h1) : zC g (.code yX12_seen cX12_seen 2 (Option.some Jvm.ClassFile.FieldType.int)) yX12_seen 13 0 0 [.ref m, .int (zI a)] h Q := by
  refine zC_of (M := mX12_seen) (lv := [some (.ref m), some (.int (zI a))]) (by decide) rfl rfl (Nat.le_of_ble_eq_true rfl) rfl rfl ?_
  have e1 := hI.sightings
  refine r_aload_0 1 rfl (dd_X12_seen 0 _ _ _ rfl) ?_
  refine r_aload_0 2 rfl (dd_X12_seen 1 _ _ _ rfl) ?_
  refine r_iload_1 3 rfl (dd_X12_seen 2 _ _ _ rfl) ?_
  refine r_callV1 (lvl := 11) (mc1 := 0) (ms1 := 0) 0 0 hg rfl md_X12_isSighting zc_X12 hM.kd wi_X12_isSighting wv_X12_isSighting (tb_7 148 _ rfl) (by decide) (by decide) rfl (Nat.le_of_ble_eq_true rfl) (by decide) (by decide) 6 rfl (dd_X12_seen 3 _ _ _ rfl) ?_
  refine c_X12_isSighting hg hI hM (by omega) (fun hb1 => ?_) (fun hb1 => ?_)
  · obtain ⟨s, rfl⟩ := Int.eq_ofNat_of_zero_le hb1.1
    dsimp only [zCont, Option.toList, List.cons_append, List.nil_append]
    refine r_ifeq (by omega) 9 rfl 13 rfl (dd_X12_seen 4 _ _ _ rfl) (fun q => absurd q (by decide)) (fun _ => ?_)
    refine r_iconst 10 rfl (dd_X12_seen 5 _ _ _ rfl) ?_
    refine r_goto 14 rfl (dd_X12_seen 6 _ _ _ rfl) ?_
    refine r_callV1 (lvl := 10) (mc1 := 0) (ms1 := 0) 0 0 hg rfl md_X12_goesWell zc_X12 hM.kd wi_X12_goesWell wv_X12_goesWell (tb_6 197 _ rfl) (by decide) (by decide) rfl (Nat.le_of_ble_eq_true rfl) (by decide) (by decide) 17 rfl (dd_X12_seen 8 _ _ _ rfl) ?_
    refine c_X12_goesWell hg hM (by decide) (fun _ h2 hM => ?_) (fun q => absurd rfl q)
    dsimp only [zCont, Option.toList, List.cons_append, List.nil_append]
    refine r_ifeq (by omega) 20 rfl 28 rfl (dd_X12_seen 9 _ _ _ rfl) (fun q => absurd q (by decide)) (fun _ => ?_)
    refine r_aload_0 21 rfl (dd_X12_seen 10 _ _ _ rfl) ?_
    refine r_iload_1 22 rfl (dd_X12_seen 11 _ _ _ rfl) ?_
    refine r_callV1 (lvl := 12) (mc1 := 0) (ms1 := 0) 0 0 hg rfl md_X12_seenBy zc_X12 hM.kd wi_X12_seenBy wv_X12_seenBy (tb_7 120 _ rfl) (by decide) (by decide) rfl (Nat.le_of_ble_eq_true rfl) (by decide) (by decide) 25 rfl (dd_X12_seen 12 _ _ _ rfl) ?_
    refine c_X12_seenBy (s := s) hg hI hM (by omega) (by omega) ?_
    dsimp only [zCont, Option.toList, List.cons_append, List.nil_append]
    have hz9 := zseen_range (s := s) hI
    refine r_goto 29 rfl (dd_X12_seen 13 _ _ _ rfl) ?_
    refine r_ireturn rfl rfl (dd_X12_seen 15 _ _ _ rfl) ?_
    exact k0 s rfl (by omega) _ hM
  · dsimp only [zCont, Option.toList, List.cons_append, List.nil_append]
    refine r_ifeq (by omega) 9 rfl 13 rfl (dd_X12_seen 4 _ _ _ rfl) (fun _ => ?_) (fun q => absurd q (by decide))
    refine r_iconst 14 rfl (dd_X12_seen 7 _ _ _ rfl) ?_
    refine r_callV1 (lvl := 10) (mc1 := 0) (ms1 := 0) 0 0 hg rfl md_X12_goesWell zc_X12 hM.kd wi_X12_goesWell wv_X12_goesWell (tb_6 197 _ rfl) (by decide) (by decide) rfl (Nat.le_of_ble_eq_true rfl) (by decide) (by decide) 17 rfl (dd_X12_seen 8 _ _ _ rfl) ?_
    refine c_X12_goesWell hg hM (by decide) (fun q => absurd q (by decide)) (fun _ h3 hM => ?_)
    dsimp only [zCont, Option.toList, List.cons_append, List.nil_append]
    refine r_ifeq (by omega) 20 rfl 28 rfl (dd_X12_seen 9 _ _ _ rfl) (fun _ => ?_) (fun q => absurd q (by decide))
    refine r_iconst 29 rfl (dd_X12_seen 14 _ _ _ rfl) ?_
    refine r_ireturn rfl rfl (dd_X12_seen 15 _ _ _ rfl) ?_
    exact k1 (by omega) _ hM

set_option maxRecDepth 20000 in
theorem c_X12_minutesI {g : zGT} {Q : zO → zH → Prop} {h : zH} (hg : zG g) {h0 : zH} {m : Nat} {A : Nat → Nat} {S : zS} {n : Nat} {t : Int} (hI : MInv n S) (hM : MI h0 m A S t h) {a : Int} {s : Nat} (ha : a = (s : Int)) (hs : s < 40) (k : Q (.inl (some (.int (zI (zmin S s))))) h) : zC g (.code yX12_minutes cX12_minutes 2 (Option.some Jvm.ClassFile.FieldType.int)) yX12_minutes 10 0 0 [.ref m, .int (zI a)] h Q := by
  refine zC_of (M := mX12_minutes) (lv := [some (.ref m), some (.int (zI a))]) (by decide) rfl rfl (Nat.le_of_ble_eq_true rfl) rfl rfl ?_
  subst ha
  refine r_sipush (by decide) 3 rfl (dd_X12_minutes 0 _ _ _ rfl) ?_
  refine r_aload_0 4 rfl (dd_X12_minutes 1 _ _ _ rfl) ?_
  refine m_arr 34 hg hM (by decide) (by decide) (tb_6 90 _ rfl) 7 rfl (dd_X12_minutes 2 _ _ _ rfl) ?_ (fun _ _ _ => rfl)
  refine r_iload_1 8 rfl (dd_X12_minutes 3 _ _ _ rfl) ?_
  refine m_iald 34 (s) (by omega) hg hM rfl (by omega) (z_lt (n2 := 40) rfl (by omega)) (by decide) 9 rfl (dd_X12_minutes 4 _ _ _ rfl) ?_
  refine r_imul 10 rfl (dd_X12_minutes 5 _ _ _ rfl) ?_
  refine r_aload_0 11 rfl (dd_X12_minutes 6 _ _ _ rfl) ?_
  refine m_arr 35 hg hM (by decide) (by decide) (tb_6 91 _ rfl) 14 rfl (dd_X12_minutes 7 _ _ _ rfl) ?_ (fun _ _ _ => rfl)
  refine r_iload_1 15 rfl (dd_X12_minutes 8 _ _ _ rfl) ?_
  refine m_iald 35 (s) (by omega) hg hM rfl (by omega) (z_lt (n2 := 40) rfl (by omega)) (by decide) 16 rfl (dd_X12_minutes 9 _ _ _ rfl) ?_
  refine r_iadd 17 rfl (dd_X12_minutes 10 _ _ _ rfl) ?_
  refine r_ireturn rfl rfl (dd_X12_minutes 11 _ _ _ rfl) ?_
  exact k

abbrev mX12_isBehind : zM := (RX12, cX12_isBehind, 3, (Option.some Jvm.ClassFile.FieldType.boolean), [], "isBehind", 11)
set_option maxRecDepth 20000 in
theorem c_X12_isBehind {g : zGT} {Q : zO → zH → Prop} {h : zH} (hg : zG g) {h0 : zH} {m : Nat} {A : Nat → Nat} {S : zS} {n : Nat} {t : Int} (hI : MInv n S) (hM : MI h0 m A S t h) {a b : Int} {s o : Nat} (ha : a = (s : Int)) (hs : s < 40) (hb : b = (o : Int)) (ho : o < 40) (k1 : zbeh S s o → Q (.inl (some (.int (zI 1)))) h) (k0 : ¬ zbeh S s o → Q (.inl (some (.int (zI 0)))) h) : zC g (.code yX12_isBehind cX12_isBehind 3 (Option.some Jvm.ClassFile.FieldType.boolean)) yX12_isBehind 11 0 0 [.ref m, .int (zI a), .int (zI b)] h Q := by
  refine zC_of (M := mX12_isBehind) (lv := [some (.ref m), some (.int (zI a)), some (.int (zI b))]) (by decide) rfl rfl (Nat.le_of_ble_eq_true rfl) rfl rfl ?_
  subst ha hb
  refine r_aload_0 1 rfl (dd_X12_isBehind 0 _ _ _ rfl) ?_
  refine r_iload_1 2 rfl (dd_X12_isBehind 1 _ _ _ rfl) ?_
  refine r_callV1 (lvl := 10) (mc1 := 0) (ms1 := 0) 0 0 hg rfl md_X12_minutes zc_X12 hM.kd wi_X12_minutes wv_X12_minutes (tb_7 132 _ rfl) (by decide) (by decide) rfl (Nat.le_of_ble_eq_true rfl) (by decide) (by decide) 5 rfl (dd_X12_isBehind 2 _ _ _ rfl) ?_
  refine c_X12_minutesI (s := s) hg hI hM (by omega) (by omega) ?_
  dsimp only [zCont, Option.toList, List.cons_append, List.nil_append]
  have hm1 := zmin_range (s := s) hI
  refine r_aload_0 6 rfl (dd_X12_isBehind 3 _ _ _ rfl) ?_
  refine r_iload_2 7 rfl (dd_X12_isBehind 4 _ _ _ rfl) ?_
  refine r_callV1 (lvl := 10) (mc1 := 0) (ms1 := 0) 0 0 hg rfl md_X12_minutes zc_X12 hM.kd wi_X12_minutes wv_X12_minutes (tb_7 132 _ rfl) (by decide) (by decide) rfl (Nat.le_of_ble_eq_true rfl) (by decide) (by decide) 10 rfl (dd_X12_isBehind 5 _ _ _ rfl) ?_
  refine c_X12_minutesI (s := o) hg hI hM (by omega) (by omega) ?_
  dsimp only [zCont, Option.toList, List.cons_append, List.nil_append]
  have hm2 := zmin_range (s := o) hI
  refine r_if_icmpgt (by omega) (by omega) 13 rfl 31 rfl (dd_X12_isBehind 6 _ _ _ rfl) (fun hc1 => ?_) (fun hc1 => ?_)
  · refine r_iconst 32 rfl (dd_X12_isBehind 17 _ _ _ rfl) ?_
    refine r_goto 36 rfl (dd_X12_isBehind 18 _ _ _ rfl) ?_
    refine r_ireturn rfl rfl (dd_X12_isBehind 20 _ _ _ rfl) ?_
    exact k1 (by omega)
  · refine r_aload_0 14 rfl (dd_X12_isBehind 7 _ _ _ rfl) ?_
    refine r_iload_1 15 rfl (dd_X12_isBehind 8 _ _ _ rfl) ?_
    refine r_callV1 (lvl := 10) (mc1 := 0) (ms1 := 0) 0 0 hg rfl md_X12_minutes zc_X12 hM.kd wi_X12_minutes wv_X12_minutes (tb_7 132 _ rfl) (by decide) (by decide) rfl (Nat.le_of_ble_eq_true rfl) (by decide) (by decide) 18 rfl (dd_X12_isBehind 9 _ _ _ rfl) ?_
    refine c_X12_minutesI (s := s) hg hI hM (by omega) (by omega) ?_
    dsimp only [zCont, Option.toList, List.cons_append, List.nil_append]
    have hm3 := zmin_range (s := s) hI
    refine r_aload_0 19 rfl (dd_X12_isBehind 10 _ _ _ rfl) ?_
    refine r_iload_2 20 rfl (dd_X12_isBehind 11 _ _ _ rfl) ?_
    refine r_callV1 (lvl := 10) (mc1 := 0) (ms1 := 0) 0 0 hg rfl md_X12_minutes zc_X12 hM.kd wi_X12_minutes wv_X12_minutes (tb_7 132 _ rfl) (by decide) (by decide) rfl (Nat.le_of_ble_eq_true rfl) (by decide) (by decide) 23 rfl (dd_X12_isBehind 12 _ _ _ rfl) ?_
    refine c_X12_minutesI (s := o) hg hI hM (by omega) (by omega) ?_
    dsimp only [zCont, Option.toList, List.cons_append, List.nil_append]
    have hm4 := zmin_range (s := o) hI
    refine r_if_icmpne (by omega) (by omega) 26 rfl 35 rfl (dd_X12_isBehind 13 _ _ _ rfl) (fun hc2 => ?_) (fun hc2 => ?_)
    · refine r_iconst 36 rfl (dd_X12_isBehind 19 _ _ _ rfl) ?_
      refine r_ireturn rfl rfl (dd_X12_isBehind 20 _ _ _ rfl) ?_
      exact k0 (by omega)
    · refine r_iload_1 27 rfl (dd_X12_isBehind 14 _ _ _ rfl) ?_
      refine r_iload_2 28 rfl (dd_X12_isBehind 15 _ _ _ rfl) ?_
      refine r_if_icmple (by omega) (by omega) 31 rfl 35 rfl (dd_X12_isBehind 16 _ _ _ rfl) (fun hc3 => ?_) (fun hc3 => ?_)
      · refine r_iconst 36 rfl (dd_X12_isBehind 19 _ _ _ rfl) ?_
        refine r_ireturn rfl rfl (dd_X12_isBehind 20 _ _ _ rfl) ?_
        exact k0 (by omega)
      · refine r_iconst 32 rfl (dd_X12_isBehind 17 _ _ _ rfl) ?_
        refine r_goto 36 rfl (dd_X12_isBehind 18 _ _ _ rfl) ?_
        refine r_ireturn rfl rfl (dd_X12_isBehind 20 _ _ _ rfl) ?_
        exact k1 (by omega)

abbrev mX12_whoseIs : zM := (RX12, cX12_whoseIs, 3, (Option.some Jvm.ClassFile.FieldType.int), [], "whoseIs", 13)
set_option maxRecDepth 20000 in
theorem c_X12_whoseIs {g : zGT} {Q : zO → zH → Prop} {h : zH} (hg : zG g) {h0 : zH} {m : Nat} {A : Nat → Nat} {S : zS} {n : Nat} {t : Int} (hI : MInv n S) (hM : MI h0 m A S t h) {a : Int} {f : Nat} (ha : a = (f : Int)) (hf : f < 20) (k : Q (.inl (some (.int (zI (zwhose S f))))) h) : zC g (.code yX12_whoseIs cX12_whoseIs 3 (Option.some Jvm.ClassFile.FieldType.int)) yX12_whoseIs 13 0 0 [.ref m, .int (zI a)] h Q := by
  refine zC_of (M := mX12_whoseIs) (lv := [some (.ref m), some (.int (zI a)), none]) (by decide) rfl rfl (Nat.le_of_ble_eq_true rfl) rfl rfl ?_
  subst ha
  have e1 := hI.fineSight f
  have e2 := hI.names f
  have e3 := hI.sightDay (S.2 37 f).toNat
  have e4 := hI.vehicles
  refine r_aload_0 1 rfl (dd_X12_whoseIs 0 _ _ _ rfl) ?_
  refine r_aload_0 2 rfl (dd_X12_whoseIs 1 _ _ _ rfl) ?_
  refine m_arr 37 hg hM (by decide) (by decide) (tb_6 93 _ rfl) 5 rfl (dd_X12_whoseIs 2 _ _ _ rfl) ?_ (fun _ _ _ => rfl)
  refine r_iload_1 6 rfl (dd_X12_whoseIs 3 _ _ _ rfl) ?_
  refine m_iald 37 (f) (by omega) hg hM rfl (by omega) (z_lt (n2 := 20) rfl (by omega)) (by decide) 7 rfl (dd_X12_whoseIs 4 _ _ _ rfl) ?_
  refine r_callV1 (lvl := 12) (mc1 := 0) (ms1 := 0) 0 0 hg rfl md_X12_seenBy zc_X12 hM.kd wi_X12_seenBy wv_X12_seenBy (tb_7 120 _ rfl) (by decide) (by decide) rfl (Nat.le_of_ble_eq_true rfl) (by decide) (by decide) 10 rfl (dd_X12_whoseIs 5 _ _ _ rfl) ?_
  refine c_X12_seenBy (s := (S.2 37 f).toNat) hg hI hM (by omega) (by omega) ?_
  dsimp only [zCont, Option.toList, List.cons_append, List.nil_append]
  have hz9 := zseen_range (s := (S.2 37 f).toNat) hI
  refine r_istore_2 11 rfl (by decide) rfl (dd_X12_whoseIs 6 _ _ _ rfl) ?_
  refine r_aload_0 12 rfl (dd_X12_whoseIs 7 _ _ _ rfl) ?_
  refine m_arr 40 hg hM (by decide) (by decide) (tb_6 96 _ rfl) 15 rfl (dd_X12_whoseIs 8 _ _ _ rfl) ?_ (fun _ _ _ => rfl)
  refine r_iload_1 16 rfl (dd_X12_whoseIs 9 _ _ _ rfl) ?_
  refine m_iald 40 (f) (by omega) hg hM rfl (by omega) (z_lt (n2 := 20) rfl (by omega)) (by decide) 17 rfl (dd_X12_whoseIs 10 _ _ _ rfl) ?_
  refine r_ifle (by omega) 20 rfl 29 rfl (dd_X12_whoseIs 11 _ _ _ rfl) (fun hc1 => ?_) (fun hc1 => ?_)
  · refine r_iload_2 30 rfl (dd_X12_whoseIs 17 _ _ _ rfl) ?_
    refine r_iconst 31 rfl (dd_X12_whoseIs 18 _ _ _ rfl) ?_
    refine r_if_icmpne (by omega) (by omega) 34 rfl 38 rfl (dd_X12_whoseIs 19 _ _ _ rfl) (fun hc2 => ?_) (fun hc2 => ?_)
    · refine r_aload_0 39 rfl (dd_X12_whoseIs 22 _ _ _ rfl) ?_
      refine r_iload_2 40 rfl (dd_X12_whoseIs 23 _ _ _ rfl) ?_
      refine r_aload_0 41 rfl (dd_X12_whoseIs 24 _ _ _ rfl) ?_
      refine m_arr 34 hg hM (by decide) (by decide) (tb_6 90 _ rfl) 44 rfl (dd_X12_whoseIs 25 _ _ _ rfl) ?_ (fun _ _ _ => rfl)
      refine r_aload_0 45 rfl (dd_X12_whoseIs 26 _ _ _ rfl) ?_
      refine m_arr 37 hg hM (by decide) (by decide) (tb_6 93 _ rfl) 48 rfl (dd_X12_whoseIs 27 _ _ _ rfl) ?_ (fun _ _ _ => rfl)
      refine r_iload_1 49 rfl (dd_X12_whoseIs 28 _ _ _ rfl) ?_
      refine m_iald 37 (f) (by omega) hg hM rfl (by omega) (z_lt (n2 := 20) rfl (by omega)) (by decide) 50 rfl (dd_X12_whoseIs 29 _ _ _ rfl) ?_
      refine m_iald 34 ((S.2 37 f).toNat) (by omega) hg hM rfl (by omega) (z_lt (n2 := 40) rfl (by omega)) (by decide) 51 rfl (dd_X12_whoseIs 30 _ _ _ rfl) ?_
      refine r_iconst 52 rfl (dd_X12_whoseIs 31 _ _ _ rfl) ?_
      refine r_iconst 53 rfl (dd_X12_whoseIs 32 _ _ _ rfl) ?_
      refine r_callV4 (lvl := 11) (mc1 := 0) (ms1 := 0) 0 0 hg rfl md_X12_latest zc_X12 hM.kd wi_X12_latest wv_X12_latest (tb_7 24 _ rfl) (by decide) (by decide) rfl (Nat.le_of_ble_eq_true rfl) (by decide) (by decide) 56 rfl (dd_X12_whoseIs 33 _ _ _ rfl) ?_
      refine c_X12_latestI (v := (zseen S (S.2 37 f).toNat).toNat) hg hI hM (by omega) (by omega) (by omega) (by omega) ?_
      dsimp only [zCont, Option.toList, List.cons_append, List.nil_append]
      refine r_ireturn rfl rfl (dd_X12_whoseIs 34 _ _ _ rfl) ?_
      unfold zwhose at k
      first | (rw [if_pos (by omega)] at k; exact k) | (rw [if_neg (by omega), if_pos (by omega)] at k; exact k) | (rw [if_neg (by omega), if_neg (by omega)] at k; exact k)
    · refine r_iconst 35 rfl (dd_X12_whoseIs 20 _ _ _ rfl) ?_
      refine r_goto 56 rfl (dd_X12_whoseIs 21 _ _ _ rfl) ?_
      refine r_ireturn rfl rfl (dd_X12_whoseIs 34 _ _ _ rfl) ?_
      unfold zwhose at k
      first | (rw [if_pos (by omega)] at k; exact k) | (rw [if_neg (by omega), if_pos (by omega)] at k; exact k) | (rw [if_neg (by omega), if_neg (by omega)] at k; exact k)
  · refine r_aload_0 21 rfl (dd_X12_whoseIs 12 _ _ _ rfl) ?_
    refine m_arr 41 hg hM (by decide) (by decide) (tb_6 97 _ rfl) 24 rfl (dd_X12_whoseIs 13 _ _ _ rfl) ?_ (fun _ _ _ => rfl)
    refine r_iload_1 25 rfl (dd_X12_whoseIs 14 _ _ _ rfl) ?_
    refine m_iald 41 (f) (by omega) hg hM rfl (by omega) (z_lt (n2 := 20) rfl (by omega)) (by decide) 26 rfl (dd_X12_whoseIs 15 _ _ _ rfl) ?_
    refine r_goto 56 rfl (dd_X12_whoseIs 16 _ _ _ rfl) ?_
    refine r_ireturn rfl rfl (dd_X12_whoseIs 34 _ _ _ rfl) ?_
    unfold zwhose at k
    first | (rw [if_pos (by omega)] at k; exact k) | (rw [if_neg (by omega), if_pos (by omega)] at k; exact k) | (rw [if_neg (by omega), if_neg (by omega)] at k; exact k)

abbrev mX12_whose : zM := (RX12, cX12_whose, 2, (Option.some Jvm.ClassFile.FieldType.int), [], "whose", 14)
set_option maxRecDepth 20000 in
theorem c_X12_whose {g : zGT} {Q : zO → zH → Prop} {h : zH} (hg : zG g) {h0 : zH} {m : Nat} {A : Nat → Nat} {S : zS} {n : Nat} {t : Int} (hI : MInv n S) (hM : MI h0 m A S t h) {a : Int} (ha : zR a) (k1 : ¬ (0 ≤ a ∧ a < S.1 36) → ∀ h1, MI h0 m A S 1 h1 → Q (.inl (some (.int (zI 0)))) h1) (k0 : ∀ f : Nat, a = f → a < S.1 36 → ∀ h1, MI h0 m A S 0 h1 → Q (.inl (some (.int (zI (zwhose S f))))) h1) : zC g (.code yX12_whose cX12_whose 2 (Option.some Jvm.ClassFile.FieldType.int)) yX12_whose 14 0 0 [.ref m, .int (zI a)] h Q := by
  refine zC_of (M := mX12_whose) (lv := [some (.ref m), some (.int (zI a))]) (by decide) rfl rfl (Nat.le_of_ble_eq_true rfl) rfl rfl ?_
  have e1 := hI.fines
  refine r_aload_0 1 rfl (dd_X12_whose 0 _ _ _ rfl) ?_
  refine r_aload_0 2 rfl (dd_X12_whose 1 _ _ _ rfl) ?_
  refine r_iload_1 3 rfl (dd_X12_whose 2 _ _ _ rfl) ?_
  refine r_callV1 (lvl := 11) (mc1 := 0) (ms1 := 0) 0 0 hg rfl md_X12_isFine zc_X12 hM.kd wi_X12_isFine wv_X12_isFine (tb_7 160 _ rfl) (by decide) (by decide) rfl (Nat.le_of_ble_eq_true rfl) (by decide) (by decide) 6 rfl (dd_X12_whose 3 _ _ _ rfl) ?_
  refine c_X12_isFine hg hI hM (by omega) (fun hb1 => ?_) (fun hb1 => ?_)
  · obtain ⟨f, rfl⟩ := Int.eq_ofNat_of_zero_le hb1.1
    dsimp only [zCont, Option.toList, List.cons_append, List.nil_append]
    refine r_ifeq (by omega) 9 rfl 13 rfl (dd_X12_whose 4 _ _ _ rfl) (fun q => absurd q (by decide)) (fun _ => ?_)
    refine r_iconst 10 rfl (dd_X12_whose 5 _ _ _ rfl) ?_
    refine r_goto 14 rfl (dd_X12_whose 6 _ _ _ rfl) ?_
    refine r_callV1 (lvl := 10) (mc1 := 0) (ms1 := 0) 0 0 hg rfl md_X12_goesWell zc_X12 hM.kd wi_X12_goesWell wv_X12_goesWell (tb_6 197 _ rfl) (by decide) (by decide) rfl (Nat.le_of_ble_eq_true rfl) (by decide) (by decide) 17 rfl (dd_X12_whose 8 _ _ _ rfl) ?_
    refine c_X12_goesWell hg hM (by decide) (fun _ h2 hM => ?_) (fun q => absurd rfl q)
    dsimp only [zCont, Option.toList, List.cons_append, List.nil_append]
    refine r_ifeq (by omega) 20 rfl 28 rfl (dd_X12_whose 9 _ _ _ rfl) (fun q => absurd q (by decide)) (fun _ => ?_)
    refine r_aload_0 21 rfl (dd_X12_whose 10 _ _ _ rfl) ?_
    refine r_iload_1 22 rfl (dd_X12_whose 11 _ _ _ rfl) ?_
    refine r_callV1 (lvl := 13) (mc1 := 0) (ms1 := 0) 0 0 hg rfl md_X12_whoseIs zc_X12 hM.kd wi_X12_whoseIs wv_X12_whoseIs (tb_7 164 _ rfl) (by decide) (by decide) rfl (Nat.le_of_ble_eq_true rfl) (by decide) (by decide) 25 rfl (dd_X12_whose 12 _ _ _ rfl) ?_
    refine c_X12_whoseIs (f := f) hg hI hM (by omega) (by omega) ?_
    dsimp only [zCont, Option.toList, List.cons_append, List.nil_append]
    have hw9 := zwhose_range (f := f) hI
    refine r_goto 29 rfl (dd_X12_whose 13 _ _ _ rfl) ?_
    refine r_ireturn rfl rfl (dd_X12_whose 15 _ _ _ rfl) ?_
    exact k0 f rfl (by omega) _ hM
  · dsimp only [zCont, Option.toList, List.cons_append, List.nil_append]
    refine r_ifeq (by omega) 9 rfl 13 rfl (dd_X12_whose 4 _ _ _ rfl) (fun _ => ?_) (fun q => absurd q (by decide))
    refine r_iconst 14 rfl (dd_X12_whose 7 _ _ _ rfl) ?_
    refine r_callV1 (lvl := 10) (mc1 := 0) (ms1 := 0) 0 0 hg rfl md_X12_goesWell zc_X12 hM.kd wi_X12_goesWell wv_X12_goesWell (tb_6 197 _ rfl) (by decide) (by decide) rfl (Nat.le_of_ble_eq_true rfl) (by decide) (by decide) 17 rfl (dd_X12_whose 8 _ _ _ rfl) ?_
    refine c_X12_goesWell hg hM (by decide) (fun q => absurd q (by decide)) (fun _ h3 hM => ?_)
    dsimp only [zCont, Option.toList, List.cons_append, List.nil_append]
    refine r_ifeq (by omega) 20 rfl 28 rfl (dd_X12_whose 9 _ _ _ rfl) (fun _ => ?_) (fun q => absurd q (by decide))
    refine r_iconst 29 rfl (dd_X12_whose 14 _ _ _ rfl) ?_
    refine r_ireturn rfl rfl (dd_X12_whose 15 _ _ _ rfl) ?_
    exact k1 (by omega) _ hM

abbrev mX12_fines : zM := (RX12, cX12_fines, 4, (Option.some Jvm.ClassFile.FieldType.int), [], "fines", 14)
set_option maxRecDepth 20000 in
theorem c_X12_fines {g : zGT} {Q : zO → zH → Prop} {h : zH} (hg : zG g) {h0 : zH} {m : Nat} {A : Nat → Nat} {S : zS} {n : Nat} {t : Int} (hI : MInv n S) (hM : MI h0 m A S t h) {a : Int} (ha : zR a) (k1 : ¬ (0 ≤ a ∧ a < S.1 12) → ∀ h1, MI h0 m A S 1 h1 → Q (.inl (some (.int (zI 0)))) h1) (k0 : (0 ≤ a ∧ a < S.1 12) → ∀ h1, MI h0 m A S 0 h1 → Q (.inl (some (.int (zI (zsum S a (S.1 36).toNat))))) h1) : zC g (.code yX12_fines cX12_fines 4 (Option.some Jvm.ClassFile.FieldType.int)) yX12_fines 14 0 0 [.ref m, .int (zI a)] h Q := by
  refine zC_of (M := mX12_fines) (lv := [some (.ref m), some (.int (zI a)), none, none]) (by decide) rfl rfl (Nat.le_of_ble_eq_true rfl) rfl rfl ?_
  have e1 := hI.fines
  have e9 := hI.people
  refine r_aload_0 1 rfl (dd_X12_fines 0 _ _ _ rfl) ?_
  refine r_aload_0 2 rfl (dd_X12_fines 1 _ _ _ rfl) ?_
  refine r_iload_1 3 rfl (dd_X12_fines 2 _ _ _ rfl) ?_
  refine r_callV1 (lvl := 11) (mc1 := 0) (ms1 := 0) 0 0 hg rfl md_X12_isPerson zc_X12 hM.kd wi_X12_isPerson wv_X12_isPerson (tb_6 232 _ rfl) (by decide) (by decide) rfl (Nat.le_of_ble_eq_true rfl) (by decide) (by decide) 6 rfl (dd_X12_fines 3 _ _ _ rfl) ?_
  refine c_X12_isPerson hg hI hM (by omega) (fun hb1 => ?_) (fun hb1 => ?_)
  · dsimp only [zCont, Option.toList, List.cons_append, List.nil_append]
    refine r_ifeq (by omega) 9 rfl 13 rfl (dd_X12_fines 4 _ _ _ rfl) (fun q => absurd q (by decide)) (fun _ => ?_)
    refine r_iconst 10 rfl (dd_X12_fines 5 _ _ _ rfl) ?_
    refine r_goto 14 rfl (dd_X12_fines 6 _ _ _ rfl) ?_
    refine r_callV1 (lvl := 10) (mc1 := 0) (ms1 := 0) 0 0 hg rfl md_X12_goesWell zc_X12 hM.kd wi_X12_goesWell wv_X12_goesWell (tb_6 197 _ rfl) (by decide) (by decide) rfl (Nat.le_of_ble_eq_true rfl) (by decide) (by decide) 17 rfl (dd_X12_fines 8 _ _ _ rfl) ?_
    refine c_X12_goesWell hg hM (by decide) (fun _ h2 hM => ?_) (fun q => absurd rfl q)
    dsimp only [zCont, Option.toList, List.cons_append, List.nil_append]
    refine r_ifne (by omega) 20 rfl 22 rfl (dd_X12_fines 9 _ _ _ rfl) (fun _ => ?_) (fun q => absurd q (by decide))
    refine r_iconst 23 rfl (dd_X12_fines 12 _ _ _ rfl) ?_
    refine r_istore_2 24 rfl (by decide) rfl (dd_X12_fines 13 _ _ _ rfl) ?_
    refine r_iconst 25 rfl (dd_X12_fines 14 _ _ _ rfl) ?_
    refine r_istore_3 26 rfl (by decide) rfl (dd_X12_fines 15 _ _ _ rfl) ?_
    have L26 : ∀ (tt : Nat), ∀ (f : Nat) (b s : Int) (h : zH), 50 - f < tt → ((f : Int) ≤ S.1 36) → (b = f) → (s = zsum S a f) → (MI h0 m A S 0 h) → zX g mX12_fines 0 0 Q 26 [some (.ref m), some (.int (zI a)), some (.int (zI s)), some (.int (zI b))] [] h 0 0 := by
      intro tt26
      induction tt26 with
      | zero => intros; exfalso; omega
      | succ tt26 ih26 =>
        intro f b s h hlt26 hj hb hs hM
        have e2 := hI.amount f
        have e3 := zsum_range (p := a) hI f
        refine r_iload_3 27 rfl (dd_X12_fines 16 _ _ _ rfl) ?_
        refine r_aload_0 28 rfl (dd_X12_fines 17 _ _ _ rfl) ?_
        refine m_get 36 hg hM (by unfold z_free; decide) rfl (by decide) (tb_6 92 _ rfl) 31 rfl (dd_X12_fines 18 _ _ _ rfl) ?_ (fun _ _ _ => rfl)
        refine r_if_icmpge (by omega) (by omega) 34 rfl 62 rfl (dd_X12_fines 19 _ _ _ rfl) (fun hc3 => ?_) (fun hc3 => ?_)
        · refine r_iload_2 63 rfl (dd_X12_fines 36 _ _ _ rfl) ?_
          refine r_ireturn rfl rfl (dd_X12_fines 37 _ _ _ rfl) ?_
          have k := k0 (by omega) _ hM
          rw [show (S.1 36).toNat = f by omega, ← hs] at k
          exact k
        · refine r_iload_2 35 rfl (dd_X12_fines 20 _ _ _ rfl) ?_
          refine r_aload_0 36 rfl (dd_X12_fines 21 _ _ _ rfl) ?_
          refine r_iload_3 37 rfl (dd_X12_fines 22 _ _ _ rfl) ?_
          refine r_callV1 (lvl := 13) (mc1 := 0) (ms1 := 0) 0 0 hg rfl md_X12_whoseIs zc_X12 hM.kd wi_X12_whoseIs wv_X12_whoseIs (tb_7 164 _ rfl) (by decide) (by decide) rfl (Nat.le_of_ble_eq_true rfl) (by decide) (by decide) 40 rfl (dd_X12_fines 23 _ _ _ rfl) ?_
          refine c_X12_whoseIs (f := f) hg hI hM (by omega) (by omega) ?_
          dsimp only [zCont, Option.toList, List.cons_append, List.nil_append]
          have hw9 := zwhose_range (f := f) hI
          refine r_iload_1 41 rfl (dd_X12_fines 24 _ _ _ rfl) ?_
          refine r_if_icmpne (by omega) (by omega) 44 rfl 53 rfl (dd_X12_fines 25 _ _ _ rfl) (fun hc4 => ?_) (fun hc4 => ?_)
          · refine r_iconst 54 rfl (dd_X12_fines 31 _ _ _ rfl) ?_
            refine r_iadd 55 rfl (dd_X12_fines 32 _ _ _ rfl) ?_
            refine r_istore_2 56 rfl (by decide) rfl (dd_X12_fines 33 _ _ _ rfl) ?_
            refine r_iinc_3 59 rfl (by decide) rfl (dd_X12_fines 34 _ _ _ rfl) ?_
            refine r_goto 26 rfl (dd_X12_fines 35 _ _ _ rfl) ?_
            exact r_sub _ (z_s1 (z_s1 (z_s1 (z_s1 z_sN)))) (ih26 (f + 1) _ _ _ (by omega) (by omega) (by omega) (by unfold zsum; first | (rw [if_pos (by omega)]; omega) | (rw [if_neg (by omega)]; omega)) hM)
          · refine r_aload_0 45 rfl (dd_X12_fines 26 _ _ _ rfl) ?_
            refine m_arr 38 hg hM (by decide) (by decide) (tb_6 94 _ rfl) 48 rfl (dd_X12_fines 27 _ _ _ rfl) ?_ (fun _ _ _ => rfl)
            refine r_iload_3 49 rfl (dd_X12_fines 28 _ _ _ rfl) ?_
            refine m_iald 38 (f) (by omega) hg hM rfl (by omega) (z_lt (n2 := 20) rfl (by omega)) (by decide) 50 rfl (dd_X12_fines 29 _ _ _ rfl) ?_
            refine r_goto 54 rfl (dd_X12_fines 30 _ _ _ rfl) ?_
            refine r_iadd 55 rfl (dd_X12_fines 32 _ _ _ rfl) ?_
            refine r_istore_2 56 rfl (by decide) rfl (dd_X12_fines 33 _ _ _ rfl) ?_
            refine r_iinc_3 59 rfl (by decide) rfl (dd_X12_fines 34 _ _ _ rfl) ?_
            refine r_goto 26 rfl (dd_X12_fines 35 _ _ _ rfl) ?_
            exact r_sub _ (z_s1 (z_s1 (z_s1 (z_s1 z_sN)))) (ih26 (f + 1) _ _ _ (by omega) (by omega) (by omega) (by unfold zsum; first | (rw [if_pos (by omega)]; omega) | (rw [if_neg (by omega)]; omega)) hM)
    exact r_sub _ (z_s1 (z_s1 (z_s1 (z_s1 z_sN)))) (L26 1000000 0 _ _ _ (by omega) (by omega) (by omega) (by unfold zsum; omega) hM)
  · dsimp only [zCont, Option.toList, List.cons_append, List.nil_append]
    refine r_ifeq (by omega) 9 rfl 13 rfl (dd_X12_fines 4 _ _ _ rfl) (fun _ => ?_) (fun q => absurd q (by decide))
    refine r_iconst 14 rfl (dd_X12_fines 7 _ _ _ rfl) ?_
    refine r_callV1 (lvl := 10) (mc1 := 0) (ms1 := 0) 0 0 hg rfl md_X12_goesWell zc_X12 hM.kd wi_X12_goesWell wv_X12_goesWell (tb_6 197 _ rfl) (by decide) (by decide) rfl (Nat.le_of_ble_eq_true rfl) (by decide) (by decide) 17 rfl (dd_X12_fines 8 _ _ _ rfl) ?_
    refine c_X12_goesWell hg hM (by decide) (fun q => absurd q (by decide)) (fun _ h5 hM => ?_)
    dsimp only [zCont, Option.toList, List.cons_append, List.nil_append]
    refine r_ifne (by omega) 20 rfl 22 rfl (dd_X12_fines 9 _ _ _ rfl) (fun q => absurd q (by decide)) (fun _ => ?_)
    refine r_iconst 21 rfl (dd_X12_fines 10 _ _ _ rfl) ?_
    refine r_ireturn rfl rfl (dd_X12_fines 11 _ _ _ rfl) ?_
    exact k1 (by omega) _ hM

abbrev mX12_fine : zM := (RX12, cX12_fine, 5, (Option.some Jvm.ClassFile.FieldType.int), [], "fine", 13)
set_option maxRecDepth 20000 in
theorem c_X12_fine {g : zGT} {Q : zO → zH → Prop} {h : zH} (hg : zG g) {h0 : zH} {m : Nat} {A : Nat → Nat} {S : zS} {n : Nat} {t : Int} (hI : MInv n S) (hM : MI h0 m A S t h) {a b : Int} (ha : zR a) (hb : zR b) (k1 : ¬ (0 ≤ a ∧ a < S.1 31) → ∀ h1, MI h0 m A S 1 h1 → Q (.inl (some (.int (zI 0)))) h1) (k2 : ∀ s : Nat, a = s → a < S.1 31 → ¬ (1 ≤ b ∧ b ≤ 100000) → ∀ h1, MI h0 m A S 2 h1 → Q (.inl (some (.int (zI 0)))) h1) (k3 : ∀ s : Nat, a = s → a < S.1 31 → (1 ≤ b ∧ b ≤ 100000) → (zseen S s = -1 ∨ S.1 36 = 20) → ∀ h1, MI h0 m A S 3 h1 → Q (.inl (some (.int (zI 0)))) h1) (k0 : ∀ s : Nat, a = s → a < S.1 31 → (1 ≤ b ∧ b ≤ 100000) → (zseen S s ≠ -1 ∧ S.1 36 ≠ 20) → ∀ h1, MI h0 m A (zu1 S.1 36 (S.1 36 + 1), zu2 (zu2 (zu2 S.2 37 (S.1 36).toNat s) 38 (S.1 36).toNat b) 39 (S.1 36).toNat (S.1 1)) 0 h1 → Q (.inl (some (.int (zI (S.1 36))))) h1) : zC g (.code yX12_fine cX12_fine 5 (Option.some Jvm.ClassFile.FieldType.int)) yX12_fine 13 0 0 [.ref m, .int (zI a), .int (zI b)] h Q := by
  refine zC_of (M := mX12_fine) (lv := [some (.ref m), some (.int (zI a)), some (.int (zI b)), none, none]) (by decide) rfl rfl (Nat.le_of_ble_eq_true rfl) rfl rfl ?_
  have e1 := hI.sightings
  have e2 := hI.fines
  have e3 := hI.today
  refine r_aload_0 1 rfl (dd_X12_fine_0 0 _ _ _ rfl) ?_
  refine r_iload_1 2 rfl (dd_X12_fine_0 1 _ _ _ rfl) ?_
  refine r_callV1 (lvl := 11) (mc1 := 0) (ms1 := 0) 0 0 hg rfl md_X12_isSighting zc_X12 hM.kd wi_X12_isSighting wv_X12_isSighting (tb_7 148 _ rfl) (by decide) (by decide) rfl (Nat.le_of_ble_eq_true rfl) (by decide) (by decide) 5 rfl (dd_X12_fine_0 2 _ _ _ rfl) ?_
  refine c_X12_isSighting hg hI hM (by omega) (fun hb1 => ?_) (fun hb1 => ?_)
  · obtain ⟨s, rfl⟩ := Int.eq_ofNat_of_zero_le hb1.1
    dsimp only [zCont, Option.toList, List.cons_append, List.nil_append]
    refine r_istore_3 6 rfl (by decide) rfl (dd_X12_fine_0 3 _ _ _ rfl) ?_
    refine r_iload_2 7 rfl (dd_X12_fine_0 4 _ _ _ rfl) ?_
    refine r_iconst 8 rfl (dd_X12_fine_0 5 _ _ _ rfl) ?_
    refine r_ldc hg (tb_7 76 _ rfl) 10 rfl (dd_X12_fine_0 6 _ _ _ rfl) ?_
    refine r_top 100000 rfl ?_
    refine r_callS3 (lvl := 10) (mc1 := 0) (ms1 := 0) 0 0 hg rfl md_X12_in ws_X12_in (tb_6 209 _ rfl) (by decide) (by decide) rfl (Nat.le_of_ble_eq_true rfl) (by decide) (by decide) 13 rfl (dd_X12_fine_0 7 _ _ _ rfl) ?_
    refine c_X12_in hg (by omega) (by omega) (by omega) (fun hb2 => ?_) (fun hb2 => ?_)
    · dsimp only [zCont, Option.toList, List.cons_append, List.nil_append]
      refine r_istore_4 15 rfl (by decide) rfl (dd_X12_fine_0 8 _ _ _ rfl) ?_
      refine r_aload_0 16 rfl (dd_X12_fine_0 9 _ _ _ rfl) ?_
      refine r_iload_3 17 rfl (dd_X12_fine_0 10 _ _ _ rfl) ?_
      refine r_ifne (by omega) 20 rfl 24 rfl (dd_X12_fine_0 11 _ _ _ rfl) (fun _ => ?_) (fun q => absurd q (by decide))
      refine r_iload_4 26 rfl (dd_X12_fine_0 14 _ _ _ rfl) ?_
      refine r_ifne (by omega) 29 rfl 33 rfl (dd_X12_fine_0 15 _ _ _ rfl) (fun _ => ?_) (fun q => absurd q (by decide))
      refine r_aload_0 34 rfl (dd_X12_fine_0 18 _ _ _ rfl) ?_
      refine r_iload_1 35 rfl (dd_X12_fine_0 19 _ _ _ rfl) ?_
      refine r_callV1 (lvl := 12) (mc1 := 0) (ms1 := 0) 0 0 hg rfl md_X12_seenBy zc_X12 hM.kd wi_X12_seenBy wv_X12_seenBy (tb_7 120 _ rfl) (by decide) (by decide) rfl (Nat.le_of_ble_eq_true rfl) (by decide) (by decide) 38 rfl (dd_X12_fine_0 20 _ _ _ rfl) ?_
      refine c_X12_seenBy (s := s) hg hI hM (by omega) (by omega) ?_
      dsimp only [zCont, Option.toList, List.cons_append, List.nil_append]
      have hz9 := zseen_range (s := s) hI
      refine r_iconst 39 rfl (dd_X12_fine_0 21 _ _ _ rfl) ?_
      refine r_if_icmpeq (by omega) (by omega) 42 rfl 51 rfl (dd_X12_fine_0 22 _ _ _ rfl) (fun hc3 => ?_) (fun hc3 => ?_)
      · refine r_iconst 52 rfl (dd_X12_fine_0 27 _ _ _ rfl) ?_
        refine r_goto 56 rfl (dd_X12_fine_0 28 _ _ _ rfl) ?_
        refine r_callV1 (lvl := 10) (mc1 := 0) (ms1 := 0) 0 0 hg rfl md_X12_goesWell zc_X12 hM.kd wi_X12_goesWell wv_X12_goesWell (tb_6 197 _ rfl) (by decide) (by decide) rfl (Nat.le_of_ble_eq_true rfl) (by decide) (by decide) 59 rfl (dd_X12_fine_0 30 _ _ _ rfl) ?_
        refine c_X12_goesWell hg hM (by decide) (fun q => absurd q (by decide)) (fun _ h4 hM => ?_)
        dsimp only [zCont, Option.toList, List.cons_append, List.nil_append]
        refine r_ifne (by omega) 62 rfl 64 rfl (dd_X12_fine_0 31 _ _ _ rfl) (fun q => absurd q (by decide)) (fun _ => ?_)
        refine r_iconst 63 rfl (dd_X12_fine_0 32 _ _ _ rfl) ?_
        refine r_ireturn rfl rfl (dd_X12_fine_0 33 _ _ _ rfl) ?_
        first | exact k1 (by omega) _ hM | exact k2 s rfl (by omega) (by omega) _ hM | exact k3 s rfl (by omega) (by omega) (by omega) _ hM
      · refine r_aload_0 43 rfl (dd_X12_fine_0 23 _ _ _ rfl) ?_
        refine m_get 36 hg hM (by unfold z_free; decide) rfl (by decide) (tb_6 92 _ rfl) 46 rfl (dd_X12_fine_0 24 _ _ _ rfl) ?_ (fun _ _ _ => rfl)
        try simp (decide := true) only [zu1, if_true, if_false, reduceIte]
        refine r_bipush (by decide) 48 rfl (dd_X12_fine_0 25 _ _ _ rfl) ?_
        refine r_if_icmpne (by omega) (by omega) 51 rfl 55 rfl (dd_X12_fine_0 26 _ _ _ rfl) (fun hc5 => ?_) (fun hc5 => ?_)
        · refine r_iconst 56 rfl (dd_X12_fine_0 29 _ _ _ rfl) ?_
          refine r_callV1 (lvl := 10) (mc1 := 0) (ms1 := 0) 0 0 hg rfl md_X12_goesWell zc_X12 hM.kd wi_X12_goesWell wv_X12_goesWell (tb_6 197 _ rfl) (by decide) (by decide) rfl (Nat.le_of_ble_eq_true rfl) (by decide) (by decide) 59 rfl (dd_X12_fine_0 30 _ _ _ rfl) ?_
          refine c_X12_goesWell hg hM (by decide) (fun _ h6 hM => ?_) (fun q => absurd rfl q)
          dsimp only [zCont, Option.toList, List.cons_append, List.nil_append]
          refine r_ifne (by omega) 62 rfl 64 rfl (dd_X12_fine_0 31 _ _ _ rfl) (fun _ => ?_) (fun q => absurd q (by decide))
          refine r_aload_0 65 rfl (dd_X12_fine_0 34 _ _ _ rfl) ?_
          refine m_arr 37 hg hM (by decide) (by decide) (tb_6 93 _ rfl) 68 rfl (dd_X12_fine_0 35 _ _ _ rfl) ?_ (fun _ _ _ => rfl)
          refine r_aload_0 69 rfl (dd_X12_fine_0 36 _ _ _ rfl) ?_
          refine m_get 36 hg hM (by unfold z_free; decide) rfl (by decide) (tb_6 92 _ rfl) 72 rfl (dd_X12_fine_0 37 _ _ _ rfl) ?_ (fun _ _ _ => rfl)
          try simp (decide := true) only [zu1, if_true, if_false, reduceIte]
          refine r_iload_1 73 rfl (dd_X12_fine_0 38 _ _ _ rfl) ?_
          refine m_iast 37 _ rfl hg hM rfl (by omega) (z_lt (n2 := 20) rfl (by omega)) (by decide) 74 rfl (dd_X12_fine_0 39 _ _ _ rfl) (fun h7 hM => ?_)
          refine r_aload_0 75 rfl (dd_X12_fine_0 40 _ _ _ rfl) ?_
          refine m_arr 38 hg hM (by decide) (by decide) (tb_6 94 _ rfl) 78 rfl (dd_X12_fine_0 41 _ _ _ rfl) ?_ (fun _ _ _ => rfl)
          refine r_aload_0 79 rfl (dd_X12_fine_0 42 _ _ _ rfl) ?_
          refine m_get 36 hg hM (by unfold z_free; decide) rfl (by decide) (tb_6 92 _ rfl) 82 rfl (dd_X12_fine_0 43 _ _ _ rfl) ?_ (fun _ _ _ => rfl)
          try simp (decide := true) only [zu1, if_true, if_false, reduceIte]
          refine r_iload_2 83 rfl (dd_X12_fine_0 44 _ _ _ rfl) ?_
          refine m_iast 38 _ rfl hg hM rfl (by omega) (z_lt (n2 := 20) rfl (by omega)) (by decide) 84 rfl (dd_X12_fine_0 45 _ _ _ rfl) (fun h8 hM => ?_)
          refine r_aload_0 85 rfl (dd_X12_fine_0 46 _ _ _ rfl) ?_
          refine m_arr 39 hg hM (by decide) (by decide) (tb_6 95 _ rfl) 88 rfl (dd_X12_fine_0 47 _ _ _ rfl) ?_ (fun _ _ _ => rfl)
          refine r_aload_0 89 rfl (dd_X12_fine_0 48 _ _ _ rfl) ?_
          refine m_get 36 hg hM (by unfold z_free; decide) rfl (by decide) (tb_6 92 _ rfl) 92 rfl (dd_X12_fine_0 49 _ _ _ rfl) ?_ (fun _ _ _ => rfl)
          try simp (decide := true) only [zu1, if_true, if_false, reduceIte]
          refine r_aload_0 93 rfl (dd_X12_fine_0 50 _ _ _ rfl) ?_
          refine m_get 1 hg hM (by unfold z_free; decide) rfl (by decide) (tb_6 57 _ rfl) 96 rfl (dd_X12_fine_0 51 _ _ _ rfl) ?_ (fun _ _ _ => rfl)
          try simp (decide := true) only [zu1, if_true, if_false, reduceIte]
          refine m_iast 39 _ rfl hg hM rfl (by omega) (z_lt (n2 := 20) rfl (by omega)) (by decide) 97 rfl (dd_X12_fine_0 52 _ _ _ rfl) (fun h9 hM => ?_)
          refine r_aload_0 98 rfl (dd_X12_fine_0 53 _ _ _ rfl) ?_
          refine r_dup rfl 99 rfl (dd_X12_fine_0 54 _ _ _ rfl) ?_
          refine m_get 36 hg hM (by unfold z_free; decide) rfl (by decide) (tb_6 92 _ rfl) 102 rfl (dd_X12_fine_0 55 _ _ _ rfl) ?_ (fun _ _ _ => rfl)
          try simp (decide := true) only [zu1, if_true, if_false, reduceIte]
          refine r_iconst 103 rfl (dd_X12_fine_0 56 _ _ _ rfl) ?_
          refine r_iadd 104 rfl (dd_X12_fine_0 57 _ _ _ rfl) ?_
          refine m_put 36 hg hM rfl (by decide) (by decide) rfl (fun _ _ _ => rfl) rfl rfl (tb_6 92 _ rfl) 107 rfl (dd_X12_fine_0 58 _ _ _ rfl) (fun h11 hM => ?_)
          refine r_aload_0 108 rfl (dd_X12_fine_0 59 _ _ _ rfl) ?_
          refine m_get 36 hg hM (by unfold z_free; decide) rfl (by decide) (tb_6 92 _ rfl) 111 rfl (dd_X12_fine_1 0 _ _ _ rfl) ?_ (fun _ _ _ => rfl)
          try simp (decide := true) only [zu1, if_true, if_false, reduceIte]
          refine r_iconst 112 rfl (dd_X12_fine_1 1 _ _ _ rfl) ?_
          refine r_isub 113 rfl (dd_X12_fine_1 2 _ _ _ rfl) ?_
          refine r_ireturn rfl rfl (dd_X12_fine_1 3 _ _ _ rfl) ?_
          have k := k0 s rfl (by omega) (by omega) (by omega) _ hM
          rw [Int.add_sub_cancel]
          exact k
        · refine r_iconst 52 rfl (dd_X12_fine_0 27 _ _ _ rfl) ?_
          refine r_goto 56 rfl (dd_X12_fine_0 28 _ _ _ rfl) ?_
          refine r_callV1 (lvl := 10) (mc1 := 0) (ms1 := 0) 0 0 hg rfl md_X12_goesWell zc_X12 hM.kd wi_X12_goesWell wv_X12_goesWell (tb_6 197 _ rfl) (by decide) (by decide) rfl (Nat.le_of_ble_eq_true rfl) (by decide) (by decide) 59 rfl (dd_X12_fine_0 30 _ _ _ rfl) ?_
          refine c_X12_goesWell hg hM (by decide) (fun q => absurd q (by decide)) (fun _ h12 hM => ?_)
          dsimp only [zCont, Option.toList, List.cons_append, List.nil_append]
          refine r_ifne (by omega) 62 rfl 64 rfl (dd_X12_fine_0 31 _ _ _ rfl) (fun q => absurd q (by decide)) (fun _ => ?_)
          refine r_iconst 63 rfl (dd_X12_fine_0 32 _ _ _ rfl) ?_
          refine r_ireturn rfl rfl (dd_X12_fine_0 33 _ _ _ rfl) ?_
          first | exact k1 (by omega) _ hM | exact k2 s rfl (by omega) (by omega) _ hM | exact k3 s rfl (by omega) (by omega) (by omega) _ hM
    · dsimp only [zCont, Option.toList, List.cons_append, List.nil_append]
      refine r_istore_4 15 rfl (by decide) rfl (dd_X12_fine_0 8 _ _ _ rfl) ?_
      refine r_aload_0 16 rfl (dd_X12_fine_0 9 _ _ _ rfl) ?_
      refine r_iload_3 17 rfl (dd_X12_fine_0 10 _ _ _ rfl) ?_
      refine r_ifne (by omega) 20 rfl 24 rfl (dd_X12_fine_0 11 _ _ _ rfl) (fun _ => ?_) (fun q => absurd q (by decide))
      refine r_iload_4 26 rfl (dd_X12_fine_0 14 _ _ _ rfl) ?_
      refine r_ifne (by omega) 29 rfl 33 rfl (dd_X12_fine_0 15 _ _ _ rfl) (fun q => absurd q (by decide)) (fun _ => ?_)
      refine r_iconst 30 rfl (dd_X12_fine_0 16 _ _ _ rfl) ?_
      refine r_goto 56 rfl (dd_X12_fine_0 17 _ _ _ rfl) ?_
      refine r_callV1 (lvl := 10) (mc1 := 0) (ms1 := 0) 0 0 hg rfl md_X12_goesWell zc_X12 hM.kd wi_X12_goesWell wv_X12_goesWell (tb_6 197 _ rfl) (by decide) (by decide) rfl (Nat.le_of_ble_eq_true rfl) (by decide) (by decide) 59 rfl (dd_X12_fine_0 30 _ _ _ rfl) ?_
      refine c_X12_goesWell hg hM (by decide) (fun q => absurd q (by decide)) (fun _ h13 hM => ?_)
      dsimp only [zCont, Option.toList, List.cons_append, List.nil_append]
      refine r_ifne (by omega) 62 rfl 64 rfl (dd_X12_fine_0 31 _ _ _ rfl) (fun q => absurd q (by decide)) (fun _ => ?_)
      refine r_iconst 63 rfl (dd_X12_fine_0 32 _ _ _ rfl) ?_
      refine r_ireturn rfl rfl (dd_X12_fine_0 33 _ _ _ rfl) ?_
      first | exact k1 (by omega) _ hM | exact k2 s rfl (by omega) (by omega) _ hM | exact k3 s rfl (by omega) (by omega) (by omega) _ hM
  · dsimp only [zCont, Option.toList, List.cons_append, List.nil_append]
    refine r_istore_3 6 rfl (by decide) rfl (dd_X12_fine_0 3 _ _ _ rfl) ?_
    refine r_iload_2 7 rfl (dd_X12_fine_0 4 _ _ _ rfl) ?_
    refine r_iconst 8 rfl (dd_X12_fine_0 5 _ _ _ rfl) ?_
    refine r_ldc hg (tb_7 76 _ rfl) 10 rfl (dd_X12_fine_0 6 _ _ _ rfl) ?_
    refine r_top 100000 rfl ?_
    refine r_callS3 (lvl := 10) (mc1 := 0) (ms1 := 0) 0 0 hg rfl md_X12_in ws_X12_in (tb_6 209 _ rfl) (by decide) (by decide) rfl (Nat.le_of_ble_eq_true rfl) (by decide) (by decide) 13 rfl (dd_X12_fine_0 7 _ _ _ rfl) ?_
    refine c_X12_in hg (by omega) (by omega) (by omega) (fun hb14 => ?_) (fun hb14 => ?_)
    · dsimp only [zCont, Option.toList, List.cons_append, List.nil_append]
      refine r_istore_4 15 rfl (by decide) rfl (dd_X12_fine_0 8 _ _ _ rfl) ?_
      refine r_aload_0 16 rfl (dd_X12_fine_0 9 _ _ _ rfl) ?_
      refine r_iload_3 17 rfl (dd_X12_fine_0 10 _ _ _ rfl) ?_
      refine r_ifne (by omega) 20 rfl 24 rfl (dd_X12_fine_0 11 _ _ _ rfl) (fun q => absurd q (by decide)) (fun _ => ?_)
      refine r_iconst 21 rfl (dd_X12_fine_0 12 _ _ _ rfl) ?_
      refine r_goto 56 rfl (dd_X12_fine_0 13 _ _ _ rfl) ?_
      refine r_callV1 (lvl := 10) (mc1 := 0) (ms1 := 0) 0 0 hg rfl md_X12_goesWell zc_X12 hM.kd wi_X12_goesWell wv_X12_goesWell (tb_6 197 _ rfl) (by decide) (by decide) rfl (Nat.le_of_ble_eq_true rfl) (by decide) (by decide) 59 rfl (dd_X12_fine_0 30 _ _ _ rfl) ?_
      refine c_X12_goesWell hg hM (by decide) (fun q => absurd q (by decide)) (fun _ h15 hM => ?_)
      dsimp only [zCont, Option.toList, List.cons_append, List.nil_append]
      refine r_ifne (by omega) 62 rfl 64 rfl (dd_X12_fine_0 31 _ _ _ rfl) (fun q => absurd q (by decide)) (fun _ => ?_)
      refine r_iconst 63 rfl (dd_X12_fine_0 32 _ _ _ rfl) ?_
      refine r_ireturn rfl rfl (dd_X12_fine_0 33 _ _ _ rfl) ?_
      first | exact k1 (by omega) _ hM | exact k2 s rfl (by omega) (by omega) _ hM | exact k3 s rfl (by omega) (by omega) (by omega) _ hM
    · dsimp only [zCont, Option.toList, List.cons_append, List.nil_append]
      refine r_istore_4 15 rfl (by decide) rfl (dd_X12_fine_0 8 _ _ _ rfl) ?_
      refine r_aload_0 16 rfl (dd_X12_fine_0 9 _ _ _ rfl) ?_
      refine r_iload_3 17 rfl (dd_X12_fine_0 10 _ _ _ rfl) ?_
      refine r_ifne (by omega) 20 rfl 24 rfl (dd_X12_fine_0 11 _ _ _ rfl) (fun q => absurd q (by decide)) (fun _ => ?_)
      refine r_iconst 21 rfl (dd_X12_fine_0 12 _ _ _ rfl) ?_
      refine r_goto 56 rfl (dd_X12_fine_0 13 _ _ _ rfl) ?_
      refine r_callV1 (lvl := 10) (mc1 := 0) (ms1 := 0) 0 0 hg rfl md_X12_goesWell zc_X12 hM.kd wi_X12_goesWell wv_X12_goesWell (tb_6 197 _ rfl) (by decide) (by decide) rfl (Nat.le_of_ble_eq_true rfl) (by decide) (by decide) 59 rfl (dd_X12_fine_0 30 _ _ _ rfl) ?_
      refine c_X12_goesWell hg hM (by decide) (fun q => absurd q (by decide)) (fun _ h16 hM => ?_)
      dsimp only [zCont, Option.toList, List.cons_append, List.nil_append]
      refine r_ifne (by omega) 62 rfl 64 rfl (dd_X12_fine_0 31 _ _ _ rfl) (fun q => absurd q (by decide)) (fun _ => ?_)
      refine r_iconst 63 rfl (dd_X12_fine_0 32 _ _ _ rfl) ?_
      refine r_ireturn rfl rfl (dd_X12_fine_0 33 _ _ _ rfl) ?_
      first | exact k1 (by omega) _ hM | exact k2 s rfl (by omega) (by omega) _ hM | exact k3 s rfl (by omega) (by omega) (by omega) _ hM

abbrev mX12_name : zM := (RX12, cX12_name, 6, (Option.some Jvm.ClassFile.FieldType.int), [], "name", 14)
set_option maxRecDepth 20000 in
theorem c_X12_name {g : zGT} {Q : zO → zH → Prop} {h : zH} (hg : zG g) {h0 : zH} {m : Nat} {A : Nat → Nat} {S : zS} {n : Nat} {t : Int} (hI : MInv n S) (hM : MI h0 m A S t h) {a b : Int} (ha : zR a) (hb : zR b) (k1 : ¬ (0 ≤ a ∧ a < S.1 36 ∧ 0 ≤ b ∧ b < S.1 12) → ∀ h1, MI h0 m A S 1 h1 → Q (.inl (some (.int (zI 0)))) h1) (k2 : ∀ f : Nat, a = f → (0 ≤ a ∧ a < S.1 36 ∧ 0 ≤ b ∧ b < S.1 12) → ¬ (zwhose S f ≠ -1 ∧ zwhose S f ≠ b ∧ S.1 1 - S.2 39 f ≤ 14 ∧ S.2 40 f < 3) → ∀ h1, MI h0 m A S 2 h1 → Q (.inl (some (.int (zI 0)))) h1) (k0 : ∀ f : Nat, a = f → (0 ≤ a ∧ a < S.1 36 ∧ 0 ≤ b ∧ b < S.1 12) → (zwhose S f ≠ -1 ∧ zwhose S f ≠ b ∧ S.1 1 - S.2 39 f ≤ 14 ∧ S.2 40 f < 3) → ∀ h1, MI h0 m A (S.1, zu2 (zu2 (zu2 S.2 40 f (S.2 40 f + 1)) 41 f b) 39 f (S.1 1)) 0 h1 → Q (.inl (some (.int (zI (zwhose S f))))) h1) : zC g (.code yX12_name cX12_name 6 (Option.some Jvm.ClassFile.FieldType.int)) yX12_name 14 0 0 [.ref m, .int (zI a), .int (zI b)] h Q := by
  refine zC_of (M := mX12_name) (lv := [some (.ref m), some (.int (zI a)), some (.int (zI b)), none, none, none]) (by decide) rfl rfl (Nat.le_of_ble_eq_true rfl) rfl rfl ?_
  have e1 := hI.fines
  have e2 := hI.people
  have e3 := hI.today
  have e4 := hI.since
  have e5 := hI.names
  refine r_aload_0 1 rfl (dd_X12_name_0 0 _ _ _ rfl) ?_
  refine r_iload_1 2 rfl (dd_X12_name_0 1 _ _ _ rfl) ?_
  refine r_callV1 (lvl := 11) (mc1 := 0) (ms1 := 0) 0 0 hg rfl md_X12_isFine zc_X12 hM.kd wi_X12_isFine wv_X12_isFine (tb_7 160 _ rfl) (by decide) (by decide) rfl (Nat.le_of_ble_eq_true rfl) (by decide) (by decide) 5 rfl (dd_X12_name_0 2 _ _ _ rfl) ?_
  refine c_X12_isFine hg hI hM (by omega) (fun hb1 => ?_) (fun hb1 => ?_)
  · obtain ⟨f, rfl⟩ := Int.eq_ofNat_of_zero_le hb1.1
    dsimp only [zCont, Option.toList, List.cons_append, List.nil_append]
    refine r_ifeq (by omega) 8 rfl 20 rfl (dd_X12_name_0 3 _ _ _ rfl) (fun q => absurd q (by decide)) (fun _ => ?_)
    refine r_aload_0 9 rfl (dd_X12_name_0 4 _ _ _ rfl) ?_
    refine r_iload_2 10 rfl (dd_X12_name_0 5 _ _ _ rfl) ?_
    refine r_callV1 (lvl := 11) (mc1 := 0) (ms1 := 0) 0 0 hg rfl md_X12_isPerson zc_X12 hM.kd wi_X12_isPerson wv_X12_isPerson (tb_6 232 _ rfl) (by decide) (by decide) rfl (Nat.le_of_ble_eq_true rfl) (by decide) (by decide) 13 rfl (dd_X12_name_0 6 _ _ _ rfl) ?_
    refine c_X12_isPerson hg hI hM (by omega) (fun hb2 => ?_) (fun hb2 => ?_)
    · dsimp only [zCont, Option.toList, List.cons_append, List.nil_append]
      refine r_ifeq (by omega) 16 rfl 20 rfl (dd_X12_name_0 7 _ _ _ rfl) (fun q => absurd q (by decide)) (fun _ => ?_)
      refine r_iconst 17 rfl (dd_X12_name_0 8 _ _ _ rfl) ?_
      refine r_goto 21 rfl (dd_X12_name_0 9 _ _ _ rfl) ?_
      refine r_istore_3 22 rfl (by decide) rfl (dd_X12_name_0 11 _ _ _ rfl) ?_
      refine r_iload_3 23 rfl (dd_X12_name_0 12 _ _ _ rfl) ?_
      refine r_ifeq (by omega) 26 rfl 34 rfl (dd_X12_name_0 13 _ _ _ rfl) (fun q => absurd q (by decide)) (fun _ => ?_)
      refine r_aload_0 27 rfl (dd_X12_name_0 14 _ _ _ rfl) ?_
      refine r_iload_1 28 rfl (dd_X12_name_0 15 _ _ _ rfl) ?_
      refine r_callV1 (lvl := 13) (mc1 := 0) (ms1 := 0) 0 0 hg rfl md_X12_whoseIs zc_X12 hM.kd wi_X12_whoseIs wv_X12_whoseIs (tb_7 164 _ rfl) (by decide) (by decide) rfl (Nat.le_of_ble_eq_true rfl) (by decide) (by decide) 31 rfl (dd_X12_name_0 16 _ _ _ rfl) ?_
      refine c_X12_whoseIs (f := f) hg hI hM (by omega) (by omega) ?_
      dsimp only [zCont, Option.toList, List.cons_append, List.nil_append]
      have hw9 := zwhose_range (f := f) hI
      refine r_goto 35 rfl (dd_X12_name_0 17 _ _ _ rfl) ?_
      refine r_istore_4 37 rfl (by decide) rfl (dd_X12_name_0 19 _ _ _ rfl) ?_
      refine r_iload_3 38 rfl (dd_X12_name_0 20 _ _ _ rfl) ?_
      refine r_ifeq (by omega) 41 rfl 83 rfl (dd_X12_name_0 21 _ _ _ rfl) (fun q => absurd q (by decide)) (fun _ => ?_)
      refine r_iload_4 43 rfl (dd_X12_name_0 22 _ _ _ rfl) ?_
      refine r_iconst 44 rfl (dd_X12_name_0 23 _ _ _ rfl) ?_
      refine r_if_icmpeq (by omega) (by omega) 47 rfl 83 rfl (dd_X12_name_0 24 _ _ _ rfl) (fun hc3 => ?_) (fun hc3 => ?_)
      · refine r_iconst 84 rfl (dd_X12_name_0 45 _ _ _ rfl) ?_
        refine r_istore_5 86 rfl (by decide) rfl (dd_X12_name_0 46 _ _ _ rfl) ?_
        refine r_aload_0 87 rfl (dd_X12_name_0 47 _ _ _ rfl) ?_
        refine r_iload_3 88 rfl (dd_X12_name_0 48 _ _ _ rfl) ?_
        refine r_ifne (by omega) 91 rfl 95 rfl (dd_X12_name_0 49 _ _ _ rfl) (fun _ => ?_) (fun q => absurd q (by decide))
        refine r_iload_5 97 rfl (dd_X12_name_0 52 _ _ _ rfl) ?_
        refine r_ifeq (by omega) 100 rfl 104 rfl (dd_X12_name_0 53 _ _ _ rfl) (fun _ => ?_) (fun q => absurd q (by decide))
        refine r_iconst 105 rfl (dd_X12_name_0 56 _ _ _ rfl) ?_
        refine r_callV1 (lvl := 10) (mc1 := 0) (ms1 := 0) 0 0 hg rfl md_X12_goesWell zc_X12 hM.kd wi_X12_goesWell wv_X12_goesWell (tb_6 197 _ rfl) (by decide) (by decide) rfl (Nat.le_of_ble_eq_true rfl) (by decide) (by decide) 108 rfl (dd_X12_name_0 57 _ _ _ rfl) ?_
        refine c_X12_goesWell hg hM (by decide) (fun q => absurd q (by decide)) (fun _ h4 hM => ?_)
        dsimp only [zCont, Option.toList, List.cons_append, List.nil_append]
        refine r_ifne (by omega) 111 rfl 113 rfl (dd_X12_name_0 58 _ _ _ rfl) (fun q => absurd q (by decide)) (fun _ => ?_)
        refine r_iconst 112 rfl (dd_X12_name_0 59 _ _ _ rfl) ?_
        refine r_ireturn rfl rfl (dd_X12_name_1 0 _ _ _ rfl) ?_
        first | exact k1 (by omega) _ hM | exact k2 f rfl (by omega) (by omega) _ hM
      · refine r_iload_4 49 rfl (dd_X12_name_0 25 _ _ _ rfl) ?_
        refine r_iload_2 50 rfl (dd_X12_name_0 26 _ _ _ rfl) ?_
        refine r_if_icmpeq (by omega) (by omega) 53 rfl 83 rfl (dd_X12_name_0 27 _ _ _ rfl) (fun hc5 => ?_) (fun hc5 => ?_)
        · refine r_iconst 84 rfl (dd_X12_name_0 45 _ _ _ rfl) ?_
          refine r_istore_5 86 rfl (by decide) rfl (dd_X12_name_0 46 _ _ _ rfl) ?_
          refine r_aload_0 87 rfl (dd_X12_name_0 47 _ _ _ rfl) ?_
          refine r_iload_3 88 rfl (dd_X12_name_0 48 _ _ _ rfl) ?_
          refine r_ifne (by omega) 91 rfl 95 rfl (dd_X12_name_0 49 _ _ _ rfl) (fun _ => ?_) (fun q => absurd q (by decide))
          refine r_iload_5 97 rfl (dd_X12_name_0 52 _ _ _ rfl) ?_
          refine r_ifeq (by omega) 100 rfl 104 rfl (dd_X12_name_0 53 _ _ _ rfl) (fun _ => ?_) (fun q => absurd q (by decide))
          refine r_iconst 105 rfl (dd_X12_name_0 56 _ _ _ rfl) ?_
          refine r_callV1 (lvl := 10) (mc1 := 0) (ms1 := 0) 0 0 hg rfl md_X12_goesWell zc_X12 hM.kd wi_X12_goesWell wv_X12_goesWell (tb_6 197 _ rfl) (by decide) (by decide) rfl (Nat.le_of_ble_eq_true rfl) (by decide) (by decide) 108 rfl (dd_X12_name_0 57 _ _ _ rfl) ?_
          refine c_X12_goesWell hg hM (by decide) (fun q => absurd q (by decide)) (fun _ h6 hM => ?_)
          dsimp only [zCont, Option.toList, List.cons_append, List.nil_append]
          refine r_ifne (by omega) 111 rfl 113 rfl (dd_X12_name_0 58 _ _ _ rfl) (fun q => absurd q (by decide)) (fun _ => ?_)
          refine r_iconst 112 rfl (dd_X12_name_0 59 _ _ _ rfl) ?_
          refine r_ireturn rfl rfl (dd_X12_name_1 0 _ _ _ rfl) ?_
          first | exact k1 (by omega) _ hM | exact k2 f rfl (by omega) (by omega) _ hM
        · have e6 := hI.since f
          have e7 := hI.names f
          refine r_aload_0 54 rfl (dd_X12_name_0 28 _ _ _ rfl) ?_
          refine m_get 1 hg hM (by unfold z_free; decide) rfl (by decide) (tb_6 57 _ rfl) 57 rfl (dd_X12_name_0 29 _ _ _ rfl) ?_ (fun _ _ _ => rfl)
          refine r_aload_0 58 rfl (dd_X12_name_0 30 _ _ _ rfl) ?_
          refine m_arr 39 hg hM (by decide) (by decide) (tb_6 95 _ rfl) 61 rfl (dd_X12_name_0 31 _ _ _ rfl) ?_ (fun _ _ _ => rfl)
          refine r_iload_1 62 rfl (dd_X12_name_0 32 _ _ _ rfl) ?_
          refine m_iald 39 (f) (by omega) hg hM rfl (by omega) (z_lt (n2 := 20) rfl (by omega)) (by decide) 63 rfl (dd_X12_name_0 33 _ _ _ rfl) ?_
          refine r_isub 64 rfl (dd_X12_name_0 34 _ _ _ rfl) ?_
          refine r_bipush (by decide) 66 rfl (dd_X12_name_0 35 _ _ _ rfl) ?_
          refine r_if_icmpgt (by omega) (by omega) 69 rfl 83 rfl (dd_X12_name_0 36 _ _ _ rfl) (fun hc7 => ?_) (fun hc7 => ?_)
          · refine r_iconst 84 rfl (dd_X12_name_0 45 _ _ _ rfl) ?_
            refine r_istore_5 86 rfl (by decide) rfl (dd_X12_name_0 46 _ _ _ rfl) ?_
            refine r_aload_0 87 rfl (dd_X12_name_0 47 _ _ _ rfl) ?_
            refine r_iload_3 88 rfl (dd_X12_name_0 48 _ _ _ rfl) ?_
            refine r_ifne (by omega) 91 rfl 95 rfl (dd_X12_name_0 49 _ _ _ rfl) (fun _ => ?_) (fun q => absurd q (by decide))
            refine r_iload_5 97 rfl (dd_X12_name_0 52 _ _ _ rfl) ?_
            refine r_ifeq (by omega) 100 rfl 104 rfl (dd_X12_name_0 53 _ _ _ rfl) (fun _ => ?_) (fun q => absurd q (by decide))
            refine r_iconst 105 rfl (dd_X12_name_0 56 _ _ _ rfl) ?_
            refine r_callV1 (lvl := 10) (mc1 := 0) (ms1 := 0) 0 0 hg rfl md_X12_goesWell zc_X12 hM.kd wi_X12_goesWell wv_X12_goesWell (tb_6 197 _ rfl) (by decide) (by decide) rfl (Nat.le_of_ble_eq_true rfl) (by decide) (by decide) 108 rfl (dd_X12_name_0 57 _ _ _ rfl) ?_
            refine c_X12_goesWell hg hM (by decide) (fun q => absurd q (by decide)) (fun _ h8 hM => ?_)
            dsimp only [zCont, Option.toList, List.cons_append, List.nil_append]
            refine r_ifne (by omega) 111 rfl 113 rfl (dd_X12_name_0 58 _ _ _ rfl) (fun q => absurd q (by decide)) (fun _ => ?_)
            refine r_iconst 112 rfl (dd_X12_name_0 59 _ _ _ rfl) ?_
            refine r_ireturn rfl rfl (dd_X12_name_1 0 _ _ _ rfl) ?_
            first | exact k1 (by omega) _ hM | exact k2 f rfl (by omega) (by omega) _ hM
          · refine r_aload_0 70 rfl (dd_X12_name_0 37 _ _ _ rfl) ?_
            refine m_arr 40 hg hM (by decide) (by decide) (tb_6 96 _ rfl) 73 rfl (dd_X12_name_0 38 _ _ _ rfl) ?_ (fun _ _ _ => rfl)
            refine r_iload_1 74 rfl (dd_X12_name_0 39 _ _ _ rfl) ?_
            refine m_iald 40 (f) (by omega) hg hM rfl (by omega) (z_lt (n2 := 20) rfl (by omega)) (by decide) 75 rfl (dd_X12_name_0 40 _ _ _ rfl) ?_
            refine r_iconst 76 rfl (dd_X12_name_0 41 _ _ _ rfl) ?_
            refine r_if_icmpge (by omega) (by omega) 79 rfl 83 rfl (dd_X12_name_0 42 _ _ _ rfl) (fun hc9 => ?_) (fun hc9 => ?_)
            · refine r_iconst 84 rfl (dd_X12_name_0 45 _ _ _ rfl) ?_
              refine r_istore_5 86 rfl (by decide) rfl (dd_X12_name_0 46 _ _ _ rfl) ?_
              refine r_aload_0 87 rfl (dd_X12_name_0 47 _ _ _ rfl) ?_
              refine r_iload_3 88 rfl (dd_X12_name_0 48 _ _ _ rfl) ?_
              refine r_ifne (by omega) 91 rfl 95 rfl (dd_X12_name_0 49 _ _ _ rfl) (fun _ => ?_) (fun q => absurd q (by decide))
              refine r_iload_5 97 rfl (dd_X12_name_0 52 _ _ _ rfl) ?_
              refine r_ifeq (by omega) 100 rfl 104 rfl (dd_X12_name_0 53 _ _ _ rfl) (fun _ => ?_) (fun q => absurd q (by decide))
              refine r_iconst 105 rfl (dd_X12_name_0 56 _ _ _ rfl) ?_
              refine r_callV1 (lvl := 10) (mc1 := 0) (ms1 := 0) 0 0 hg rfl md_X12_goesWell zc_X12 hM.kd wi_X12_goesWell wv_X12_goesWell (tb_6 197 _ rfl) (by decide) (by decide) rfl (Nat.le_of_ble_eq_true rfl) (by decide) (by decide) 108 rfl (dd_X12_name_0 57 _ _ _ rfl) ?_
              refine c_X12_goesWell hg hM (by decide) (fun q => absurd q (by decide)) (fun _ h10 hM => ?_)
              dsimp only [zCont, Option.toList, List.cons_append, List.nil_append]
              refine r_ifne (by omega) 111 rfl 113 rfl (dd_X12_name_0 58 _ _ _ rfl) (fun q => absurd q (by decide)) (fun _ => ?_)
              refine r_iconst 112 rfl (dd_X12_name_0 59 _ _ _ rfl) ?_
              refine r_ireturn rfl rfl (dd_X12_name_1 0 _ _ _ rfl) ?_
              first | exact k1 (by omega) _ hM | exact k2 f rfl (by omega) (by omega) _ hM
            · refine r_iconst 80 rfl (dd_X12_name_0 43 _ _ _ rfl) ?_
              refine r_goto 84 rfl (dd_X12_name_0 44 _ _ _ rfl) ?_
              refine r_istore_5 86 rfl (by decide) rfl (dd_X12_name_0 46 _ _ _ rfl) ?_
              refine r_aload_0 87 rfl (dd_X12_name_0 47 _ _ _ rfl) ?_
              refine r_iload_3 88 rfl (dd_X12_name_0 48 _ _ _ rfl) ?_
              refine r_ifne (by omega) 91 rfl 95 rfl (dd_X12_name_0 49 _ _ _ rfl) (fun _ => ?_) (fun q => absurd q (by decide))
              refine r_iload_5 97 rfl (dd_X12_name_0 52 _ _ _ rfl) ?_
              refine r_ifeq (by omega) 100 rfl 104 rfl (dd_X12_name_0 53 _ _ _ rfl) (fun q => absurd q (by decide)) (fun _ => ?_)
              refine r_iconst 101 rfl (dd_X12_name_0 54 _ _ _ rfl) ?_
              refine r_goto 105 rfl (dd_X12_name_0 55 _ _ _ rfl) ?_
              refine r_callV1 (lvl := 10) (mc1 := 0) (ms1 := 0) 0 0 hg rfl md_X12_goesWell zc_X12 hM.kd wi_X12_goesWell wv_X12_goesWell (tb_6 197 _ rfl) (by decide) (by decide) rfl (Nat.le_of_ble_eq_true rfl) (by decide) (by decide) 108 rfl (dd_X12_name_0 57 _ _ _ rfl) ?_
              refine c_X12_goesWell hg hM (by decide) (fun _ h11 hM => ?_) (fun q => absurd rfl q)
              dsimp only [zCont, Option.toList, List.cons_append, List.nil_append]
              refine r_ifne (by omega) 111 rfl 113 rfl (dd_X12_name_0 58 _ _ _ rfl) (fun _ => ?_) (fun q => absurd q (by decide))
              refine r_aload_0 114 rfl (dd_X12_name_1 1 _ _ _ rfl) ?_
              refine m_arr 40 hg hM (by decide) (by decide) (tb_6 96 _ rfl) 117 rfl (dd_X12_name_1 2 _ _ _ rfl) ?_ (fun _ _ _ => rfl)
              refine r_iload_1 118 rfl (dd_X12_name_1 3 _ _ _ rfl) ?_
              refine r_dup2 rfl rfl 119 rfl (dd_X12_name_1 4 _ _ _ rfl) ?_
              refine m_iald 40 (f) (by omega) hg hM rfl (by omega) (z_lt (n2 := 20) rfl (by omega)) (by decide) 120 rfl (dd_X12_name_1 5 _ _ _ rfl) ?_
              refine r_iconst 121 rfl (dd_X12_name_1 6 _ _ _ rfl) ?_
              refine r_iadd 122 rfl (dd_X12_name_1 7 _ _ _ rfl) ?_
              refine m_iast 40 (f) (by omega) hg hM rfl (by omega) (z_lt (n2 := 20) rfl (by omega)) (by decide) 123 rfl (dd_X12_name_1 8 _ _ _ rfl) (fun h12 hM => ?_)
              refine r_aload_0 124 rfl (dd_X12_name_1 9 _ _ _ rfl) ?_
              refine m_arr 41 hg hM (by decide) (by decide) (tb_6 97 _ rfl) 127 rfl (dd_X12_name_1 10 _ _ _ rfl) ?_ (fun _ _ _ => rfl)
              refine r_iload_1 128 rfl (dd_X12_name_1 11 _ _ _ rfl) ?_
              refine r_iload_2 129 rfl (dd_X12_name_1 12 _ _ _ rfl) ?_
              refine m_iast 41 (f) (by omega) hg hM rfl (by omega) (z_lt (n2 := 20) rfl (by omega)) (by decide) 130 rfl (dd_X12_name_1 13 _ _ _ rfl) (fun h13 hM => ?_)
              refine r_aload_0 131 rfl (dd_X12_name_1 14 _ _ _ rfl) ?_
              refine m_arr 39 hg hM (by decide) (by decide) (tb_6 95 _ rfl) 134 rfl (dd_X12_name_1 15 _ _ _ rfl) ?_ (fun _ _ _ => rfl)
              refine r_iload_1 135 rfl (dd_X12_name_1 16 _ _ _ rfl) ?_
              refine r_aload_0 136 rfl (dd_X12_name_1 17 _ _ _ rfl) ?_
              refine m_get 1 hg hM (by unfold z_free; decide) rfl (by decide) (tb_6 57 _ rfl) 139 rfl (dd_X12_name_1 18 _ _ _ rfl) ?_ (fun _ _ _ => rfl)
              refine m_iast 39 (f) (by omega) hg hM rfl (by omega) (z_lt (n2 := 20) rfl (by omega)) (by decide) 140 rfl (dd_X12_name_1 19 _ _ _ rfl) (fun h14 hM => ?_)
              refine r_iload_4 142 rfl (dd_X12_name_1 20 _ _ _ rfl) ?_
              refine r_ireturn rfl rfl (dd_X12_name_1 21 _ _ _ rfl) ?_
              exact k0 f rfl (by omega) (by omega) _ hM
    · dsimp only [zCont, Option.toList, List.cons_append, List.nil_append]
      refine r_ifeq (by omega) 16 rfl 20 rfl (dd_X12_name_0 7 _ _ _ rfl) (fun _ => ?_) (fun q => absurd q (by decide))
      refine r_iconst 21 rfl (dd_X12_name_0 10 _ _ _ rfl) ?_
      refine r_istore_3 22 rfl (by decide) rfl (dd_X12_name_0 11 _ _ _ rfl) ?_
      refine r_iload_3 23 rfl (dd_X12_name_0 12 _ _ _ rfl) ?_
      refine r_ifeq (by omega) 26 rfl 34 rfl (dd_X12_name_0 13 _ _ _ rfl) (fun _ => ?_) (fun q => absurd q (by decide))
      refine r_iconst 35 rfl (dd_X12_name_0 18 _ _ _ rfl) ?_
      refine r_istore_4 37 rfl (by decide) rfl (dd_X12_name_0 19 _ _ _ rfl) ?_
      refine r_iload_3 38 rfl (dd_X12_name_0 20 _ _ _ rfl) ?_
      refine r_ifeq (by omega) 41 rfl 83 rfl (dd_X12_name_0 21 _ _ _ rfl) (fun _ => ?_) (fun q => absurd q (by decide))
      refine r_iconst 84 rfl (dd_X12_name_0 45 _ _ _ rfl) ?_
      refine r_istore_5 86 rfl (by decide) rfl (dd_X12_name_0 46 _ _ _ rfl) ?_
      refine r_aload_0 87 rfl (dd_X12_name_0 47 _ _ _ rfl) ?_
      refine r_iload_3 88 rfl (dd_X12_name_0 48 _ _ _ rfl) ?_
      refine r_ifne (by omega) 91 rfl 95 rfl (dd_X12_name_0 49 _ _ _ rfl) (fun q => absurd q (by decide)) (fun _ => ?_)
      refine r_iconst 92 rfl (dd_X12_name_0 50 _ _ _ rfl) ?_
      refine r_goto 105 rfl (dd_X12_name_0 51 _ _ _ rfl) ?_
      refine r_callV1 (lvl := 10) (mc1 := 0) (ms1 := 0) 0 0 hg rfl md_X12_goesWell zc_X12 hM.kd wi_X12_goesWell wv_X12_goesWell (tb_6 197 _ rfl) (by decide) (by decide) rfl (Nat.le_of_ble_eq_true rfl) (by decide) (by decide) 108 rfl (dd_X12_name_0 57 _ _ _ rfl) ?_
      refine c_X12_goesWell hg hM (by decide) (fun q => absurd q (by decide)) (fun _ h15 hM => ?_)
      dsimp only [zCont, Option.toList, List.cons_append, List.nil_append]
      refine r_ifne (by omega) 111 rfl 113 rfl (dd_X12_name_0 58 _ _ _ rfl) (fun q => absurd q (by decide)) (fun _ => ?_)
      refine r_iconst 112 rfl (dd_X12_name_0 59 _ _ _ rfl) ?_
      refine r_ireturn rfl rfl (dd_X12_name_1 0 _ _ _ rfl) ?_
      first | exact k1 (by omega) _ hM | exact k2 f rfl (by omega) (by omega) _ hM
  · dsimp only [zCont, Option.toList, List.cons_append, List.nil_append]
    refine r_ifeq (by omega) 8 rfl 20 rfl (dd_X12_name_0 3 _ _ _ rfl) (fun _ => ?_) (fun q => absurd q (by decide))
    refine r_iconst 21 rfl (dd_X12_name_0 10 _ _ _ rfl) ?_
    refine r_istore_3 22 rfl (by decide) rfl (dd_X12_name_0 11 _ _ _ rfl) ?_
    refine r_iload_3 23 rfl (dd_X12_name_0 12 _ _ _ rfl) ?_
    refine r_ifeq (by omega) 26 rfl 34 rfl (dd_X12_name_0 13 _ _ _ rfl) (fun _ => ?_) (fun q => absurd q (by decide))
    refine r_iconst 35 rfl (dd_X12_name_0 18 _ _ _ rfl) ?_
    refine r_istore_4 37 rfl (by decide) rfl (dd_X12_name_0 19 _ _ _ rfl) ?_
    refine r_iload_3 38 rfl (dd_X12_name_0 20 _ _ _ rfl) ?_
    refine r_ifeq (by omega) 41 rfl 83 rfl (dd_X12_name_0 21 _ _ _ rfl) (fun _ => ?_) (fun q => absurd q (by decide))
    refine r_iconst 84 rfl (dd_X12_name_0 45 _ _ _ rfl) ?_
    refine r_istore_5 86 rfl (by decide) rfl (dd_X12_name_0 46 _ _ _ rfl) ?_
    refine r_aload_0 87 rfl (dd_X12_name_0 47 _ _ _ rfl) ?_
    refine r_iload_3 88 rfl (dd_X12_name_0 48 _ _ _ rfl) ?_
    refine r_ifne (by omega) 91 rfl 95 rfl (dd_X12_name_0 49 _ _ _ rfl) (fun q => absurd q (by decide)) (fun _ => ?_)
    refine r_iconst 92 rfl (dd_X12_name_0 50 _ _ _ rfl) ?_
    refine r_goto 105 rfl (dd_X12_name_0 51 _ _ _ rfl) ?_
    refine r_callV1 (lvl := 10) (mc1 := 0) (ms1 := 0) 0 0 hg rfl md_X12_goesWell zc_X12 hM.kd wi_X12_goesWell wv_X12_goesWell (tb_6 197 _ rfl) (by decide) (by decide) rfl (Nat.le_of_ble_eq_true rfl) (by decide) (by decide) 108 rfl (dd_X12_name_0 57 _ _ _ rfl) ?_
    refine c_X12_goesWell hg hM (by decide) (fun q => absurd q (by decide)) (fun _ h16 hM => ?_)
    dsimp only [zCont, Option.toList, List.cons_append, List.nil_append]
    refine r_ifne (by omega) 111 rfl 113 rfl (dd_X12_name_0 58 _ _ _ rfl) (fun q => absurd q (by decide)) (fun _ => ?_)
    refine r_iconst 112 rfl (dd_X12_name_0 59 _ _ _ rfl) ?_
    refine r_ireturn rfl rfl (dd_X12_name_1 0 _ _ _ rfl) ?_
    first | exact k1 (by omega) _ hM | exact k2 f rfl (by omega) (by omega) _ hM
