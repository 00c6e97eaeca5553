abbrev mX12_vehicleOf : zM := (RX12, cX12_vehicleOf, 4, (Option.some Jvm.ClassFile.FieldType.int), [], "vehicleOf", 10)
set_option maxRecDepth 20000 in
theorem c_X12_vehicleOf {g : zGT} {Q : zO → zH → Prop} {h : zH} (hg : zG g) {h0 : zH} {m : Nat} {A : Nat → Nat} {S : zS} {n : Nat} {t : Int} (hI : MInv n S) (hM : MI h0 m A S t h) {a : Int} (ha : zR a) (k : Q (.inl (some (.int (zI (zvof S a (S.1 4).toNat))))) h) : zC g (.code yX12_vehicleOf cX12_vehicleOf 4 (Option.some Jvm.ClassFile.FieldType.int)) yX12_vehicleOf 10 0 0 [.ref m, .int (zI a)] h Q := by
  refine zC_of (M := mX12_vehicleOf) (lv := [some (.ref m), some (.int (zI a)), none, none]) (by decide) rfl rfl (Nat.le_of_ble_eq_true rfl) rfl rfl ?_
  have e1 := hI.vehicles
  refine r_iconst 1 rfl (dd_X12_vehicleOf 0 _ _ _ rfl) ?_
  refine r_istore_2 2 rfl (by decide) rfl (dd_X12_vehicleOf 1 _ _ _ rfl) ?_
  refine r_iconst 3 rfl (dd_X12_vehicleOf 2 _ _ _ rfl) ?_
  refine r_istore_3 4 rfl (by decide) rfl (dd_X12_vehicleOf 3 _ _ _ rfl) ?_
  have L4 : ∀ (tt : Nat), ∀ (j : Nat) (f b : Int), 12 - j < tt → (j ≤ 12) → ((j : Int) ≤ S.1 4) → (f = zvof S a j) → (b = j) → zX g mX12_vehicleOf 0 0 Q 4 [some (.ref m), some (.int (zI a)), some (.int (zI f)), some (.int (zI b))] [] h 0 0 := by
    intro tt4
    induction tt4 with
    | zero => intros; exfalso; omega
    | succ tt4 ih4 =>
      intro j f b hlt4 hj hj2 hf hb
      have e2 := hI.serial j
      refine r_iload_3 5 rfl (dd_X12_vehicleOf 4 _ _ _ rfl) ?_
      refine r_aload_0 6 rfl (dd_X12_vehicleOf 5 _ _ _ rfl) ?_
      refine m_get 4 hg hM (by unfold z_free; decide) rfl (by decide) (tb_6 60 _ rfl) 9 rfl (dd_X12_vehicleOf 6 _ _ _ rfl) ?_ (fun _ _ _ => rfl)
      refine r_if_icmpge (by omega) (by omega) 12 rfl 34 rfl (dd_X12_vehicleOf 7 _ _ _ rfl) (fun hc1 => ?_) (fun hc1 => ?_)
      · refine r_iload_2 35 rfl (dd_X12_vehicleOf 20 _ _ _ rfl) ?_
        refine r_ireturn rfl rfl (dd_X12_vehicleOf 21 _ _ _ rfl) ?_
        rw [show (S.1 4).toNat = j by omega, ← hf] at k
        exact k
      · refine r_aload_0 13 rfl (dd_X12_vehicleOf 8 _ _ _ rfl) ?_
        refine m_arr 5 hg hM (by decide) (by decide) (tb_6 61 _ rfl) 16 rfl (dd_X12_vehicleOf 9 _ _ _ rfl) ?_ (fun _ _ _ => rfl)
        refine r_iload_3 17 rfl (dd_X12_vehicleOf 10 _ _ _ rfl) ?_
        refine m_iald 5 (j) (by omega) hg hM rfl (by omega) (z_lt (n2 := 12) rfl (by omega)) (by decide) 18 rfl (dd_X12_vehicleOf 11 _ _ _ rfl) ?_
        refine r_iload_1 19 rfl (dd_X12_vehicleOf 12 _ _ _ rfl) ?_
        refine r_if_icmpne (by omega) (by omega) 22 rfl 26 rfl (dd_X12_vehicleOf 13 _ _ _ rfl) (fun hc2 => ?_) (fun hc2 => ?_)
        · refine r_iload_2 27 rfl (dd_X12_vehicleOf 16 _ _ _ rfl) ?_
          refine r_istore_2 28 rfl (by decide) rfl (dd_X12_vehicleOf 17 _ _ _ rfl) ?_
          refine r_iinc_3 31 rfl (by decide) rfl (dd_X12_vehicleOf 18 _ _ _ rfl) ?_
          refine r_goto 4 rfl (dd_X12_vehicleOf 19 _ _ _ rfl) ?_
          exact r_sub _ (z_s1 (z_s1 (z_s1 (z_s1 z_sN)))) (ih4 (j + 1) _ _ (by omega) (by omega) (by omega) (by unfold zvof; first | (rw [if_pos (by omega)]; omega) | (rw [if_neg (by omega)]; exact hf)) (by omega))
        · refine r_iload_3 23 rfl (dd_X12_vehicleOf 14 _ _ _ rfl) ?_
          refine r_goto 27 rfl (dd_X12_vehicleOf 15 _ _ _ rfl) ?_
          refine r_istore_2 28 rfl (by decide) rfl (dd_X12_vehicleOf 17 _ _ _ rfl) ?_
          refine r_iinc_3 31 rfl (by decide) rfl (dd_X12_vehicleOf 18 _ _ _ rfl) ?_
          refine r_goto 4 rfl (dd_X12_vehicleOf 19 _ _ _ rfl) ?_
          exact r_sub _ (z_s1 (z_s1 (z_s1 (z_s1 z_sN)))) (ih4 (j + 1) _ _ (by omega) (by omega) (by omega) (by unfold zvof; first | (rw [if_pos (by omega)]; omega) | (rw [if_neg (by omega)]; exact hf)) (by omega))
  exact r_sub _ (z_s1 (z_s1 (z_s1 (z_s1 z_sN)))) (L4 1000000 0 _ _ (by omega) (by omega) (by omega) rfl rfl)

abbrev mX12_change : zM := (RX12, cX12_change, 2, (Option.none : Option Jvm.ClassFile.FieldType), [], "change", 10)
set_option maxRecDepth 20000 in
theorem c_X12_change {g : zGT} {Q : zO → zH → Prop} {h : zH} (hg : zG g) {h0 : zH} {m : Nat} {A : Nat → Nat} {S : zS} {t : Int} (hM : MI h0 m A S t h) {s a its : Int} (hs : 0 ≤ s ∧ s ≤ 4) (ha : 0 ≤ a ∧ a ≤ 4) (hi : zR its) (hx42 : fi_ h m 42 = s) (hx43 : fi_ h m 43 = a) (k : ∀ h1, MI h0 m A S t h1 → fi_ h1 m 42 = (zchg (s, a) its).1 → fi_ h1 m 43 = (zchg (s, a) its).2 → Q (.inl none) h1) : zC g (.code yX12_change cX12_change 2 (Option.none : Option Jvm.ClassFile.FieldType)) yX12_change 10 0 0 [.ref m, .int (zI its)] h Q := by
  refine zC_of (M := mX12_change) (lv := [some (.ref m), some (.int (zI its))]) (by decide) rfl rfl (Nat.le_of_ble_eq_true rfl) rfl rfl ?_
  refine r_aload_0 1 rfl (dd_X12_change 0 _ _ _ rfl) ?_
  refine m_getx 42 hg hM hx42 (by decide) (tb_6 98 _ rfl) 4 rfl (dd_X12_change 1 _ _ _ rfl) ?_ (fun _ _ _ => rfl)
  refine r_iconst 5 rfl (dd_X12_change 2 _ _ _ rfl) ?_
  refine r_if_icmpne (by omega) (by omega) 8 rfl 9 rfl (dd_X12_change 3 _ _ _ rfl) (fun hc1 => ?_) (fun hc1 => ?_)
  · refine r_iload_1 10 rfl (dd_X12_change 5 _ _ _ rfl) ?_
    refine r_bipush (by decide) 12 rfl (dd_X12_change 6 _ _ _ rfl) ?_
    refine r_if_icmpne (by omega) (by omega) 15 rfl 23 rfl (dd_X12_change 7 _ _ _ rfl) (fun hc2 => ?_) (fun hc2 => ?_)
    · refine r_aload_0 24 rfl (dd_X12_change 12 _ _ _ rfl) ?_
      refine m_getx 42 hg hM hx42 (by decide) (tb_6 98 _ rfl) 27 rfl (dd_X12_change 13 _ _ _ rfl) ?_ (fun _ _ _ => rfl)
      refine r_iconst 28 rfl (dd_X12_change 14 _ _ _ rfl) ?_
      refine r_if_icmpne (by omega) (by omega) 31 rfl 51 rfl (dd_X12_change 15 _ _ _ rfl) (fun hc3 => ?_) (fun hc3 => ?_)
      · refine r_iload_1 52 rfl (dd_X12_change 26 _ _ _ rfl) ?_
        refine r_iconst 53 rfl (dd_X12_change 27 _ _ _ rfl) ?_
        refine r_if_icmpne (by omega) (by omega) 56 rfl 72 rfl (dd_X12_change 28 _ _ _ rfl) (fun hc4 => ?_) (fun hc4 => ?_)
        · refine r_aload_0 73 rfl (dd_X12_change 37 _ _ _ rfl) ?_
          refine r_iload_1 74 rfl (dd_X12_change 38 _ _ _ rfl) ?_
          refine r_iconst 75 rfl (dd_X12_change 39 _ _ _ rfl) ?_
          refine r_if_icmpne (by omega) (by omega) 78 rfl 82 rfl (dd_X12_change 40 _ _ _ rfl) (fun hc5 => ?_) (fun hc5 => ?_)
          · refine r_iload_1 83 rfl (dd_X12_change 43 _ _ _ rfl) ?_
            refine r_iconst 84 rfl (dd_X12_change 44 _ _ _ rfl) ?_
            refine r_if_icmpne (by omega) (by omega) 87 rfl 91 rfl (dd_X12_change 45 _ _ _ rfl) (fun hc6 => ?_) (fun hc6 => ?_)
            · refine r_aload_0 92 rfl (dd_X12_change 48 _ _ _ rfl) ?_
              refine m_getx 42 hg hM hx42 (by decide) (tb_6 98 _ rfl) 95 rfl (dd_X12_change 49 _ _ _ rfl) ?_ (fun _ _ _ => rfl)
              refine m_putx 42 hg hM (by decide) (by decide) rfl (fun _ _ _ => rfl) rfl rfl (tb_6 98 _ rfl) 98 rfl (dd_X12_change 50 _ _ _ rfl) (fun h7 hM hx42 hk => ?_)
              try replace hx43 := (hk 43 (by decide)).trans hx43
              refine r_vreturn rfl (dd_X12_change 51 _ _ _ rfl) ?_
              exact k _ hM (hx42.trans (by simp [zchg, *])) (hx43.trans (by simp [zchg, *]))
            · refine r_iconst 88 rfl (dd_X12_change 46 _ _ _ rfl) ?_
              refine r_goto 95 rfl (dd_X12_change 47 _ _ _ rfl) ?_
              refine m_putx 42 hg hM (by decide) (by decide) rfl (fun _ _ _ => rfl) rfl rfl (tb_6 98 _ rfl) 98 rfl (dd_X12_change 50 _ _ _ rfl) (fun h8 hM hx42 hk => ?_)
              try replace hx43 := (hk 43 (by decide)).trans hx43
              refine r_vreturn rfl (dd_X12_change 51 _ _ _ rfl) ?_
              exact k _ hM (hx42.trans (by simp [zchg, *])) (hx43.trans (by simp [zchg, *]))
          · refine r_iconst 79 rfl (dd_X12_change 41 _ _ _ rfl) ?_
            refine r_goto 95 rfl (dd_X12_change 42 _ _ _ rfl) ?_
            refine m_putx 42 hg hM (by decide) (by decide) rfl (fun _ _ _ => rfl) rfl rfl (tb_6 98 _ rfl) 98 rfl (dd_X12_change 50 _ _ _ rfl) (fun h9 hM hx42 hk => ?_)
            try replace hx43 := (hk 43 (by decide)).trans hx43
            refine r_vreturn rfl (dd_X12_change 51 _ _ _ rfl) ?_
            exact k _ hM (hx42.trans (by simp [zchg, *])) (hx43.trans (by simp [zchg, *]))
        · refine r_aload_0 57 rfl (dd_X12_change 29 _ _ _ rfl) ?_
          refine r_aload_0 58 rfl (dd_X12_change 30 _ _ _ rfl) ?_
          refine m_getx 42 hg hM hx42 (by decide) (tb_6 98 _ rfl) 61 rfl (dd_X12_change 31 _ _ _ rfl) ?_ (fun _ _ _ => rfl)
          refine m_putx 43 hg hM (by decide) (by decide) rfl (fun _ _ _ => rfl) rfl rfl (tb_6 99 _ rfl) 64 rfl (dd_X12_change 32 _ _ _ rfl) (fun h10 hM hx43 hk => ?_)
          try replace hx42 := (hk 42 (by decide)).trans hx42
          refine r_aload_0 65 rfl (dd_X12_change 33 _ _ _ rfl) ?_
          refine r_iconst 66 rfl (dd_X12_change 34 _ _ _ rfl) ?_
          refine m_putx 42 hg hM (by decide) (by decide) rfl (fun _ _ _ => rfl) rfl rfl (tb_6 98 _ rfl) 69 rfl (dd_X12_change 35 _ _ _ rfl) (fun h11 hM hx42 hk => ?_)
          try replace hx43 := (hk 43 (by decide)).trans hx43
          refine r_goto 98 rfl (dd_X12_change 36 _ _ _ rfl) ?_
          refine r_vreturn rfl (dd_X12_change 51 _ _ _ rfl) ?_
          exact k _ hM (hx42.trans (by simp [zchg, *])) (hx43.trans (by simp [zchg, *]))
      · refine r_aload_0 32 rfl (dd_X12_change 16 _ _ _ rfl) ?_
        refine r_iload_1 33 rfl (dd_X12_change 17 _ _ _ rfl) ?_
        refine r_iconst 34 rfl (dd_X12_change 18 _ _ _ rfl) ?_
        refine r_if_icmpne (by omega) (by omega) 37 rfl 44 rfl (dd_X12_change 19 _ _ _ rfl) (fun hc12 => ?_) (fun hc12 => ?_)
        · refine r_iconst 45 rfl (dd_X12_change 23 _ _ _ rfl) ?_
          refine m_putx 42 hg hM (by decide) (by decide) rfl (fun _ _ _ => rfl) rfl rfl (tb_6 98 _ rfl) 48 rfl (dd_X12_change 24 _ _ _ rfl) (fun h13 hM hx42 hk => ?_)
          try replace hx43 := (hk 43 (by decide)).trans hx43
          refine r_goto 98 rfl (dd_X12_change 25 _ _ _ rfl) ?_
          refine r_vreturn rfl (dd_X12_change 51 _ _ _ rfl) ?_
          exact k _ hM (hx42.trans (by simp [zchg, *])) (hx43.trans (by simp [zchg, *]))
        · refine r_aload_0 38 rfl (dd_X12_change 20 _ _ _ rfl) ?_
          refine m_getx 43 hg hM hx43 (by decide) (tb_6 99 _ rfl) 41 rfl (dd_X12_change 21 _ _ _ rfl) ?_ (fun _ _ _ => rfl)
          refine r_goto 45 rfl (dd_X12_change 22 _ _ _ rfl) ?_
          refine m_putx 42 hg hM (by decide) (by decide) rfl (fun _ _ _ => rfl) rfl rfl (tb_6 98 _ rfl) 48 rfl (dd_X12_change 24 _ _ _ rfl) (fun h14 hM hx42 hk => ?_)
          try replace hx43 := (hk 43 (by decide)).trans hx43
          refine r_goto 98 rfl (dd_X12_change 25 _ _ _ rfl) ?_
          refine r_vreturn rfl (dd_X12_change 51 _ _ _ rfl) ?_
          exact k _ hM (hx42.trans (by simp [zchg, *])) (hx43.trans (by simp [zchg, *]))
    · refine r_aload_0 16 rfl (dd_X12_change 8 _ _ _ rfl) ?_
      refine r_iconst 17 rfl (dd_X12_change 9 _ _ _ rfl) ?_
      refine m_putx 42 hg hM (by decide) (by decide) rfl (fun _ _ _ => rfl) rfl rfl (tb_6 98 _ rfl) 20 rfl (dd_X12_change 10 _ _ _ rfl) (fun h15 hM hx42 hk => ?_)
      try replace hx43 := (hk 43 (by decide)).trans hx43
      refine r_goto 98 rfl (dd_X12_change 11 _ _ _ rfl) ?_
      refine r_vreturn rfl (dd_X12_change 51 _ _ _ rfl) ?_
      exact k _ hM (hx42.trans (by simp [zchg, *])) (hx43.trans (by simp [zchg, *]))
  · refine r_vreturn rfl (dd_X12_change 4 _ _ _ rfl) ?_
    exact k _ hM (hx42.trans (by simp [zchg, *])) (hx43.trans (by simp [zchg, *]))

abbrev mX12_stateOn : zM := (RX12, cX12_stateOn, 4, (Option.some Jvm.ClassFile.FieldType.int), [], "stateOn", 11)
set_option maxRecDepth 20000 in
theorem c_X12_stateOn {g : zGT} {Q : zO → zH → Prop} {h : zH} (hg : zG g) {h0 : zH} {m : Nat} {A : Nat → Nat} {S : zS} {n : Nat} {t : Int} (hI : MInv n S) (hM : MI h0 m A S t h) {v : Nat} {w : Int} (hv : v < 12) (hw : zR w) (k : ∀ h1, MI h0 m A S t h1 → Q (.inl (some (.int (zI (zstate S v w))))) h1) : zC g (.code yX12_stateOn cX12_stateOn 4 (Option.some Jvm.ClassFile.FieldType.int)) yX12_stateOn 11 0 0 [.ref m, .int (zI v), .int (zI w)] h Q := by
  refine zC_of (M := mX12_stateOn) (lv := [some (.ref m), some (.int (zI v)), some (.int (zI w)), none]) (by decide) rfl rfl (Nat.le_of_ble_eq_true rfl) rfl rfl ?_
  have e6 := hI.events v
  refine r_aload_0 1 rfl (dd_X12_stateOn 0 _ _ _ rfl) ?_
  refine r_iconst 2 rfl (dd_X12_stateOn 1 _ _ _ rfl) ?_
  refine m_putx 42 hg hM (by decide) (by decide) rfl (fun _ _ _ => rfl) rfl rfl (tb_6 98 _ rfl) 5 rfl (dd_X12_stateOn 2 _ _ _ rfl) (fun h1 hM hx42 hk => ?_)
  try replace hx43 := (hk 43 (by decide)).trans hx43
  refine r_aload_0 6 rfl (dd_X12_stateOn 3 _ _ _ rfl) ?_
  refine r_iconst 7 rfl (dd_X12_stateOn 4 _ _ _ rfl) ?_
  refine m_putx 43 hg hM (by decide) (by decide) rfl (fun _ _ _ => rfl) rfl rfl (tb_6 99 _ rfl) 10 rfl (dd_X12_stateOn 5 _ _ _ rfl) (fun h2 hM hx43 hk => ?_)
  try replace hx42 := (hk 42 (by decide)).trans hx42
  refine r_bipush (by decide) 12 rfl (dd_X12_stateOn 6 _ _ _ rfl) ?_
  refine r_iload_1 13 rfl (dd_X12_stateOn 7 _ _ _ rfl) ?_
  refine r_imul 14 rfl (dd_X12_stateOn 8 _ _ _ rfl) ?_
  refine r_istore_3 15 rfl (by decide) rfl (dd_X12_stateOn 9 _ _ _ rfl) ?_
  have L15 : ∀ (tt : Nat), ∀ (j : Nat) (a : Int) (h : zH), 30 - j < tt → ((j : Int) ≤ S.2 8 v) → (a = 30 * v + j) → (∀ i, i < j → S.2 11 (30 * v + i) ≤ w) → (MI h0 m A S t h) → (fi_ h m 42 = (zst S v j).1) → (fi_ h m 43 = (zst S v j).2) → zX g mX12_stateOn 0 0 Q 15 [some (.ref m), some (.int (zI v)), some (.int (zI w)), some (.int (zI a))] [] h 0 0 := by
    intro tt15
    induction tt15 with
    | zero => intros; exfalso; omega
    | succ tt15 ih15 =>
      intro j a h hlt15 hj ha hall hM hx42 hx43
      have e4 := hI.day (30 * v + j)
      have e5 := hI.kind (30 * v + j)
      have e6 := hI.events v
      refine r_iload_3 16 rfl (dd_X12_stateOn 10 _ _ _ rfl) ?_
      refine r_bipush (by decide) 18 rfl (dd_X12_stateOn 11 _ _ _ rfl) ?_
      refine r_iload_1 19 rfl (dd_X12_stateOn 12 _ _ _ rfl) ?_
      refine r_imul 20 rfl (dd_X12_stateOn 13 _ _ _ rfl) ?_
      refine r_aload_0 21 rfl (dd_X12_stateOn 14 _ _ _ rfl) ?_
      refine m_arr 8 hg hM (by decide) (by decide) (tb_6 64 _ rfl) 24 rfl (dd_X12_stateOn 15 _ _ _ rfl) ?_ (fun _ _ _ => rfl)
      refine r_iload_1 25 rfl (dd_X12_stateOn 16 _ _ _ rfl) ?_
      refine m_iald 8 (v) (by omega) hg hM rfl (by omega) (z_lt (n2 := 12) rfl (by omega)) (by decide) 26 rfl (dd_X12_stateOn 17 _ _ _ rfl) ?_
      refine r_iadd 27 rfl (dd_X12_stateOn 18 _ _ _ rfl) ?_
      refine r_if_icmpge (by omega) (by omega) 30 rfl 56 rfl (dd_X12_stateOn 19 _ _ _ rfl) (fun hc3 => ?_) (fun hc3 => ?_)
      · refine r_aload_0 57 rfl (dd_X12_stateOn 34 _ _ _ rfl) ?_
        refine m_getx 42 hg hM hx42 (by decide) (tb_6 98 _ rfl) 60 rfl (dd_X12_stateOn 35 _ _ _ rfl) ?_ (fun _ _ _ => rfl)
        refine r_ireturn rfl rfl (dd_X12_stateOn 36 _ _ _ rfl) ?_
        have hz : zev S v w = j := zev_eq (by omega) hall (by omega)
        have k := k _ hM
        unfold zstate at k
        rw [hz] at k
        exact k
      · refine r_aload_0 31 rfl (dd_X12_stateOn 20 _ _ _ rfl) ?_
        refine m_arr 11 hg hM (by decide) (by decide) (tb_6 67 _ rfl) 34 rfl (dd_X12_stateOn 21 _ _ _ rfl) ?_ (fun _ _ _ => rfl)
        refine r_iload_3 35 rfl (dd_X12_stateOn 22 _ _ _ rfl) ?_
        refine m_iald 11 (30 * v + j) (by omega) hg hM rfl (by omega) (z_lt (n2 := 360) rfl (by omega)) (by decide) 36 rfl (dd_X12_stateOn 23 _ _ _ rfl) ?_
        refine r_iload_2 37 rfl (dd_X12_stateOn 24 _ _ _ rfl) ?_
        refine r_if_icmpgt (by omega) (by omega) 40 rfl 56 rfl (dd_X12_stateOn 25 _ _ _ rfl) (fun hc4 => ?_) (fun hc4 => ?_)
        · refine r_aload_0 57 rfl (dd_X12_stateOn 34 _ _ _ rfl) ?_
          refine m_getx 42 hg hM hx42 (by decide) (tb_6 98 _ rfl) 60 rfl (dd_X12_stateOn 35 _ _ _ rfl) ?_ (fun _ _ _ => rfl)
          refine r_ireturn rfl rfl (dd_X12_stateOn 36 _ _ _ rfl) ?_
          have hz : zev S v w = j := zev_eq (by omega) hall (by omega)
          have k := k _ hM
          unfold zstate at k
          rw [hz] at k
          exact k
        · refine r_aload_0 41 rfl (dd_X12_stateOn 26 _ _ _ rfl) ?_
          refine r_aload_0 42 rfl (dd_X12_stateOn 27 _ _ _ rfl) ?_
          refine m_arr 9 hg hM (by decide) (by decide) (tb_6 65 _ rfl) 45 rfl (dd_X12_stateOn 28 _ _ _ rfl) ?_ (fun _ _ _ => rfl)
          refine r_iload_3 46 rfl (dd_X12_stateOn 29 _ _ _ rfl) ?_
          refine m_iald 9 (30 * v + j) (by omega) hg hM rfl (by omega) (z_lt (n2 := 360) rfl (by omega)) (by decide) 47 rfl (dd_X12_stateOn 30 _ _ _ rfl) ?_
          refine r_callV1 (lvl := 10) (mc1 := 0) (ms1 := 0) 0 0 hg rfl md_X12_change zc_X12 hM.kd wi_X12_change wv_X12_change (tb_7 20 _ rfl) (by decide) (by decide) rfl (Nat.le_of_ble_eq_true rfl) (by decide) (by decide) 50 rfl (dd_X12_stateOn 31 _ _ _ rfl) ?_
          refine c_X12_change hg hM (zst_range S v j).1 (zst_range S v j).2 (by omega) hx42 hx43 (fun h5 hM hx42 hx43 => ?_)
          dsimp only [zCont, Option.toList, List.cons_append, List.nil_append]
          refine r_iinc_3 53 rfl (by decide) rfl (dd_X12_stateOn 32 _ _ _ rfl) ?_
          refine r_goto 15 rfl (dd_X12_stateOn 33 _ _ _ rfl) ?_
          exact r_sub _ (z_s1 (z_s1 (z_s1 (z_s1 z_sN)))) (ih15 (j + 1) _ _ (by omega) (by omega) (by omega) (lt_s hall (by omega)) hM hx42 hx43)
  exact r_sub _ (z_s1 (z_s1 (z_s1 (z_s1 z_sN)))) (L15 1000000 0 _ _ (by omega) (by omega) (by omega) lt_0 hM hx42 hx43)

abbrev mX12_latest : zM := (RX12, cX12_latest, 7, (Option.some Jvm.ClassFile.FieldType.int), [], "latest", 11)
set_option maxRecDepth 20000 in
theorem c_X12_latest {g : zGT} {Q : zO → zH → Prop} {h : zH} (hg : zG g) {h0 : zH} {m : Nat} {A : Nat → Nat} {S : zS} {n : Nat} {t : Int} (hI : MInv n S) (hM : MI h0 m A S t h) {v : Nat} {w its wo : Int} (hv : v < 12) (hw : zR w) (hi : zR its) (k : Q (.inl (some (.int (zI (zlast S v w its wo))))) h) : zC g (.code yX12_latest cX12_latest 7 (Option.some Jvm.ClassFile.FieldType.int)) yX12_latest 11 0 0 [.ref m, .int (zI v), .int (zI w), .int (zI its), .int (zI wo)] h Q := by
  refine zC_of (M := mX12_latest) (lv := [some (.ref m), some (.int (zI v)), some (.int (zI w)), some (.int (zI its)), some (.int (zI wo)), none, none]) (by decide) rfl rfl (Nat.le_of_ble_eq_true rfl) rfl rfl ?_
  have e6 := hI.events v
  refine r_iload_4 2 rfl (dd_X12_latest 0 _ _ _ rfl) ?_
  refine r_istore_5 4 rfl (by decide) rfl (dd_X12_latest 1 _ _ _ rfl) ?_
  refine r_bipush (by decide) 6 rfl (dd_X12_latest 2 _ _ _ rfl) ?_
  refine r_iload_1 7 rfl (dd_X12_latest 3 _ _ _ rfl) ?_
  refine r_imul 8 rfl (dd_X12_latest 4 _ _ _ rfl) ?_
  refine r_istore_6 10 rfl (by decide) rfl (dd_X12_latest 5 _ _ _ rfl) ?_
  have L10 : ∀ (tt : Nat), ∀ (j : Nat) (a f : Int), 30 - j < tt → ((j : Int) ≤ S.2 8 v) → (a = 30 * v + j) → (f = zlat S v its wo j) → (∀ i, i < j → S.2 11 (30 * v + i) ≤ w) → zX g mX12_latest 0 0 Q 10 [some (.ref m), some (.int (zI v)), some (.int (zI w)), some (.int (zI its)), none, some (.int (zI f)), some (.int (zI a))] [] h 0 0 := by
    intro tt10
    induction tt10 with
    | zero => intros; exfalso; omega
    | succ tt10 ih10 =>
      intro j a f hlt10 hj ha hf hall
      have e4 := hI.day (30 * v + j)
      have e5 := hI.kind (30 * v + j)
      have e6 := hI.events v
      refine r_iload_6 12 rfl (dd_X12_latest 6 _ _ _ rfl) ?_
      refine r_bipush (by decide) 14 rfl (dd_X12_latest 7 _ _ _ rfl) ?_
      refine r_iload_1 15 rfl (dd_X12_latest 8 _ _ _ rfl) ?_
      refine r_imul 16 rfl (dd_X12_latest 9 _ _ _ rfl) ?_
      refine r_aload_0 17 rfl (dd_X12_latest 10 _ _ _ rfl) ?_
      refine m_arr 8 hg hM (by decide) (by decide) (tb_6 64 _ rfl) 20 rfl (dd_X12_latest 11 _ _ _ rfl) ?_ (fun _ _ _ => rfl)
      refine r_iload_1 21 rfl (dd_X12_latest 12 _ _ _ rfl) ?_
      refine m_iald 8 (v) (by omega) hg hM rfl (by omega) (z_lt (n2 := 12) rfl (by omega)) (by decide) 22 rfl (dd_X12_latest 13 _ _ _ rfl) ?_
      refine r_iadd 23 rfl (dd_X12_latest 14 _ _ _ rfl) ?_
      refine r_if_icmpge (by omega) (by omega) 26 rfl 68 rfl (dd_X12_latest 15 _ _ _ rfl) (fun hc1 => ?_) (fun hc1 => ?_)
      · refine r_iload_5 70 rfl (dd_X12_latest 37 _ _ _ rfl) ?_
        refine r_ireturn rfl rfl (dd_X12_latest 38 _ _ _ rfl) ?_
        have hz : zev S v w = j := zev_eq (by omega) hall (by omega)
        unfold zlast at k
        rw [hz, ← hf] at k
        exact k
      · refine r_aload_0 27 rfl (dd_X12_latest 16 _ _ _ rfl) ?_
        refine m_arr 11 hg hM (by decide) (by decide) (tb_6 67 _ rfl) 30 rfl (dd_X12_latest 17 _ _ _ rfl) ?_ (fun _ _ _ => rfl)
        refine r_iload_6 32 rfl (dd_X12_latest 18 _ _ _ rfl) ?_
        refine m_iald 11 (30 * v + j) (by omega) hg hM rfl (by omega) (z_lt (n2 := 360) rfl (by omega)) (by decide) 33 rfl (dd_X12_latest 19 _ _ _ rfl) ?_
        refine r_iload_2 34 rfl (dd_X12_latest 20 _ _ _ rfl) ?_
        refine r_if_icmpgt (by omega) (by omega) 37 rfl 68 rfl (dd_X12_latest 21 _ _ _ rfl) (fun hc2 => ?_) (fun hc2 => ?_)
        · refine r_iload_5 70 rfl (dd_X12_latest 37 _ _ _ rfl) ?_
          refine r_ireturn rfl rfl (dd_X12_latest 38 _ _ _ rfl) ?_
          have hz : zev S v w = j := zev_eq (by omega) hall (by omega)
          unfold zlast at k
          rw [hz, ← hf] at k
          exact k
        · refine r_aload_0 38 rfl (dd_X12_latest 22 _ _ _ rfl) ?_
          refine m_arr 9 hg hM (by decide) (by decide) (tb_6 65 _ rfl) 41 rfl (dd_X12_latest 23 _ _ _ rfl) ?_ (fun _ _ _ => rfl)
          refine r_iload_6 43 rfl (dd_X12_latest 24 _ _ _ rfl) ?_
          refine m_iald 9 (30 * v + j) (by omega) hg hM rfl (by omega) (z_lt (n2 := 360) rfl (by omega)) (by decide) 44 rfl (dd_X12_latest 25 _ _ _ rfl) ?_
          refine r_iload_3 45 rfl (dd_X12_latest 26 _ _ _ rfl) ?_
          refine r_if_icmpne (by omega) (by omega) 48 rfl 58 rfl (dd_X12_latest 27 _ _ _ rfl) (fun hc3 => ?_) (fun hc3 => ?_)
          · refine r_iload_5 60 rfl (dd_X12_latest 33 _ _ _ rfl) ?_
            refine r_istore_5 62 rfl (by decide) rfl (dd_X12_latest 34 _ _ _ rfl) ?_
            refine r_iinc_6 65 rfl (by decide) rfl (dd_X12_latest 35 _ _ _ rfl) ?_
            refine r_goto 10 rfl (dd_X12_latest 36 _ _ _ rfl) ?_
            exact r_sub _ (z_s1 (z_s1 (z_s1 (z_s1 (z_s0 (z_s1 (z_s1 z_sN))))))) (ih10 (j + 1) _ _ (by omega) (by omega) (by omega) (by unfold zlat; first | rw [if_pos (by omega)] | (rw [if_neg (by omega)]; exact hf)) (lt_s hall (by omega)))
          · refine r_aload_0 49 rfl (dd_X12_latest 28 _ _ _ rfl) ?_
            refine m_arr 10 hg hM (by decide) (by decide) (tb_6 66 _ rfl) 52 rfl (dd_X12_latest 29 _ _ _ rfl) ?_ (fun _ _ _ => rfl)
            refine r_iload_6 54 rfl (dd_X12_latest 30 _ _ _ rfl) ?_
            refine m_iald 10 (30 * v + j) (by omega) hg hM rfl (by omega) (z_lt (n2 := 360) rfl (by omega)) (by decide) 55 rfl (dd_X12_latest 31 _ _ _ rfl) ?_
            refine r_goto 60 rfl (dd_X12_latest 32 _ _ _ rfl) ?_
            refine r_istore_5 62 rfl (by decide) rfl (dd_X12_latest 34 _ _ _ rfl) ?_
            refine r_iinc_6 65 rfl (by decide) rfl (dd_X12_latest 35 _ _ _ rfl) ?_
            refine r_goto 10 rfl (dd_X12_latest 36 _ _ _ rfl) ?_
            exact r_sub _ (z_s1 (z_s1 (z_s1 (z_s1 (z_s0 (z_s1 (z_s1 z_sN))))))) (ih10 (j + 1) _ _ (by omega) (by omega) (by omega) (by unfold zlat; first | rw [if_pos (by omega)] | (rw [if_neg (by omega)]; exact hf)) (lt_s hall (by omega)))
  exact r_sub _ (z_s1 (z_s1 (z_s1 (z_s1 (z_s0 (z_s1 (z_s1 z_sN))))))) (L10 1000000 0 _ _ (by omega) (by omega) (by omega) rfl lt_0)

abbrev mX12_isOn : zM := (RX12, cX12_isOn, 5, (Option.some Jvm.ClassFile.FieldType.int), [], "isOn", 12)
set_option maxRecDepth 20000 in
theorem c_X12_isOn {g : zGT} {Q : zO → zH → Prop} {h : zH} (hg : zG g) {h0 : zH} {m : Nat} {A : Nat → Nat} {S : zS} {n : Nat} {t : Int} (hI : MInv n S) (hM : MI h0 m A S t h) {v w q : Int} (hv : zR v) (hw : zR w) (hq : zR q) (k1 : ¬ (0 ≤ v ∧ v < S.1 4) → ∀ h1, MI h0 m A S 1 h1 → Q (.inl (some (.int (zI 0)))) h1) (k2 : (0 ≤ v ∧ v < S.1 4) → ¬ (0 ≤ w ∧ w ≤ S.1 1 ∧ 0 ≤ q ∧ q ≤ 3) → ∀ h1, MI h0 m A S 2 h1 → Q (.inl (some (.int (zI 0)))) h1) (k0 : ∀ u : Nat, v = u → u < 12 → v < S.1 4 → (0 ≤ w ∧ w ≤ S.1 1 ∧ 0 ≤ q ∧ q ≤ 3) → ∀ h1, MI h0 m A S 0 h1 → Q (.inl (some (.int (zI (if q = 0 then zstate S u w else if q = 1 then zlast S u w 0 (-1) else if q = 2 then zlast S u w 1 (-1) else zlast S u w 7 (S.2 7 u)))))) h1) : zC g (.code yX12_isOn cX12_isOn 5 (Option.some Jvm.ClassFile.FieldType.int)) yX12_isOn 12 0 0 [.ref m, .int (zI v), .int (zI w), .int (zI q)] h Q := by
  refine zC_of (M := mX12_isOn) (lv := [some (.ref m), some (.int (zI v)), some (.int (zI w)), some (.int (zI q)), none]) (by decide) rfl rfl (Nat.le_of_ble_eq_true rfl) rfl rfl ?_
  have e1 := hI.vehicles
  have e2 := hI.today
  refine r_aload_0 1 rfl (dd_X12_isOn_0 0 _ _ _ rfl) ?_
  refine r_iload_1 2 rfl (dd_X12_isOn_0 1 _ _ _ rfl) ?_
  refine r_callV1 (lvl := 11) (mc1 := 0) (ms1 := 0) 0 0 hg rfl md_X12_isVehicle zc_X12 hM.kd wi_X12_isVehicle wv_X12_isVehicle (tb_7 0 _ rfl) (by decide) (by decide) rfl (Nat.le_of_ble_eq_true rfl) (by decide) (by decide) 5 rfl (dd_X12_isOn_0 2 _ _ _ rfl) ?_
  refine c_X12_isVehicle hg hI hM (by omega) (fun hb1 => ?_) (fun hb1 => ?_)
  · dsimp only [zCont, Option.toList, List.cons_append, List.nil_append]
    refine r_istore_4 7 rfl (by decide) rfl (dd_X12_isOn_0 3 _ _ _ rfl) ?_
    refine r_aload_0 8 rfl (dd_X12_isOn_0 4 _ _ _ rfl) ?_
    refine r_iload_4 10 rfl (dd_X12_isOn_0 5 _ _ _ rfl) ?_
    refine r_ifne (by omega) 13 rfl 17 rfl (dd_X12_isOn_0 6 _ _ _ rfl) (fun _ => ?_) (fun q => absurd q (by decide))
    refine r_iload_2 18 rfl (dd_X12_isOn_0 9 _ _ _ rfl) ?_
    refine r_iconst 19 rfl (dd_X12_isOn_0 10 _ _ _ rfl) ?_
    refine r_aload_0 20 rfl (dd_X12_isOn_0 11 _ _ _ rfl) ?_
    refine m_get 1 hg hM (by unfold z_free; decide) rfl (by decide) (tb_6 57 _ rfl) 23 rfl (dd_X12_isOn_0 12 _ _ _ rfl) ?_ (fun _ _ _ => rfl)
    refine r_callS3 (lvl := 10) (mc1 := 0) (ms1 := 0) 0 0 hg rfl md_X12_in ws_X12_in (tb_6 209 _ rfl) (by decide) (by decide) rfl (Nat.le_of_ble_eq_true rfl) (by decide) (by decide) 26 rfl (dd_X12_isOn_0 13 _ _ _ rfl) ?_
    refine c_X12_in hg (by omega) (by omega) (by omega) (fun hb2 => ?_) (fun hb2 => ?_)
    · dsimp only [zCont, Option.toList, List.cons_append, List.nil_append]
      refine r_ifeq (by omega) 29 rfl 42 rfl (dd_X12_isOn_0 14 _ _ _ rfl) (fun q => absurd q (by decide)) (fun _ => ?_)
      refine r_iload_3 30 rfl (dd_X12_isOn_0 15 _ _ _ rfl) ?_
      refine r_iconst 31 rfl (dd_X12_isOn_0 16 _ _ _ rfl) ?_
      refine r_iconst 32 rfl (dd_X12_isOn_0 17 _ _ _ rfl) ?_
      refine r_callS3 (lvl := 10) (mc1 := 0) (ms1 := 0) 0 0 hg rfl md_X12_in ws_X12_in (tb_6 209 _ rfl) (by decide) (by decide) rfl (Nat.le_of_ble_eq_true rfl) (by decide) (by decide) 35 rfl (dd_X12_isOn_0 18 _ _ _ rfl) ?_
      refine c_X12_in hg (by omega) (by omega) (by omega) (fun hb3 => ?_) (fun hb3 => ?_)
      · dsimp only [zCont, Option.toList, List.cons_append, List.nil_append]
        refine r_ifeq (by omega) 38 rfl 42 rfl (dd_X12_isOn_0 19 _ _ _ rfl) (fun q => absurd q (by decide)) (fun _ => ?_)
        refine r_iconst 39 rfl (dd_X12_isOn_0 20 _ _ _ rfl) ?_
        refine r_goto 43 rfl (dd_X12_isOn_0 21 _ _ _ rfl) ?_
        refine r_callV1 (lvl := 10) (mc1 := 0) (ms1 := 0) 0 0 hg rfl md_X12_goesWell zc_X12 hM.kd wi_X12_goesWell wv_X12_goesWell (tb_6 197 _ rfl) (by decide) (by decide) rfl (Nat.le_of_ble_eq_true rfl) (by decide) (by decide) 46 rfl (dd_X12_isOn_0 23 _ _ _ rfl) ?_
        refine c_X12_goesWell hg hM (by decide) (fun _ h4 hM => ?_) (fun q => absurd rfl q)
        dsimp only [zCont, Option.toList, List.cons_append, List.nil_append]
        refine r_ifne (by omega) 49 rfl 51 rfl (dd_X12_isOn_0 24 _ _ _ rfl) (fun _ => ?_) (fun q => absurd q (by decide))
        obtain ⟨u, rfl⟩ := Int.eq_ofNat_of_zero_le (show 0 ≤ v by omega)
        refine r_iload_3 52 rfl (dd_X12_isOn_0 27 _ _ _ rfl) ?_
        refine r_ifne (by omega) 55 rfl 64 rfl (dd_X12_isOn_0 28 _ _ _ rfl) (fun hc5 => ?_) (fun hc5 => ?_)
        · refine r_iload_3 65 rfl (dd_X12_isOn_0 34 _ _ _ rfl) ?_
          refine r_iconst 66 rfl (dd_X12_isOn_0 35 _ _ _ rfl) ?_
          refine r_if_icmpne (by omega) (by omega) 69 rfl 80 rfl (dd_X12_isOn_0 36 _ _ _ rfl) (fun hc6 => ?_) (fun hc6 => ?_)
          · refine r_iload_3 81 rfl (dd_X12_isOn_0 44 _ _ _ rfl) ?_
            refine r_iconst 82 rfl (dd_X12_isOn_0 45 _ _ _ rfl) ?_
            refine r_if_icmpne (by omega) (by omega) 85 rfl 96 rfl (dd_X12_isOn_0 46 _ _ _ rfl) (fun hc7 => ?_) (fun hc7 => ?_)
            · refine r_aload_0 97 rfl (dd_X12_isOn_0 54 _ _ _ rfl) ?_
              refine r_iload_1 98 rfl (dd_X12_isOn_0 55 _ _ _ rfl) ?_
              refine r_iload_2 99 rfl (dd_X12_isOn_0 56 _ _ _ rfl) ?_
              refine r_bipush (by decide) 101 rfl (dd_X12_isOn_0 57 _ _ _ rfl) ?_
              refine r_aload_0 102 rfl (dd_X12_isOn_0 58 _ _ _ rfl) ?_
              refine m_arr 7 hg hM (by decide) (by decide) (tb_6 63 _ rfl) 105 rfl (dd_X12_isOn_0 59 _ _ _ rfl) ?_ (fun _ _ _ => rfl)
              refine r_iload_1 106 rfl (dd_X12_isOn_1 0 _ _ _ rfl) ?_
              refine m_iald 7 (u) (by omega) hg hM rfl (by omega) (z_lt (n2 := 12) rfl (by omega)) (by decide) 107 rfl (dd_X12_isOn_1 1 _ _ _ rfl) ?_
              refine r_callV4 (lvl := 11) (mc1 := 0) (ms1 := 0) 0 0 hg rfl md_X12_latest zc_X12 hM.kd wi_X12_latest wv_X12_latest (tb_7 24 _ rfl) (by decide) (by decide) rfl (Nat.le_of_ble_eq_true rfl) (by decide) (by decide) 110 rfl (dd_X12_isOn_1 2 _ _ _ rfl) ?_
              refine c_X12_latest (v := u) hg hI hM (by omega) (by omega) (by omega) ?_
              dsimp only [zCont, Option.toList, List.cons_append, List.nil_append]
              refine r_ireturn rfl rfl (dd_X12_isOn_1 3 _ _ _ rfl) ?_
              first | exact k1 (by omega) _ hM | exact k2 (by omega) (by omega) _ hM | (have k := k0 u rfl (by omega) (by omega) (by omega) _ hM; first | (rw [if_pos (by omega)] at k; exact k) | (rw [if_neg (by omega), if_pos (by omega)] at k; exact k) | (rw [if_neg (by omega), if_neg (by omega), if_pos (by omega)] at k; exact k) | (rw [if_neg (by omega), if_neg (by omega), if_neg (by omega)] at k; exact k))
            · refine r_aload_0 86 rfl (dd_X12_isOn_0 47 _ _ _ rfl) ?_
              refine r_iload_1 87 rfl (dd_X12_isOn_0 48 _ _ _ rfl) ?_
              refine r_iload_2 88 rfl (dd_X12_isOn_0 49 _ _ _ rfl) ?_
              refine r_iconst 89 rfl (dd_X12_isOn_0 50 _ _ _ rfl) ?_
              refine r_iconst 90 rfl (dd_X12_isOn_0 51 _ _ _ rfl) ?_
              refine r_callV4 (lvl := 11) (mc1 := 0) (ms1 := 0) 0 0 hg rfl md_X12_latest zc_X12 hM.kd wi_X12_latest wv_X12_latest (tb_7 24 _ rfl) (by decide) (by decide) rfl (Nat.le_of_ble_eq_true rfl) (by decide) (by decide) 93 rfl (dd_X12_isOn_0 52 _ _ _ rfl) ?_
              refine c_X12_latest (v := u) hg hI hM (by omega) (by omega) (by omega) ?_
              dsimp only [zCont, Option.toList, List.cons_append, List.nil_append]
              refine r_goto 110 rfl (dd_X12_isOn_0 53 _ _ _ rfl) ?_
              refine r_ireturn rfl rfl (dd_X12_isOn_1 3 _ _ _ rfl) ?_
              first | exact k1 (by omega) _ hM | exact k2 (by omega) (by omega) _ hM | (have k := k0 u rfl (by omega) (by omega) (by omega) _ hM; first | (rw [if_pos (by omega)] at k; exact k) | (rw [if_neg (by omega), if_pos (by omega)] at k; exact k) | (rw [if_neg (by omega), if_neg (by omega), if_pos (by omega)] at k; exact k) | (rw [if_neg (by omega), if_neg (by omega), if_neg (by omega)] at k; exact k))
          · refine r_aload_0 70 rfl (dd_X12_isOn_0 37 _ _ _ rfl) ?_
            refine r_iload_1 71 rfl (dd_X12_isOn_0 38 _ _ _ rfl) ?_
            refine r_iload_2 72 rfl (dd_X12_isOn_0 39 _ _ _ rfl) ?_
            refine r_iconst 73 rfl (dd_X12_isOn_0 40 _ _ _ rfl) ?_
            refine r_iconst 74 rfl (dd_X12_isOn_0 41 _ _ _ rfl) ?_
            refine r_callV4 (lvl := 11) (mc1 := 0) (ms1 := 0) 0 0 hg rfl md_X12_latest zc_X12 hM.kd wi_X12_latest wv_X12_latest (tb_7 24 _ rfl) (by decide) (by decide) rfl (Nat.le_of_ble_eq_true rfl) (by decide) (by decide) 77 rfl (dd_X12_isOn_0 42 _ _ _ rfl) ?_
            refine c_X12_latest (v := u) hg hI hM (by omega) (by omega) (by omega) ?_
            dsimp only [zCont, Option.toList, List.cons_append, List.nil_append]
            refine r_goto 110 rfl (dd_X12_isOn_0 43 _ _ _ rfl) ?_
            refine r_ireturn rfl rfl (dd_X12_isOn_1 3 _ _ _ rfl) ?_
            first | exact k1 (by omega) _ hM | exact k2 (by omega) (by omega) _ hM | (have k := k0 u rfl (by omega) (by omega) (by omega) _ hM; first | (rw [if_pos (by omega)] at k; exact k) | (rw [if_neg (by omega), if_pos (by omega)] at k; exact k) | (rw [if_neg (by omega), if_neg (by omega), if_pos (by omega)] at k; exact k) | (rw [if_neg (by omega), if_neg (by omega), if_neg (by omega)] at k; exact k))
        · refine r_aload_0 56 rfl (dd_X12_isOn_0 29 _ _ _ rfl) ?_
          refine r_iload_1 57 rfl (dd_X12_isOn_0 30 _ _ _ rfl) ?_
          refine r_iload_2 58 rfl (dd_X12_isOn_0 31 _ _ _ rfl) ?_
          refine r_callV2 (lvl := 11) (mc1 := 0) (ms1 := 0) 0 0 hg rfl md_X12_stateOn zc_X12 hM.kd wi_X12_stateOn wv_X12_stateOn (tb_7 16 _ rfl) (by decide) (by decide) rfl (Nat.le_of_ble_eq_true rfl) (by decide) (by decide) 61 rfl (dd_X12_isOn_0 32 _ _ _ rfl) ?_
          refine c_X12_stateOn (v := u) hg hI hM (by omega) (by omega) (fun h8 hM => ?_)
          dsimp only [zCont, Option.toList, List.cons_append, List.nil_append]
          have hs9 := zstate_range S u w
          refine r_goto 110 rfl (dd_X12_isOn_0 33 _ _ _ rfl) ?_
          refine r_ireturn rfl rfl (dd_X12_isOn_1 3 _ _ _ rfl) ?_
          first | exact k1 (by omega) _ hM | exact k2 (by omega) (by omega) _ hM | (have k := k0 u rfl (by omega) (by omega) (by omega) _ hM; first | (rw [if_pos (by omega)] at k; exact k) | (rw [if_neg (by omega), if_pos (by omega)] at k; exact k) | (rw [if_neg (by omega), if_neg (by omega), if_pos (by omega)] at k; exact k) | (rw [if_neg (by omega), if_neg (by omega), if_neg (by omega)] at k; exact k))
      · dsimp only [zCont, Option.toList, List.cons_append, List.nil_append]
        refine r_ifeq (by omega) 38 rfl 42 rfl (dd_X12_isOn_0 19 _ _ _ rfl) (fun _ => ?_) (fun q => absurd q (by decide))
        refine r_iconst 43 rfl (dd_X12_isOn_0 22 _ _ _ rfl) ?_
        refine r_callV1 (lvl := 10) (mc1 := 0) (ms1 := 0) 0 0 hg rfl md_X12_goesWell zc_X12 hM.kd wi_X12_goesWell wv_X12_goesWell (tb_6 197 _ rfl) (by decide) (by decide) rfl (Nat.le_of_ble_eq_true rfl) (by decide) (by decide) 46 rfl (dd_X12_isOn_0 23 _ _ _ rfl) ?_
        refine c_X12_goesWell hg hM (by decide) (fun q => absurd q (by decide)) (fun _ h9 hM => ?_)
        dsimp only [zCont, Option.toList, List.cons_append, List.nil_append]
        refine r_ifne (by omega) 49 rfl 51 rfl (dd_X12_isOn_0 24 _ _ _ rfl) (fun q => absurd q (by decide)) (fun _ => ?_)
        refine r_iconst 50 rfl (dd_X12_isOn_0 25 _ _ _ rfl) ?_
        refine r_ireturn rfl rfl (dd_X12_isOn_0 26 _ _ _ rfl) ?_
        first | exact k1 (by omega) _ hM | exact k2 (by omega) (by omega) _ hM | (have k := k0 u rfl (by omega) (by omega) (by omega) _ hM; first | (rw [if_pos (by omega)] at k; exact k) | (rw [if_neg (by omega), if_pos (by omega)] at k; exact k) | (rw [if_neg (by omega), if_neg (by omega), if_pos (by omega)] at k; exact k) | (rw [if_neg (by omega), if_neg (by omega), if_neg (by omega)] at k; exact k))
    · dsimp only [zCont, Option.toList, List.cons_append, List.nil_append]
      refine r_ifeq (by omega) 29 rfl 42 rfl (dd_X12_isOn_0 14 _ _ _ rfl) (fun _ => ?_) (fun q => absurd q (by decide))
      refine r_iconst 43 rfl (dd_X12_isOn_0 22 _ _ _ rfl) ?_
      refine r_callV1 (lvl := 10) (mc1 := 0) (ms1 := 0) 0 0 hg rfl md_X12_goesWell zc_X12 hM.kd wi_X12_goesWell wv_X12_goesWell (tb_6 197 _ rfl) (by decide) (by decide) rfl (Nat.le_of_ble_eq_true rfl) (by decide) (by decide) 46 rfl (dd_X12_isOn_0 23 _ _ _ rfl) ?_
      refine c_X12_goesWell hg hM (by decide) (fun q => absurd q (by decide)) (fun _ h10 hM => ?_)
      dsimp only [zCont, Option.toList, List.cons_append, List.nil_append]
      refine r_ifne (by omega) 49 rfl 51 rfl (dd_X12_isOn_0 24 _ _ _ rfl) (fun q => absurd q (by decide)) (fun _ => ?_)
      refine r_iconst 50 rfl (dd_X12_isOn_0 25 _ _ _ rfl) ?_
      refine r_ireturn rfl rfl (dd_X12_isOn_0 26 _ _ _ rfl) ?_
      first | exact k1 (by omega) _ hM | exact k2 (by omega) (by omega) _ hM | (have k := k0 u rfl (by omega) (by omega) (by omega) _ hM; first | (rw [if_pos (by omega)] at k; exact k) | (rw [if_neg (by omega), if_pos (by omega)] at k; exact k) | (rw [if_neg (by omega), if_neg (by omega), if_pos (by omega)] at k; exact k) | (rw [if_neg (by omega), if_neg (by omega), if_neg (by omega)] at k; exact k))
  · dsimp only [zCont, Option.toList, List.cons_append, List.nil_append]
    refine r_istore_4 7 rfl (by decide) rfl (dd_X12_isOn_0 3 _ _ _ rfl) ?_
    refine r_aload_0 8 rfl (dd_X12_isOn_0 4 _ _ _ rfl) ?_
    refine r_iload_4 10 rfl (dd_X12_isOn_0 5 _ _ _ rfl) ?_
    refine r_ifne (by omega) 13 rfl 17 rfl (dd_X12_isOn_0 6 _ _ _ rfl) (fun q => absurd q (by decide)) (fun _ => ?_)
    refine r_iconst 14 rfl (dd_X12_isOn_0 7 _ _ _ rfl) ?_
    refine r_goto 43 rfl (dd_X12_isOn_0 8 _ _ _ rfl) ?_
    refine r_callV1 (lvl := 10) (mc1 := 0) (ms1 := 0) 0 0 hg rfl md_X12_goesWell zc_X12 hM.kd wi_X12_goesWell wv_X12_goesWell (tb_6 197 _ rfl) (by decide) (by decide) rfl (Nat.le_of_ble_eq_true rfl) (by decide) (by decide) 46 rfl (dd_X12_isOn_0 23 _ _ _ rfl) ?_
    refine c_X12_goesWell hg hM (by decide) (fun q => absurd q (by decide)) (fun _ h11 hM => ?_)
    dsimp only [zCont, Option.toList, List.cons_append, List.nil_append]
    refine r_ifne (by omega) 49 rfl 51 rfl (dd_X12_isOn_0 24 _ _ _ rfl) (fun q => absurd q (by decide)) (fun _ => ?_)
    refine r_iconst 50 rfl (dd_X12_isOn_0 25 _ _ _ rfl) ?_
    refine r_ireturn rfl rfl (dd_X12_isOn_0 26 _ _ _ rfl) ?_
    first | exact k1 (by omega) _ hM | exact k2 (by omega) (by omega) _ hM | (have k := k0 u rfl (by omega) (by omega) (by omega) _ hM; first | (rw [if_pos (by omega)] at k; exact k) | (rw [if_neg (by omega), if_pos (by omega)] at k; exact k) | (rw [if_neg (by omega), if_neg (by omega), if_pos (by omega)] at k; exact k) | (rw [if_neg (by omega), if_neg (by omega), if_neg (by omega)] at k; exact k))

abbrev mX12_on : zM := (RX12, cX12_on, 4, (Option.some Jvm.ClassFile.FieldType.int), [], "on", 13)
set_option maxRecDepth 20000 in
theorem c_X12_on {g : zGT} {Q : zO → zH → Prop} {h : zH} (hg : zG g) {h0 : zH} {m : Nat} {A : Nat → Nat} {S : zS} {n : Nat} {t : Int} (hI : MInv n S) (hM : MI h0 m A S t h) {v w q : Int} (hv : zR v) (hw : zR w) (hq : zR q) (k1 : ¬ (0 ≤ v ∧ v < S.1 4) → ∀ h1, MI h0 m A S 1 h1 → Q (.inl (some (.int (zI 0)))) h1) (k2 : (0 ≤ v ∧ v < S.1 4) → ¬ (0 ≤ w ∧ w ≤ S.1 1 ∧ 0 ≤ q ∧ q ≤ 3) → ∀ h1, MI h0 m A S 2 h1 → Q (.inl (some (.int (zI 0)))) h1) (k0 : ∀ u : Nat, v = u → u < 12 → v < S.1 4 → (0 ≤ w ∧ w ≤ S.1 1 ∧ 0 ≤ q ∧ q ≤ 3) → ∀ h1, MI h0 m A S 0 h1 → Q (.inl (some (.int (zI (if q = 0 then zstate S u w else if q = 1 then zlast S u w 0 (-1) else if q = 2 then zlast S u w 1 (-1) else zlast S u w 7 (S.2 7 u)))))) h1) : zC g (.code yX12_on cX12_on 4 (Option.some Jvm.ClassFile.FieldType.int)) yX12_on 13 0 0 [.ref m, .int (zI v), .int (zI w), .int (zI q)] h Q := by
  refine zC_of (M := mX12_on) (lv := [some (.ref m), some (.int (zI v)), some (.int (zI w)), some (.int (zI q))]) (by decide) rfl rfl (Nat.le_of_ble_eq_true rfl) rfl rfl ?_
  refine r_aload_0 1 rfl (dd_X12_on 0 _ _ _ rfl) ?_
  refine r_iload_1 2 rfl (dd_X12_on 1 _ _ _ rfl) ?_
  refine r_iload_2 3 rfl (dd_X12_on 2 _ _ _ rfl) ?_
  refine r_iload_3 4 rfl (dd_X12_on 3 _ _ _ rfl) ?_
  refine r_callV3 (lvl := 12) (mc1 := 0) (ms1 := 0) 0 0 hg rfl md_X12_isOn zc_X12 hM.kd wi_X12_isOn wv_X12_isOn (tb_7 12 _ rfl) (by decide) (by decide) rfl (Nat.le_of_ble_eq_true rfl) (by decide) (by decide) 7 rfl (dd_X12_on 4 _ _ _ rfl) ?_
  refine c_X12_isOn hg hI hM hv hw hq (fun q h1 hM => ?_) (fun q q2 h1 hM => ?_) (fun u q1 q2 q3 q4 h1 hM => ?_)
  · dsimp only [zCont, Option.toList, List.cons_append, List.nil_append]
    refine r_ireturn rfl rfl (dd_X12_on 5 _ _ _ rfl) ?_
    first | exact k1 q _ hM | exact k2 q q2 _ hM | exact k0 u q1 q2 q3 q4 _ hM
  · dsimp only [zCont, Option.toList, List.cons_append, List.nil_append]
    refine r_ireturn rfl rfl (dd_X12_on 5 _ _ _ rfl) ?_
    first | exact k1 q _ hM | exact k2 q q2 _ hM | exact k0 u q1 q2 q3 q4 _ hM
  · dsimp only [zCont, Option.toList, List.cons_append, List.nil_append]
    refine r_ireturn rfl rfl (dd_X12_on 5 _ _ _ rfl) ?_
    first | exact k1 q _ hM | exact k2 q q2 _ hM | exact k0 u q1 q2 q3 q4 _ hM

abbrev mX12_onAnew : zM := (RX12, cX12_onAnew, 4, (Option.some Jvm.ClassFile.FieldType.int), [], "onAnew", 13)
set_option maxRecDepth 20000 in
theorem c_X12_onAnew {g : zGT} {Q : zO → zH → Prop} {h : zH} (hg : zG g) {h0 : zH} {m : Nat} {A : Nat → Nat} {S : zS} {n : Nat} {t : Int} (hI : MInv n S) (hM : MI h0 m A S t h) {v w q : Int} (hv : zR v) (hw : zR w) (hq : zR q) (k1 : ¬ (0 ≤ v ∧ v < S.1 4) → ∀ h1, MI h0 m A S 1 h1 → Q (.inl (some (.int (zI 0)))) h1) (k2 : (0 ≤ v ∧ v < S.1 4) → ¬ (0 ≤ w ∧ w ≤ S.1 1 ∧ 0 ≤ q ∧ q ≤ 3) → ∀ h1, MI h0 m A S 2 h1 → Q (.inl (some (.int (zI 0)))) h1) (k0 : ∀ u : Nat, v = u → u < 12 → v < S.1 4 → (0 ≤ w ∧ w ≤ S.1 1 ∧ 0 ≤ q ∧ q ≤ 3) → ∀ h1, MI h0 m A S 0 h1 → Q (.inl (some (.int (zI (if q = 0 then zstate S u w else if q = 1 then zlast S u w 0 (-1) else if q = 2 then zlast S u w 1 (-1) else zlast S u w 7 (S.2 7 u)))))) h1) : zC g (.code yX12_onAnew cX12_onAnew 4 (Option.some Jvm.ClassFile.FieldType.int)) yX12_onAnew 13 0 0 [.ref m, .int (zI v), .int (zI w), .int (zI q)] h Q := by
  refine zC_of (M := mX12_onAnew) (lv := [some (.ref m), some (.int (zI v)), some (.int (zI w)), some (.int (zI q))]) (by decide) rfl rfl (Nat.le_of_ble_eq_true rfl) rfl rfl ?_
  refine r_aload_0 1 rfl (dd_X12_onAnew 0 _ _ _ rfl) ?_
  refine r_iload_1 2 rfl (dd_X12_onAnew 1 _ _ _ rfl) ?_
  refine r_iload_2 3 rfl (dd_X12_onAnew 2 _ _ _ rfl) ?_
  refine r_iload_3 4 rfl (dd_X12_onAnew 3 _ _ _ rfl) ?_
  refine r_callV3 (lvl := 12) (mc1 := 0) (ms1 := 0) 0 0 hg rfl md_X12_isOn zc_X12 hM.kd wi_X12_isOn wv_X12_isOn (tb_7 12 _ rfl) (by decide) (by decide) rfl (Nat.le_of_ble_eq_true rfl) (by decide) (by decide) 7 rfl (dd_X12_onAnew 4 _ _ _ rfl) ?_
  refine c_X12_isOn hg hI hM hv hw hq (fun q h1 hM => ?_) (fun q q2 h1 hM => ?_) (fun u q1 q2 q3 q4 h1 hM => ?_)
  · dsimp only [zCont, Option.toList, List.cons_append, List.nil_append]
    refine r_ireturn rfl rfl (dd_X12_onAnew 5 _ _ _ rfl) ?_
    first | exact k1 q _ hM | exact k2 q q2 _ hM | exact k0 u q1 q2 q3 q4 _ hM
  · dsimp only [zCont, Option.toList, List.cons_append, List.nil_append]
    refine r_ireturn rfl rfl (dd_X12_onAnew 5 _ _ _ rfl) ?_
    first | exact k1 q _ hM | exact k2 q q2 _ hM | exact k0 u q1 q2 q3 q4 _ hM
  · dsimp only [zCont, Option.toList, List.cons_append, List.nil_append]
    refine r_ireturn rfl rfl (dd_X12_onAnew 5 _ _ _ rfl) ?_
    first | exact k1 q _ hM | exact k2 q q2 _ hM | exact k0 u q1 q2 q3 q4 _ hM
