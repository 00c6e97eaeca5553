abbrev mX4_init : zM := (RX4, cX4_init, 2, (Option.none : Option Jvm.ClassFile.FieldType), [], "<init>", 13)
set_option maxRecDepth 20000 in
theorem c_X4_init {g : zGT} {Q : zO → zH → Prop} {h : zH} (hg : zG g) {o : Nat → Nat} {r : Nat} {a : Nat} {p : Int} (hk : kd_ h a = 8) (ho : o a = r) (k : ∀ o1 h1, (∀ (S : zS) (v : Nat), S.2 7 v = p → S.2 8 v = 0 → HiRep g o1 r h1 a S v) → zStep (fun q => q = r) o h o1 h1 → Q (.inl none) h1) : zC g (.code yX4_init cX4_init 2 (Option.none : Option Jvm.ClassFile.FieldType)) yX4_init 13 2 8 [.ref a, .int (zI p)] h Q := by
  refine zC_of (M := mX4_init) (lv := [some (.ref a), some (.int (zI p))]) (by decide) rfl rfl (Nat.le_of_ble_eq_true rfl) rfl rfl ?_
  refine r_aload_0 1 rfl (dd_X4_init 0 _ _ _ rfl) ?_
  refine r_objInit hg (tb_2 54 _ rfl) (tb_1 41 _ rfl) (tb_1 42 _ rfl) (Nat.le_of_ble_eq_true rfl) (by decide) 4 rfl (dd_X4_init 1 _ _ _ rfl) ?_
  refine r_aload_0 5 rfl (dd_X4_init 2 _ _ _ rfl) ?_
  refine r_new 1 5 hg zc_Jx4a65c (tb_2 55 _ rfl) (tb_1 78 _ rfl) (tb_1 6 _ rfl) (Nat.le_of_ble_eq_true rfl) (Nat.le_of_ble_eq_true rfl) zd_Jx4a65c 8 rfl (dd_X4_init 3 _ _ _ rfl) (fun l hz_l => ?_)
  have hal : ¬ a = l := fun q => by rw [q, hz_l] at hk; cases hk
  have hk1 : kd_ (nob h l 2) a = 8 := (zu1_ne hal).trans hk
  have hoa : zu1 o l r a = r := (zu1_ne hal).trans ho
  have hol : zu1 o l r l = r := zu1_at
  refine r_dup rfl 9 rfl (dd_X4_init 4 _ _ _ rfl) ?_
  refine r_callI0 (lvl := 12) (mc1 := 0) (ms1 := 0) 1 5 hg rfl md_Jx4a65c_init_da8c8 wi_Jx4a65c_init_da8c8 rfl rfl (tb_2 56 _ rfl) (by decide) (by decide) rfl (Nat.le_of_ble_eq_true rfl) (Nat.le_of_ble_eq_true rfl) (Nat.le_of_ble_eq_true rfl) 12 rfl (dd_X4_init 5 _ _ _ rfl) ?_
  refine c_Jx4a65c_init_da8c8 hg zu1_at ?_
  dsimp only [zCont, Option.toList, List.cons_append, List.nil_append]
  refine r_putrF hg zc_X4 2 (by decide) rfl (fun _ _ _ => rfl) rfl rfl (by decide) hk1 rfl rfl (Or.inl rfl) (tb_2 84 _ rfl) 15 rfl (dd_X4_init 6 _ _ _ rfl) ?_
  have k2 : kd_ (sfr (sfr (sfi (nob h l 2) l 0 0) l 1 (some (ge_ g))) a 2 (some l)) l = 3 := zu1_at
  have k3 : fi_ (sfr (sfr (sfi (nob h l 2) l 0 0) l 1 (some (ge_ g))) a 2 (some l)) l 2 = 0 := by simp (decide := true) [zhs]
  have k4 : fr_ (sfr (sfr (sfi (nob h l 2) l 0 0) l 1 (some (ge_ g))) a 2 (some l)) l 1 = some (ge_ g) := (zu2_ne (fun q => hal q.1.symm)).trans zu2_at
  have k5 : fr_ (sfr (sfr (sfi (nob h l 2) l 0 0) l 1 (some (ge_ g))) a 2 (some l)) a 2 = some l := zu2_at
  replace hk1 : kd_ (sfr (sfr (sfi (nob h l 2) l 0 0) l 1 (some (ge_ g))) a 2 (some l)) a = 8 := hk1
  have s1 : zStep (fun q => q = r) o h (zu1 o l r) (sfr (sfr (sfi (nob h l 2) l 0 0) l 1 (some (ge_ g))) a 2 (some l)) := (step_nob hz_l).trans (((step_sfi (R := fun q => q = r) hol).trans (step_sfr (R := fun q => q = r) hol)).trans (step_sfr (R := fun q => q = r) hoa))
  generalize (sfr (sfr (sfi (nob h l 2) l 0 0) l 1 (some (ge_ g))) a 2 (some l)) = h2 at k2 k3 k4 k5 hk1 s1 ⊢
  generalize zu1 o l r = o2 at s1 hoa hol ⊢
  refine r_aload_0 16 rfl (dd_X4_init 7 _ _ _ rfl) ?_
  refine r_iload_1 17 rfl (dd_X4_init 8 _ _ _ rfl) ?_
  refine r_putiF hg zc_X4 0 (by decide) rfl (fun _ _ _ => rfl) rfl rfl (by decide) hk1 rfl rfl (Or.inl rfl) (tb_2 82 _ rfl) 20 rfl (dd_X4_init 9 _ _ _ rfl) ?_
  replace k2 : kd_ (sfi h2 a 0 p) l = 3 := k2
  replace k3 : fi_ (sfi h2 a 0 p) l 2 = 0 := (zu2_ne (fun q => hal q.1.symm)).trans k3
  replace k4 : fr_ (sfi h2 a 0 p) l 1 = some (ge_ g) := k4
  replace k5 : fr_ (sfi h2 a 0 p) a 2 = some l := k5
  have k6 : fi_ (sfi h2 a 0 p) a 0 = p := zu2_at
  replace hk1 : kd_ (sfi h2 a 0 p) a = 8 := hk1
  replace s1 : zStep (fun q => q = r) o h o2 (sfi h2 a 0 p) := s1.trans (step_sfi hoa)
  generalize (sfi h2 a 0 p) = h3 at k2 k3 k4 k5 k6 hk1 s1 ⊢
  refine r_aload_0 21 rfl (dd_X4_init 10 _ _ _ rfl) ?_
  refine r_new 0 0 hg zc_X8 (tb_2 57 _ rfl) (tb_2 58 _ rfl) (tb_1 17 _ rfl) (Nat.le_of_ble_eq_true rfl) (Nat.le_of_ble_eq_true rfl) zd_X8 24 rfl (dd_X4_init 11 _ _ _ rfl) (fun b hz_b => ?_)
  have hab : ¬ a = b := fun q => by rw [q, hz_b] at hk1; cases hk1
  have hlb : ¬ l = b := fun q => by rw [q, hz_b] at k2; cases k2
  refine r_dup rfl 25 rfl (dd_X4_init 12 _ _ _ rfl) ?_
  refine r_iload_1 26 rfl (dd_X4_init 13 _ _ _ rfl) ?_
  refine r_callI1 (lvl := 10) (mc1 := 0) (ms1 := 0) 0 0 hg rfl md_X8_init wi_X8_init rfl rfl (tb_2 59 _ rfl) (by decide) (by decide) rfl (Nat.le_of_ble_eq_true rfl) (Nat.le_of_ble_eq_true rfl) (Nat.le_of_ble_eq_true rfl) 29 rfl (dd_X4_init 14 _ _ _ rfl) ?_
  refine c_X8_init (o := zo1 b) (r := 1) hg zu1_at (if_pos rfl) (fun h4 q0 q1 q2 q3 q4 q5 => ?_)
  have f : zOnly b (nob h3 b 11) h4 := zOnly.of q5 (by rw [show kd_ (nob h3 b 11) b = 12 from zu1_at]; decide)
  have kb : kd_ h4 b = 12 := f.2.trans zu1_at
  have fa := f.1 a hab (by rw [show kd_ (nob h3 b 11) a = 8 from (zu1_ne hab).trans hk1]; decide)
  have fl := f.1 l hlb (by rw [show kd_ (nob h3 b 11) l = 3 from (zu1_ne hlb).trans k2]; decide)
  have ka : kd_ h4 a = 8 := fa.1.trans ((zu1_ne hab).trans hk1)
  have s2 : zStep (fun q => q = r) o2 h3 (zu1 o2 b r) h4 := (step_nob hz_b).trans (f.step zu1_at)
  dsimp only [zCont, Option.toList, List.cons_append, List.nil_append]
  refine r_putrF hg zc_X4 1 (by decide) rfl (fun _ _ _ => rfl) rfl rfl (by decide) ka rfl rfl (Or.inl rfl) (tb_2 83 _ rfl) 32 rfl (dd_X4_init 15 _ _ _ rfl) ?_
  refine r_vreturn rfl (dd_X4_init 16 _ _ _ rfl) ?_
  have ho4 : zu1 o2 b r a = r := (zu1_ne hab).trans hoa
  refine k _ _ (fun S v e7 e8 => ⟨⟨b, l, [], fun _ => 0, ka, ho4, ?_, zu2_at, ?_, ?_, ?_, ?_, by simp, fun j e he => by simp at he, fun e e2 he => by simp at he, List.nodup_nil⟩, fun i j hij hj => by omega⟩) (s1.trans (s2.trans (step_sfr ho4)))
  · show fi_ h4 a 0 = _; rw [e7]; exact ((fa.2.2.1 0).trans (if_neg hab)).trans k6
  · exact ⟨kb, zu1_at, q0, q1, q2, q3, by show fi_ h4 b 4 = S.2 7 v; rw [e7]; exact q4⟩
  · exact (zu2_ne (fun q => by omega)).trans (((fa.2.2.2.2.1 2).trans (if_neg hab)).trans k5)
  · exact ⟨fl.1.trans ((zu1_ne hlb).trans k2), (zu1_ne hlb).trans hol, ((fl.2.2.1 2).trans (if_neg hlb)).trans k3, by simp, Or.inl ⟨rfl, (zu2_ne (fun q => hal q.1.symm)).trans (((fl.2.2.2.2.1 1).trans (if_neg hlb)).trans k4)⟩⟩
  · simp [e8]

abbrev mX10_init : zM := (RX10, cX10_init, 4, (Option.none : Option Jvm.ClassFile.FieldType), [], "<init>", 14)
set_option maxRecDepth 20000 in
theorem c_X10_init {g : zGT} {Q : zO → zH → Prop} {h : zH} (hg : zG g) {o : Nat → Nat} {a v : Nat} {p q c : Int} (hk : kd_ h a = 14) (ho : o a = rg 0 v) (hq : 0 ≤ q ∧ q ≤ 20000) (k : ∀ o1 h1 pl ii hi te, kd_ h1 a = 14 → o1 a = rg 0 v → fi_ h1 a 0 = p → fi_ h1 a 1 = q → fr_ h1 a 2 = some hi → fr_ h1 a 3 = some te → fr_ h1 a 4 = some pl → fr_ h1 a 5 = some ii → fj_ h1 a 6 = 0 → (∀ (S : zS) (u : Nat), S.2 7 u = c → S.2 8 u = 0 → HiRep g o1 (rg 1 v) h1 hi S u) → (∀ (S : zS) (u : Nat), S.2 25 u = 0 → S.2 6 u = q → S.2 29 u = q + 1080 → S.2 28 u = 0 → TeRep o1 (rg 2 v) h1 te S u) → CoSem o1 (rg 3 v) h1 pl 0 (-1) (fun _ => (-1, -1)) → CoSem o1 (rg 4 v) h1 ii 0 (-1) (fun _ => (-1, -1)) → zStep (fun q => q = rg 0 v ∨ q = rg 1 v ∨ q = rg 2 v ∨ q = rg 3 v ∨ q = rg 4 v) o h o1 h1 → Q (.inl none) h1) : zC g (.code yX10_init cX10_init 4 (Option.none : Option Jvm.ClassFile.FieldType)) yX10_init 14 10 38 [.ref a, .int (zI p), .int (zI q), .int (zI c)] h Q := by
  refine zC_of (M := mX10_init) (lv := [some (.ref a), some (.int (zI p)), some (.int (zI q)), some (.int (zI c))]) (by decide) rfl rfl (Nat.le_of_ble_eq_true rfl) rfl rfl ?_
  have hk0 := hk
  refine r_aload_0 1 rfl (dd_X10_init 0 _ _ _ rfl) ?_
  refine r_objInit hg (tb_2 46 _ rfl) (tb_1 41 _ rfl) (tb_1 42 _ rfl) (Nat.le_of_ble_eq_true rfl) (by decide) 4 rfl (dd_X10_init 1 _ _ _ rfl) ?_
  refine r_aload_0 5 rfl (dd_X10_init 2 _ _ _ rfl) ?_
  refine r_new 9 35 hg zc_X1 (tb_2 47 _ rfl) (tb_1 105 _ rfl) (tb_1 7 _ rfl) (Nat.le_of_ble_eq_true rfl) (Nat.le_of_ble_eq_true rfl) zd_X1 8 rfl (dd_X10_init 3 _ _ _ rfl) (fun pl hz_pl => ?_)
  refine r_dup rfl 9 rfl (dd_X10_init 4 _ _ _ rfl) ?_
  refine r_callIN0 (lvl := 10) (mc1 := 2) (ms1 := 8) 7 27 hg rfl md_X1_init wi_X1_init rfl rfl (tb_2 48 _ rfl) (by decide) (by decide) rfl (Nat.le_of_ble_eq_true rfl) (Nat.le_of_ble_eq_true rfl) (Nat.le_of_ble_eq_true rfl) 12 rfl (dd_X10_init 5 _ _ _ rfl) ?_
  have hx1 : ¬ a = pl := fun q => by rw [q, hz_pl] at hk; cases hk
  refine c_X1_init (o := zu1 o pl (rg 3 v)) (r := rg 3 v) hg zu1_at zu1_at (fun o1 h1 q1 q2 => ?_)
  have s1 : zStep (fun q => q = rg 3 v) o h o1 h1 := (step_nob hz_pl).trans q2
  replace hk : kd_ h1 a = 14 := s1.kd hk (by omega)
  dsimp only [zCont, Option.toList, List.cons_append, List.nil_append]
  refine r_putrF hg zc_X10 4 (by decide) rfl (fun _ _ _ => rfl) rfl rfl (by decide) hk rfl rfl (Or.inl rfl) (tb_2 126 _ rfl) 15 rfl (dd_X10_init 6 _ _ _ rfl) ?_
  have ho1 : o1 a = rg 0 v := s1.own (by rw [hk0]; decide) ho
  have t1 : zStep (fun q => q = rg 0 v) o1 h1 o1 (sfr h1 a 4 (some pl)) := step_sfr ho1
  have hpl := (q1 (-1)).fr (t1.fr (r := rg 3 v) (by show ¬ _ = _; unfold rg; omega))
  have f4 : fr_ (sfr h1 a 4 (some pl)) a 4 = some pl := zu2_at
  have S1 : zStep (fun q => q = rg 0 v ∨ q = rg 1 v ∨ q = rg 2 v ∨ q = rg 3 v ∨ q = rg 4 v) o h o1 (sfr h1 a 4 (some pl)) := (s1.mono (fun _ q => Or.inr (Or.inr (Or.inr (Or.inl q))))).trans (t1.mono (fun _ q => Or.inl q))
  replace hk : kd_ (sfr h1 a 4 (some pl)) a = 14 := hk
  clear q1 q2 s1 t1
  generalize sfr h1 a 4 (some pl) = g1 at hpl f4 S1 hk ⊢
  refine r_aload_0 16 rfl (dd_X10_init 7 _ _ _ rfl) ?_
  refine r_new 6 24 hg zc_X1 (tb_2 47 _ rfl) (tb_1 105 _ rfl) (tb_1 7 _ rfl) (Nat.le_of_ble_eq_true rfl) (Nat.le_of_ble_eq_true rfl) zd_X1 19 rfl (dd_X10_init 8 _ _ _ rfl) (fun ii hz_ii => ?_)
  refine r_dup rfl 20 rfl (dd_X10_init 9 _ _ _ rfl) ?_
  refine r_callIN0 (lvl := 10) (mc1 := 2) (ms1 := 8) 4 16 hg rfl md_X1_init wi_X1_init rfl rfl (tb_2 48 _ rfl) (by decide) (by decide) rfl (Nat.le_of_ble_eq_true rfl) (Nat.le_of_ble_eq_true rfl) (Nat.le_of_ble_eq_true rfl) 23 rfl (dd_X10_init 10 _ _ _ rfl) ?_
  have hx2 : ¬ a = ii := fun q => by rw [q, hz_ii] at hk; cases hk
  refine c_X1_init (o := zu1 o1 ii (rg 4 v)) (r := rg 4 v) hg zu1_at zu1_at (fun o2 h2 q1 q2 => ?_)
  have s2 : zStep (fun q => q = rg 4 v) o1 g1 o2 h2 := (step_nob hz_ii).trans q2
  have hkg := hk
  replace hk : kd_ h2 a = 14 := s2.kd hk (by omega)
  dsimp only [zCont, Option.toList, List.cons_append, List.nil_append]
  refine r_putrF hg zc_X10 5 (by decide) rfl (fun _ _ _ => rfl) rfl rfl (by decide) hk rfl rfl (Or.inl rfl) (tb_2 128 _ rfl) 26 rfl (dd_X10_init 11 _ _ _ rfl) ?_
  have ho2 : o2 a = rg 0 v := s2.own (by rw [hkg]; decide) ho1
  have t2 : zStep (fun q => q = rg 0 v) o2 h2 o2 (sfr h2 a 5 (some ii)) := step_sfr ho2
  replace hpl := (hpl.fr (s2.fr (r := rg 3 v) (by show ¬ _ = _; unfold rg; omega))).fr (t2.fr (r := rg 3 v) (by show ¬ _ = _; unfold rg; omega))
  have hii := (q1 (-1)).fr (t2.fr (r := rg 4 v) (by show ¬ _ = _; unfold rg; omega))
  have f5 : fr_ (sfr h2 a 5 (some ii)) a 5 = some ii := zu2_at
  replace f4 : fr_ (sfr h2 a 5 (some ii)) a 4 = some pl := (zu2_ne (fun q => by omega)).trans (((s2.fr (r := rg 0 v) (by show ¬ _ = _; unfold rg; omega) a ho1 (by rw [hkg]; decide)).2.2.2.2.2.1 4).trans f4)
  replace S1 : zStep (fun q => q = rg 0 v ∨ q = rg 1 v ∨ q = rg 2 v ∨ q = rg 3 v ∨ q = rg 4 v) o h o2 (sfr h2 a 5 (some ii)) := S1.trans ((s2.mono (fun _ q => Or.inr (Or.inr (Or.inr (Or.inr q))))).trans (t2.mono (fun _ q => Or.inl q)))
  replace hk : kd_ (sfr h2 a 5 (some ii)) a = 14 := hk
  clear q1 q2 t2 s2
  generalize sfr h2 a 5 (some ii) = g2 at hpl hii f4 f5 S1 hk ⊢
  refine r_aload_0 27 rfl (dd_X10_init 12 _ _ _ rfl) ?_
  refine r_lconst0 28 rfl (dd_X10_init 13 _ _ _ rfl) ?_
  refine r_putj hg zc_X10 6 (by decide) rfl (fun _ _ _ => rfl) rfl rfl (by decide) hk (Or.inl rfl) (tb_2 130 _ rfl) 31 rfl (dd_X10_init 14 _ _ _ rfl) ?_
  refine r_aload_0 32 rfl (dd_X10_init 15 _ _ _ rfl) ?_
  refine r_iload_1 33 rfl (dd_X10_init 16 _ _ _ rfl) ?_
  refine r_putiF hg zc_X10 0 (by decide) rfl (fun _ _ _ => rfl) rfl rfl (by decide) hk rfl rfl (Or.inl rfl) (tb_2 118 _ rfl) 36 rfl (dd_X10_init 17 _ _ _ rfl) ?_
  refine r_aload_0 37 rfl (dd_X10_init 18 _ _ _ rfl) ?_
  refine r_iload_2 38 rfl (dd_X10_init 19 _ _ _ rfl) ?_
  refine r_putiF hg zc_X10 1 (by decide) rfl (fun _ _ _ => rfl) rfl rfl (by decide) hk rfl rfl (Or.inl rfl) (tb_2 120 _ rfl) 41 rfl (dd_X10_init 20 _ _ _ rfl) ?_
  have t3 : zStep (fun q => q = rg 0 v) o2 g2 o2 (sfi (sfi (sfj g2 a 6 0) a 0 p) a 1 q) := (step_sfj (R := fun q => q = rg 0 v) ho2).trans ((step_sfi (R := fun q => q = rg 0 v) ho2).trans (step_sfi (R := fun q => q = rg 0 v) ho2))
  replace hpl := hpl.fr (t3.fr (r := rg 3 v) (by show ¬ _ = _; unfold rg; omega))
  replace hii := hii.fr (t3.fr (r := rg 4 v) (by show ¬ _ = _; unfold rg; omega))
  have f6 : fj_ (sfi (sfi (sfj g2 a 6 0) a 0 p) a 1 q) a 6 = 0 := zu2_at
  have f0 : fi_ (sfi (sfi (sfj g2 a 6 0) a 0 p) a 1 q) a 0 = p := by simp (decide := true) [zhs]
  have f1 : fi_ (sfi (sfi (sfj g2 a 6 0) a 0 p) a 1 q) a 1 = q := zu2_at
  replace f4 : fr_ (sfi (sfi (sfj g2 a 6 0) a 0 p) a 1 q) a 4 = some pl := f4
  replace f5 : fr_ (sfi (sfi (sfj g2 a 6 0) a 0 p) a 1 q) a 5 = some ii := f5
  replace S1 : zStep (fun q => q = rg 0 v ∨ q = rg 1 v ∨ q = rg 2 v ∨ q = rg 3 v ∨ q = rg 4 v) o h o2 (sfi (sfi (sfj g2 a 6 0) a 0 p) a 1 q) := S1.trans (t3.mono (fun _ q => Or.inl q))
  replace hk : kd_ (sfi (sfi (sfj g2 a 6 0) a 0 p) a 1 q) a = 14 := hk
  clear t3
  generalize (sfi (sfi (sfj g2 a 6 0) a 0 p) a 1 q) = g3 at hpl hii f0 f1 f4 f5 f6 S1 hk ⊢
  refine r_aload_0 42 rfl (dd_X10_init 21 _ _ _ rfl) ?_
  refine r_new 3 13 hg zc_X4 (tb_2 49 _ rfl) (tb_2 50 _ rfl) (tb_1 16 _ rfl) (Nat.le_of_ble_eq_true rfl) (Nat.le_of_ble_eq_true rfl) zd_X4 45 rfl (dd_X10_init 22 _ _ _ rfl) (fun hi hz_hi => ?_)
  refine r_dup rfl 46 rfl (dd_X10_init 23 _ _ _ rfl) ?_
  refine r_iload_3 47 rfl (dd_X10_init 24 _ _ _ rfl) ?_
  refine r_callI1 (lvl := 13) (mc1 := 2) (ms1 := 8) 1 5 hg rfl md_X4_init wi_X4_init rfl rfl (tb_2 51 _ rfl) (by decide) (by decide) rfl (Nat.le_of_ble_eq_true rfl) (Nat.le_of_ble_eq_true rfl) (Nat.le_of_ble_eq_true rfl) 50 rfl (dd_X10_init 25 _ _ _ rfl) ?_
  refine c_X4_init (o := zu1 o2 hi (rg 1 v)) (r := rg 1 v) hg zu1_at zu1_at (fun o3 h3 q1 q2 => ?_)
  have s3 : zStep (fun q => q = rg 1 v) o2 g3 o3 h3 := (step_nob hz_hi).trans q2
  have hkg3 := hk
  replace hk : kd_ h3 a = 14 := s3.kd hk (by omega)
  dsimp only [zCont, Option.toList, List.cons_append, List.nil_append]
  refine r_putrF hg zc_X10 2 (by decide) rfl (fun _ _ _ => rfl) rfl rfl (by decide) hk rfl rfl (Or.inl rfl) (tb_2 122 _ rfl) 53 rfl (dd_X10_init 26 _ _ _ rfl) ?_
  have ho3 : o3 a = rg 0 v := s3.own (by rw [hkg3]; decide) ho2
  have t3 : zStep (fun q => q = rg 0 v) o3 h3 o3 (sfr h3 a 2 (some hi)) := step_sfr ho3
  replace hpl := (hpl.fr (s3.fr (r := rg 3 v) (by show ¬ _ = _; unfold rg; omega))).fr (t3.fr (r := rg 3 v) (by show ¬ _ = _; unfold rg; omega))
  replace hii := (hii.fr (s3.fr (r := rg 4 v) (by show ¬ _ = _; unfold rg; omega))).fr (t3.fr (r := rg 4 v) (by show ¬ _ = _; unfold rg; omega))
  have hhi : ∀ (S : zS) (u : Nat), S.2 7 u = c → S.2 8 u = 0 → HiRep g o3 (rg 1 v) (sfr h3 a 2 (some hi)) hi S u := fun S u e1 e2 => (q1 S u e1 e2).fr (t3.fr (r := rg 1 v) (by show ¬ _ = _; unfold rg; omega))
  have f2 : fr_ (sfr h3 a 2 (some hi)) a 2 = some hi := zu2_at
  replace f0 : fi_ (sfr h3 a 2 (some hi)) a 0 = p := ((s3.fr (r := rg 0 v) (by show ¬ _ = _; unfold rg; omega) a ho2 (by rw [hkg3]; decide)).2.2.2.1 0).trans f0
  replace f1 : fi_ (sfr h3 a 2 (some hi)) a 1 = q := ((s3.fr (r := rg 0 v) (by show ¬ _ = _; unfold rg; omega) a ho2 (by rw [hkg3]; decide)).2.2.2.1 1).trans f1
  replace f6 : fj_ (sfr h3 a 2 (some hi)) a 6 = 0 := ((s3.fr (r := rg 0 v) (by show ¬ _ = _; unfold rg; omega) a ho2 (by rw [hkg3]; decide)).2.2.2.2.1 6).trans f6
  replace f4 : fr_ (sfr h3 a 2 (some hi)) a 4 = some pl := (zu2_ne (fun q => by omega)).trans (((s3.fr (r := rg 0 v) (by show ¬ _ = _; unfold rg; omega) a ho2 (by rw [hkg3]; decide)).2.2.2.2.2.1 4).trans f4)
  replace f5 : fr_ (sfr h3 a 2 (some hi)) a 5 = some ii := (zu2_ne (fun q => by omega)).trans (((s3.fr (r := rg 0 v) (by show ¬ _ = _; unfold rg; omega) a ho2 (by rw [hkg3]; decide)).2.2.2.2.2.1 5).trans f5)
  replace S1 : zStep (fun q => q = rg 0 v ∨ q = rg 1 v ∨ q = rg 2 v ∨ q = rg 3 v ∨ q = rg 4 v) o h o3 (sfr h3 a 2 (some hi)) := S1.trans ((s3.mono (fun _ q => Or.inr (Or.inl q))).trans (t3.mono (fun _ q => Or.inl q)))
  replace hk : kd_ (sfr h3 a 2 (some hi)) a = 14 := hk
  clear q1 q2 t3 s3
  generalize (sfr h3 a 2 (some hi)) = g4 at hpl hii hhi f0 f1 f2 f4 f5 f6 S1 hk ⊢
  refine r_aload_0 54 rfl (dd_X10_init 27 _ _ _ rfl) ?_
  refine r_new 0 0 hg zc_X9 (tb_2 92 _ rfl) (tb_2 93 _ rfl) (tb_1 18 _ rfl) (Nat.le_of_ble_eq_true rfl) (Nat.le_of_ble_eq_true rfl) zd_X9 57 rfl (dd_X10_init 28 _ _ _ rfl) (fun te hz_te => ?_)
  refine r_dup rfl 58 rfl (dd_X10_init 29 _ _ _ rfl) ?_
  refine r_iload_2 59 rfl (dd_X10_init 30 _ _ _ rfl) ?_
  refine r_callI1 (lvl := 10) (mc1 := 0) (ms1 := 0) 0 0 hg rfl md_X9_init wi_X9_init rfl rfl (tb_2 94 _ rfl) (by decide) (by decide) rfl (Nat.le_of_ble_eq_true rfl) (Nat.le_of_ble_eq_true rfl) (Nat.le_of_ble_eq_true rfl) 62 rfl (dd_X10_init 31 _ _ _ rfl) ?_
  refine c_X9_init (o := zu1 o3 te (rg 2 v)) (r := rg 2 v) hg zu1_at zu1_at (by omega) (fun h4 q1 q2 => ?_)
  have s4 : zStep (fun q => q = rg 2 v) o3 g4 (zu1 o3 te (rg 2 v)) h4 := (step_nob hz_te).trans q2
  generalize zu1 o3 te (rg 2 v) = o4 at q1 q2 s4
  have hkg4 := hk
  replace hk : kd_ h4 a = 14 := s4.kd hk (by omega)
  dsimp only [zCont, Option.toList, List.cons_append, List.nil_append]
  refine r_putrF hg zc_X10 3 (by decide) rfl (fun _ _ _ => rfl) rfl rfl (by decide) hk rfl rfl (Or.inl rfl) (tb_2 124 _ rfl) 65 rfl (dd_X10_init 32 _ _ _ rfl) ?_
  have ho4 : o4 a = rg 0 v := s4.own (by rw [hkg4]; decide) ho3
  have t4 : zStep (fun q => q = rg 0 v) o4 h4 o4 (sfr h4 a 3 (some te)) := step_sfr ho4
  replace hpl := (hpl.fr (s4.fr (r := rg 3 v) (by show ¬ _ = _; unfold rg; omega))).fr (t4.fr (r := rg 3 v) (by show ¬ _ = _; unfold rg; omega))
  replace hii := (hii.fr (s4.fr (r := rg 4 v) (by show ¬ _ = _; unfold rg; omega))).fr (t4.fr (r := rg 4 v) (by show ¬ _ = _; unfold rg; omega))
  have hte : ∀ (S : zS) (u : Nat), S.2 25 u = 0 → S.2 6 u = q → S.2 29 u = q + 1080 → S.2 28 u = 0 → TeRep o4 (rg 2 v) (sfr h4 a 3 (some te)) te S u := fun S u e1 e2 e3 e4 => (q1 S u e1 e2 e3 e4).fr (t4.fr (r := rg 2 v) (by show ¬ _ = _; unfold rg; omega))
  replace hhi : ∀ (S : zS) (u : Nat), S.2 7 u = c → S.2 8 u = 0 → HiRep g o4 (rg 1 v) (sfr h4 a 3 (some te)) hi S u := fun S u e1 e2 => ((hhi S u e1 e2).fr (s4.fr (r := rg 1 v) (by show ¬ _ = _; unfold rg; omega))).fr (t4.fr (r := rg 1 v) (by show ¬ _ = _; unfold rg; omega))
  have f3 : fr_ (sfr h4 a 3 (some te)) a 3 = some te := zu2_at
  replace f0 : fi_ (sfr h4 a 3 (some te)) a 0 = p := ((s4.fr (r := rg 0 v) (by show ¬ _ = _; unfold rg; omega) a ho3 (by rw [hkg4]; decide)).2.2.2.1 0).trans f0
  replace f1 : fi_ (sfr h4 a 3 (some te)) a 1 = q := ((s4.fr (r := rg 0 v) (by show ¬ _ = _; unfold rg; omega) a ho3 (by rw [hkg4]; decide)).2.2.2.1 1).trans f1
  replace f6 : fj_ (sfr h4 a 3 (some te)) a 6 = 0 := ((s4.fr (r := rg 0 v) (by show ¬ _ = _; unfold rg; omega) a ho3 (by rw [hkg4]; decide)).2.2.2.2.1 6).trans f6
  replace f2 : fr_ (sfr h4 a 3 (some te)) a 2 = some hi := (zu2_ne (fun q => by omega)).trans (((s4.fr (r := rg 0 v) (by show ¬ _ = _; unfold rg; omega) a ho3 (by rw [hkg4]; decide)).2.2.2.2.2.1 2).trans f2)
  replace f4 : fr_ (sfr h4 a 3 (some te)) a 4 = some pl := (zu2_ne (fun q => by omega)).trans (((s4.fr (r := rg 0 v) (by show ¬ _ = _; unfold rg; omega) a ho3 (by rw [hkg4]; decide)).2.2.2.2.2.1 4).trans f4)
  replace f5 : fr_ (sfr h4 a 3 (some te)) a 5 = some ii := (zu2_ne (fun q => by omega)).trans (((s4.fr (r := rg 0 v) (by show ¬ _ = _; unfold rg; omega) a ho3 (by rw [hkg4]; decide)).2.2.2.2.2.1 5).trans f5)
  replace S1 : zStep (fun q => q = rg 0 v ∨ q = rg 1 v ∨ q = rg 2 v ∨ q = rg 3 v ∨ q = rg 4 v) o h o4 (sfr h4 a 3 (some te)) := S1.trans ((s4.mono (fun _ q => Or.inr (Or.inr (Or.inl q)))).trans (t4.mono (fun _ q => Or.inl q)))
  replace hk : kd_ (sfr h4 a 3 (some te)) a = 14 := hk
  refine r_vreturn rfl (dd_X10_init 33 _ _ _ rfl) ?_
  exact k o4 _ pl ii hi te hk ho4 f0 f1 f2 f3 f4 f5 f6 hhi hte hpl hii S1

abbrev mX0_init : zM := (RX0, cX0_init, 1, (Option.none : Option Jvm.ClassFile.FieldType), [], "<init>", 10)
set_option maxRecDepth 20000 in
theorem c_X0_init {g : zGT} {Q : zO → zH → Prop} {h : zH} (hg : zG g) {o : Nat → Nat} {r : Nat} {b : Nat} (hk : kd_ h b = 4) (ho : o b = r) (k : ∀ o1 h1, (∀ S : zS, S.1 2 = 0 → (∀ i, S.2 3 i = 0) → BuRep o1 r h1 b S) → zStep (fun q => q = r) o h o1 h1 → Q (.inl none) h1) : zC g (.code yX0_init cX0_init 1 (Option.none : Option Jvm.ClassFile.FieldType)) yX0_init 10 1 8 [.ref b] h Q := by
  refine zC_of (M := mX0_init) (lv := [some (.ref b)]) (by decide) rfl rfl (Nat.le_of_ble_eq_true rfl) rfl rfl ?_
  refine r_aload_0 1 rfl (dd_X0_init 0 _ _ _ rfl) ?_
  refine r_objInit hg (tb_1 48 _ rfl) (tb_1 41 _ rfl) (tb_1 42 _ rfl) (Nat.le_of_ble_eq_true rfl) (by decide) 4 rfl (dd_X0_init 1 _ _ _ rfl) ?_
  refine r_aload_0 5 rfl (dd_X0_init 2 _ _ _ rfl) ?_
  refine r_bipush (by decide) 7 rfl (dd_X0_init 3 _ _ _ rfl) ?_
  refine r_newarray 21 0 0 hg (by decide) (by decide) rfl (tb_1 57 _ rfl) (by omega) (by omega) (Nat.le_of_ble_eq_true rfl) (Nat.le_of_ble_eq_true rfl) 9 rfl (dd_X0_init 4 _ _ _ rfl) (fun sg hz_sg => ?_)
  have hbs : b ≠ sg := fun q => by rw [q, hz_sg] at hk; cases hk
  replace hk : kd_ (nar h sg 21 (8 : Int).toNat) b = 4 := (zu1_ne hbs).trans hk
  have hob : zu1 o sg r b = r := (zu1_ne hbs).trans ho
  refine r_putrF hg zc_X0 0 (by decide) rfl (fun _ _ _ => rfl) rfl rfl (by decide) hk rfl rfl (Or.inl rfl) (tb_1 49 _ rfl) 12 rfl (dd_X0_init 5 _ _ _ rfl) ?_
  refine r_aload_0 13 rfl (dd_X0_init 6 _ _ _ rfl) ?_
  refine r_iconst 14 rfl (dd_X0_init 7 _ _ _ rfl) ?_
  refine r_puti hg zc_X0 1 (by decide) rfl (fun _ _ _ => rfl) rfl rfl (by decide) hk (Or.inl rfl) (tb_1 50 _ rfl) 17 rfl (dd_X0_init 8 _ _ _ rfl) ?_
  refine r_vreturn rfl (dd_X0_init 9 _ _ _ rfl) ?_
  exact k _ _ (fun S e1 e2 => ⟨sg, hk, hob, zu2_at, zu2_at.trans e1.symm, zu1_at, zu1_at, zu1_at, fun k _ => (if_pos rfl).trans (e2 k).symm⟩) ((step_nar hz_sg).trans ((step_sfr hob).trans (step_sfi hob)))

abbrev mX6_init : zM := (RX6, cX6_init, 1, (Option.none : Option Jvm.ClassFile.FieldType), [], "<init>", 10)
set_option maxRecDepth 20000 in
theorem c_X6_init {g : zGT} {Q : zO → zH → Prop} {h : zH} (hg : zG g) {o : Nat → Nat} {r : Nat} {b : Nat} (hk : kd_ h b = 10) (ho : o b = r) (k : ∀ o1 h1, (∀ S : zS, S.1 16 = -1 → (∀ i, S.2 15 i = 0) → (∀ i, S.2 17 i = 0) → SeRep o1 r h1 b S) → zStep (fun q => q = r) o h o1 h1 → Q (.inl none) h1) : zC g (.code yX6_init cX6_init 1 (Option.none : Option Jvm.ClassFile.FieldType)) yX6_init 10 2 1733 [.ref b] h Q := by
  refine zC_of (M := mX6_init) (lv := [some (.ref b)]) (by decide) rfl rfl (Nat.le_of_ble_eq_true rfl) rfl rfl ?_
  refine r_aload_0 1 rfl (dd_X6_init 0 _ _ _ rfl) ?_
  refine r_objInit hg (tb_1 63 _ rfl) (tb_1 41 _ rfl) (tb_1 42 _ rfl) (Nat.le_of_ble_eq_true rfl) (by decide) 4 rfl (dd_X6_init 1 _ _ _ rfl) ?_
  refine r_aload_0 5 rfl (dd_X6_init 2 _ _ _ rfl) ?_
  refine r_sipush (by decide) 8 rfl (dd_X6_init 3 _ _ _ rfl) ?_
  refine r_newarray 22 1 1057 hg (by decide) (by decide) rfl (tb_1 75 _ rfl) (by omega) (by omega) (Nat.le_of_ble_eq_true rfl) (Nat.le_of_ble_eq_true rfl) 10 rfl (dd_X6_init 4 _ _ _ rfl) (fun e hz_e => ?_)
  have hbe : b ≠ e := fun q => by rw [q, hz_e] at hk; cases hk
  replace hk : kd_ (nar h e 22 (676 : Int).toNat) b = 10 := (zu1_ne hbe).trans hk
  refine r_putrF hg zc_X6 0 (by decide) rfl (fun _ _ _ => rfl) rfl rfl (by decide) hk rfl rfl (Or.inl rfl) (tb_1 64 _ rfl) 13 rfl (dd_X6_init 5 _ _ _ rfl) ?_
  have hst1 : zStep (fun q => q = r) o h (zu1 o e r) (sfr (nar h e 22 (676 : Int).toNat) b 0 (some e)) := (step_nar hz_e).trans (step_sfr ((zu1_ne hbe).trans ho))
  have hke : kd_ (sfr (nar h e 22 (676 : Int).toNat) b 0 (some e)) e = 22 := zu1_at
  have hle : ln_ (sfr (nar h e 22 (676 : Int).toNat) b 0 (some e)) e = 676 := zu1_at
  have hae : ∀ k, ai_ (sfr (nar h e 22 (676 : Int).toNat) b 0 (some e)) e k = 0 := fun k => if_pos rfl
  have hf0 : fr_ (sfr (nar h e 22 (676 : Int).toNat) b 0 (some e)) b 0 = some e := zu2_at
  replace hk : kd_ (sfr (nar h e 22 (676 : Int).toNat) b 0 (some e)) b = 10 := hk
  have hoe : zu1 o e r e = r := zu1_at
  have hob : zu1 o e r b = r := (zu1_ne hbe).trans ho
  generalize (sfr (nar h e 22 (676 : Int).toNat) b 0 (some e)) = h2 at hst1 hke hle hae hf0 hk ⊢
  generalize zu1 o e r = o2 at hst1 hoe hob
  refine r_aload_0 14 rfl (dd_X6_init 6 _ _ _ rfl) ?_
  refine r_sipush (by decide) 17 rfl (dd_X6_init 7 _ _ _ rfl) ?_
  refine r_newarray 23 0 0 hg (by decide) (by decide) rfl (tb_1 76 _ rfl) (by omega) (by omega) (Nat.le_of_ble_eq_true rfl) (Nat.le_of_ble_eq_true rfl) 19 rfl (dd_X6_init 8 _ _ _ rfl) (fun e2 hz_e2 => ?_)
  have hbe2 : b ≠ e2 := fun q => by rw [q, hz_e2] at hk; cases hk
  have hee2 : e ≠ e2 := fun q => by rw [q, hz_e2] at hke; cases hke
  replace hk : kd_ (nar h2 e2 23 (1057 : Int).toNat) b = 10 := (zu1_ne hbe2).trans hk
  have hob2 : zu1 o2 e2 r b = r := (zu1_ne hbe2).trans hob
  refine r_putrF hg zc_X6 1 (by decide) rfl (fun _ _ _ => rfl) rfl rfl (by decide) hk rfl rfl (Or.inl rfl) (tb_1 65 _ rfl) 22 rfl (dd_X6_init 9 _ _ _ rfl) ?_
  refine r_aload_0 23 rfl (dd_X6_init 10 _ _ _ rfl) ?_
  refine r_iconst 24 rfl (dd_X6_init 11 _ _ _ rfl) ?_
  refine r_puti hg zc_X6 2 (by decide) rfl (fun _ _ _ => rfl) rfl rfl (by decide) hk (Or.inl rfl) (tb_1 66 _ rfl) 27 rfl (dd_X6_init 12 _ _ _ rfl) ?_
  refine r_vreturn rfl (dd_X6_init 13 _ _ _ rfl) ?_
  exact k _ _ (fun S e1 e3 e4 => ⟨e, e2, hk, hob2, (zu2_ne (fun q => by omega)).trans hf0, zu2_at, zu2_at.trans e1.symm, (zu1_ne hee2).trans hke, (zu1_ne hee2).trans hoe, (zu1_ne hee2).trans hle, fun k _ => ((if_neg hee2).trans (hae k)).trans (e3 k).symm, zu1_at, zu1_at, zu1_at, fun k _ => (if_pos rfl).trans (e4 k).symm⟩) (hst1.trans ((step_nar hz_e2).trans ((step_sfr hob2).trans (step_sfi hob2))))
