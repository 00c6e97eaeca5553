theorem zchg_no {q : Int × Int} {its : Int} (h : its = 0 ∨ its = 1 ∨ its = 7) : zchg q its = q := by
  unfold zchg
  rw [if_neg (by omega : ¬ its = 6), if_neg (by omega : ¬ its = 5), if_neg (by omega : ¬ its = 4), if_neg (by omega : ¬ its = 2), if_neg (by omega : ¬ its = 3)]
  split
  · rfl
  · split <;> rfl
theorem zchg_4 {a its : Int} : zchg (4, a) its = (4, a) := if_pos rfl
theorem StRep.next {o o1 : Nat → Nat} {r : Nat} {h h1 : zH} {b : Nat} {S : zS} {v j : Nat} (x : StRep o r h b S v j) (k : kd_ h1 b = 12) (ho : o1 b = r) (f0 : fi_ h1 b 0 = (zchg (zst S v j) (S.2 9 (30 * v + j))).1) (f1 : fi_ h1 b 1 = (zchg (zst S v j) (S.2 9 (30 * v + j))).2) (f2 : fi_ h1 b 2 = if S.2 9 (30 * v + j) = 0 then S.2 10 (30 * v + j) else fi_ h b 2) (f3 : fi_ h1 b 3 = if S.2 9 (30 * v + j) = 1 then S.2 10 (30 * v + j) else fi_ h b 3) (f4 : fi_ h1 b 4 = if S.2 9 (30 * v + j) = 7 then S.2 10 (30 * v + j) else fi_ h b 4) : StRep o1 r h1 b S v (j + 1) := by
  obtain ⟨x1, x2, x3, x4, x5, x6, x7⟩ := x
  rw [x5] at f2
  rw [x6] at f3
  rw [x7] at f4
  exact ⟨k, ho, f0, f1, f2, f3, f4⟩
abbrev mX8_init : zM := (RX8, cX8_init, 2, (Option.none : Option Jvm.ClassFile.FieldType), [], "<init>", 10)
set_option maxRecDepth 20000 in
theorem c_X8_init {g : zGT} {Q : zO → zH → Prop} {h : zH} (hg : zG g) {o : Nat → Nat} {r : Nat} {b : Nat} {p : Int} (hk : kd_ h b = 12) (ho : o b = r) (k : ∀ h1, fi_ h1 b 0 = 0 → fi_ h1 b 1 = 0 → fi_ h1 b 2 = -1 → fi_ h1 b 3 = -1 → fi_ h1 b 4 = p → zStep (fun q => q = r) o h o h1 → Q (.inl none) h1) : zC g (.code yX8_init cX8_init 2 (Option.none : Option Jvm.ClassFile.FieldType)) yX8_init 10 0 0 [.ref b, .int (zI p)] h Q := by
  refine zC_of (M := mX8_init) (lv := [some (.ref b), some (.int (zI p))]) (by decide) rfl rfl (Nat.le_of_ble_eq_true rfl) rfl rfl ?_
  refine r_aload_0 1 rfl (dd_X8_init 0 _ _ _ rfl) ?_
  refine r_objInit hg (tb_2 62 _ rfl) (tb_1 41 _ rfl) (tb_1 42 _ rfl) (Nat.le_of_ble_eq_true rfl) (by decide) 4 rfl (dd_X8_init 1 _ _ _ rfl) ?_
  refine r_aload_0 5 rfl (dd_X8_init 2 _ _ _ rfl) ?_
  refine r_iconst 6 rfl (dd_X8_init 3 _ _ _ rfl) ?_
  refine r_puti hg zc_X8 0 (by decide) rfl (fun _ _ _ => rfl) rfl rfl (by decide) hk (Or.inl rfl) (tb_2 63 _ rfl) 9 rfl (dd_X8_init 4 _ _ _ rfl) ?_
  refine r_aload_0 10 rfl (dd_X8_init 5 _ _ _ rfl) ?_
  refine r_iconst 11 rfl (dd_X8_init 6 _ _ _ rfl) ?_
  refine r_puti hg zc_X8 1 (by decide) rfl (fun _ _ _ => rfl) rfl rfl (by decide) hk (Or.inl rfl) (tb_2 65 _ rfl) 14 rfl (dd_X8_init 7 _ _ _ rfl) ?_
  refine r_aload_0 15 rfl (dd_X8_init 8 _ _ _ rfl) ?_
  refine r_iconst 16 rfl (dd_X8_init 9 _ _ _ rfl) ?_
  refine r_puti hg zc_X8 2 (by decide) rfl (fun _ _ _ => rfl) rfl rfl (by decide) hk (Or.inl rfl) (tb_2 66 _ rfl) 19 rfl (dd_X8_init 10 _ _ _ rfl) ?_
  refine r_aload_0 20 rfl (dd_X8_init 11 _ _ _ rfl) ?_
  refine r_iconst 21 rfl (dd_X8_init 12 _ _ _ rfl) ?_
  refine r_puti hg zc_X8 3 (by decide) rfl (fun _ _ _ => rfl) rfl rfl (by decide) hk (Or.inl rfl) (tb_2 68 _ rfl) 24 rfl (dd_X8_init 13 _ _ _ rfl) ?_
  refine r_aload_0 25 rfl (dd_X8_init 14 _ _ _ rfl) ?_
  refine r_iload_1 26 rfl (dd_X8_init 15 _ _ _ rfl) ?_
  refine r_puti hg zc_X8 4 (by decide) rfl (fun _ _ _ => rfl) rfl rfl (by decide) hk (Or.inl rfl) (tb_2 69 _ rfl) 29 rfl (dd_X8_init 16 _ _ _ rfl) ?_
  refine r_vreturn rfl (dd_X8_init 17 _ _ _ rfl) ?_
  exact k _ (by simp (decide := true) [zhs]) (by simp (decide := true) [zhs]) (by simp (decide := true) [zhs]) (by simp (decide := true) [zhs]) (by simp (decide := true) [zhs])  (((((step_sfi ho).trans (step_sfi ho)).trans (step_sfi ho)).trans (step_sfi ho)).trans (step_sfi ho))

abbrev mX8_copyFrom : zM := (RX8, cX8_copyFrom, 2, (Option.none : Option Jvm.ClassFile.FieldType), [], "copyFrom", 10)
set_option maxRecDepth 20000 in
theorem c_X8_copyFrom {g : zGT} {Q : zO → zH → Prop} {h : zH} (hg : zG g) {o : Nat → Nat} {r : Nat} {b c : Nat} (hk : kd_ h b = 12) (ho : o b = r) (hk2 : kd_ h c = 12) (k : ∀ h1, fi_ h1 b 0 = fi_ h c 0 → fi_ h1 b 1 = fi_ h c 1 → fi_ h1 b 2 = fi_ h c 2 → fi_ h1 b 3 = fi_ h c 3 → fi_ h1 b 4 = fi_ h c 4 → zStep (fun q => q = r) o h o h1 → Q (.inl none) h1) : zC g (.code yX8_copyFrom cX8_copyFrom 2 (Option.none : Option Jvm.ClassFile.FieldType)) yX8_copyFrom 10 0 0 [.ref b, .ref c] h Q := by
  refine zC_of (M := mX8_copyFrom) (lv := [some (.ref b), some (.ref c)]) (by decide) rfl rfl (Nat.le_of_ble_eq_true rfl) rfl rfl ?_
  refine r_aload_0 1 rfl (dd_X8_copyFrom 0 _ _ _ rfl) ?_
  refine r_aload_1 2 rfl (dd_X8_copyFrom 1 _ _ _ rfl) ?_
  refine r_geti hg zc_X8 0 (by decide) (fun _ _ _ => rfl) rfl hk2 (Or.inl rfl) (tb_2 63 _ rfl) 5 rfl (dd_X8_copyFrom 2 _ _ _ rfl) ?_
  refine r_puti hg zc_X8 0 (by decide) rfl (fun _ _ _ => rfl) rfl rfl (by decide) hk (Or.inl rfl) (tb_2 63 _ rfl) 8 rfl (dd_X8_copyFrom 3 _ _ _ rfl) ?_
  refine r_aload_0 9 rfl (dd_X8_copyFrom 4 _ _ _ rfl) ?_
  refine r_aload_1 10 rfl (dd_X8_copyFrom 5 _ _ _ rfl) ?_
  refine r_geti hg zc_X8 1 (by decide) (fun _ _ _ => rfl) rfl hk2 (Or.inl rfl) (tb_2 65 _ rfl) 13 rfl (dd_X8_copyFrom 6 _ _ _ rfl) ?_
  refine r_puti hg zc_X8 1 (by decide) rfl (fun _ _ _ => rfl) rfl rfl (by decide) hk (Or.inl rfl) (tb_2 65 _ rfl) 16 rfl (dd_X8_copyFrom 7 _ _ _ rfl) ?_
  refine r_aload_0 17 rfl (dd_X8_copyFrom 8 _ _ _ rfl) ?_
  refine r_aload_1 18 rfl (dd_X8_copyFrom 9 _ _ _ rfl) ?_
  refine r_geti hg zc_X8 2 (by decide) (fun _ _ _ => rfl) rfl hk2 (Or.inl rfl) (tb_2 66 _ rfl) 21 rfl (dd_X8_copyFrom 10 _ _ _ rfl) ?_
  refine r_puti hg zc_X8 2 (by decide) rfl (fun _ _ _ => rfl) rfl rfl (by decide) hk (Or.inl rfl) (tb_2 66 _ rfl) 24 rfl (dd_X8_copyFrom 11 _ _ _ rfl) ?_
  refine r_aload_0 25 rfl (dd_X8_copyFrom 12 _ _ _ rfl) ?_
  refine r_aload_1 26 rfl (dd_X8_copyFrom 13 _ _ _ rfl) ?_
  refine r_geti hg zc_X8 3 (by decide) (fun _ _ _ => rfl) rfl hk2 (Or.inl rfl) (tb_2 68 _ rfl) 29 rfl (dd_X8_copyFrom 14 _ _ _ rfl) ?_
  refine r_puti hg zc_X8 3 (by decide) rfl (fun _ _ _ => rfl) rfl rfl (by decide) hk (Or.inl rfl) (tb_2 68 _ rfl) 32 rfl (dd_X8_copyFrom 15 _ _ _ rfl) ?_
  refine r_aload_0 33 rfl (dd_X8_copyFrom 16 _ _ _ rfl) ?_
  refine r_aload_1 34 rfl (dd_X8_copyFrom 17 _ _ _ rfl) ?_
  refine r_geti hg zc_X8 4 (by decide) (fun _ _ _ => rfl) rfl hk2 (Or.inl rfl) (tb_2 69 _ rfl) 37 rfl (dd_X8_copyFrom 18 _ _ _ rfl) ?_
  refine r_puti hg zc_X8 4 (by decide) rfl (fun _ _ _ => rfl) rfl rfl (by decide) hk (Or.inl rfl) (tb_2 69 _ rfl) 40 rfl (dd_X8_copyFrom 19 _ _ _ rfl) ?_
  refine r_vreturn rfl (dd_X8_copyFrom 20 _ _ _ rfl) ?_
  exact k _ (by simp (decide := true) [zhs]) (by simp (decide := true) [zhs]) (by simp (decide := true) [zhs]) (by simp (decide := true) [zhs]) (by simp (decide := true) [zhs]) (((((step_sfi ho).trans (step_sfi ho)).trans (step_sfi ho)).trans (step_sfi ho)).trans (step_sfi ho))

abbrev mX8_changeState : zM := (RX8, cX8_changeState, 2, (Option.none : Option Jvm.ClassFile.FieldType), [], "changeState", 10)
set_option maxRecDepth 20000 in
theorem c_X8_changeState {g : zGT} {Q : zO → zH → Prop} {h : zH} (hg : zG g) {o : Nat → Nat} {r : Nat} {b : Nat} {s a its : Int} (hk : kd_ h b = 12) (ho : o b = r) (h0 : fi_ h b 0 = s) (h1 : fi_ h b 1 = a) (hs : 0 ≤ s ∧ s ≤ 3) (ha : 0 ≤ a ∧ a ≤ 4) (hi : zR its) (k : ∀ h1, fi_ h1 b 0 = (zchg (s, a) its).1 → fi_ h1 b 1 = (zchg (s, a) its).2 → (∀ j, 2 ≤ j → fi_ h1 b j = fi_ h b j) → zStep (fun q => q = r) o h o h1 → Q (.inl none) h1) : zC g (.code yX8_changeState cX8_changeState 2 (Option.none : Option Jvm.ClassFile.FieldType)) yX8_changeState 10 0 0 [.ref b, .int (zI its)] h Q := by
  refine zC_of (M := mX8_changeState) (lv := [some (.ref b), some (.int (zI its))]) (by decide) rfl rfl (Nat.le_of_ble_eq_true rfl) rfl rfl ?_
  have hs4 : ¬ s = 4 := by omega
  refine r_iload_1 1 rfl (dd_X8_changeState 0 _ _ _ rfl) ?_
  refine r_bipush (by decide) 3 rfl (dd_X8_changeState 1 _ _ _ rfl) ?_
  refine r_if_icmpne (by omega) (by omega) 6 rfl 14 rfl (dd_X8_changeState 2 _ _ _ rfl) (fun hc1 => ?_) (fun hc1 => ?_)
  · refine r_aload_0 15 rfl (dd_X8_changeState 7 _ _ _ rfl) ?_
    refine r_geti hg zc_X8 0 (by decide) (fun _ _ _ => rfl) h0 hk (Or.inl rfl) (tb_2 63 _ rfl) 18 rfl (dd_X8_changeState 8 _ _ _ rfl) ?_
    refine r_iconst 19 rfl (dd_X8_changeState 9 _ _ _ rfl) ?_
    refine r_if_icmpne (by omega) (by omega) 22 rfl 42 rfl (dd_X8_changeState 10 _ _ _ rfl) (fun hc2 => ?_) (fun hc2 => ?_)
    · refine r_iload_1 43 rfl (dd_X8_changeState 21 _ _ _ rfl) ?_
      refine r_iconst 44 rfl (dd_X8_changeState 22 _ _ _ rfl) ?_
      refine r_if_icmpne (by omega) (by omega) 47 rfl 63 rfl (dd_X8_changeState 23 _ _ _ rfl) (fun hc3 => ?_) (fun hc3 => ?_)
      · refine r_iload_1 64 rfl (dd_X8_changeState 32 _ _ _ rfl) ?_
        refine r_iconst 65 rfl (dd_X8_changeState 33 _ _ _ rfl) ?_
        refine r_if_icmpne (by omega) (by omega) 68 rfl 76 rfl (dd_X8_changeState 34 _ _ _ rfl) (fun hc4 => ?_) (fun hc4 => ?_)
        · refine r_iload_1 77 rfl (dd_X8_changeState 39 _ _ _ rfl) ?_
          refine r_iconst 78 rfl (dd_X8_changeState 40 _ _ _ rfl) ?_
          refine r_if_icmpne (by omega) (by omega) 81 rfl 86 rfl (dd_X8_changeState 41 _ _ _ rfl) (fun hc5 => ?_) (fun hc5 => ?_)
          · refine r_vreturn rfl (dd_X8_changeState 45 _ _ _ rfl) ?_
            first | exact k _ (by simp (decide := true) [zhs, zchg, *]) (by simp (decide := true) [zhs, zchg, *]) (fun j hj => by simp (decide := true) [zhs]; omega) (step_sfi ho) | exact k _ (by simp (decide := true) [zhs, zchg, *]) (by simp (decide := true) [zhs, zchg, *]) (fun j hj => by simp (decide := true) [zhs]; omega) ((step_sfi ho).trans (step_sfi ho)) | exact k _ (by simp (decide := true) [zchg, *]) (by simp (decide := true) [zchg, *]) (fun j hj => rfl) .refl
          · refine r_aload_0 82 rfl (dd_X8_changeState 42 _ _ _ rfl) ?_
            refine r_iconst 83 rfl (dd_X8_changeState 43 _ _ _ rfl) ?_
            refine r_puti hg zc_X8 0 (by decide) rfl (fun _ _ _ => rfl) rfl rfl (by decide) hk (Or.inl rfl) (tb_2 63 _ rfl) 86 rfl (dd_X8_changeState 44 _ _ _ rfl) ?_
            refine r_vreturn rfl (dd_X8_changeState 45 _ _ _ rfl) ?_
            first | exact k _ (by simp (decide := true) [zhs, zchg, *]) (by simp (decide := true) [zhs, zchg, *]) (fun j hj => by simp (decide := true) [zhs]; omega) (step_sfi ho) | exact k _ (by simp (decide := true) [zhs, zchg, *]) (by simp (decide := true) [zhs, zchg, *]) (fun j hj => by simp (decide := true) [zhs]; omega) ((step_sfi ho).trans (step_sfi ho)) | exact k _ (by simp (decide := true) [zchg, *]) (by simp (decide := true) [zchg, *]) (fun j hj => rfl) .refl
        · refine r_aload_0 69 rfl (dd_X8_changeState 35 _ _ _ rfl) ?_
          refine r_iconst 70 rfl (dd_X8_changeState 36 _ _ _ rfl) ?_
          refine r_puti hg zc_X8 0 (by decide) rfl (fun _ _ _ => rfl) rfl rfl (by decide) hk (Or.inl rfl) (tb_2 63 _ rfl) 73 rfl (dd_X8_changeState 37 _ _ _ rfl) ?_
          refine r_goto 86 rfl (dd_X8_changeState 38 _ _ _ rfl) ?_
          refine r_vreturn rfl (dd_X8_changeState 45 _ _ _ rfl) ?_
          first | exact k _ (by simp (decide := true) [zhs, zchg, *]) (by simp (decide := true) [zhs, zchg, *]) (fun j hj => by simp (decide := true) [zhs]; omega) (step_sfi ho) | exact k _ (by simp (decide := true) [zhs, zchg, *]) (by simp (decide := true) [zhs, zchg, *]) (fun j hj => by simp (decide := true) [zhs]; omega) ((step_sfi ho).trans (step_sfi ho)) | exact k _ (by simp (decide := true) [zchg, *]) (by simp (decide := true) [zchg, *]) (fun j hj => rfl) .refl
      · refine r_aload_0 48 rfl (dd_X8_changeState 24 _ _ _ rfl) ?_
        refine r_aload_0 49 rfl (dd_X8_changeState 25 _ _ _ rfl) ?_
        refine r_geti hg zc_X8 0 (by decide) (fun _ _ _ => rfl) h0 hk (Or.inl rfl) (tb_2 63 _ rfl) 52 rfl (dd_X8_changeState 26 _ _ _ rfl) ?_
        refine r_puti hg zc_X8 1 (by decide) rfl (fun _ _ _ => rfl) rfl rfl (by decide) hk (Or.inl rfl) (tb_2 65 _ rfl) 55 rfl (dd_X8_changeState 27 _ _ _ rfl) ?_
        refine r_aload_0 56 rfl (dd_X8_changeState 28 _ _ _ rfl) ?_
        refine r_iconst 57 rfl (dd_X8_changeState 29 _ _ _ rfl) ?_
        refine r_puti hg zc_X8 0 (by decide) rfl (fun _ _ _ => rfl) rfl rfl (by decide) hk (Or.inl rfl) (tb_2 63 _ rfl) 60 rfl (dd_X8_changeState 30 _ _ _ rfl) ?_
        refine r_goto 86 rfl (dd_X8_changeState 31 _ _ _ rfl) ?_
        refine r_vreturn rfl (dd_X8_changeState 45 _ _ _ rfl) ?_
        first | exact k _ (by simp (decide := true) [zhs, zchg, *]) (by simp (decide := true) [zhs, zchg, *]) (fun j hj => by simp (decide := true) [zhs]; omega) (step_sfi ho) | exact k _ (by simp (decide := true) [zhs, zchg, *]) (by simp (decide := true) [zhs, zchg, *]) (fun j hj => by simp (decide := true) [zhs]; omega) ((step_sfi ho).trans (step_sfi ho)) | exact k _ (by simp (decide := true) [zchg, *]) (by simp (decide := true) [zchg, *]) (fun j hj => rfl) .refl
    · refine r_aload_0 23 rfl (dd_X8_changeState 11 _ _ _ rfl) ?_
      refine r_iload_1 24 rfl (dd_X8_changeState 12 _ _ _ rfl) ?_
      refine r_iconst 25 rfl (dd_X8_changeState 13 _ _ _ rfl) ?_
      refine r_if_icmpne (by omega) (by omega) 28 rfl 35 rfl (dd_X8_changeState 14 _ _ _ rfl) (fun hc6 => ?_) (fun hc6 => ?_)
      · refine r_iconst 36 rfl (dd_X8_changeState 18 _ _ _ rfl) ?_
        refine r_puti hg zc_X8 0 (by decide) rfl (fun _ _ _ => rfl) rfl rfl (by decide) hk (Or.inl rfl) (tb_2 63 _ rfl) 39 rfl (dd_X8_changeState 19 _ _ _ rfl) ?_
        refine r_goto 86 rfl (dd_X8_changeState 20 _ _ _ rfl) ?_
        refine r_vreturn rfl (dd_X8_changeState 45 _ _ _ rfl) ?_
        first | exact k _ (by simp (decide := true) [zhs, zchg, *]) (by simp (decide := true) [zhs, zchg, *]) (fun j hj => by simp (decide := true) [zhs]; omega) (step_sfi ho) | exact k _ (by simp (decide := true) [zhs, zchg, *]) (by simp (decide := true) [zhs, zchg, *]) (fun j hj => by simp (decide := true) [zhs]; omega) ((step_sfi ho).trans (step_sfi ho)) | exact k _ (by simp (decide := true) [zchg, *]) (by simp (decide := true) [zchg, *]) (fun j hj => rfl) .refl
      · refine r_aload_0 29 rfl (dd_X8_changeState 15 _ _ _ rfl) ?_
        refine r_geti hg zc_X8 1 (by decide) (fun _ _ _ => rfl) h1 hk (Or.inl rfl) (tb_2 65 _ rfl) 32 rfl (dd_X8_changeState 16 _ _ _ rfl) ?_
        refine r_goto 36 rfl (dd_X8_changeState 17 _ _ _ rfl) ?_
        refine r_puti hg zc_X8 0 (by decide) rfl (fun _ _ _ => rfl) rfl rfl (by decide) hk (Or.inl rfl) (tb_2 63 _ rfl) 39 rfl (dd_X8_changeState 19 _ _ _ rfl) ?_
        refine r_goto 86 rfl (dd_X8_changeState 20 _ _ _ rfl) ?_
        refine r_vreturn rfl (dd_X8_changeState 45 _ _ _ rfl) ?_
        first | exact k _ (by simp (decide := true) [zhs, zchg, *]) (by simp (decide := true) [zhs, zchg, *]) (fun j hj => by simp (decide := true) [zhs]; omega) (step_sfi ho) | exact k _ (by simp (decide := true) [zhs, zchg, *]) (by simp (decide := true) [zhs, zchg, *]) (fun j hj => by simp (decide := true) [zhs]; omega) ((step_sfi ho).trans (step_sfi ho)) | exact k _ (by simp (decide := true) [zchg, *]) (by simp (decide := true) [zchg, *]) (fun j hj => rfl) .refl
  · refine r_aload_0 7 rfl (dd_X8_changeState 3 _ _ _ rfl) ?_
    refine r_iconst 8 rfl (dd_X8_changeState 4 _ _ _ rfl) ?_
    refine r_puti hg zc_X8 0 (by decide) rfl (fun _ _ _ => rfl) rfl rfl (by decide) hk (Or.inl rfl) (tb_2 63 _ rfl) 11 rfl (dd_X8_changeState 5 _ _ _ rfl) ?_
    refine r_goto 86 rfl (dd_X8_changeState 6 _ _ _ rfl) ?_
    refine r_vreturn rfl (dd_X8_changeState 45 _ _ _ rfl) ?_
    first | exact k _ (by simp (decide := true) [zhs, zchg, *]) (by simp (decide := true) [zhs, zchg, *]) (fun j hj => by simp (decide := true) [zhs]; omega) (step_sfi ho) | exact k _ (by simp (decide := true) [zhs, zchg, *]) (by simp (decide := true) [zhs, zchg, *]) (fun j hj => by simp (decide := true) [zhs]; omega) ((step_sfi ho).trans (step_sfi ho)) | exact k _ (by simp (decide := true) [zchg, *]) (by simp (decide := true) [zchg, *]) (fun j hj => rfl) .refl

abbrev mX8_follow : zM := (RX8, cX8_follow, 2, (Option.none : Option Jvm.ClassFile.FieldType), [], "follow", 11)
set_option maxRecDepth 20000 in
theorem c_X8_follow {g : zGT} {Q : zO → zH → Prop} {h : zH} (hg : zG g) {o : Nat → Nat} {r : Nat} {b e : Nat} {S : zS} {v j n : Nat} (hI : MInv n S) (x : StRep o r h b S v j) {o2 : Nat → Nat} {r2 : Nat} (y : EvRep o2 r2 h e S v j) (k : ∀ h1, StRep o r h1 b S v (j + 1) → zStep (fun q => q = r) o h o h1 → Q (.inl none) h1) : zC g (.code yX8_follow cX8_follow 2 (Option.none : Option Jvm.ClassFile.FieldType)) yX8_follow 11 0 0 [.ref b, .ref e] h Q := by
  refine zC_of (M := mX8_follow) (lv := [some (.ref b), some (.ref e)]) (by decide) rfl rfl (Nat.le_of_ble_eq_true rfl) rfl rfl ?_
  obtain ⟨x1, x2, x3, x4, x5, x6, x7⟩ := id x
  obtain ⟨y1, y2, y3, y4, y5⟩ := id y
  have hz := zst_range S v j
  have hkr := hI.kind (30 * v + j)
  refine r_aload_1 1 rfl (dd_X8_follow 0 _ _ _ rfl) ?_
  refine r_geti hg zc_X2 0 (by decide) (fun _ _ _ => rfl) y3 y1 (Or.inl rfl) (tb_3 50 _ rfl) 4 rfl (dd_X8_follow 1 _ _ _ rfl) ?_
  refine r_ifne (by omega) 7 rfl 18 rfl (dd_X8_follow 2 _ _ _ rfl) (fun hc1 => ?_) (fun hc1 => ?_)
  · refine r_aload_1 19 rfl (dd_X8_follow 8 _ _ _ rfl) ?_
    refine r_geti hg zc_X2 0 (by decide) (fun _ _ _ => rfl) y3 y1 (Or.inl rfl) (tb_3 50 _ rfl) 22 rfl (dd_X8_follow 9 _ _ _ rfl) ?_
    refine r_iconst 23 rfl (dd_X8_follow 10 _ _ _ rfl) ?_
    refine r_if_icmpne (by omega) (by omega) 26 rfl 37 rfl (dd_X8_follow 11 _ _ _ rfl) (fun hc2 => ?_) (fun hc2 => ?_)
    · refine r_aload_1 38 rfl (dd_X8_follow 17 _ _ _ rfl) ?_
      refine r_geti hg zc_X2 0 (by decide) (fun _ _ _ => rfl) y3 y1 (Or.inl rfl) (tb_3 50 _ rfl) 41 rfl (dd_X8_follow 18 _ _ _ rfl) ?_
      refine r_bipush (by decide) 43 rfl (dd_X8_follow 19 _ _ _ rfl) ?_
      refine r_if_icmpne (by omega) (by omega) 46 rfl 57 rfl (dd_X8_follow 20 _ _ _ rfl) (fun hc3 => ?_) (fun hc3 => ?_)
      · refine r_aload_0 58 rfl (dd_X8_follow 26 _ _ _ rfl) ?_
        refine r_geti hg zc_X8 0 (by decide) (fun _ _ _ => rfl) x3 x1 (Or.inl rfl) (tb_2 63 _ rfl) 61 rfl (dd_X8_follow 27 _ _ _ rfl) ?_
        refine r_iconst 62 rfl (dd_X8_follow 28 _ _ _ rfl) ?_
        refine r_if_icmpeq (by omega) (by omega) 65 rfl 73 rfl (dd_X8_follow 29 _ _ _ rfl) (fun hc4 => ?_) (fun hc4 => ?_)
        · refine r_vreturn rfl (dd_X8_follow 34 _ _ _ rfl) ?_
          first | exact k _ (x.next (h1 := sfi h b 2 (S.2 10 (30 * v + j))) x1 x2 (by rw [zchg_no (by omega)]; simp (decide := true) [zhs, x3]) (by rw [zchg_no (by omega)]; simp (decide := true) [zhs, x4]) (by rw [if_pos (by omega)]; simp (decide := true) [zhs]) (by rw [if_neg (by omega)]; simp (decide := true) [zhs]) (by rw [if_neg (by omega)]; simp (decide := true) [zhs])) (step_sfi x2) | exact k _ (x.next (h1 := sfi h b 3 (S.2 10 (30 * v + j))) x1 x2 (by rw [zchg_no (by omega)]; simp (decide := true) [zhs, x3]) (by rw [zchg_no (by omega)]; simp (decide := true) [zhs, x4]) (by rw [if_neg (by omega)]; simp (decide := true) [zhs]) (by rw [if_pos (by omega)]; simp (decide := true) [zhs]) (by rw [if_neg (by omega)]; simp (decide := true) [zhs])) (step_sfi x2) | exact k _ (x.next (h1 := sfi h b 4 (S.2 10 (30 * v + j))) x1 x2 (by rw [zchg_no (by omega)]; simp (decide := true) [zhs, x3]) (by rw [zchg_no (by omega)]; simp (decide := true) [zhs, x4]) (by rw [if_neg (by omega)]; simp (decide := true) [zhs]) (by rw [if_neg (by omega)]; simp (decide := true) [zhs]) (by rw [if_pos (by omega)]; simp (decide := true) [zhs])) (step_sfi x2) | exact k _ (x.next ((q4.kd x1 (by omega))) (q4.own (by omega) x2) q1 q2 (by rw [if_neg (by omega)]; exact q3 2 (by omega)) (by rw [if_neg (by omega)]; exact q3 3 (by omega)) (by rw [if_neg (by omega)]; exact q3 4 (by omega))) q4 | (have e4 : zst S v j = (4, (zst S v j).2) := Prod.ext (by omega) rfl; exact k _ (x.next x1 x2 (by rw [e4, zchg_4]; rw [x3, e4]) (by rw [e4, zchg_4]; rw [x4]) (by rw [if_neg (by omega)]) (by rw [if_neg (by omega)]) (by rw [if_neg (by omega)])) .refl)
        · refine r_aload_0 66 rfl (dd_X8_follow 30 _ _ _ rfl) ?_
          refine r_aload_1 67 rfl (dd_X8_follow 31 _ _ _ rfl) ?_
          refine r_geti hg zc_X2 0 (by decide) (fun _ _ _ => rfl) y3 y1 (Or.inl rfl) (tb_3 50 _ rfl) 70 rfl (dd_X8_follow 32 _ _ _ rfl) ?_
          refine r_callV1 (lvl := 10) (mc1 := 0) (ms1 := 0) 0 0 hg rfl md_X8_changeState zc_X8 x1 wi_X8_changeState wv_X8_changeState (tb_4 107 _ rfl) (by decide) (by decide) rfl (Nat.le_of_ble_eq_true rfl) (Nat.le_of_ble_eq_true rfl) (Nat.le_of_ble_eq_true rfl) 73 rfl (dd_X8_follow 33 _ _ _ rfl) ?_
          refine c_X8_changeState (s := (zst S v j).1) (a := (zst S v j).2) hg x1 x2 x3 x4 (by omega) (by omega) (by omega) (fun h1 q1 q2 q3 q4 => ?_)
          dsimp only [zCont, Option.toList, List.cons_append, List.nil_append]
          refine r_vreturn rfl (dd_X8_follow 34 _ _ _ rfl) ?_
          first | exact k _ (x.next (h1 := sfi h b 2 (S.2 10 (30 * v + j))) x1 x2 (by rw [zchg_no (by omega)]; simp (decide := true) [zhs, x3]) (by rw [zchg_no (by omega)]; simp (decide := true) [zhs, x4]) (by rw [if_pos (by omega)]; simp (decide := true) [zhs]) (by rw [if_neg (by omega)]; simp (decide := true) [zhs]) (by rw [if_neg (by omega)]; simp (decide := true) [zhs])) (step_sfi x2) | exact k _ (x.next (h1 := sfi h b 3 (S.2 10 (30 * v + j))) x1 x2 (by rw [zchg_no (by omega)]; simp (decide := true) [zhs, x3]) (by rw [zchg_no (by omega)]; simp (decide := true) [zhs, x4]) (by rw [if_neg (by omega)]; simp (decide := true) [zhs]) (by rw [if_pos (by omega)]; simp (decide := true) [zhs]) (by rw [if_neg (by omega)]; simp (decide := true) [zhs])) (step_sfi x2) | exact k _ (x.next (h1 := sfi h b 4 (S.2 10 (30 * v + j))) x1 x2 (by rw [zchg_no (by omega)]; simp (decide := true) [zhs, x3]) (by rw [zchg_no (by omega)]; simp (decide := true) [zhs, x4]) (by rw [if_neg (by omega)]; simp (decide := true) [zhs]) (by rw [if_neg (by omega)]; simp (decide := true) [zhs]) (by rw [if_pos (by omega)]; simp (decide := true) [zhs])) (step_sfi x2) | exact k _ (x.next ((q4.kd x1 (by omega))) (q4.own (by omega) x2) q1 q2 (by rw [if_neg (by omega)]; exact q3 2 (by omega)) (by rw [if_neg (by omega)]; exact q3 3 (by omega)) (by rw [if_neg (by omega)]; exact q3 4 (by omega))) q4 | (have e4 : zst S v j = (4, (zst S v j).2) := Prod.ext (by omega) rfl; exact k _ (x.next x1 x2 (by rw [e4, zchg_4]; rw [x3, e4]) (by rw [e4, zchg_4]; rw [x4]) (by rw [if_neg (by omega)]) (by rw [if_neg (by omega)]) (by rw [if_neg (by omega)])) .refl)
      · refine r_aload_0 47 rfl (dd_X8_follow 21 _ _ _ rfl) ?_
        refine r_aload_1 48 rfl (dd_X8_follow 22 _ _ _ rfl) ?_
        refine r_geti hg zc_X2 1 (by decide) (fun _ _ _ => rfl) y4 y1 (Or.inl rfl) (tb_3 52 _ rfl) 51 rfl (dd_X8_follow 23 _ _ _ rfl) ?_
        refine r_puti hg zc_X8 4 (by decide) rfl (fun _ _ _ => rfl) rfl rfl (by decide) x1 (Or.inl rfl) (tb_2 69 _ rfl) 54 rfl (dd_X8_follow 24 _ _ _ rfl) ?_
        refine r_goto 73 rfl (dd_X8_follow 25 _ _ _ rfl) ?_
        refine r_vreturn rfl (dd_X8_follow 34 _ _ _ rfl) ?_
        first | exact k _ (x.next (h1 := sfi h b 2 (S.2 10 (30 * v + j))) x1 x2 (by rw [zchg_no (by omega)]; simp (decide := true) [zhs, x3]) (by rw [zchg_no (by omega)]; simp (decide := true) [zhs, x4]) (by rw [if_pos (by omega)]; simp (decide := true) [zhs]) (by rw [if_neg (by omega)]; simp (decide := true) [zhs]) (by rw [if_neg (by omega)]; simp (decide := true) [zhs])) (step_sfi x2) | exact k _ (x.next (h1 := sfi h b 3 (S.2 10 (30 * v + j))) x1 x2 (by rw [zchg_no (by omega)]; simp (decide := true) [zhs, x3]) (by rw [zchg_no (by omega)]; simp (decide := true) [zhs, x4]) (by rw [if_neg (by omega)]; simp (decide := true) [zhs]) (by rw [if_pos (by omega)]; simp (decide := true) [zhs]) (by rw [if_neg (by omega)]; simp (decide := true) [zhs])) (step_sfi x2) | exact k _ (x.next (h1 := sfi h b 4 (S.2 10 (30 * v + j))) x1 x2 (by rw [zchg_no (by omega)]; simp (decide := true) [zhs, x3]) (by rw [zchg_no (by omega)]; simp (decide := true) [zhs, x4]) (by rw [if_neg (by omega)]; simp (decide := true) [zhs]) (by rw [if_neg (by omega)]; simp (decide := true) [zhs]) (by rw [if_pos (by omega)]; simp (decide := true) [zhs])) (step_sfi x2) | exact k _ (x.next ((q4.kd x1 (by omega))) (q4.own (by omega) x2) q1 q2 (by rw [if_neg (by omega)]; exact q3 2 (by omega)) (by rw [if_neg (by omega)]; exact q3 3 (by omega)) (by rw [if_neg (by omega)]; exact q3 4 (by omega))) q4 | (have e4 : zst S v j = (4, (zst S v j).2) := Prod.ext (by omega) rfl; exact k _ (x.next x1 x2 (by rw [e4, zchg_4]; rw [x3, e4]) (by rw [e4, zchg_4]; rw [x4]) (by rw [if_neg (by omega)]) (by rw [if_neg (by omega)]) (by rw [if_neg (by omega)])) .refl)
    · refine r_aload_0 27 rfl (dd_X8_follow 12 _ _ _ rfl) ?_
      refine r_aload_1 28 rfl (dd_X8_follow 13 _ _ _ rfl) ?_
      refine r_geti hg zc_X2 1 (by decide) (fun _ _ _ => rfl) y4 y1 (Or.inl rfl) (tb_3 52 _ rfl) 31 rfl (dd_X8_follow 14 _ _ _ rfl) ?_
      refine r_puti hg zc_X8 3 (by decide) rfl (fun _ _ _ => rfl) rfl rfl (by decide) x1 (Or.inl rfl) (tb_2 68 _ rfl) 34 rfl (dd_X8_follow 15 _ _ _ rfl) ?_
      refine r_goto 73 rfl (dd_X8_follow 16 _ _ _ rfl) ?_
      refine r_vreturn rfl (dd_X8_follow 34 _ _ _ rfl) ?_
      first | exact k _ (x.next (h1 := sfi h b 2 (S.2 10 (30 * v + j))) x1 x2 (by rw [zchg_no (by omega)]; simp (decide := true) [zhs, x3]) (by rw [zchg_no (by omega)]; simp (decide := true) [zhs, x4]) (by rw [if_pos (by omega)]; simp (decide := true) [zhs]) (by rw [if_neg (by omega)]; simp (decide := true) [zhs]) (by rw [if_neg (by omega)]; simp (decide := true) [zhs])) (step_sfi x2) | exact k _ (x.next (h1 := sfi h b 3 (S.2 10 (30 * v + j))) x1 x2 (by rw [zchg_no (by omega)]; simp (decide := true) [zhs, x3]) (by rw [zchg_no (by omega)]; simp (decide := true) [zhs, x4]) (by rw [if_neg (by omega)]; simp (decide := true) [zhs]) (by rw [if_pos (by omega)]; simp (decide := true) [zhs]) (by rw [if_neg (by omega)]; simp (decide := true) [zhs])) (step_sfi x2) | exact k _ (x.next (h1 := sfi h b 4 (S.2 10 (30 * v + j))) x1 x2 (by rw [zchg_no (by omega)]; simp (decide := true) [zhs, x3]) (by rw [zchg_no (by omega)]; simp (decide := true) [zhs, x4]) (by rw [if_neg (by omega)]; simp (decide := true) [zhs]) (by rw [if_neg (by omega)]; simp (decide := true) [zhs]) (by rw [if_pos (by omega)]; simp (decide := true) [zhs])) (step_sfi x2) | exact k _ (x.next ((q4.kd x1 (by omega))) (q4.own (by omega) x2) q1 q2 (by rw [if_neg (by omega)]; exact q3 2 (by omega)) (by rw [if_neg (by omega)]; exact q3 3 (by omega)) (by rw [if_neg (by omega)]; exact q3 4 (by omega))) q4 | (have e4 : zst S v j = (4, (zst S v j).2) := Prod.ext (by omega) rfl; exact k _ (x.next x1 x2 (by rw [e4, zchg_4]; rw [x3, e4]) (by rw [e4, zchg_4]; rw [x4]) (by rw [if_neg (by omega)]) (by rw [if_neg (by omega)]) (by rw [if_neg (by omega)])) .refl)
  · refine r_aload_0 8 rfl (dd_X8_follow 3 _ _ _ rfl) ?_
    refine r_aload_1 9 rfl (dd_X8_follow 4 _ _ _ rfl) ?_
    refine r_geti hg zc_X2 1 (by decide) (fun _ _ _ => rfl) y4 y1 (Or.inl rfl) (tb_3 52 _ rfl) 12 rfl (dd_X8_follow 5 _ _ _ rfl) ?_
    refine r_puti hg zc_X8 2 (by decide) rfl (fun _ _ _ => rfl) rfl rfl (by decide) x1 (Or.inl rfl) (tb_2 66 _ rfl) 15 rfl (dd_X8_follow 6 _ _ _ rfl) ?_
    refine r_goto 73 rfl (dd_X8_follow 7 _ _ _ rfl) ?_
    refine r_vreturn rfl (dd_X8_follow 34 _ _ _ rfl) ?_
    first | exact k _ (x.next (h1 := sfi h b 2 (S.2 10 (30 * v + j))) x1 x2 (by rw [zchg_no (by omega)]; simp (decide := true) [zhs, x3]) (by rw [zchg_no (by omega)]; simp (decide := true) [zhs, x4]) (by rw [if_pos (by omega)]; simp (decide := true) [zhs]) (by rw [if_neg (by omega)]; simp (decide := true) [zhs]) (by rw [if_neg (by omega)]; simp (decide := true) [zhs])) (step_sfi x2) | exact k _ (x.next (h1 := sfi h b 3 (S.2 10 (30 * v + j))) x1 x2 (by rw [zchg_no (by omega)]; simp (decide := true) [zhs, x3]) (by rw [zchg_no (by omega)]; simp (decide := true) [zhs, x4]) (by rw [if_neg (by omega)]; simp (decide := true) [zhs]) (by rw [if_pos (by omega)]; simp (decide := true) [zhs]) (by rw [if_neg (by omega)]; simp (decide := true) [zhs])) (step_sfi x2) | exact k _ (x.next (h1 := sfi h b 4 (S.2 10 (30 * v + j))) x1 x2 (by rw [zchg_no (by omega)]; simp (decide := true) [zhs, x3]) (by rw [zchg_no (by omega)]; simp (decide := true) [zhs, x4]) (by rw [if_neg (by omega)]; simp (decide := true) [zhs]) (by rw [if_neg (by omega)]; simp (decide := true) [zhs]) (by rw [if_pos (by omega)]; simp (decide := true) [zhs])) (step_sfi x2) | exact k _ (x.next ((q4.kd x1 (by omega))) (q4.own (by omega) x2) q1 q2 (by rw [if_neg (by omega)]; exact q3 2 (by omega)) (by rw [if_neg (by omega)]; exact q3 3 (by omega)) (by rw [if_neg (by omega)]; exact q3 4 (by omega))) q4 | (have e4 : zst S v j = (4, (zst S v j).2) := Prod.ext (by omega) rfl; exact k _ (x.next x1 x2 (by rw [e4, zchg_4]; rw [x3, e4]) (by rw [e4, zchg_4]; rw [x4]) (by rw [if_neg (by omega)]) (by rw [if_neg (by omega)]) (by rw [if_neg (by omega)])) .refl)

abbrev mX8_part : zM := (RX8, cX8_part, 2, (Option.some Jvm.ClassFile.FieldType.int), [], "part", 10)
set_option maxRecDepth 20000 in
theorem c_X8_part {g : zGT} {Q : zO → zH → Prop} {h : zH} (hg : zG g) {o : Nat → Nat} {r : Nat} {b : Nat} {S : zS} {v j : Nat} (x : StRep o r h b S v j) {q : Int} (hq : zR q) (k : Q (.inl (some (.int (zI (if q = 0 then (zst S v j).1 else if q = 1 then zlat S v 0 (-1) j else if q = 2 then zlat S v 1 (-1) j else zlat S v 7 (S.2 7 v) j))))) h) : zC g (.code yX8_part cX8_part 2 (Option.some Jvm.ClassFile.FieldType.int)) yX8_part 10 0 0 [.ref b, .int (zI q)] h Q := by
  refine zC_of (M := mX8_part) (lv := [some (.ref b), some (.int (zI q))]) (by decide) rfl rfl (Nat.le_of_ble_eq_true rfl) rfl rfl ?_
  obtain ⟨x1, x2, x3, x4, x5, x6, x7⟩ := id x
  refine r_iload_1 1 rfl (dd_X8_part 0 _ _ _ rfl) ?_
  refine r_ifne (by omega) 4 rfl 9 rfl (dd_X8_part 1 _ _ _ rfl) (fun hc1 => ?_) (fun hc1 => ?_)
  · refine r_iload_1 10 rfl (dd_X8_part 5 _ _ _ rfl) ?_
    refine r_iconst 11 rfl (dd_X8_part 6 _ _ _ rfl) ?_
    refine r_if_icmpne (by omega) (by omega) 14 rfl 19 rfl (dd_X8_part 7 _ _ _ rfl) (fun hc2 => ?_) (fun hc2 => ?_)
    · refine r_iload_1 20 rfl (dd_X8_part 11 _ _ _ rfl) ?_
      refine r_iconst 21 rfl (dd_X8_part 12 _ _ _ rfl) ?_
      refine r_if_icmpne (by omega) (by omega) 24 rfl 31 rfl (dd_X8_part 13 _ _ _ rfl) (fun hc3 => ?_) (fun hc3 => ?_)
      · refine r_aload_0 32 rfl (dd_X8_part 17 _ _ _ rfl) ?_
        refine r_geti hg zc_X8 4 (by decide) (fun _ _ _ => rfl) x7 x1 (Or.inl rfl) (tb_2 69 _ rfl) 35 rfl (dd_X8_part 18 _ _ _ rfl) ?_
        refine r_ireturn rfl rfl (dd_X8_part 19 _ _ _ rfl) ?_
        first | (rw [if_pos (by omega)] at k; exact k) | (rw [if_neg (by omega), if_pos (by omega)] at k; exact k) | (rw [if_neg (by omega), if_neg (by omega), if_pos (by omega)] at k; exact k) | (rw [if_neg (by omega), if_neg (by omega), if_neg (by omega)] at k; exact k)
      · refine r_aload_0 25 rfl (dd_X8_part 14 _ _ _ rfl) ?_
        refine r_geti hg zc_X8 3 (by decide) (fun _ _ _ => rfl) x6 x1 (Or.inl rfl) (tb_2 68 _ rfl) 28 rfl (dd_X8_part 15 _ _ _ rfl) ?_
        refine r_goto 35 rfl (dd_X8_part 16 _ _ _ rfl) ?_
        refine r_ireturn rfl rfl (dd_X8_part 19 _ _ _ rfl) ?_
        first | (rw [if_pos (by omega)] at k; exact k) | (rw [if_neg (by omega), if_pos (by omega)] at k; exact k) | (rw [if_neg (by omega), if_neg (by omega), if_pos (by omega)] at k; exact k) | (rw [if_neg (by omega), if_neg (by omega), if_neg (by omega)] at k; exact k)
    · refine r_aload_0 15 rfl (dd_X8_part 8 _ _ _ rfl) ?_
      refine r_geti hg zc_X8 2 (by decide) (fun _ _ _ => rfl) x5 x1 (Or.inl rfl) (tb_2 66 _ rfl) 18 rfl (dd_X8_part 9 _ _ _ rfl) ?_
      refine r_ireturn rfl rfl (dd_X8_part 10 _ _ _ rfl) ?_
      first | (rw [if_pos (by omega)] at k; exact k) | (rw [if_neg (by omega), if_pos (by omega)] at k; exact k) | (rw [if_neg (by omega), if_neg (by omega), if_pos (by omega)] at k; exact k) | (rw [if_neg (by omega), if_neg (by omega), if_neg (by omega)] at k; exact k)
  · refine r_aload_0 5 rfl (dd_X8_part 2 _ _ _ rfl) ?_
    refine r_geti hg zc_X8 0 (by decide) (fun _ _ _ => rfl) x3 x1 (Or.inl rfl) (tb_2 63 _ rfl) 8 rfl (dd_X8_part 3 _ _ _ rfl) ?_
    refine r_ireturn rfl rfl (dd_X8_part 4 _ _ _ rfl) ?_
    first | (rw [if_pos (by omega)] at k; exact k) | (rw [if_neg (by omega), if_pos (by omega)] at k; exact k) | (rw [if_neg (by omega), if_neg (by omega), if_pos (by omega)] at k; exact k) | (rw [if_neg (by omega), if_neg (by omega), if_neg (by omega)] at k; exact k)

abbrev mX2_init : zM := (RX2, cX2_init, 4, (Option.none : Option Jvm.ClassFile.FieldType), [], "<init>", 11)
set_option maxRecDepth 20000 in
theorem c_X2_init {g : zGT} {Q : zO → zH → Prop} {h : zH} (hg : zG g) {o : Nat → Nat} {r : Nat} {e : Nat} {p q d : Int} (hk : kd_ h e = 6) (ho : o e = r) (k : ∀ b o1 h1, kd_ h b = 0 → fi_ h1 e 0 = p → fi_ h1 e 1 = q → fi_ h1 e 2 = d → fr_ h1 e 3 = some b → kd_ h1 b = 12 → o1 b = r → zStep (fun q => q = r) o h o1 h1 → Q (.inl none) h1) : zC g (.code yX2_init cX2_init 4 (Option.none : Option Jvm.ClassFile.FieldType)) yX2_init 11 1 5 [.ref e, .int (zI p), .int (zI q), .int (zI d)] h Q := by
  refine zC_of (M := mX2_init) (lv := [some (.ref e), some (.int (zI p)), some (.int (zI q)), some (.int (zI d))]) (by decide) rfl rfl (Nat.le_of_ble_eq_true rfl) rfl rfl ?_
  refine r_aload_0 1 rfl (dd_X2_init 0 _ _ _ rfl) ?_
  refine r_objInit hg (tb_3 46 _ rfl) (tb_1 41 _ rfl) (tb_1 42 _ rfl) (Nat.le_of_ble_eq_true rfl) (by decide) 4 rfl (dd_X2_init 1 _ _ _ rfl) ?_
  refine r_aload_0 5 rfl (dd_X2_init 2 _ _ _ rfl) ?_
  refine r_new 0 0 hg zc_X8 (tb_3 47 _ rfl) (tb_2 58 _ rfl) (tb_1 17 _ rfl) (Nat.le_of_ble_eq_true rfl) (Nat.le_of_ble_eq_true rfl) zd_X8 8 rfl (dd_X2_init 3 _ _ _ rfl) (fun b hz_b => ?_)
  have hbe : e ≠ b := fun q => by rw [q, hz_b] at hk; cases hk
  refine r_dup rfl 9 rfl (dd_X2_init 4 _ _ _ rfl) ?_
  refine r_iconst 10 rfl (dd_X2_init 5 _ _ _ rfl) ?_
  refine r_callI1 (lvl := 10) (mc1 := 0) (ms1 := 0) 0 0 hg rfl md_X8_init wi_X8_init rfl rfl (tb_3 48 _ rfl) (by decide) (by decide) rfl (Nat.le_of_ble_eq_true rfl) (Nat.le_of_ble_eq_true rfl) (Nat.le_of_ble_eq_true rfl) 13 rfl (dd_X2_init 6 _ _ _ rfl) ?_
  refine c_X8_init (o := zu1 o b r) (r := r) hg zu1_at zu1_at (fun h1 q0 q1 q2 q3 q4 q5 => ?_)
  dsimp only [zCont, Option.toList, List.cons_append, List.nil_append]
  have hst : zStep (fun q => q = r) o h (zu1 o b r) h1 := (step_nob hz_b).trans q5
  have hke : kd_ h1 e = 6 := hst.kd hk (by omega)
  have hkb : kd_ h1 b = 12 := q5.kd zu1_at (by omega)
  have hoe : zu1 o b r e = r := (zu1_ne hbe).trans ho
  refine r_putrF hg zc_X2 3 (by decide) rfl (fun _ _ _ => rfl) rfl rfl (by decide) hke rfl rfl (Or.inl rfl) (tb_3 56 _ rfl) 16 rfl (dd_X2_init 7 _ _ _ rfl) ?_
  refine r_aload_0 17 rfl (dd_X2_init 8 _ _ _ rfl) ?_
  refine r_iload_1 18 rfl (dd_X2_init 9 _ _ _ rfl) ?_
  refine r_putiF hg zc_X2 0 (by decide) rfl (fun _ _ _ => rfl) rfl rfl (by decide) hke rfl rfl (Or.inl rfl) (tb_3 49 _ rfl) 21 rfl (dd_X2_init 10 _ _ _ rfl) ?_
  refine r_aload_0 22 rfl (dd_X2_init 11 _ _ _ rfl) ?_
  refine r_iload_2 23 rfl (dd_X2_init 12 _ _ _ rfl) ?_
  refine r_putiF hg zc_X2 1 (by decide) rfl (fun _ _ _ => rfl) rfl rfl (by decide) hke rfl rfl (Or.inl rfl) (tb_3 51 _ rfl) 26 rfl (dd_X2_init 13 _ _ _ rfl) ?_
  refine r_aload_0 27 rfl (dd_X2_init 14 _ _ _ rfl) ?_
  refine r_iload_3 28 rfl (dd_X2_init 15 _ _ _ rfl) ?_
  refine r_putiF hg zc_X2 2 (by decide) rfl (fun _ _ _ => rfl) rfl rfl (by decide) hke rfl rfl (Or.inl rfl) (tb_3 53 _ rfl) 31 rfl (dd_X2_init 16 _ _ _ rfl) ?_
  refine r_vreturn rfl (dd_X2_init 17 _ _ _ rfl) ?_
  exact k b _ _ hz_b (by simp (decide := true) [zhs]) (by simp (decide := true) [zhs]) (by simp (decide := true) [zhs]) (by simp (decide := true) [zhs]) hkb zu1_at (hst.trans (((step_sfr hoe).trans (step_sfi hoe)).trans ((step_sfi hoe).trans (step_sfi hoe))))

abbrev mX9_init : zM := (RX9, cX9_init, 2, (Option.none : Option Jvm.ClassFile.FieldType), [], "<init>", 10)
set_option maxRecDepth 20000 in
theorem c_X9_init {g : zGT} {Q : zO → zH → Prop} {h : zH} (hg : zG g) {o : Nat → Nat} {r : Nat} {b : Nat} {p : Int} (hk : kd_ h b = 13) (ho : o b = r) (hp : 0 ≤ p ∧ p ≤ 20000) (k : ∀ h1, (∀ (S : zS) (v : Nat), S.2 25 v = 0 → S.2 6 v = p → S.2 29 v = p + 1080 → S.2 28 v = 0 → TeRep o r h1 b S v) → zStep (fun q => q = r) o h o h1 → Q (.inl none) h1) : zC g (.code yX9_init cX9_init 2 (Option.none : Option Jvm.ClassFile.FieldType)) yX9_init 10 0 0 [.ref b, .int (zI p)] h Q := by
  refine zC_of (M := mX9_init) (lv := [some (.ref b), some (.int (zI p))]) (by decide) rfl rfl (Nat.le_of_ble_eq_true rfl) rfl rfl ?_
  refine r_aload_0 1 rfl (dd_X9_init 0 _ _ _ rfl) ?_
  refine r_objInit hg (tb_2 97 _ rfl) (tb_1 41 _ rfl) (tb_1 42 _ rfl) (Nat.le_of_ble_eq_true rfl) (by decide) 4 rfl (dd_X9_init 1 _ _ _ rfl) ?_
  refine r_aload_0 5 rfl (dd_X9_init 2 _ _ _ rfl) ?_
  refine r_iconst 6 rfl (dd_X9_init 3 _ _ _ rfl) ?_
  refine r_puti hg zc_X9 0 (by decide) rfl (fun _ _ _ => rfl) rfl rfl (by decide) hk (Or.inl rfl) (tb_2 98 _ rfl) 9 rfl (dd_X9_init 4 _ _ _ rfl) ?_
  refine r_aload_0 10 rfl (dd_X9_init 5 _ _ _ rfl) ?_
  refine r_iconst 11 rfl (dd_X9_init 6 _ _ _ rfl) ?_
  refine r_puti hg zc_X9 2 (by decide) rfl (fun _ _ _ => rfl) rfl rfl (by decide) hk (Or.inl rfl) (tb_2 102 _ rfl) 14 rfl (dd_X9_init 7 _ _ _ rfl) ?_
  refine r_aload_0 15 rfl (dd_X9_init 8 _ _ _ rfl) ?_
  refine r_iconst 16 rfl (dd_X9_init 9 _ _ _ rfl) ?_
  refine r_puti hg zc_X9 4 (by decide) rfl (fun _ _ _ => rfl) rfl rfl (by decide) hk (Or.inl rfl) (tb_2 105 _ rfl) 19 rfl (dd_X9_init 10 _ _ _ rfl) ?_
  refine r_aload_0 20 rfl (dd_X9_init 11 _ _ _ rfl) ?_
  refine r_iload_1 21 rfl (dd_X9_init 12 _ _ _ rfl) ?_
  refine r_puti hg zc_X9 1 (by decide) rfl (fun _ _ _ => rfl) rfl rfl (by decide) hk (Or.inl rfl) (tb_2 100 _ rfl) 24 rfl (dd_X9_init 13 _ _ _ rfl) ?_
  refine r_aload_0 25 rfl (dd_X9_init 14 _ _ _ rfl) ?_
  refine r_iload_1 26 rfl (dd_X9_init 15 _ _ _ rfl) ?_
  refine r_sipush (by decide) 29 rfl (dd_X9_init 16 _ _ _ rfl) ?_
  refine r_iadd 30 rfl (dd_X9_init 17 _ _ _ rfl) ?_
  refine r_puti hg zc_X9 3 (by decide) rfl (fun _ _ _ => rfl) rfl rfl (by decide) hk (Or.inl rfl) (tb_2 103 _ rfl) 33 rfl (dd_X9_init 18 _ _ _ rfl) ?_
  refine r_vreturn rfl (dd_X9_init 19 _ _ _ rfl) ?_
  exact k _ (fun S v e1 e2 e3 e4 => ⟨hk, ho, by simp (decide := true) [zhs, e1], by simp (decide := true) [zhs, e1, e2], by simp (decide := true) [zhs, e1], by simp (decide := true) [zhs, e3], by simp (decide := true) [zhs, e4]⟩) (((((step_sfi ho).trans (step_sfi ho)).trans (step_sfi ho)).trans (step_sfi ho)).trans (step_sfi ho))

abbrev mX9_take : zM := (RX9, cX9_take, 4, (Option.none : Option Jvm.ClassFile.FieldType), [], "take", 10)
set_option maxRecDepth 20000 in
theorem c_X9_take {g : zGT} {Q : zO → zH → Prop} {h : zH} (hg : zG g) {o : Nat → Nat} {r : Nat} {b : Nat} {c0 d0 m0 u0 t0 : Int} (hk : kd_ h b = 13) (ho : o b = r) (x0 : fi_ h b 0 = c0) (x1 : fi_ h b 1 = d0) (x2 : fi_ h b 2 = m0) (x3 : fi_ h b 3 = u0) (x4 : fi_ h b 4 = t0) {w gr far : Int} (hm : zR m0) (hu : zR u0) (hw : 0 ≤ w ∧ w ≤ 20000) (hgr : 0 ≤ gr ∧ gr ≤ 2) (hf : 0 ≤ far ∧ far ≤ 10000000) (k : ∀ h1, fi_ h1 b 0 = c0 + 1 → fi_ h1 b 1 = w → fi_ h1 b 2 = far → fi_ h1 b 3 = (if gr = 2 then (if w < u0 then w else u0) else (if u0 < w + 360 then w + 360 else u0)) → fi_ h1 b 4 = t0 + (if far < m0 then 1 else 0) → zStep (fun q => q = r) o h o h1 → Q (.inl none) h1) : zC g (.code yX9_take cX9_take 4 (Option.none : Option Jvm.ClassFile.FieldType)) yX9_take 10 0 0 [.ref b, .int (zI w), .int (zI gr), .int (zI far)] h Q := by
  refine zC_of (M := mX9_take) (lv := [some (.ref b), some (.int (zI w)), some (.int (zI gr)), some (.int (zI far))]) (by decide) rfl rfl (Nat.le_of_ble_eq_true rfl) rfl rfl ?_
  refine r_iload_3 1 rfl (dd_X9_take 0 _ _ _ rfl) ?_
  refine r_aload_0 2 rfl (dd_X9_take 1 _ _ _ rfl) ?_
  refine r_geti (z := m0) hg zc_X9 2 (by decide) (fun _ _ _ => rfl) (by first | exact x2 | (simp (decide := true) only [zhs, if_true, if_false, and_true, and_false, reduceIte]; exact x2)) hk (Or.inl rfl) (tb_2 102 _ rfl) 5 rfl (dd_X9_take 2 _ _ _ rfl) ?_
  refine r_if_icmpge (by omega) (by omega) 8 rfl 18 rfl (dd_X9_take 3 _ _ _ rfl) (fun hc1 => ?_) (fun hc1 => ?_)
  · refine r_iload_2 19 rfl (dd_X9_take 10 _ _ _ rfl) ?_
    refine r_iconst 20 rfl (dd_X9_take 11 _ _ _ rfl) ?_
    refine r_if_icmpne (by omega) (by omega) 23 rfl 38 rfl (dd_X9_take 12 _ _ _ rfl) (fun hc2 => ?_) (fun hc2 => ?_)
    · refine r_aload_0 39 rfl (dd_X9_take 20 _ _ _ rfl) ?_
      refine r_aload_0 40 rfl (dd_X9_take 21 _ _ _ rfl) ?_
      refine r_geti (z := u0) hg zc_X9 3 (by decide) (fun _ _ _ => rfl) (by first | exact x3 | (simp (decide := true) only [zhs, if_true, if_false, and_true, and_false, reduceIte]; exact x3)) hk (Or.inl rfl) (tb_2 103 _ rfl) 43 rfl (dd_X9_take 22 _ _ _ rfl) ?_
      refine r_iload_1 44 rfl (dd_X9_take 23 _ _ _ rfl) ?_
      refine r_sipush (by decide) 47 rfl (dd_X9_take 24 _ _ _ rfl) ?_
      refine r_iadd 48 rfl (dd_X9_take 25 _ _ _ rfl) ?_
      refine r_mmax (by omega) (by omega)  hg (by decide) (Nat.le_of_ble_eq_true rfl) (tb_5 55 _ rfl) 51 rfl (dd_X9_take 26 _ _ _ rfl) ?_
      refine r_puti hg zc_X9 3 (by decide) rfl (fun _ _ _ => rfl) rfl rfl (by decide) hk (Or.inl rfl) (tb_2 103 _ rfl) 54 rfl (dd_X9_take 27 _ _ _ rfl) ?_
      refine r_aload_0 55 rfl (dd_X9_take 28 _ _ _ rfl) ?_
      refine r_iload_3 56 rfl (dd_X9_take 29 _ _ _ rfl) ?_
      refine r_puti hg zc_X9 2 (by decide) rfl (fun _ _ _ => rfl) rfl rfl (by decide) hk (Or.inl rfl) (tb_2 102 _ rfl) 59 rfl (dd_X9_take 30 _ _ _ rfl) ?_
      refine r_aload_0 60 rfl (dd_X9_take 31 _ _ _ rfl) ?_
      refine r_iload_1 61 rfl (dd_X9_take 32 _ _ _ rfl) ?_
      refine r_puti hg zc_X9 1 (by decide) rfl (fun _ _ _ => rfl) rfl rfl (by decide) hk (Or.inl rfl) (tb_2 100 _ rfl) 64 rfl (dd_X9_take 33 _ _ _ rfl) ?_
      refine r_aload_0 65 rfl (dd_X9_take 34 _ _ _ rfl) ?_
      refine r_dup rfl 66 rfl (dd_X9_take 35 _ _ _ rfl) ?_
      refine r_geti (z := c0) hg zc_X9 0 (by decide) (fun _ _ _ => rfl) (by first | exact x0 | (simp (decide := true) only [zhs, if_true, if_false, and_true, and_false, reduceIte]; exact x0)) hk (Or.inl rfl) (tb_2 98 _ rfl) 69 rfl (dd_X9_take 36 _ _ _ rfl) ?_
      refine r_iconst 70 rfl (dd_X9_take 37 _ _ _ rfl) ?_
      refine r_iadd 71 rfl (dd_X9_take 38 _ _ _ rfl) ?_
      refine r_puti hg zc_X9 0 (by decide) rfl (fun _ _ _ => rfl) rfl rfl (by decide) hk (Or.inl rfl) (tb_2 98 _ rfl) 74 rfl (dd_X9_take 39 _ _ _ rfl) ?_
      refine r_vreturn rfl (dd_X9_take 40 _ _ _ rfl) ?_
      exact k _ (by simp (decide := true) only [zhs, if_true, if_false, and_true, and_false, reduceIte]) (by simp (decide := true) only [zhs, if_true, if_false, and_true, and_false, reduceIte]) (by simp (decide := true) only [zhs, if_true, if_false, and_true, and_false, reduceIte]) (by rw [if_neg (show ¬ gr = 2 by omega)]; simp (decide := true) only [zhs, if_true, if_false, and_true, and_false, reduceIte]) (by rw [if_neg (show ¬ far < m0 by omega), Int.add_zero]; simp (decide := true) only [zhs, if_true, if_false, and_true, and_false, reduceIte]; exact x4) ((((step_sfi ho).trans (step_sfi ho)).trans (step_sfi ho)).trans (step_sfi ho))
    · refine r_aload_0 24 rfl (dd_X9_take 13 _ _ _ rfl) ?_
      refine r_aload_0 25 rfl (dd_X9_take 14 _ _ _ rfl) ?_
      refine r_geti (z := u0) hg zc_X9 3 (by decide) (fun _ _ _ => rfl) (by first | exact x3 | (simp (decide := true) only [zhs, if_true, if_false, and_true, and_false, reduceIte]; exact x3)) hk (Or.inl rfl) (tb_2 103 _ rfl) 28 rfl (dd_X9_take 15 _ _ _ rfl) ?_
      refine r_iload_1 29 rfl (dd_X9_take 16 _ _ _ rfl) ?_
      refine r_mmin (by omega) (by omega)  hg (by decide) (Nat.le_of_ble_eq_true rfl) (tb_5 54 _ rfl) 32 rfl (dd_X9_take 17 _ _ _ rfl) ?_
      refine r_puti hg zc_X9 3 (by decide) rfl (fun _ _ _ => rfl) rfl rfl (by decide) hk (Or.inl rfl) (tb_2 103 _ rfl) 35 rfl (dd_X9_take 18 _ _ _ rfl) ?_
      refine r_goto 54 rfl (dd_X9_take 19 _ _ _ rfl) ?_
      refine r_aload_0 55 rfl (dd_X9_take 28 _ _ _ rfl) ?_
      refine r_iload_3 56 rfl (dd_X9_take 29 _ _ _ rfl) ?_
      refine r_puti hg zc_X9 2 (by decide) rfl (fun _ _ _ => rfl) rfl rfl (by decide) hk (Or.inl rfl) (tb_2 102 _ rfl) 59 rfl (dd_X9_take 30 _ _ _ rfl) ?_
      refine r_aload_0 60 rfl (dd_X9_take 31 _ _ _ rfl) ?_
      refine r_iload_1 61 rfl (dd_X9_take 32 _ _ _ rfl) ?_
      refine r_puti hg zc_X9 1 (by decide) rfl (fun _ _ _ => rfl) rfl rfl (by decide) hk (Or.inl rfl) (tb_2 100 _ rfl) 64 rfl (dd_X9_take 33 _ _ _ rfl) ?_
      refine r_aload_0 65 rfl (dd_X9_take 34 _ _ _ rfl) ?_
      refine r_dup rfl 66 rfl (dd_X9_take 35 _ _ _ rfl) ?_
      refine r_geti (z := c0) hg zc_X9 0 (by decide) (fun _ _ _ => rfl) (by first | exact x0 | (simp (decide := true) only [zhs, if_true, if_false, and_true, and_false, reduceIte]; exact x0)) hk (Or.inl rfl) (tb_2 98 _ rfl) 69 rfl (dd_X9_take 36 _ _ _ rfl) ?_
      refine r_iconst 70 rfl (dd_X9_take 37 _ _ _ rfl) ?_
      refine r_iadd 71 rfl (dd_X9_take 38 _ _ _ rfl) ?_
      refine r_puti hg zc_X9 0 (by decide) rfl (fun _ _ _ => rfl) rfl rfl (by decide) hk (Or.inl rfl) (tb_2 98 _ rfl) 74 rfl (dd_X9_take 39 _ _ _ rfl) ?_
      refine r_vreturn rfl (dd_X9_take 40 _ _ _ rfl) ?_
      exact k _ (by simp (decide := true) only [zhs, if_true, if_false, and_true, and_false, reduceIte]) (by simp (decide := true) only [zhs, if_true, if_false, and_true, and_false, reduceIte]) (by simp (decide := true) only [zhs, if_true, if_false, and_true, and_false, reduceIte]) (by rw [if_pos (show gr = 2 by omega)]; simp (decide := true) only [zhs, if_true, if_false, and_true, and_false, reduceIte]) (by rw [if_neg (show ¬ far < m0 by omega), Int.add_zero]; simp (decide := true) only [zhs, if_true, if_false, and_true, and_false, reduceIte]; exact x4) ((((step_sfi ho).trans (step_sfi ho)).trans (step_sfi ho)).trans (step_sfi ho))
  · refine r_aload_0 9 rfl (dd_X9_take 4 _ _ _ rfl) ?_
    refine r_dup rfl 10 rfl (dd_X9_take 5 _ _ _ rfl) ?_
    refine r_geti (z := t0) hg zc_X9 4 (by decide) (fun _ _ _ => rfl) (by first | exact x4 | (simp (decide := true) only [zhs, if_true, if_false, and_true, and_false, reduceIte]; exact x4)) hk (Or.inl rfl) (tb_2 105 _ rfl) 13 rfl (dd_X9_take 6 _ _ _ rfl) ?_
    refine r_iconst 14 rfl (dd_X9_take 7 _ _ _ rfl) ?_
    refine r_iadd 15 rfl (dd_X9_take 8 _ _ _ rfl) ?_
    refine r_puti hg zc_X9 4 (by decide) rfl (fun _ _ _ => rfl) rfl rfl (by decide) hk (Or.inl rfl) (tb_2 105 _ rfl) 18 rfl (dd_X9_take 9 _ _ _ rfl) ?_
    refine r_iload_2 19 rfl (dd_X9_take 10 _ _ _ rfl) ?_
    refine r_iconst 20 rfl (dd_X9_take 11 _ _ _ rfl) ?_
    refine r_if_icmpne (by omega) (by omega) 23 rfl 38 rfl (dd_X9_take 12 _ _ _ rfl) (fun hc3 => ?_) (fun hc3 => ?_)
    · refine r_aload_0 39 rfl (dd_X9_take 20 _ _ _ rfl) ?_
      refine r_aload_0 40 rfl (dd_X9_take 21 _ _ _ rfl) ?_
      refine r_geti (z := u0) hg zc_X9 3 (by decide) (fun _ _ _ => rfl) (by first | exact x3 | (simp (decide := true) only [zhs, if_true, if_false, and_true, and_false, reduceIte]; exact x3)) hk (Or.inl rfl) (tb_2 103 _ rfl) 43 rfl (dd_X9_take 22 _ _ _ rfl) ?_
      refine r_iload_1 44 rfl (dd_X9_take 23 _ _ _ rfl) ?_
      refine r_sipush (by decide) 47 rfl (dd_X9_take 24 _ _ _ rfl) ?_
      refine r_iadd 48 rfl (dd_X9_take 25 _ _ _ rfl) ?_
      refine r_mmax (by omega) (by omega)  hg (by decide) (Nat.le_of_ble_eq_true rfl) (tb_5 55 _ rfl) 51 rfl (dd_X9_take 26 _ _ _ rfl) ?_
      refine r_puti hg zc_X9 3 (by decide) rfl (fun _ _ _ => rfl) rfl rfl (by decide) hk (Or.inl rfl) (tb_2 103 _ rfl) 54 rfl (dd_X9_take 27 _ _ _ rfl) ?_
      refine r_aload_0 55 rfl (dd_X9_take 28 _ _ _ rfl) ?_
      refine r_iload_3 56 rfl (dd_X9_take 29 _ _ _ rfl) ?_
      refine r_puti hg zc_X9 2 (by decide) rfl (fun _ _ _ => rfl) rfl rfl (by decide) hk (Or.inl rfl) (tb_2 102 _ rfl) 59 rfl (dd_X9_take 30 _ _ _ rfl) ?_
      refine r_aload_0 60 rfl (dd_X9_take 31 _ _ _ rfl) ?_
      refine r_iload_1 61 rfl (dd_X9_take 32 _ _ _ rfl) ?_
      refine r_puti hg zc_X9 1 (by decide) rfl (fun _ _ _ => rfl) rfl rfl (by decide) hk (Or.inl rfl) (tb_2 100 _ rfl) 64 rfl (dd_X9_take 33 _ _ _ rfl) ?_
      refine r_aload_0 65 rfl (dd_X9_take 34 _ _ _ rfl) ?_
      refine r_dup rfl 66 rfl (dd_X9_take 35 _ _ _ rfl) ?_
      refine r_geti (z := c0) hg zc_X9 0 (by decide) (fun _ _ _ => rfl) (by first | exact x0 | (simp (decide := true) only [zhs, if_true, if_false, and_true, and_false, reduceIte]; exact x0)) hk (Or.inl rfl) (tb_2 98 _ rfl) 69 rfl (dd_X9_take 36 _ _ _ rfl) ?_
      refine r_iconst 70 rfl (dd_X9_take 37 _ _ _ rfl) ?_
      refine r_iadd 71 rfl (dd_X9_take 38 _ _ _ rfl) ?_
      refine r_puti hg zc_X9 0 (by decide) rfl (fun _ _ _ => rfl) rfl rfl (by decide) hk (Or.inl rfl) (tb_2 98 _ rfl) 74 rfl (dd_X9_take 39 _ _ _ rfl) ?_
      refine r_vreturn rfl (dd_X9_take 40 _ _ _ rfl) ?_
      exact k _ (by simp (decide := true) only [zhs, if_true, if_false, and_true, and_false, reduceIte]) (by simp (decide := true) only [zhs, if_true, if_false, and_true, and_false, reduceIte]) (by simp (decide := true) only [zhs, if_true, if_false, and_true, and_false, reduceIte]) (by rw [if_neg (show ¬ gr = 2 by omega)]; simp (decide := true) only [zhs, if_true, if_false, and_true, and_false, reduceIte]) (by rw [if_pos (show far < m0 by omega)]; simp (decide := true) only [zhs, if_true, if_false, and_true, and_false, reduceIte]) (((((step_sfi ho).trans (step_sfi ho)).trans (step_sfi ho)).trans (step_sfi ho)).trans (step_sfi ho))
    · refine r_aload_0 24 rfl (dd_X9_take 13 _ _ _ rfl) ?_
      refine r_aload_0 25 rfl (dd_X9_take 14 _ _ _ rfl) ?_
      refine r_geti (z := u0) hg zc_X9 3 (by decide) (fun _ _ _ => rfl) (by first | exact x3 | (simp (decide := true) only [zhs, if_true, if_false, and_true, and_false, reduceIte]; exact x3)) hk (Or.inl rfl) (tb_2 103 _ rfl) 28 rfl (dd_X9_take 15 _ _ _ rfl) ?_
      refine r_iload_1 29 rfl (dd_X9_take 16 _ _ _ rfl) ?_
      refine r_mmin (by omega) (by omega)  hg (by decide) (Nat.le_of_ble_eq_true rfl) (tb_5 54 _ rfl) 32 rfl (dd_X9_take 17 _ _ _ rfl) ?_
      refine r_puti hg zc_X9 3 (by decide) rfl (fun _ _ _ => rfl) rfl rfl (by decide) hk (Or.inl rfl) (tb_2 103 _ rfl) 35 rfl (dd_X9_take 18 _ _ _ rfl) ?_
      refine r_goto 54 rfl (dd_X9_take 19 _ _ _ rfl) ?_
      refine r_aload_0 55 rfl (dd_X9_take 28 _ _ _ rfl) ?_
      refine r_iload_3 56 rfl (dd_X9_take 29 _ _ _ rfl) ?_
      refine r_puti hg zc_X9 2 (by decide) rfl (fun _ _ _ => rfl) rfl rfl (by decide) hk (Or.inl rfl) (tb_2 102 _ rfl) 59 rfl (dd_X9_take 30 _ _ _ rfl) ?_
      refine r_aload_0 60 rfl (dd_X9_take 31 _ _ _ rfl) ?_
      refine r_iload_1 61 rfl (dd_X9_take 32 _ _ _ rfl) ?_
      refine r_puti hg zc_X9 1 (by decide) rfl (fun _ _ _ => rfl) rfl rfl (by decide) hk (Or.inl rfl) (tb_2 100 _ rfl) 64 rfl (dd_X9_take 33 _ _ _ rfl) ?_
      refine r_aload_0 65 rfl (dd_X9_take 34 _ _ _ rfl) ?_
      refine r_dup rfl 66 rfl (dd_X9_take 35 _ _ _ rfl) ?_
      refine r_geti (z := c0) hg zc_X9 0 (by decide) (fun _ _ _ => rfl) (by first | exact x0 | (simp (decide := true) only [zhs, if_true, if_false, and_true, and_false, reduceIte]; exact x0)) hk (Or.inl rfl) (tb_2 98 _ rfl) 69 rfl (dd_X9_take 36 _ _ _ rfl) ?_
      refine r_iconst 70 rfl (dd_X9_take 37 _ _ _ rfl) ?_
      refine r_iadd 71 rfl (dd_X9_take 38 _ _ _ rfl) ?_
      refine r_puti hg zc_X9 0 (by decide) rfl (fun _ _ _ => rfl) rfl rfl (by decide) hk (Or.inl rfl) (tb_2 98 _ rfl) 74 rfl (dd_X9_take 39 _ _ _ rfl) ?_
      refine r_vreturn rfl (dd_X9_take 40 _ _ _ rfl) ?_
      exact k _ (by simp (decide := true) only [zhs, if_true, if_false, and_true, and_false, reduceIte]) (by simp (decide := true) only [zhs, if_true, if_false, and_true, and_false, reduceIte]) (by simp (decide := true) only [zhs, if_true, if_false, and_true, and_false, reduceIte]) (by rw [if_pos (show gr = 2 by omega)]; simp (decide := true) only [zhs, if_true, if_false, and_true, and_false, reduceIte]) (by rw [if_pos (show far < m0 by omega)]; simp (decide := true) only [zhs, if_true, if_false, and_true, and_false, reduceIte]) (((((step_sfi ho).trans (step_sfi ho)).trans (step_sfi ho)).trans (step_sfi ho)).trans (step_sfi ho))

abbrev mX5_init : zM := (RX5, cX5_init, 1, (Option.none : Option Jvm.ClassFile.FieldType), [], "<init>", 10)
set_option maxRecDepth 20000 in
theorem c_X5_init {g : zGT} {Q : zO → zH → Prop} {h : zH} (hg : zG g) {o : Nat → Nat} {r : Nat} {b : Nat} (hk : kd_ h b = 9) (ho : o b = r) (k : ∀ h1, fi_ h1 b 0 = 0 → fi_ h1 b 1 = 0 → zStep (fun q => q = r) o h o h1 → Q (.inl none) h1) : zC g (.code yX5_init cX5_init 1 (Option.none : Option Jvm.ClassFile.FieldType)) yX5_init 10 0 0 [.ref b] h Q := by
  refine zC_of (M := mX5_init) (lv := [some (.ref b)]) (by decide) rfl rfl (Nat.le_of_ble_eq_true rfl) rfl rfl ?_
  refine r_aload_0 1 rfl (dd_X5_init 0 _ _ _ rfl) ?_
  refine r_objInit hg (tb_2 225 _ rfl) (tb_1 41 _ rfl) (tb_1 42 _ rfl) (Nat.le_of_ble_eq_true rfl) (by decide) 4 rfl (dd_X5_init 1 _ _ _ rfl) ?_
  refine r_aload_0 5 rfl (dd_X5_init 2 _ _ _ rfl) ?_
  refine r_iconst 6 rfl (dd_X5_init 3 _ _ _ rfl) ?_
  refine r_puti hg zc_X5 0 (by decide) rfl (fun _ _ _ => rfl) rfl rfl (by decide) hk (Or.inl rfl) (tb_2 226 _ rfl) 9 rfl (dd_X5_init 4 _ _ _ rfl) ?_
  refine r_aload_0 10 rfl (dd_X5_init 5 _ _ _ rfl) ?_
  refine r_iconst 11 rfl (dd_X5_init 6 _ _ _ rfl) ?_
  refine r_puti hg zc_X5 1 (by decide) rfl (fun _ _ _ => rfl) rfl rfl (by decide) hk (Or.inl rfl) (tb_2 228 _ rfl) 14 rfl (dd_X5_init 7 _ _ _ rfl) ?_
  refine r_vreturn rfl (dd_X5_init 8 _ _ _ rfl) ?_
  exact k _ (by simp (decide := true) [zhs]) (by simp (decide := true) [zhs]) ((step_sfi ho).trans (step_sfi ho))

abbrev mX3_init : zM := (RX3, cX3_init, 4, (Option.none : Option Jvm.ClassFile.FieldType), [], "<init>", 10)
set_option maxRecDepth 20000 in
theorem c_X3_init {g : zGT} {Q : zO → zH → Prop} {h : zH} (hg : zG g) {o : Nat → Nat} {r : Nat} {b s : Nat} {p q : Int} (hk : kd_ h b = 7) (ho : o b = r) (k : ∀ h1, fr_ h1 b 0 = some s → fi_ h1 b 1 = p → fi_ h1 b 2 = -1 → fi_ h1 b 3 = 0 → fi_ h1 b 4 = q → zStep (fun q => q = r) o h o h1 → Q (.inl none) h1) : zC g (.code yX3_init cX3_init 4 (Option.none : Option Jvm.ClassFile.FieldType)) yX3_init 10 0 0 [.ref b, .ref s, .int (zI p), .int (zI q)] h Q := by
  refine zC_of (M := mX3_init) (lv := [some (.ref b), some (.ref s), some (.int (zI p)), some (.int (zI q))]) (by decide) rfl rfl (Nat.le_of_ble_eq_true rfl) rfl rfl ?_
  refine r_aload_0 1 rfl (dd_X3_init 0 _ _ _ rfl) ?_
  refine r_objInit hg (tb_5 166 _ rfl) (tb_1 41 _ rfl) (tb_1 42 _ rfl) (Nat.le_of_ble_eq_true rfl) (by decide) 4 rfl (dd_X3_init 1 _ _ _ rfl) ?_
  refine r_aload_0 5 rfl (dd_X3_init 2 _ _ _ rfl) ?_
  refine r_iconst 6 rfl (dd_X3_init 3 _ _ _ rfl) ?_
  refine r_puti hg zc_X3 2 (by decide) rfl (fun _ _ _ => rfl) rfl rfl (by decide) hk (Or.inl rfl) (tb_5 171 _ rfl) 9 rfl (dd_X3_init 4 _ _ _ rfl) ?_
  refine r_aload_0 10 rfl (dd_X3_init 5 _ _ _ rfl) ?_
  refine r_iconst 11 rfl (dd_X3_init 6 _ _ _ rfl) ?_
  refine r_puti hg zc_X3 3 (by decide) rfl (fun _ _ _ => rfl) rfl rfl (by decide) hk (Or.inl rfl) (tb_5 173 _ rfl) 14 rfl (dd_X3_init 7 _ _ _ rfl) ?_
  refine r_aload_0 15 rfl (dd_X3_init 8 _ _ _ rfl) ?_
  refine r_aload_1 16 rfl (dd_X3_init 9 _ _ _ rfl) ?_
  refine r_putrF hg zc_X3 0 (by decide) rfl (fun _ _ _ => rfl) rfl rfl (by decide) hk rfl rfl (Or.inl rfl) (tb_5 167 _ rfl) 19 rfl (dd_X3_init 10 _ _ _ rfl) ?_
  refine r_aload_0 20 rfl (dd_X3_init 11 _ _ _ rfl) ?_
  refine r_iload_2 21 rfl (dd_X3_init 12 _ _ _ rfl) ?_
  refine r_putiF hg zc_X3 1 (by decide) rfl (fun _ _ _ => rfl) rfl rfl (by decide) hk rfl rfl (Or.inl rfl) (tb_5 169 _ rfl) 24 rfl (dd_X3_init 13 _ _ _ rfl) ?_
  refine r_aload_0 25 rfl (dd_X3_init 14 _ _ _ rfl) ?_
  refine r_iload_3 26 rfl (dd_X3_init 15 _ _ _ rfl) ?_
  refine r_puti hg zc_X3 4 (by decide) rfl (fun _ _ _ => rfl) rfl rfl (by decide) hk (Or.inl rfl) (tb_5 175 _ rfl) 29 rfl (dd_X3_init 16 _ _ _ rfl) ?_
  refine r_vreturn rfl (dd_X3_init 17 _ _ _ rfl) ?_
  exact k _ (by simp (decide := true) [zhs]) (by simp (decide := true) [zhs]) (by simp (decide := true) [zhs]) (by simp (decide := true) [zhs]) (by simp (decide := true) [zhs]) (((((step_sfi ho).trans (step_sfi ho)).trans (step_sfr ho)).trans (step_sfi ho)).trans (step_sfi ho))

abbrev mX3_passTo : zM := (RX3, cX3_passTo, 3, (Option.none : Option Jvm.ClassFile.FieldType), [], "passTo", 10)
set_option maxRecDepth 20000 in
theorem c_X3_passTo {g : zGT} {Q : zO → zH → Prop} {h : zH} (hg : zG g) {o : Nat → Nat} {r : Nat} {b : Nat} {p q t : Int} (hk : kd_ h b = 7) (ho : o b = r) (ht : fi_ h b 3 = t) (k : ∀ h1, (∀ j, j < 2 → fi_ h1 b j = fi_ h b j) → fi_ h1 b 2 = p → fi_ h1 b 3 = t + 1 → fi_ h1 b 4 = q → fr_ h1 b 0 = fr_ h b 0 → zStep (fun q => q = r) o h o h1 → Q (.inl none) h1) : zC g (.code yX3_passTo cX3_passTo 3 (Option.none : Option Jvm.ClassFile.FieldType)) yX3_passTo 10 0 0 [.ref b, .int (zI p), .int (zI q)] h Q := by
  refine zC_of (M := mX3_passTo) (lv := [some (.ref b), some (.int (zI p)), some (.int (zI q))]) (by decide) rfl rfl (Nat.le_of_ble_eq_true rfl) rfl rfl ?_
  refine r_aload_0 1 rfl (dd_X3_passTo 0 _ _ _ rfl) ?_
  refine r_iload_1 2 rfl (dd_X3_passTo 1 _ _ _ rfl) ?_
  refine r_puti hg zc_X3 2 (by decide) rfl (fun _ _ _ => rfl) rfl rfl (by decide) hk (Or.inl rfl) (tb_5 171 _ rfl) 5 rfl (dd_X3_passTo 2 _ _ _ rfl) ?_
  refine r_aload_0 6 rfl (dd_X3_passTo 3 _ _ _ rfl) ?_
  refine r_dup rfl 7 rfl (dd_X3_passTo 4 _ _ _ rfl) ?_
  refine r_geti (z := t) hg zc_X3 3 (by decide) (fun _ _ _ => rfl) (by simp (decide := true) only [zhs, if_true, if_false, and_true, and_false, reduceIte]; exact ht) hk (Or.inl rfl) (tb_5 173 _ rfl) 10 rfl (dd_X3_passTo 5 _ _ _ rfl) ?_
  refine r_iconst 11 rfl (dd_X3_passTo 6 _ _ _ rfl) ?_
  refine r_iadd 12 rfl (dd_X3_passTo 7 _ _ _ rfl) ?_
  refine r_puti hg zc_X3 3 (by decide) rfl (fun _ _ _ => rfl) rfl rfl (by decide) hk (Or.inl rfl) (tb_5 173 _ rfl) 15 rfl (dd_X3_passTo 8 _ _ _ rfl) ?_
  refine r_aload_0 16 rfl (dd_X3_passTo 9 _ _ _ rfl) ?_
  refine r_iload_2 17 rfl (dd_X3_passTo 10 _ _ _ rfl) ?_
  refine r_puti hg zc_X3 4 (by decide) rfl (fun _ _ _ => rfl) rfl rfl (by decide) hk (Or.inl rfl) (tb_5 175 _ rfl) 20 rfl (dd_X3_passTo 11 _ _ _ rfl) ?_
  refine r_vreturn rfl (dd_X3_passTo 12 _ _ _ rfl) ?_
  exact k _ (fun j h1 => by simp (decide := true) [zhs]; omega) (by simp (decide := true) [zhs]) (by simp (decide := true) [zhs]) (by simp (decide := true) [zhs]) rfl ((step_sfi ho).trans ((step_sfi ho).trans (step_sfi ho)))

abbrev mX7_init : zM := (RX7, cX7_init, 4, (Option.none : Option Jvm.ClassFile.FieldType), [], "<init>", 10)
set_option maxRecDepth 20000 in
theorem c_X7_init {g : zGT} {Q : zO → zH → Prop} {h : zH} (hg : zG g) {o : Nat → Nat} {r : Nat} {b : Nat} {p d t : Int} (hk : kd_ h b = 11) (ho : o b = r) (k : ∀ sg o1 h1, kd_ h sg = 0 → fr_ h1 b 0 = some sg → fi_ h1 b 1 = p → fi_ h1 b 2 = d → fi_ h1 b 3 = d * 1440 + t → kd_ h1 sg = 21 → ln_ h1 sg = 4 → o1 sg = r → zStep (fun q => q = r) o h o1 h1 → Q (.inl none) h1) : zC g (.code yX7_init cX7_init 4 (Option.none : Option Jvm.ClassFile.FieldType)) yX7_init 10 1 4 [.ref b, .int (zI p), .int (zI d), .int (zI t)] h Q := by
  refine zC_of (M := mX7_init) (lv := [some (.ref b), some (.int (zI p)), some (.int (zI d)), some (.int (zI t))]) (by decide) rfl rfl (Nat.le_of_ble_eq_true rfl) rfl rfl ?_
  refine r_aload_0 1 rfl (dd_X7_init 0 _ _ _ rfl) ?_
  refine r_objInit hg (tb_5 117 _ rfl) (tb_1 41 _ rfl) (tb_1 42 _ rfl) (Nat.le_of_ble_eq_true rfl) (by decide) 4 rfl (dd_X7_init 1 _ _ _ rfl) ?_
  refine r_aload_0 5 rfl (dd_X7_init 2 _ _ _ rfl) ?_
  refine r_iconst 6 rfl (dd_X7_init 3 _ _ _ rfl) ?_
  refine r_newarray 21 0 0 hg (by decide) (by decide) rfl (tb_1 57 _ rfl) (by omega) (by omega) (Nat.le_of_ble_eq_true rfl) (Nat.le_of_ble_eq_true rfl) 8 rfl (dd_X7_init 4 _ _ _ rfl) (fun sg hz_sg => ?_)
  have hbs : b ≠ sg := fun q => by rw [q, hz_sg] at hk; cases hk
  have hkb : kd_ (nar h sg 21 (4 : Int).toNat) b = 11 := (zu1_ne hbs).trans hk
  have hob : zu1 o sg r b = r := (zu1_ne hbs).trans ho
  refine r_putrF hg zc_X7 0 (by decide) rfl (fun _ _ _ => rfl) rfl rfl (by decide) hkb rfl rfl (Or.inl rfl) (tb_5 118 _ rfl) 11 rfl (dd_X7_init 5 _ _ _ rfl) ?_
  refine r_aload_0 12 rfl (dd_X7_init 6 _ _ _ rfl) ?_
  refine r_iload_1 13 rfl (dd_X7_init 7 _ _ _ rfl) ?_
  refine r_putiF hg zc_X7 1 (by decide) rfl (fun _ _ _ => rfl) rfl rfl (by decide) hkb rfl rfl (Or.inl rfl) (tb_5 120 _ rfl) 16 rfl (dd_X7_init 8 _ _ _ rfl) ?_
  refine r_aload_0 17 rfl (dd_X7_init 9 _ _ _ rfl) ?_
  refine r_iload_2 18 rfl (dd_X7_init 10 _ _ _ rfl) ?_
  refine r_putiF hg zc_X7 2 (by decide) rfl (fun _ _ _ => rfl) rfl rfl (by decide) hkb rfl rfl (Or.inl rfl) (tb_5 121 _ rfl) 21 rfl (dd_X7_init 11 _ _ _ rfl) ?_
  refine r_aload_0 22 rfl (dd_X7_init 12 _ _ _ rfl) ?_
  refine r_iload_2 23 rfl (dd_X7_init 13 _ _ _ rfl) ?_
  refine r_sipush (by decide) 26 rfl (dd_X7_init 14 _ _ _ rfl) ?_
  refine r_imul 27 rfl (dd_X7_init 15 _ _ _ rfl) ?_
  refine r_iload_3 28 rfl (dd_X7_init 16 _ _ _ rfl) ?_
  refine r_iadd 29 rfl (dd_X7_init 17 _ _ _ rfl) ?_
  refine r_putiF hg zc_X7 3 (by decide) rfl (fun _ _ _ => rfl) rfl rfl (by decide) hkb rfl rfl (Or.inl rfl) (tb_5 123 _ rfl) 32 rfl (dd_X7_init 18 _ _ _ rfl) ?_
  refine r_vreturn rfl (dd_X7_init 19 _ _ _ rfl) ?_
  exact k sg _ _ hz_sg (by simp (decide := true) [zhs]) (by simp (decide := true) [zhs]) (by simp (decide := true) [zhs]) (by simp (decide := true) [zhs]) zu1_at zu1_at zu1_at ((step_nar hz_sg).trans ((((step_sfr hob).trans (step_sfi hob)).trans (step_sfi hob)).trans (step_sfi hob)))

abbrev mX7_isTooSoonBehind : zM := (RX7, cX7_isTooSoonBehind, 2, (Option.some Jvm.ClassFile.FieldType.boolean), [], "isTooSoonBehind", 10)
set_option maxRecDepth 20000 in
theorem c_X7_isTooSoonBehind {g : zGT} {Q : zO → zH → Prop} {h : zH} (hg : zG g) {o : Nat → Nat} {r r2 a b s t n : Nat} {S : zS} (hI : MInv n S) (x : SiRep o r h a S s) (y : SiRep o r2 h b S t) (k1 : zmin S s - zmin S t < 10 * (if 0 ≤ S.2 33 s - S.2 33 t then S.2 33 s - S.2 33 t else 0 - (S.2 33 s - S.2 33 t)) → Q (.inl (some (.int (zI 1)))) h) (k0 : ¬ (zmin S s - zmin S t < 10 * (if 0 ≤ S.2 33 s - S.2 33 t then S.2 33 s - S.2 33 t else 0 - (S.2 33 s - S.2 33 t))) → Q (.inl (some (.int (zI 0)))) h) : zC g (.code yX7_isTooSoonBehind cX7_isTooSoonBehind 2 (Option.some Jvm.ClassFile.FieldType.boolean)) yX7_isTooSoonBehind 10 0 0 [.ref a, .ref b] h Q := by
  refine zC_of (M := mX7_isTooSoonBehind) (lv := [some (.ref a), some (.ref b)]) (by decide) rfl rfl (Nat.le_of_ble_eq_true rfl) rfl rfl ?_
  obtain ⟨xsg, x1, x2, x3, x4, x5, x6, x7, x8, x9, x10⟩ := id x
  obtain ⟨ysg, y1, y2, y3, y4, y5, y6, y7, y8, y9, y10⟩ := id y
  have e1 := hI.place s
  have e2 := hI.place t
  have e3 := zmin_range (s := s) hI
  have e4 := zmin_range (s := t) hI
  refine r_aload_0 1 rfl (dd_X7_isTooSoonBehind 0 _ _ _ rfl) ?_
  refine r_geti hg zc_X7 3 (by decide) (fun _ _ _ => rfl) x6 x1 (Or.inl rfl) (tb_5 123 _ rfl) 4 rfl (dd_X7_isTooSoonBehind 1 _ _ _ rfl) ?_
  refine r_aload_1 5 rfl (dd_X7_isTooSoonBehind 2 _ _ _ rfl) ?_
  refine r_geti hg zc_X7 3 (by decide) (fun _ _ _ => rfl) y6 y1 (Or.inl rfl) (tb_5 123 _ rfl) 8 rfl (dd_X7_isTooSoonBehind 3 _ _ _ rfl) ?_
  refine r_isub 9 rfl (dd_X7_isTooSoonBehind 4 _ _ _ rfl) ?_
  refine r_bipush (by decide) 11 rfl (dd_X7_isTooSoonBehind 5 _ _ _ rfl) ?_
  refine r_aload_0 12 rfl (dd_X7_isTooSoonBehind 6 _ _ _ rfl) ?_
  refine r_geti hg zc_X7 1 (by decide) (fun _ _ _ => rfl) x4 x1 (Or.inl rfl) (tb_5 120 _ rfl) 15 rfl (dd_X7_isTooSoonBehind 7 _ _ _ rfl) ?_
  refine r_aload_1 16 rfl (dd_X7_isTooSoonBehind 8 _ _ _ rfl) ?_
  refine r_geti hg zc_X7 1 (by decide) (fun _ _ _ => rfl) y4 y1 (Or.inl rfl) (tb_5 120 _ rfl) 19 rfl (dd_X7_isTooSoonBehind 9 _ _ _ rfl) ?_
  refine r_isub 20 rfl (dd_X7_isTooSoonBehind 10 _ _ _ rfl) ?_
  refine r_mabs (by omega)  hg (by decide) (Nat.le_of_ble_eq_true rfl) (tb_5 101 _ rfl) 23 rfl (dd_X7_isTooSoonBehind 11 _ _ _ rfl) ?_
  refine r_imul 24 rfl (dd_X7_isTooSoonBehind 12 _ _ _ rfl) ?_
  refine r_if_icmpge (by omega) (by omega) 27 rfl 31 rfl (dd_X7_isTooSoonBehind 13 _ _ _ rfl) (fun hc1 => ?_) (fun hc1 => ?_)
  · refine r_iconst 32 rfl (dd_X7_isTooSoonBehind 16 _ _ _ rfl) ?_
    refine r_ireturn rfl rfl (dd_X7_isTooSoonBehind 17 _ _ _ rfl) ?_
    exact k0 (by omega)
  · refine r_iconst 28 rfl (dd_X7_isTooSoonBehind 14 _ _ _ rfl) ?_
    refine r_goto 32 rfl (dd_X7_isTooSoonBehind 15 _ _ _ rfl) ?_
    refine r_ireturn rfl rfl (dd_X7_isTooSoonBehind 17 _ _ _ rfl) ?_
    exact k1 (by omega)
