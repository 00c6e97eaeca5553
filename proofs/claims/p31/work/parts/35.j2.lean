theorem step_new {R : Nat → Prop} {o : Nat → Nat} {h h1 : zH} {b r : Nat} (hb : kd_ h b = 0) (x : z_agree (fun _ => False) h h1) : zStep R o h (zu1 o b r) h1 := ⟨x.mono fun _ q => q.elim, fun y hy => ⟨zu1_ne (fun q => hy (by rw [q]; exact hb)), (x y id hy).1⟩⟩
theorem LArr.mod {g : zGT} {o : Nat → Nat} {r : Nat} {h : zH} {a e : Nat} {L : List Nat} (x : LArr g o r h a e L) (v : Int) : LArr g o r (sfi h a 0 v) a e L := by
  obtain ⟨x1, x2, x3, x4, x5, x6, x7, x8, x9, x10, x11⟩ := x
  exact ⟨x1, x2, (zu2_ne (fun q => by omega)).trans x3, x4, x5, x6, x7, x8, x9, x10, x11⟩
theorem LArr.push {g : zGT} {o : Nat → Nat} {r : Nat} {h : zH} {a e y : Nat} {L : List Nat} (x : LArr g o r h a e L) (hk : kd_ h e = 25) (hlt : L.length < ln_ h e) (hl : L.length < 40) : LRep g o r (sfi (sar h e L.length (some y)) a 2 ((L.length : Int) + 1)) a (L ++ [y]) := by
  obtain ⟨x1, x2, x3, x4, x5, x6, x7, x8, x9, x10, x11⟩ := x
  refine ⟨x1, x10, zu2_at.trans (by simp), by simp; omega, Or.inr ⟨e, x2, hk, (x9 hk).1, (x9 hk).2, by simp; exact hlt, x6, fun i hi => ?_⟩⟩
  show zu2 (ar_ h) e L.length (some y) e i = _
  by_cases hq : i = L.length
  · subst hq; rw [zu2_at]; simp
  · rw [zu2_ne (fun q => hq q.2)]
    have : i < L.length := by simp at hi; omega
    rw [x7 i this, List.getElem?_append_left this]
theorem LArr.ins {g : zGT} {o : Nat → Nat} {r : Nat} {h : zH} {a e y i : Nat} {L : List Nat} (x : LArr g o r h a e L) (hk : kd_ h e = 25) (hlt : L.length < ln_ h e) (hl : L.length < 40) (hi : i ≤ L.length) : LRep g o r (sfi (sar (scr h e (va_cpy (ar_ h e) (ar_ h e) i (i + 1) (L.length - i))) e i (some y)) a 2 ((L.length : Int) + 1)) a (L.take i ++ y :: L.drop i) := by
  obtain ⟨x1, x2, x3, x4, x5, x6, x7, x8, x9, x10, x11⟩ := x
  have hlen : (L.take i ++ y :: L.drop i).length = L.length + 1 := by simp; omega
  refine ⟨x1, x10, zu2_at.trans (by rw [hlen]; omega), by omega, Or.inr ⟨e, x2, hk, (x9 hk).1, (x9 hk).2, by rw [hlen]; exact hlt, x6, fun j hj => ?_⟩⟩
  rw [hlen] at hj
  show zu2 (ar_ (scr h e (va_cpy (ar_ h e) (ar_ h e) i (i + 1) (L.length - i)))) e i (some y) e j = _
  have htl : (L.take i).length = i := by simp; omega
  by_cases hq : j = i
  · subst hq
    rw [zu2_at, List.getElem?_append_right (by omega), htl]; simp
  · rw [zu2_ne (fun q => hq q.2)]
    show (if e = e then va_cpy (ar_ h e) (ar_ h e) i (i + 1) (L.length - i) j else _) = _
    rw [if_pos rfl]
    unfold va_cpy
    by_cases hq2 : j < i
    · rw [if_neg (by omega), x7 j (by omega), List.getElem?_append_left (by omega), List.getElem?_take_of_lt hq2]
    · rw [if_pos (by omega), x7 _ (by omega), List.getElem?_append_right (by omega), htl]
      obtain ⟨d, rfl⟩ : ∃ d, j = i + 1 + d := ⟨j - (i + 1), by omega⟩
      rw [show i + 1 + d - i = d + 1 by omega, List.getElem?_cons_succ, List.getElem?_drop]
      congr 1; omega
theorem LArr.grown {g : zGT} {o : Nat → Nat} {r : Nat} {h h1 : zH} {a e b : Nat} {L : List Nat} (x : LArr g o r h a e L) (hb : kd_ h b = 0) (hk : kd_ h1 b = 25) (hlt : L.length < ln_ h1 b) (hl : ln_ h1 b ≤ 60) (hc : ∀ i, i < L.length → ar_ h1 b i = ar_ h e i) (ha : z_agree (fun _ => False) h h1) : LArr g (zu1 o b r) r (sfr h1 a 1 (some b)) a b L ∧ zStep (fun q => q = r) o h (zu1 o b r) (sfr h1 a 1 (some b)) := by
  obtain ⟨x1, x2, x3, x4, x5, x6, x7, x8, x9, x10, x11⟩ := x
  obtain ⟨y1, y2, y3, -, -, -, -, -⟩ := ha a id (by omega)
  have hab : a ≠ b := fun q => by rw [q, hb] at x1; cases x1
  have hst : zStep (fun q => q = r) o h (zu1 o b r) h1 := step_new hb ha
  refine ⟨⟨y1.trans x1, zu2_at, (y3 2).trans x3, Or.inl hk, by show _ ≤ ln_ h1 b; omega, hl, fun i hi => (hc i hi).trans (x7 i hi), fun q => ?_, fun _ => ⟨zu1_at, by show 0 < ln_ h1 b; omega⟩, (zu1_ne hab).trans x10, x11⟩, hst.trans (step_sfr ((zu1_ne hab).trans x10))⟩
  have : kd_ h1 b = 27 := q
  omega
abbrev mJxa1e45_init_da8c8 : zM := (RJxa1e45, cJxa1e45_init_da8c8, 1, (Option.none : Option Jvm.ClassFile.FieldType), [], "<init>", 10)
set_option maxRecDepth 20000 in
theorem c_Jxa1e45_init_da8c8 {g : zGT} {Q : zO → zH → Prop} {h : zH} (hg : zG g) {a : Nat} (k : Q (.inl none) h) : zC g (.code yJxa1e45_init_da8c8 cJxa1e45_init_da8c8 1 (Option.none : Option Jvm.ClassFile.FieldType)) yJxa1e45_init_da8c8 10 0 0 [.ref a] h Q := by
  refine zC_of (M := mJxa1e45_init_da8c8) (lv := [some (.ref a)]) (by decide) rfl rfl (Nat.le_of_ble_eq_true rfl) rfl rfl ?_
  refine r_aload_0 1 rfl (dd_Jxa1e45_init_da8c8 0 _ _ _ rfl) ?_
  refine r_objInit hg (tb_1 88 _ rfl) (tb_1 41 _ rfl) (tb_1 42 _ rfl) (Nat.le_of_ble_eq_true rfl) (by decide) 4 rfl (dd_Jxa1e45_init_da8c8 1 _ _ _ rfl) ?_
  refine r_vreturn rfl (dd_Jxa1e45_init_da8c8 2 _ _ _ rfl) ?_
  exact k

abbrev mJxc12de_init_da8c8 : zM := (RJxc12de, cJxc12de_init_da8c8, 1, (Option.none : Option Jvm.ClassFile.FieldType), [], "<init>", 11)
set_option maxRecDepth 20000 in
theorem c_Jxc12de_init_da8c8 {g : zGT} {Q : zO → zH → Prop} {h : zH} (hg : zG g) {a : Nat} (hk : kd_ h a = 3) (k : Q (.inl none) (sfi h a 0 0)) : zC g (.code yJxc12de_init_da8c8 cJxc12de_init_da8c8 1 (Option.none : Option Jvm.ClassFile.FieldType)) yJxc12de_init_da8c8 11 0 0 [.ref a] h Q := by
  refine zC_of (M := mJxc12de_init_da8c8) (lv := [some (.ref a)]) (by decide) rfl rfl (Nat.le_of_ble_eq_true rfl) rfl rfl ?_
  refine r_aload_0 1 rfl (dd_Jxc12de_init_da8c8 0 _ _ _ rfl) ?_
  refine r_callI0 (lvl := 10) (mc1 := 0) (ms1 := 0) 0 0 hg rfl md_Jxa1e45_init_da8c8 wi_Jxa1e45_init_da8c8 rfl rfl (tb_1 85 _ rfl) (by decide) (by decide) rfl (Nat.le_of_ble_eq_true rfl) (Nat.le_of_ble_eq_true rfl) (Nat.le_of_ble_eq_true rfl) 4 rfl (dd_Jxc12de_init_da8c8 1 _ _ _ rfl) ?_
  refine c_Jxa1e45_init_da8c8 hg ?_
  dsimp only [zCont, Option.toList, List.cons_append, List.nil_append]
  refine r_aload_0 5 rfl (dd_Jxc12de_init_da8c8 2 _ _ _ rfl) ?_
  refine r_iconst 6 rfl (dd_Jxc12de_init_da8c8 3 _ _ _ rfl) ?_
  refine r_puti hg zc_Jx4a65c 0 (by decide) rfl (fun _ _ _ => rfl) rfl rfl (by decide) hk (Or.inl rfl) (tb_1 93 _ rfl) 9 rfl (dd_Jxc12de_init_da8c8 4 _ _ _ rfl) ?_
  refine r_vreturn rfl (dd_Jxc12de_init_da8c8 5 _ _ _ rfl) ?_
  exact k

abbrev mJx4a65c_init_da8c8 : zM := (RJx4a65c, cJx4a65c_init_da8c8, 1, (Option.none : Option Jvm.ClassFile.FieldType), [], "<init>", 12)
set_option maxRecDepth 20000 in
theorem c_Jx4a65c_init_da8c8 {g : zGT} {Q : zO → zH → Prop} {h : zH} (hg : zG g) {a : Nat} (hk : kd_ h a = 3) (k : Q (.inl none) (sfr (sfi h a 0 0) a 1 (some (ge_ g)))) : zC g (.code yJx4a65c_init_da8c8 cJx4a65c_init_da8c8 1 (Option.none : Option Jvm.ClassFile.FieldType)) yJx4a65c_init_da8c8 12 0 0 [.ref a] h Q := by
  refine zC_of (M := mJx4a65c_init_da8c8) (lv := [some (.ref a)]) (by decide) rfl rfl (Nat.le_of_ble_eq_true rfl) rfl rfl ?_
  refine r_aload_0 1 rfl (dd_Jx4a65c_init_da8c8 0 _ _ _ rfl) ?_
  refine r_callI0 (lvl := 11) (mc1 := 0) (ms1 := 0) 0 0 hg rfl md_Jxc12de_init_da8c8 wi_Jxc12de_init_da8c8 rfl rfl (tb_1 82 _ rfl) (by decide) (by decide) rfl (Nat.le_of_ble_eq_true rfl) (Nat.le_of_ble_eq_true rfl) (Nat.le_of_ble_eq_true rfl) 4 rfl (dd_Jx4a65c_init_da8c8 1 _ _ _ rfl) ?_
  refine c_Jxc12de_init_da8c8 hg hk ?_
  dsimp only [zCont, Option.toList, List.cons_append, List.nil_append]
  refine r_aload_0 5 rfl (dd_Jx4a65c_init_da8c8 2 _ _ _ rfl) ?_
  refine r_getsE hg (tb_1 89 _ rfl) 8 rfl (dd_Jx4a65c_init_da8c8 3 _ _ _ rfl) ?_
  refine r_putr hg zc_Jx4a65c 1 (by decide) rfl (fun _ _ _ => rfl) rfl rfl (by decide) hk (Or.inl rfl) (tb_1 91 _ rfl) 11 rfl (dd_Jx4a65c_init_da8c8 4 _ _ _ rfl) ?_
  refine r_vreturn rfl (dd_Jx4a65c_init_da8c8 5 _ _ _ rfl) ?_
  exact k

abbrev mJ8_newLength_cabcc : zM := (RJ8, cJ8_newLength_cabcc, 4, (Option.some Jvm.ClassFile.FieldType.int), [], "newLength", 10)
set_option maxRecDepth 20000 in
theorem c_J8_newLength_cabcc {g : zGT} {Q : zO → zH → Prop} {h : zH} (hg : zG g) {a b c : Int} (ha : 0 ≤ a ∧ a ≤ 1000) (hb : 0 < b ∧ b ≤ 1000) (hc : 0 ≤ c ∧ c ≤ 1000) (k : Q (.inl (some (.int (zI (a + (if b < c then c else b)))))) h) : zC g (.code yJ8_newLength_cabcc cJ8_newLength_cabcc 4 (Option.some Jvm.ClassFile.FieldType.int)) yJ8_newLength_cabcc 10 0 0 [.int (zI a), .int (zI b), .int (zI c)] h Q := by
  refine zC_of (M := mJ8_newLength_cabcc) (lv := [some (.int (zI a)), some (.int (zI b)), some (.int (zI c)), none]) (by decide) rfl rfl (Nat.le_of_ble_eq_true rfl) rfl rfl ?_
  refine r_iload_0 1 rfl (dd_J8_newLength_cabcc 0 _ _ _ rfl) ?_
  refine r_iload_1 2 rfl (dd_J8_newLength_cabcc 1 _ _ _ rfl) ?_
  refine r_iload_2 3 rfl (dd_J8_newLength_cabcc 2 _ _ _ rfl) ?_
  refine r_mmax (by omega) (by omega)  hg (by decide) (Nat.le_of_ble_eq_true rfl) (tb_2 166 _ rfl) 6 rfl (dd_J8_newLength_cabcc 3 _ _ _ rfl) ?_
  refine r_iadd 7 rfl (dd_J8_newLength_cabcc 4 _ _ _ rfl) ?_
  refine r_istore_3 8 rfl (by decide) rfl (dd_J8_newLength_cabcc 5 _ _ _ rfl) ?_
  refine r_iconst 9 rfl (dd_J8_newLength_cabcc 6 _ _ _ rfl) ?_
  refine r_iload_3 10 rfl (dd_J8_newLength_cabcc 7 _ _ _ rfl) ?_
  refine r_if_icmpge (by omega) (by omega) 13 rfl 21 rfl (dd_J8_newLength_cabcc 8 _ _ _ rfl) (fun hc1 => ?_) (fun hc1 => ?_)
  · exfalso; omega
  · refine r_iload_3 14 rfl (dd_J8_newLength_cabcc 9 _ _ _ rfl) ?_
    refine r_ldc hg (tb_2 169 _ rfl) 16 rfl (dd_J8_newLength_cabcc 10 _ _ _ rfl) ?_
    refine r_top 2147483639 rfl ?_
    refine r_if_icmpgt (by omega) (by omega) 19 rfl 21 rfl (dd_J8_newLength_cabcc 11 _ _ _ rfl) (fun hc2 => ?_) (fun hc2 => ?_)
    · exfalso; omega
    · refine r_iload_3 20 rfl (dd_J8_newLength_cabcc 12 _ _ _ rfl) ?_
      refine r_ireturn rfl rfl (dd_J8_newLength_cabcc 13 _ _ _ rfl) ?_
      exact k

abbrev mJ7_copyOf_59c91 : zM := (RJ7, cJ7_copyOf_59c91, 3, (Option.some (Jvm.ClassFile.FieldType.array Jvm.ClassFile.FieldType.int)), [], "copyOf", 11)
set_option maxRecDepth 20000 in
theorem c_J7_copyOf_59c91 {g : zGT} {Q : zO → zH → Prop} {h : zH} (hg : zG g) {a : Nat} {n : Int} (hk : kd_ h a = 20) (hn : (ln_ h a : Int) < n) (hn2 : n ≤ 2100) (k : ∀ b h1, kd_ h b = 0 → kd_ h1 b = 20 → ln_ h1 b = n.toNat → (∀ i, i < ln_ h a → ai_ h1 b i = ai_ h a i) → z_agree (fun _ => False) h h1 → Q (.inl (some (.ref b))) h1) : zC g (.code yJ7_copyOf_59c91 cJ7_copyOf_59c91 3 (Option.some (Jvm.ClassFile.FieldType.array Jvm.ClassFile.FieldType.int))) yJ7_copyOf_59c91 11 1 2100 [.ref a, .int (zI n)] h Q := by
  refine zC_of (M := mJ7_copyOf_59c91) (lv := [some (.ref a), some (.int (zI n)), none]) (by decide) rfl rfl (Nat.le_of_ble_eq_true rfl) rfl rfl ?_
  refine r_iload_1 1 rfl (dd_J7_copyOf_59c91 0 _ _ _ rfl) ?_
  refine r_aload_0 2 rfl (dd_J7_copyOf_59c91 1 _ _ _ rfl) ?_
  refine r_arraylength hg hk (by decide) (by decide) 3 rfl (dd_J7_copyOf_59c91 2 _ _ _ rfl) ?_
  refine r_if_icmpne (by omega) (by omega) 6 rfl 14 rfl (dd_J7_copyOf_59c91 3 _ _ _ rfl) (fun hc1 => ?_) (fun hc1 => ?_)
  · refine r_iload_1 15 rfl (dd_J7_copyOf_59c91 8 _ _ _ rfl) ?_
    refine r_newarray 20 0 0 hg (by decide) (by decide) rfl (tb_1 120 _ rfl) (by omega) (by omega) (Nat.le_of_ble_eq_true rfl) (by omega) 17 rfl (dd_J7_copyOf_59c91 9 _ _ _ rfl) (fun b hz_b => ?_)
    have hab : a ≠ b := fun q => by rw [q, hz_b] at hk; cases hk
    refine r_astore_2 18 rfl (by decide) rfl (dd_J7_copyOf_59c91 10 _ _ _ rfl) ?_
    refine r_aload_0 19 rfl (dd_J7_copyOf_59c91 11 _ _ _ rfl) ?_
    refine r_iconst 20 rfl (dd_J7_copyOf_59c91 12 _ _ _ rfl) ?_
    refine r_aload_2 21 rfl (dd_J7_copyOf_59c91 13 _ _ _ rfl) ?_
    refine r_iconst 22 rfl (dd_J7_copyOf_59c91 14 _ _ _ rfl) ?_
    refine r_aload_0 23 rfl (dd_J7_copyOf_59c91 15 _ _ _ rfl) ?_
    refine r_arraylength hg (show kd_ (nar h b 20 n.toNat) a = 20 from (zu1_ne hab).trans hk) (by decide) (by decide) 24 rfl (dd_J7_copyOf_59c91 16 _ _ _ rfl) ?_
    rw [show ln_ (nar h b 20 n.toNat) a = ln_ h a from zu1_ne hab]
    refine r_iload_1 25 rfl (dd_J7_copyOf_59c91 17 _ _ _ rfl) ?_
    refine r_mmin (by omega) (by omega)  hg (by decide) (Nat.le_of_ble_eq_true rfl) (tb_2 204 _ rfl) 28 rfl (dd_J7_copyOf_59c91 18 _ _ _ rfl) ?_
    refine r_copyi hg ((zu1_ne hab).trans hk) zu1_at (tb_2 207 _ rfl) (by decide) (by decide) (by omega) (by decide) (by decide) (by omega) (by rw [show ln_ (nar h b 20 n.toNat) a = ln_ h a from zu1_ne hab]; omega) (by rw [show ln_ (nar h b 20 n.toNat) b = n.toNat from zu1_at]; omega) (by decide) (Nat.le_of_ble_eq_true rfl) 31 rfl (dd_J7_copyOf_59c91 19 _ _ _ rfl) ?_
    refine r_aload_2 32 rfl (dd_J7_copyOf_59c91 20 _ _ _ rfl) ?_
    refine r_areturn rfl (by first | exact Or.inl ⟨_, rfl⟩ | exact Or.inr ⟨_, rfl⟩) (dd_J7_copyOf_59c91 21 _ _ _ rfl) ?_
    refine k b _ hz_b zu1_at zu1_at (fun i hi => ?_) (fun x hx hx0 => ?_)
    · show (if b = b then va_cpy (ai_ (nar h b 20 n.toNat) a) (ai_ (nar h b 20 n.toNat) b) (0 : Int).toNat (0 : Int).toNat (if n < (ln_ h a : Int) then n else (ln_ h a : Int)).toNat i else _) = _
      rw [if_pos rfl]
      unfold va_cpy
      rw [if_neg (by omega : ¬ n < (ln_ h a : Int))]
      rw [if_pos (by constructor <;> simp <;> omega)]
      have e9 : (0 : Int).toNat + (i - (0 : Int).toNat) = i := by simp
      rw [e9]
      exact if_neg hab
    · have hxb : x ≠ b := fun q => hx0 (by rw [q]; exact hz_b)
      obtain ⟨a1, a2, a3, a4, a5, a6, a7, a8⟩ := agree_nar (P := fun _ => False) (k := 20) (n := n.toNat) hz_b x hx hx0
      exact ⟨a1, a2, a3, a4, a5, fun j => (if_neg hxb).trans (a6 j), a7, a8⟩
  · exfalso; omega

abbrev mJ7_copyOf_6403c : zM := (RJ7, cJ7_copyOf_6403c, 4, (Option.some (Jvm.ClassFile.FieldType.array (Jvm.ClassFile.FieldType.object "java/lang/Object"))), [], "copyOf", 11)
set_option maxRecDepth 20000 in
theorem c_J7_copyOf_6403c {g : zGT} {Q : zO → zH → Prop} {h : zH} (hg : zG g) {ci : Nat} {C : String} {T : u_T} {N : Nat} {ty : Nat → FieldType} (zc : z_cls ci C T N ty) (hca : Cond.castable C "java/lang/Object" ∈ lw_tbl) {mi : Nat} (hm : zMi g mi) {a : Nat} {n : Int} (hk : kd_ h a = 25) (hn : (ln_ h a : Int) ≤ n) (hn2 : n ≤ 100) (hel : ∀ i, i < ln_ h a → ∀ y, ar_ h a i = some y → kd_ h y = ci + 1) (k : ∀ b h1, kd_ h b = 0 → kd_ h1 b = 25 → ln_ h1 b = n.toNat → (∀ i, i < ln_ h a → ar_ h1 b i = ar_ h a i) → z_agree (fun _ => False) h h1 → Q (.inl (some (.ref b))) h1) : zC g (.code yJ7_copyOf_6403c cJ7_copyOf_6403c 4 (Option.some (Jvm.ClassFile.FieldType.array (Jvm.ClassFile.FieldType.object "java/lang/Object")))) yJ7_copyOf_6403c 11 1 100 [.ref a, .int (zI n), .ref mi] h Q := by
  refine zC_of (M := mJ7_copyOf_6403c) (lv := [some (.ref a), some (.int (zI n)), some (.ref mi), none]) (by decide) rfl rfl (Nat.le_of_ble_eq_true rfl) rfl rfl ?_
  refine r_aload_2 1 rfl (dd_J7_copyOf_6403c 0 _ _ _ rfl) ?_
  refine r_ldcM hg hm (tb_2 201 _ rfl) 3 rfl (dd_J7_copyOf_6403c 1 _ _ _ rfl) ?_
  refine r_acmpne 6 rfl 13 rfl (dd_J7_copyOf_6403c 2 _ _ _ rfl) (fun q => absurd rfl q) (fun _ => ?_)
  refine r_iload_1 7 rfl (dd_J7_copyOf_6403c 3 _ _ _ rfl) ?_
  refine r_anewarray 25 0 0 hg (Or.inl ⟨rfl, rfl⟩) (tb_2 203 _ rfl) (va_AO.of (hg.2.1 _ (tb_2 202 _ rfl))) (by omega) (by omega) (Nat.le_of_ble_eq_true rfl) (by omega) 10 rfl (dd_J7_copyOf_6403c 4 _ _ _ rfl) (fun b hz_b => ?_)
  have hab : a ≠ b := fun q => by rw [q, hz_b] at hk; cases hk
  refine r_goto 24 rfl (dd_J7_copyOf_6403c 5 _ _ _ rfl) ?_
  refine r_astore_3 25 rfl (by decide) rfl (dd_J7_copyOf_6403c 11 _ _ _ rfl) ?_
  refine r_aload_0 26 rfl (dd_J7_copyOf_6403c 12 _ _ _ rfl) ?_
  refine r_iconst 27 rfl (dd_J7_copyOf_6403c 13 _ _ _ rfl) ?_
  refine r_aload_3 28 rfl (dd_J7_copyOf_6403c 14 _ _ _ rfl) ?_
  refine r_iconst 29 rfl (dd_J7_copyOf_6403c 15 _ _ _ rfl) ?_
  refine r_aload_0 30 rfl (dd_J7_copyOf_6403c 16 _ _ _ rfl) ?_
  refine r_arraylength hg (show kd_ (nar h b 25 n.toNat) a = 25 from (zu1_ne hab).trans hk) (by decide) (by decide) 31 rfl (dd_J7_copyOf_6403c 17 _ _ _ rfl) ?_
  rw [show ln_ (nar h b 25 n.toNat) a = ln_ h a from zu1_ne hab]
  refine r_iload_1 32 rfl (dd_J7_copyOf_6403c 18 _ _ _ rfl) ?_
  refine r_mmin (by omega) (by omega)  hg (by decide) (Nat.le_of_ble_eq_true rfl) (tb_2 204 _ rfl) 35 rfl (dd_J7_copyOf_6403c 19 _ _ _ rfl) ?_
  refine r_copyq hg zc hca ((zu1_ne hab).trans hk) zu1_at (fun i hi y hy => by rw [if_neg (by omega : ¬ n < (ln_ h a : Int))] at hi; have hyb : kd_ h y = ci + 1 := hel i (by omega) y (by rw [← hy]; show _ = (if a = b then none else ar_ h a ((0 : Int).toNat + i)); rw [if_neg hab]; simp); have hy9 : y ≠ b := (fun q => by rw [q, hz_b] at hyb; omega); exact (zu1_ne hy9).trans hyb) (tb_2 207 _ rfl) (by decide) (by decide) (by omega) (by decide) (by decide) (by omega) (by rw [show ln_ (nar h b 25 n.toNat) a = ln_ h a from zu1_ne hab]; omega) (by rw [show ln_ (nar h b 25 n.toNat) b = n.toNat from zu1_at]; omega) (by decide) (Nat.le_of_ble_eq_true rfl) 38 rfl (dd_J7_copyOf_6403c 20 _ _ _ rfl) ?_
  refine r_aload_3 39 rfl (dd_J7_copyOf_6403c 21 _ _ _ rfl) ?_
  refine r_areturn rfl (by first | exact Or.inl ⟨_, rfl⟩ | exact Or.inr ⟨_, rfl⟩) (dd_J7_copyOf_6403c 22 _ _ _ rfl) ?_
  refine k b _ hz_b zu1_at zu1_at (fun i hi => ?_) (fun x hx hx0 => ?_)
  · show (if b = b then va_cpy (ar_ (nar h b 25 n.toNat) a) (ar_ (nar h b 25 n.toNat) b) (0 : Int).toNat (0 : Int).toNat (if n < (ln_ h a : Int) then n else (ln_ h a : Int)).toNat i else _) = _
    rw [if_pos rfl]
    unfold va_cpy
    rw [if_neg (by omega : ¬ n < (ln_ h a : Int))]
    rw [if_pos (by constructor <;> simp <;> omega)]
    have e9 : (0 : Int).toNat + (i - (0 : Int).toNat) = i := by simp
    rw [e9]
    exact if_neg hab
  · have hxb : x ≠ b := fun q => hx0 (by rw [q]; exact hz_b)
    obtain ⟨a1, a2, a3, a4, a5, a6, a7, a8⟩ := agree_nar (P := fun _ => False) (k := 25) (n := n.toNat) hz_b x hx hx0
    exact ⟨a1, a2, a3, a4, a5, a6, a7, fun j => (if_neg hxb).trans (a8 j)⟩

abbrev mJ7_copyOf_1904c : zM := (RJ7, cJ7_copyOf_1904c, 2, (Option.some (Jvm.ClassFile.FieldType.array (Jvm.ClassFile.FieldType.object "java/lang/Object"))), [], "copyOf", 12)
set_option maxRecDepth 20000 in
theorem c_J7_copyOf_1904c {g : zGT} {Q : zO → zH → Prop} {h : zH} (hg : zG g) {ci : Nat} {C : String} {T : u_T} {N : Nat} {ty : Nat → FieldType} (zc : z_cls ci C T N ty) (hca : Cond.castable C "java/lang/Object" ∈ lw_tbl) {mi : Nat} (hm : zMi g mi) {a : Nat} {n : Int} (hk : kd_ h a = 25) (hn : (ln_ h a : Int) ≤ n) (hn2 : n ≤ 100) (hel : ∀ i, i < ln_ h a → ∀ y, ar_ h a i = some y → kd_ h y = ci + 1) (k : ∀ b h1, kd_ h b = 0 → kd_ h1 b = 25 → ln_ h1 b = n.toNat → (∀ i, i < ln_ h a → ar_ h1 b i = ar_ h a i) → z_agree (fun _ => False) h h1 → Q (.inl (some (.ref b))) h1) : zC g (.code yJ7_copyOf_1904c cJ7_copyOf_1904c 2 (Option.some (Jvm.ClassFile.FieldType.array (Jvm.ClassFile.FieldType.object "java/lang/Object")))) yJ7_copyOf_1904c 12 1 100 [.ref a, .int (zI n)] h Q := by
  refine zC_of (M := mJ7_copyOf_1904c) (lv := [some (.ref a), some (.int (zI n))]) (by decide) rfl rfl (Nat.le_of_ble_eq_true rfl) rfl rfl ?_
  refine r_aload_0 1 rfl (dd_J7_copyOf_1904c 0 _ _ _ rfl) ?_
  refine r_iload_1 2 rfl (dd_J7_copyOf_1904c 1 _ _ _ rfl) ?_
  refine r_aload_0 3 rfl (dd_J7_copyOf_1904c 2 _ _ _ rfl) ?_
  refine r_getC hg hm hk (tb_2 176 _ rfl) (by decide) (Nat.le_of_ble_eq_true rfl) 6 rfl (dd_J7_copyOf_1904c 3 _ _ _ rfl) ?_
  refine r_callS3 (lvl := 11) (mc1 := 1) (ms1 := 100) 0 0 hg rfl md_J7_copyOf_6403c ws_J7_copyOf_6403c (tb_2 198 _ rfl) (by decide) (by decide) rfl (Nat.le_of_ble_eq_true rfl) (Nat.le_of_ble_eq_true rfl) (Nat.le_of_ble_eq_true rfl) 9 rfl (dd_J7_copyOf_1904c 4 _ _ _ rfl) ?_
  refine c_J7_copyOf_6403c hg zc hca hm hk hn hn2 hel (fun b h1 b1 b2 b3 b4 b5 => ?_)
  dsimp only [zCont, Option.toList, List.cons_append, List.nil_append]
  refine r_areturn rfl (by first | exact Or.inl ⟨_, rfl⟩ | exact Or.inr ⟨_, rfl⟩) (dd_J7_copyOf_1904c 5 _ _ _ rfl) ?_
  exact k b h1 b1 b2 b3 b4 b5

abbrev mJx4a65c_grow_92f84 : zM := (RJx4a65c, cJx4a65c_grow_92f84, 4, (Option.some (Jvm.ClassFile.FieldType.array (Jvm.ClassFile.FieldType.object "java/lang/Object"))), [], "grow", 13)
set_option maxRecDepth 20000 in
theorem c_Jx4a65c_grow_92f84 {g : zGT} {Q : zO → zH → Prop} {h : zH} (hg : zG g) {ci : Nat} {C : String} {T : u_T} {N : Nat} {ty : Nat → FieldType} (zc : z_cls ci C T N ty) (hca : Cond.castable C "java/lang/Object" ∈ lw_tbl) {mi : Nat} (hm : zMi g mi) {o : Nat → Nat} {r a e : Nat} {L : List Nat} (hA : LArr g o r h a e L) (hl40 : L.length < 40) (hel : ∀ z, z ∈ L → kd_ h z = ci + 1) (hfull : ln_ h e = L.length) {n : Int} (hn : n = (L.length : Int) + 1) (k : ∀ e1 o1 h1, LArr g o1 r h1 a e1 L → kd_ h1 e1 = 25 → L.length < ln_ h1 e1 → zStep (fun q => q = r) o h o1 h1 → Q (.inl (some (.ref e1))) h1) : zC g (.code yJx4a65c_grow_92f84 cJx4a65c_grow_92f84 4 (Option.some (Jvm.ClassFile.FieldType.array (Jvm.ClassFile.FieldType.object "java/lang/Object")))) yJx4a65c_grow_92f84 13 1 100 [.ref a, .int (zI n)] h Q := by
  refine zC_of (M := mJx4a65c_grow_92f84) (lv := [some (.ref a), some (.int (zI n)), none, none]) (by decide) rfl rfl (Nat.le_of_ble_eq_true rfl) rfl rfl ?_
  obtain ⟨x1, x2, x3, x4, x5, x6, x7, x8, x9, x10, x11⟩ := id hA
  subst hn
  refine r_aload_0 1 rfl (dd_Jx4a65c_grow_92f84 0 _ _ _ rfl) ?_
  refine r_getr hg zc_Jx4a65c 1 (by decide) (fun _ _ _ => rfl) x2 x1 (Or.inl rfl) (tb_1 91 _ rfl) 4 rfl (dd_Jx4a65c_grow_92f84 1 _ _ _ rfl) ?_
  refine r_alenL hg (by omega) x8 5 rfl (dd_Jx4a65c_grow_92f84 2 _ _ _ rfl) ?_
  refine r_istore_2 6 rfl (by decide) rfl (dd_Jx4a65c_grow_92f84 3 _ _ _ rfl) ?_
  refine r_iload_2 7 rfl (dd_Jx4a65c_grow_92f84 4 _ _ _ rfl) ?_
  refine r_ifgt (by omega) 10 rfl 20 rfl (dd_Jx4a65c_grow_92f84 5 _ _ _ rfl) (fun hc1 => ?_) (fun hc1 => ?_)
  · have hk25 : kd_ h e = 25 := by rcases x4 with q | q; exact q; have := (x8 q).1; omega
    refine r_iload_2 21 rfl (dd_Jx4a65c_grow_92f84 10 _ _ _ rfl) ?_
    refine r_iload_1 22 rfl (dd_Jx4a65c_grow_92f84 11 _ _ _ rfl) ?_
    refine r_iload_2 23 rfl (dd_Jx4a65c_grow_92f84 12 _ _ _ rfl) ?_
    refine r_isub 24 rfl (dd_Jx4a65c_grow_92f84 13 _ _ _ rfl) ?_
    refine r_iload_2 25 rfl (dd_Jx4a65c_grow_92f84 14 _ _ _ rfl) ?_
    refine r_iconst 26 rfl (dd_Jx4a65c_grow_92f84 15 _ _ _ rfl) ?_
    refine r_ishr1 (by omega) 27 rfl (dd_Jx4a65c_grow_92f84 16 _ _ _ rfl) ?_
    refine r_callS3 (lvl := 10) (mc1 := 0) (ms1 := 0) 1 100 hg rfl md_J8_newLength_cabcc ws_J8_newLength_cabcc (tb_2 163 _ rfl) (by decide) (by decide) rfl (Nat.le_of_ble_eq_true rfl) (Nat.le_of_ble_eq_true rfl) (Nat.le_of_ble_eq_true rfl) 30 rfl (dd_Jx4a65c_grow_92f84 17 _ _ _ rfl) ?_
    refine c_J8_newLength_cabcc hg (by omega) (by omega) (by omega) ?_
    dsimp only [zCont, Option.toList, List.cons_append, List.nil_append]
    refine r_istore_3 31 rfl (by decide) rfl (dd_Jx4a65c_grow_92f84 18 _ _ _ rfl) ?_
    refine r_aload_0 32 rfl (dd_Jx4a65c_grow_92f84 19 _ _ _ rfl) ?_
    refine r_aload_0 33 rfl (dd_Jx4a65c_grow_92f84 20 _ _ _ rfl) ?_
    refine r_getr hg zc_Jx4a65c 1 (by decide) (fun _ _ _ => rfl) x2 x1 (Or.inl rfl) (tb_1 91 _ rfl) 36 rfl (dd_Jx4a65c_grow_92f84 21 _ _ _ rfl) ?_
    refine r_iload_3 37 rfl (dd_Jx4a65c_grow_92f84 22 _ _ _ rfl) ?_
    refine r_callS2 (lvl := 12) (mc1 := 1) (ms1 := 100) 0 0 hg rfl md_J7_copyOf_1904c ws_J7_copyOf_1904c (tb_2 173 _ rfl) (by decide) (by decide) rfl (Nat.le_of_ble_eq_true rfl) (Nat.le_of_ble_eq_true rfl) (Nat.le_of_ble_eq_true rfl) 40 rfl (dd_Jx4a65c_grow_92f84 23 _ _ _ rfl) ?_
    refine c_J7_copyOf_1904c hg zc hca hm hk25 (by omega) (by omega) (fun i hi y hy => hel y (by rw [x7 i (by omega)] at hy; exact List.mem_of_getElem? hy)) (fun b h1 b1 b2 b3 b4 b5 => ?_)
    dsimp only [zCont, Option.toList, List.cons_append, List.nil_append]
    refine r_dup_x1 rfl rfl 41 rfl (dd_Jx4a65c_grow_92f84 24 _ _ _ rfl) ?_
    have hka1 : kd_ h1 a = 3 := (b5 a id (by omega)).1.trans x1
    refine r_putr hg zc_Jx4a65c 1 (by decide) rfl (fun _ _ _ => rfl) rfl rfl (by decide) (by first | exact hka1 | exact (zu1_ne hab).trans x1) (Or.inl rfl) (tb_1 91 _ rfl) 44 rfl (dd_Jx4a65c_grow_92f84 25 _ _ _ rfl) ?_
    refine r_areturn rfl (by first | exact Or.inl ⟨_, rfl⟩ | exact Or.inr ⟨_, rfl⟩) (dd_Jx4a65c_grow_92f84 26 _ _ _ rfl) ?_
    first | (have z := hA.grown b1 b2 (by rw [b3]; omega) (by rw [b3]; omega) (fun i hi => b4 i (by omega)) b5; exact k b _ _ z.1 b2 (by show _ < ln_ h1 b; rw [b3]; omega) z.2) | (have z := hA.grown (h1 := nar h b 25 (if (10 : Int) < (L.length : Int) + 1 then (L.length : Int) + 1 else 10).toNat) hz_b zu1_at (by rw [show ln_ (nar h b 25 (if (10 : Int) < (L.length : Int) + 1 then (L.length : Int) + 1 else 10).toNat) b = (if (10 : Int) < (L.length : Int) + 1 then (L.length : Int) + 1 else 10).toNat from zu1_at]; omega) (by rw [show ln_ (nar h b 25 (if (10 : Int) < (L.length : Int) + 1 then (L.length : Int) + 1 else 10).toNat) b = (if (10 : Int) < (L.length : Int) + 1 then (L.length : Int) + 1 else 10).toNat from zu1_at]; omega) (fun i hi => by omega) (agree_nar hz_b); exact k b _ _ z.1 zu1_at (by show _ < ln_ (nar h b 25 (if (10 : Int) < (L.length : Int) + 1 then (L.length : Int) + 1 else 10).toNat) b; rw [show ln_ (nar h b 25 (if (10 : Int) < (L.length : Int) + 1 then (L.length : Int) + 1 else 10).toNat) b = (if (10 : Int) < (L.length : Int) + 1 then (L.length : Int) + 1 else 10).toNat from zu1_at]; omega) z.2)
  · refine r_aload_0 11 rfl (dd_Jx4a65c_grow_92f84 6 _ _ _ rfl) ?_
    refine r_getr hg zc_Jx4a65c 1 (by decide) (fun _ _ _ => rfl) x2 x1 (Or.inl rfl) (tb_1 91 _ rfl) 14 rfl (dd_Jx4a65c_grow_92f84 7 _ _ _ rfl) ?_
    refine r_getsE hg (tb_1 89 _ rfl) 17 rfl (dd_Jx4a65c_grow_92f84 8 _ _ _ rfl) ?_
    have hk27 : kd_ h e = 27 := by rcases x4 with q | q; have := (x9 q).2; omega; exact q
    refine r_acmpeq 20 rfl 45 rfl (dd_Jx4a65c_grow_92f84 9 _ _ _ rfl) (fun _ => ?_) (fun q => absurd (x8 hk27).2 q)
    refine r_aload_0 46 rfl (dd_Jx4a65c_grow_92f84 27 _ _ _ rfl) ?_
    refine r_bipush (by decide) 48 rfl (dd_Jx4a65c_grow_92f84 28 _ _ _ rfl) ?_
    refine r_iload_1 49 rfl (dd_Jx4a65c_grow_92f84 29 _ _ _ rfl) ?_
    refine r_mmax (by omega) (by omega)  hg (by decide) (Nat.le_of_ble_eq_true rfl) (tb_2 210 _ rfl) 52 rfl (dd_Jx4a65c_grow_92f84 30 _ _ _ rfl) ?_
    refine r_anewarray 25 0 0 hg (Or.inl ⟨rfl, rfl⟩) (tb_2 211 _ rfl) (va_AO.of (hg.2.1 _ (tb_2 202 _ rfl))) (by omega) (by omega) (Nat.le_of_ble_eq_true rfl) (by omega) 55 rfl (dd_Jx4a65c_grow_92f84 31 _ _ _ rfl) (fun b hz_b => ?_)
    have hab : a ≠ b := fun q => by rw [q, hz_b] at x1; cases x1
    refine r_dup_x1 rfl rfl 56 rfl (dd_Jx4a65c_grow_92f84 32 _ _ _ rfl) ?_
    refine r_putr hg zc_Jx4a65c 1 (by decide) rfl (fun _ _ _ => rfl) rfl rfl (by decide) (by first | exact hka1 | exact (zu1_ne hab).trans x1) (Or.inl rfl) (tb_1 91 _ rfl) 59 rfl (dd_Jx4a65c_grow_92f84 33 _ _ _ rfl) ?_
    refine r_areturn rfl (by first | exact Or.inl ⟨_, rfl⟩ | exact Or.inr ⟨_, rfl⟩) (dd_Jx4a65c_grow_92f84 34 _ _ _ rfl) ?_
    first | (have z := hA.grown b1 b2 (by rw [b3]; omega) (by rw [b3]; omega) (fun i hi => b4 i (by omega)) b5; exact k b _ _ z.1 b2 (by show _ < ln_ h1 b; rw [b3]; omega) z.2) | (have z := hA.grown (h1 := nar h b 25 (if (10 : Int) < (L.length : Int) + 1 then (L.length : Int) + 1 else 10).toNat) hz_b zu1_at (by rw [show ln_ (nar h b 25 (if (10 : Int) < (L.length : Int) + 1 then (L.length : Int) + 1 else 10).toNat) b = (if (10 : Int) < (L.length : Int) + 1 then (L.length : Int) + 1 else 10).toNat from zu1_at]; omega) (by rw [show ln_ (nar h b 25 (if (10 : Int) < (L.length : Int) + 1 then (L.length : Int) + 1 else 10).toNat) b = (if (10 : Int) < (L.length : Int) + 1 then (L.length : Int) + 1 else 10).toNat from zu1_at]; omega) (fun i hi => by omega) (agree_nar hz_b); exact k b _ _ z.1 zu1_at (by show _ < ln_ (nar h b 25 (if (10 : Int) < (L.length : Int) + 1 then (L.length : Int) + 1 else 10).toNat) b; rw [show ln_ (nar h b 25 (if (10 : Int) < (L.length : Int) + 1 then (L.length : Int) + 1 else 10).toNat) b = (if (10 : Int) < (L.length : Int) + 1 then (L.length : Int) + 1 else 10).toNat from zu1_at]; omega) z.2)

abbrev mJx4a65c_grow_d5877 : zM := (RJx4a65c, cJx4a65c_grow_d5877, 1, (Option.some (Jvm.ClassFile.FieldType.array (Jvm.ClassFile.FieldType.object "java/lang/Object"))), [], "grow", 14)
set_option maxRecDepth 20000 in
theorem c_Jx4a65c_grow_d5877 {g : zGT} {Q : zO → zH → Prop} {h : zH} (hg : zG g) {ci : Nat} {C : String} {T : u_T} {N : Nat} {ty : Nat → FieldType} (zc : z_cls ci C T N ty) (hca : Cond.castable C "java/lang/Object" ∈ lw_tbl) {mi : Nat} (hm : zMi g mi) {o : Nat → Nat} {r a e : Nat} {L : List Nat} (hA : LArr g o r h a e L) (hl40 : L.length < 40) (hel : ∀ z, z ∈ L → kd_ h z = ci + 1) (hfull : ln_ h e = L.length) (k : ∀ e1 o1 h1, LArr g o1 r h1 a e1 L → kd_ h1 e1 = 25 → L.length < ln_ h1 e1 → zStep (fun q => q = r) o h o1 h1 → Q (.inl (some (.ref e1))) h1) : zC g (.code yJx4a65c_grow_d5877 cJx4a65c_grow_d5877 1 (Option.some (Jvm.ClassFile.FieldType.array (Jvm.ClassFile.FieldType.object "java/lang/Object")))) yJx4a65c_grow_d5877 14 1 100 [.ref a] h Q := by
  refine zC_of (M := mJx4a65c_grow_d5877) (lv := [some (.ref a)]) (by decide) rfl rfl (Nat.le_of_ble_eq_true rfl) rfl rfl ?_
  refine r_aload_0 1 rfl (dd_Jx4a65c_grow_d5877 0 _ _ _ rfl) ?_
  refine r_aload_0 2 rfl (dd_Jx4a65c_grow_d5877 1 _ _ _ rfl) ?_
  refine r_geti hg zc_Jx4a65c 2 (by decide) (fun _ _ _ => rfl) hA.2.2.1 hA.1 (Or.inl rfl) (tb_1 92 _ rfl) 5 rfl (dd_Jx4a65c_grow_d5877 2 _ _ _ rfl) ?_
  refine r_iconst 6 rfl (dd_Jx4a65c_grow_d5877 3 _ _ _ rfl) ?_
  refine r_iadd 7 rfl (dd_Jx4a65c_grow_d5877 4 _ _ _ rfl) ?_
  refine r_callV1 (lvl := 13) (mc1 := 1) (ms1 := 100) 0 0 hg rfl md_Jx4a65c_grow_92f84 zc_Jx4a65c hA.1 wi_Jx4a65c_grow_92f84 wv_Jx4a65c_grow_92f84 (tb_2 159 _ rfl) (by decide) (by decide) rfl (Nat.le_of_ble_eq_true rfl) (Nat.le_of_ble_eq_true rfl) (Nat.le_of_ble_eq_true rfl) 10 rfl (dd_Jx4a65c_grow_d5877 5 _ _ _ rfl) ?_
  refine c_Jx4a65c_grow_92f84 hg zc hca hm hA hl40 hel hfull rfl (fun e1 o1 h1 q1 q2 q3 q4 => ?_)
  dsimp only [zCont, Option.toList, List.cons_append, List.nil_append]
  refine r_areturn rfl (by first | exact Or.inl ⟨_, rfl⟩ | exact Or.inr ⟨_, rfl⟩) (dd_Jx4a65c_grow_d5877 6 _ _ _ rfl) ?_
  exact k e1 o1 h1 q1 q2 q3 q4

abbrev mJx4a65c_add_72be8 : zM := (RJx4a65c, cJx4a65c_add_72be8, 4, (Option.none : Option Jvm.ClassFile.FieldType), [], "add", 15)
set_option maxRecDepth 20000 in
theorem c_Jx4a65c_add_72be8 {g : zGT} {Q : zO → zH → Prop} {h : zH} (hg : zG g) {ci : Nat} {C : String} {T : u_T} {N : Nat} {ty : Nat → FieldType} (zc : z_cls ci C T N ty) (hca : Cond.castable C "java/lang/Object" ∈ lw_tbl) {mi : Nat} (hm : zMi g mi) {o : Nat → Nat} {r a e : Nat} {L : List Nat} (hA : LArr g o r h a e L) (hl40 : L.length < 40) (hel : ∀ z, z ∈ L → kd_ h z = ci + 1) {y : Nat} (hy : kd_ h y = ci + 1) (k : ∀ o1 h1, LRep g o1 r h1 a (L ++ [y]) → zStep (fun q => q = r) o h o1 h1 → Q (.inl none) h1) : zC g (.code yJx4a65c_add_72be8 cJx4a65c_add_72be8 4 (Option.none : Option Jvm.ClassFile.FieldType)) yJx4a65c_add_72be8 15 1 100 [.ref a, .ref y, .ref e, .int (zI (L.length : Int))] h Q := by
  refine zC_of (M := mJx4a65c_add_72be8) (lv := [some (.ref a), some (.ref y), some (.ref e), some (.int (zI (L.length : Int)))]) (by decide) rfl rfl (Nat.le_of_ble_eq_true rfl) rfl rfl ?_
  obtain ⟨x1, x2, x3, x4, x5, x6, x7, x8, x9, x10, x11⟩ := id hA
  refine r_iload_3 1 rfl (dd_Jx4a65c_add_72be8 0 _ _ _ rfl) ?_
  refine r_aload_2 2 rfl (dd_Jx4a65c_add_72be8 1 _ _ _ rfl) ?_
  refine r_alenL hg (by omega) x8 3 rfl (dd_Jx4a65c_add_72be8 2 _ _ _ rfl) ?_
  refine r_if_icmpne (by omega) (by omega) 6 rfl 11 rfl (dd_Jx4a65c_add_72be8 3 _ _ _ rfl) (fun hc1 => ?_) (fun hc1 => ?_)
  · have hk25 : kd_ h e = 25 := by rcases x4 with q | q; exact q; have := (x8 q).1; omega
    have hlt : L.length < ln_ h e := by omega
    have hst : zStep (fun q => q = r) o h o h := .refl
    have hA1 := hA
    have hy1 := hy
    refine r_aload_2 12 rfl (dd_Jx4a65c_add_72be8 7 _ _ _ rfl) ?_
    refine r_iload_3 13 rfl (dd_Jx4a65c_add_72be8 8 _ _ _ rfl) ?_
    refine r_aload_1 14 rfl (dd_Jx4a65c_add_72be8 9 _ _ _ rfl) ?_
    refine r_aastore hg zc hk25 (by omega) (by omega) (by omega) hy1 hca 15 rfl (dd_Jx4a65c_add_72be8 10 _ _ _ rfl) ?_
    refine r_aload_0 16 rfl (dd_Jx4a65c_add_72be8 11 _ _ _ rfl) ?_
    refine r_iload_3 17 rfl (dd_Jx4a65c_add_72be8 12 _ _ _ rfl) ?_
    refine r_iconst 18 rfl (dd_Jx4a65c_add_72be8 13 _ _ _ rfl) ?_
    refine r_iadd 19 rfl (dd_Jx4a65c_add_72be8 14 _ _ _ rfl) ?_
    refine r_puti hg zc_Jx4a65c 2 (by decide) rfl (fun _ _ _ => rfl) rfl rfl (by decide) hA1.1 (Or.inl rfl) (tb_1 92 _ rfl) 22 rfl (dd_Jx4a65c_add_72be8 15 _ _ _ rfl) ?_
    refine r_vreturn rfl (dd_Jx4a65c_add_72be8 16 _ _ _ rfl) ?_
    exact k _ _ (hA1.push hk25 hlt hl40) (hst.trans ((step_sar (hA1.2.2.2.2.2.2.2.2.1 hk25).1).trans (step_sfi hA1.2.2.2.2.2.2.2.2.2.1)))
  · refine r_aload_0 7 rfl (dd_Jx4a65c_add_72be8 4 _ _ _ rfl) ?_
    refine r_callV0 (lvl := 14) (mc1 := 1) (ms1 := 100) 0 0 hg rfl md_Jx4a65c_grow_d5877 zc_Jx4a65c hA.1 wi_Jx4a65c_grow_d5877 wv_Jx4a65c_grow_d5877 (tb_2 155 _ rfl) (by decide) (by decide) rfl (Nat.le_of_ble_eq_true rfl) (Nat.le_of_ble_eq_true rfl) (Nat.le_of_ble_eq_true rfl) 10 rfl (dd_Jx4a65c_add_72be8 5 _ _ _ rfl) ?_
    refine c_Jx4a65c_grow_d5877 hg zc hca hm hA hl40 hel (by omega) (fun e1 o1 h1 hA1 hk25 hlt hst => ?_)
    dsimp only [zCont, Option.toList, List.cons_append, List.nil_append]
    refine r_astore_2 11 rfl (by decide) rfl (dd_Jx4a65c_add_72be8 6 _ _ _ rfl) ?_
    have hy1 : kd_ h1 y = ci + 1 := hst.kd hy (by omega)
    refine r_aload_2 12 rfl (dd_Jx4a65c_add_72be8 7 _ _ _ rfl) ?_
    refine r_iload_3 13 rfl (dd_Jx4a65c_add_72be8 8 _ _ _ rfl) ?_
    refine r_aload_1 14 rfl (dd_Jx4a65c_add_72be8 9 _ _ _ rfl) ?_
    refine r_aastore hg zc hk25 (by omega) (by omega) (by omega) hy1 hca 15 rfl (dd_Jx4a65c_add_72be8 10 _ _ _ rfl) ?_
    refine r_aload_0 16 rfl (dd_Jx4a65c_add_72be8 11 _ _ _ rfl) ?_
    refine r_iload_3 17 rfl (dd_Jx4a65c_add_72be8 12 _ _ _ rfl) ?_
    refine r_iconst 18 rfl (dd_Jx4a65c_add_72be8 13 _ _ _ rfl) ?_
    refine r_iadd 19 rfl (dd_Jx4a65c_add_72be8 14 _ _ _ rfl) ?_
    refine r_puti hg zc_Jx4a65c 2 (by decide) rfl (fun _ _ _ => rfl) rfl rfl (by decide) hA1.1 (Or.inl rfl) (tb_1 92 _ rfl) 22 rfl (dd_Jx4a65c_add_72be8 15 _ _ _ rfl) ?_
    refine r_vreturn rfl (dd_Jx4a65c_add_72be8 16 _ _ _ rfl) ?_
    exact k _ _ (hA1.push hk25 hlt hl40) (hst.trans ((step_sar (hA1.2.2.2.2.2.2.2.2.1 hk25).1).trans (step_sfi hA1.2.2.2.2.2.2.2.2.2.1)))

abbrev mJx4a65c_add_9ea2d : zM := (RJx4a65c, cJx4a65c_add_9ea2d, 2, (Option.some Jvm.ClassFile.FieldType.boolean), [], "add", 16)
set_option maxRecDepth 20000 in
theorem c_Jx4a65c_add_9ea2d {g : zGT} {Q : zO → zH → Prop} {h : zH} (hg : zG g) {ci : Nat} {C : String} {T : u_T} {N : Nat} {ty : Nat → FieldType} (zc : z_cls ci C T N ty) (hca : Cond.castable C "java/lang/Object" ∈ lw_tbl) {mi : Nat} (hm : zMi g mi) {o : Nat → Nat} {r a : Nat} {L : List Nat} (hA : LRep g o r h a L) (hl40 : L.length < 40) (hel : ∀ z, z ∈ L → kd_ h z = ci + 1) {y : Nat} (hy : kd_ h y = ci + 1) (k : ∀ o1 h1, LRep g o1 r h1 a (L ++ [y]) → zStep (fun q => q = r) o h o1 h1 → Q (.inl (some (.int (zI 1)))) h1) : zC g (.code yJx4a65c_add_9ea2d cJx4a65c_add_9ea2d 2 (Option.some Jvm.ClassFile.FieldType.boolean)) yJx4a65c_add_9ea2d 16 1 100 [.ref a, .ref y] h Q := by
  refine zC_of (M := mJx4a65c_add_9ea2d) (lv := [some (.ref a), some (.ref y)]) (by decide) rfl rfl (Nat.le_of_ble_eq_true rfl) rfl rfl ?_
  refine r_ge (fun hge1 hge2 => ?_)
  obtain ⟨e, hA⟩ := hA.arr hge1 hge2
  refine r_aload_0 1 rfl (dd_Jx4a65c_add_9ea2d 0 _ _ _ rfl) ?_
  refine r_dup rfl 2 rfl (dd_Jx4a65c_add_9ea2d 1 _ _ _ rfl) ?_
  refine r_geti hg zc_Jx4a65c 0 (by decide) (fun _ _ _ => rfl) rfl hA.1 (Or.inr (tb_1 95 _ rfl)) (tb_1 94 _ rfl) 5 rfl (dd_Jx4a65c_add_9ea2d 2 _ _ _ rfl) ?_
  refine r_iconst 6 rfl (dd_Jx4a65c_add_9ea2d 3 _ _ _ rfl) ?_
  refine r_iadd 7 rfl (dd_Jx4a65c_add_9ea2d 4 _ _ _ rfl) ?_
  refine r_puti hg zc_Jx4a65c 0 (by decide) rfl (fun _ _ _ => rfl) rfl rfl (by decide) hA.1 (Or.inr (tb_1 95 _ rfl)) (tb_1 94 _ rfl) 10 rfl (dd_Jx4a65c_add_9ea2d 5 _ _ _ rfl) ?_
  replace hA := hA.mod (fi_ h a 0 + 1)
  have hst0 : zStep (fun q => q = r) o h o (sfi h a 0 (fi_ h a 0 + 1)) := step_sfi hA.2.2.2.2.2.2.2.2.2.1
  replace hel : ∀ z, z ∈ L → kd_ (sfi h a 0 (fi_ h a 0 + 1)) z = ci + 1 := hel
  replace hy : kd_ (sfi h a 0 (fi_ h a 0 + 1)) y = ci + 1 := hy
  generalize sfi h a 0 (fi_ h a 0 + 1) = h2 at hA hst0 hel hy ⊢
  refine r_aload_0 11 rfl (dd_Jx4a65c_add_9ea2d 6 _ _ _ rfl) ?_
  refine r_aload_1 12 rfl (dd_Jx4a65c_add_9ea2d 7 _ _ _ rfl) ?_
  refine r_aload_0 13 rfl (dd_Jx4a65c_add_9ea2d 8 _ _ _ rfl) ?_
  refine r_getr hg zc_Jx4a65c 1 (by decide) (fun _ _ _ => rfl) hA.2.1 hA.1 (Or.inl rfl) (tb_1 91 _ rfl) 16 rfl (dd_Jx4a65c_add_9ea2d 9 _ _ _ rfl) ?_
  refine r_aload_0 17 rfl (dd_Jx4a65c_add_9ea2d 10 _ _ _ rfl) ?_
  refine r_geti hg zc_Jx4a65c 2 (by decide) (fun _ _ _ => rfl) hA.2.2.1 hA.1 (Or.inl rfl) (tb_1 92 _ rfl) 20 rfl (dd_Jx4a65c_add_9ea2d 11 _ _ _ rfl) ?_
  refine r_callV3 (lvl := 15) (mc1 := 1) (ms1 := 100) 0 0 hg rfl md_Jx4a65c_add_72be8 zc_Jx4a65c hA.1 wi_Jx4a65c_add_72be8 wv_Jx4a65c_add_72be8 (tb_2 151 _ rfl) (by decide) (by decide) rfl (Nat.le_of_ble_eq_true rfl) (Nat.le_of_ble_eq_true rfl) (Nat.le_of_ble_eq_true rfl) 23 rfl (dd_Jx4a65c_add_9ea2d 12 _ _ _ rfl) ?_
  refine c_Jx4a65c_add_72be8 hg zc hca hm hA hl40 hel hy (fun o1 h1 q1 q2 => ?_)
  dsimp only [zCont, Option.toList, List.cons_append, List.nil_append]
  refine r_iconst 24 rfl (dd_Jx4a65c_add_9ea2d 13 _ _ _ rfl) ?_
  refine r_ireturn rfl rfl (dd_Jx4a65c_add_9ea2d 14 _ _ _ rfl) ?_
  exact k _ _ q1 (hst0.trans q2)

abbrev mJx4a65c_rangeCheckForAdd_d00df : zM := (RJx4a65c, cJx4a65c_rangeCheckForAdd_d00df, 2, (Option.none : Option Jvm.ClassFile.FieldType), [], "rangeCheckForAdd", 10)
set_option maxRecDepth 20000 in
theorem c_Jx4a65c_rangeCheckForAdd_d00df {g : zGT} {Q : zO → zH → Prop} {h : zH} (hg : zG g) {o : Nat → Nat} {r a e i : Nat} {L : List Nat} (hA : LArr g o r h a e L) (hi : i ≤ L.length) (k : Q (.inl none) h) : zC g (.code yJx4a65c_rangeCheckForAdd_d00df cJx4a65c_rangeCheckForAdd_d00df 2 (Option.none : Option Jvm.ClassFile.FieldType)) yJx4a65c_rangeCheckForAdd_d00df 10 0 0 [.ref a, .int (zI (i : Int))] h Q := by
  refine zC_of (M := mJx4a65c_rangeCheckForAdd_d00df) (lv := [some (.ref a), some (.int (zI (i : Int)))]) (by decide) rfl rfl (Nat.le_of_ble_eq_true rfl) rfl rfl ?_
  have h9 := hA.2.2.2.2.2.2.2.2.2.2
  refine r_iload_1 1 rfl (dd_Jx4a65c_rangeCheckForAdd_d00df 0 _ _ _ rfl) ?_
  refine r_aload_0 2 rfl (dd_Jx4a65c_rangeCheckForAdd_d00df 1 _ _ _ rfl) ?_
  refine r_geti hg zc_Jx4a65c 2 (by decide) (fun _ _ _ => rfl) hA.2.2.1 hA.1 (Or.inl rfl) (tb_1 92 _ rfl) 5 rfl (dd_Jx4a65c_rangeCheckForAdd_d00df 2 _ _ _ rfl) ?_
  refine r_if_icmpgt (by omega) (by omega) 8 rfl 12 rfl (dd_Jx4a65c_rangeCheckForAdd_d00df 3 _ _ _ rfl) (fun hc1 => ?_) (fun hc1 => ?_)
  · exfalso; omega
  · refine r_iload_1 9 rfl (dd_Jx4a65c_rangeCheckForAdd_d00df 4 _ _ _ rfl) ?_
    refine r_ifge (by omega) 12 rfl 25 rfl (dd_Jx4a65c_rangeCheckForAdd_d00df 5 _ _ _ rfl) (fun hc2 => ?_) (fun hc2 => ?_)
    · refine r_vreturn rfl (dd_Jx4a65c_rangeCheckForAdd_d00df 13 _ _ _ rfl) ?_
      exact k
    · exfalso; omega

abbrev mJx4a65c_add_7a177 : zM := (RJx4a65c, cJx4a65c_add_7a177, 5, (Option.none : Option Jvm.ClassFile.FieldType), [], "add", 16)
set_option maxRecDepth 20000 in
theorem c_Jx4a65c_add_7a177 {g : zGT} {Q : zO → zH → Prop} {h : zH} (hg : zG g) {ci : Nat} {C : String} {T : u_T} {N : Nat} {ty : Nat → FieldType} (zc : z_cls ci C T N ty) (hca : Cond.castable C "java/lang/Object" ∈ lw_tbl) {mi : Nat} (hm : zMi g mi) {o : Nat → Nat} {r a : Nat} {L : List Nat} (hA : LRep g o r h a L) (hl40 : L.length < 40) (hel : ∀ z, z ∈ L → kd_ h z = ci + 1) {y : Nat} (hy : kd_ h y = ci + 1) {i : Nat} (hi : i ≤ L.length) (k : ∀ o1 h1, LRep g o1 r h1 a (L.take i ++ y :: L.drop i) → zStep (fun q => q = r) o h o1 h1 → Q (.inl none) h1) : zC g (.code yJx4a65c_add_7a177 cJx4a65c_add_7a177 5 (Option.none : Option Jvm.ClassFile.FieldType)) yJx4a65c_add_7a177 16 1 100 [.ref a, .int (zI (i : Int)), .ref y] h Q := by
  refine zC_of (M := mJx4a65c_add_7a177) (lv := [some (.ref a), some (.int (zI (i : Int))), some (.ref y), none, none]) (by decide) rfl rfl (Nat.le_of_ble_eq_true rfl) rfl rfl ?_
  refine r_ge (fun hge1 hge2 => ?_)
  obtain ⟨e, hA⟩ := hA.arr hge1 hge2
  refine r_aload_0 1 rfl (dd_Jx4a65c_add_7a177 0 _ _ _ rfl) ?_
  refine r_iload_1 2 rfl (dd_Jx4a65c_add_7a177 1 _ _ _ rfl) ?_
  refine r_callV1 (lvl := 10) (mc1 := 0) (ms1 := 0) 1 100 hg rfl md_Jx4a65c_rangeCheckForAdd_d00df zc_Jx4a65c hA.1 wi_Jx4a65c_rangeCheckForAdd_d00df wv_Jx4a65c_rangeCheckForAdd_d00df (tb_3 78 _ rfl) (by decide) (by decide) rfl (Nat.le_of_ble_eq_true rfl) (Nat.le_of_ble_eq_true rfl) (Nat.le_of_ble_eq_true rfl) 5 rfl (dd_Jx4a65c_add_7a177 2 _ _ _ rfl) ?_
  refine c_Jx4a65c_rangeCheckForAdd_d00df hg hA hi ?_
  dsimp only [zCont, Option.toList, List.cons_append, List.nil_append]
  refine r_aload_0 6 rfl (dd_Jx4a65c_add_7a177 3 _ _ _ rfl) ?_
  refine r_dup rfl 7 rfl (dd_Jx4a65c_add_7a177 4 _ _ _ rfl) ?_
  refine r_geti hg zc_Jx4a65c 0 (by decide) (fun _ _ _ => rfl) rfl hA.1 (Or.inr (tb_1 95 _ rfl)) (tb_1 94 _ rfl) 10 rfl (dd_Jx4a65c_add_7a177 5 _ _ _ rfl) ?_
  refine r_iconst 11 rfl (dd_Jx4a65c_add_7a177 6 _ _ _ rfl) ?_
  refine r_iadd 12 rfl (dd_Jx4a65c_add_7a177 7 _ _ _ rfl) ?_
  refine r_puti hg zc_Jx4a65c 0 (by decide) rfl (fun _ _ _ => rfl) rfl rfl (by decide) hA.1 (Or.inr (tb_1 95 _ rfl)) (tb_1 94 _ rfl) 15 rfl (dd_Jx4a65c_add_7a177 8 _ _ _ rfl) ?_
  replace hA := hA.mod (fi_ h a 0 + 1)
  have hst0 : zStep (fun q => q = r) o h o (sfi h a 0 (fi_ h a 0 + 1)) := step_sfi hA.2.2.2.2.2.2.2.2.2.1
  replace hel : ∀ z, z ∈ L → kd_ (sfi h a 0 (fi_ h a 0 + 1)) z = ci + 1 := hel
  replace hy : kd_ (sfi h a 0 (fi_ h a 0 + 1)) y = ci + 1 := hy
  generalize sfi h a 0 (fi_ h a 0 + 1) = h2 at hA hst0 hel hy ⊢
  have hl60 := hA.2.2.2.2.2.1
  have hl55 := hA.2.2.2.2.1
  refine r_aload_0 16 rfl (dd_Jx4a65c_add_7a177 9 _ _ _ rfl) ?_
  refine r_geti hg zc_Jx4a65c 2 (by decide) (fun _ _ _ => rfl) hA.2.2.1 hA.1 (Or.inl rfl) (tb_1 92 _ rfl) 19 rfl (dd_Jx4a65c_add_7a177 10 _ _ _ rfl) ?_
  refine r_dup rfl 20 rfl (dd_Jx4a65c_add_7a177 11 _ _ _ rfl) ?_
  refine r_istore_3 21 rfl (by decide) rfl (dd_Jx4a65c_add_7a177 12 _ _ _ rfl) ?_
  refine r_aload_0 22 rfl (dd_Jx4a65c_add_7a177 13 _ _ _ rfl) ?_
  refine r_getr hg zc_Jx4a65c 1 (by decide) (fun _ _ _ => rfl) hA.2.1 hA.1 (Or.inl rfl) (tb_1 91 _ rfl) 25 rfl (dd_Jx4a65c_add_7a177 14 _ _ _ rfl) ?_
  refine r_dup rfl 26 rfl (dd_Jx4a65c_add_7a177 15 _ _ _ rfl) ?_
  refine r_astore_4 28 rfl (by decide) rfl (dd_Jx4a65c_add_7a177 16 _ _ _ rfl) ?_
  refine r_alenL hg hA.2.2.2.1 hA.2.2.2.2.2.2.2.1 29 rfl (dd_Jx4a65c_add_7a177 17 _ _ _ rfl) ?_
  refine r_if_icmpne (by omega) (by omega) 32 rfl 38 rfl (dd_Jx4a65c_add_7a177 18 _ _ _ rfl) (fun hc1 => ?_) (fun hc1 => ?_)
  · obtain ⟨x1, x2, x3, x4, x5, x6, x7, x8, x9, x10, x11⟩ := id hA
    have hk25 : kd_ h2 e = 25 := by rcases x4 with q | q; exact q; have := (x8 q).1; omega
    have hlt : L.length < ln_ h2 e := by omega
    have hst : zStep (fun q => q = r) o h2 o h2 := .refl
    have hA1 := hA
    have hy1 := hy
    have hel1 := hel
    have hl7 := hA1.2.2.2.2.2.2.1
    have hl6 := hA1.2.2.2.2.2.1
    refine r_aload_4 40 rfl (dd_Jx4a65c_add_7a177 22 _ _ _ rfl) ?_
    refine r_iload_1 41 rfl (dd_Jx4a65c_add_7a177 23 _ _ _ rfl) ?_
    refine r_aload_4 43 rfl (dd_Jx4a65c_add_7a177 24 _ _ _ rfl) ?_
    refine r_iload_1 44 rfl (dd_Jx4a65c_add_7a177 25 _ _ _ rfl) ?_
    refine r_iconst 45 rfl (dd_Jx4a65c_add_7a177 26 _ _ _ rfl) ?_
    refine r_iadd 46 rfl (dd_Jx4a65c_add_7a177 27 _ _ _ rfl) ?_
    refine r_iload_3 47 rfl (dd_Jx4a65c_add_7a177 28 _ _ _ rfl) ?_
    refine r_iload_1 48 rfl (dd_Jx4a65c_add_7a177 29 _ _ _ rfl) ?_
    refine r_isub 49 rfl (dd_Jx4a65c_add_7a177 30 _ _ _ rfl) ?_
    refine r_copyq hg zc hca hk25 hk25 (fun j hj z hz => hel1 z (by rw [show ((i : Int)).toNat = i by omega] at hz; rw [hl7 (i + j) (by omega)] at hz; exact List.mem_of_getElem? hz)) (tb_4 94 _ rfl) (by omega) (by omega) (by omega) (by omega) (by omega) (by omega) (by omega) (by omega) (by decide) (Nat.le_of_ble_eq_true rfl) 52 rfl (dd_Jx4a65c_add_7a177 31 _ _ _ rfl) ?_
    rw [show ((i : Int)).toNat = i by omega, show ((i : Int) + 1).toNat = i + 1 by omega, show ((L.length : Int) - (i : Int)).toNat = L.length - i by omega]
    refine r_aload_4 54 rfl (dd_Jx4a65c_add_7a177 32 _ _ _ rfl) ?_
    refine r_iload_1 55 rfl (dd_Jx4a65c_add_7a177 33 _ _ _ rfl) ?_
    refine r_aload_2 56 rfl (dd_Jx4a65c_add_7a177 34 _ _ _ rfl) ?_
    refine r_aastore hg zc hk25 (by omega) (by omega) (by simp only [zhs]; omega) hy1 hca 57 rfl (dd_Jx4a65c_add_7a177 35 _ _ _ rfl) ?_
    rw [show ((i : Int)).toNat = i by omega]
    refine r_aload_0 58 rfl (dd_Jx4a65c_add_7a177 36 _ _ _ rfl) ?_
    refine r_iload_3 59 rfl (dd_Jx4a65c_add_7a177 37 _ _ _ rfl) ?_
    refine r_iconst 60 rfl (dd_Jx4a65c_add_7a177 38 _ _ _ rfl) ?_
    refine r_iadd 61 rfl (dd_Jx4a65c_add_7a177 39 _ _ _ rfl) ?_
    refine r_puti hg zc_Jx4a65c 2 (by decide) rfl (fun _ _ _ => rfl) rfl rfl (by decide) hA1.1 (Or.inl rfl) (tb_1 92 _ rfl) 64 rfl (dd_Jx4a65c_add_7a177 40 _ _ _ rfl) ?_
    refine r_vreturn rfl (dd_Jx4a65c_add_7a177 41 _ _ _ rfl) ?_
    exact k _ _ (hA1.ins hk25 hlt hl40 hi) ((hst0.trans hst).trans ((step_scr (hA1.2.2.2.2.2.2.2.2.1 hk25).1).trans ((step_sar (hA1.2.2.2.2.2.2.2.2.1 hk25).1).trans (step_sfi hA1.2.2.2.2.2.2.2.2.2.1))))
  · refine r_aload_0 33 rfl (dd_Jx4a65c_add_7a177 19 _ _ _ rfl) ?_
    refine r_callV0 (lvl := 14) (mc1 := 1) (ms1 := 100) 0 0 hg rfl md_Jx4a65c_grow_d5877 zc_Jx4a65c hA.1 wi_Jx4a65c_grow_d5877 wv_Jx4a65c_grow_d5877 (tb_2 155 _ rfl) (by decide) (by decide) rfl (Nat.le_of_ble_eq_true rfl) (Nat.le_of_ble_eq_true rfl) (Nat.le_of_ble_eq_true rfl) 36 rfl (dd_Jx4a65c_add_7a177 20 _ _ _ rfl) ?_
    refine c_Jx4a65c_grow_d5877 hg zc hca hm hA hl40 hel (by omega) (fun e1 o1 h1 hA1 hk25 hlt hst => ?_)
    dsimp only [zCont, Option.toList, List.cons_append, List.nil_append]
    refine r_astore_4 38 rfl (by decide) rfl (dd_Jx4a65c_add_7a177 21 _ _ _ rfl) ?_
    have hy1 : kd_ h1 y = ci + 1 := hst.kd hy (by omega)
    have hel1 : ∀ z, z ∈ L → kd_ h1 z = ci + 1 := fun z hz => hst.kd (hel z hz) (by omega)
    clear hA
    have hl7 := hA1.2.2.2.2.2.2.1
    have hl6 := hA1.2.2.2.2.2.1
    refine r_aload_4 40 rfl (dd_Jx4a65c_add_7a177 22 _ _ _ rfl) ?_
    refine r_iload_1 41 rfl (dd_Jx4a65c_add_7a177 23 _ _ _ rfl) ?_
    refine r_aload_4 43 rfl (dd_Jx4a65c_add_7a177 24 _ _ _ rfl) ?_
    refine r_iload_1 44 rfl (dd_Jx4a65c_add_7a177 25 _ _ _ rfl) ?_
    refine r_iconst 45 rfl (dd_Jx4a65c_add_7a177 26 _ _ _ rfl) ?_
    refine r_iadd 46 rfl (dd_Jx4a65c_add_7a177 27 _ _ _ rfl) ?_
    refine r_iload_3 47 rfl (dd_Jx4a65c_add_7a177 28 _ _ _ rfl) ?_
    refine r_iload_1 48 rfl (dd_Jx4a65c_add_7a177 29 _ _ _ rfl) ?_
    refine r_isub 49 rfl (dd_Jx4a65c_add_7a177 30 _ _ _ rfl) ?_
    refine r_copyq hg zc hca hk25 hk25 (fun j hj z hz => hel1 z (by rw [show ((i : Int)).toNat = i by omega] at hz; rw [hl7 (i + j) (by omega)] at hz; exact List.mem_of_getElem? hz)) (tb_4 94 _ rfl) (by omega) (by omega) (by omega) (by omega) (by omega) (by omega) (by omega) (by omega) (by decide) (Nat.le_of_ble_eq_true rfl) 52 rfl (dd_Jx4a65c_add_7a177 31 _ _ _ rfl) ?_
    rw [show ((i : Int)).toNat = i by omega, show ((i : Int) + 1).toNat = i + 1 by omega, show ((L.length : Int) - (i : Int)).toNat = L.length - i by omega]
    refine r_aload_4 54 rfl (dd_Jx4a65c_add_7a177 32 _ _ _ rfl) ?_
    refine r_iload_1 55 rfl (dd_Jx4a65c_add_7a177 33 _ _ _ rfl) ?_
    refine r_aload_2 56 rfl (dd_Jx4a65c_add_7a177 34 _ _ _ rfl) ?_
    refine r_aastore hg zc hk25 (by omega) (by omega) (by simp only [zhs]; omega) hy1 hca 57 rfl (dd_Jx4a65c_add_7a177 35 _ _ _ rfl) ?_
    rw [show ((i : Int)).toNat = i by omega]
    refine r_aload_0 58 rfl (dd_Jx4a65c_add_7a177 36 _ _ _ rfl) ?_
    refine r_iload_3 59 rfl (dd_Jx4a65c_add_7a177 37 _ _ _ rfl) ?_
    refine r_iconst 60 rfl (dd_Jx4a65c_add_7a177 38 _ _ _ rfl) ?_
    refine r_iadd 61 rfl (dd_Jx4a65c_add_7a177 39 _ _ _ rfl) ?_
    refine r_puti hg zc_Jx4a65c 2 (by decide) rfl (fun _ _ _ => rfl) rfl rfl (by decide) hA1.1 (Or.inl rfl) (tb_1 92 _ rfl) 64 rfl (dd_Jx4a65c_add_7a177 40 _ _ _ rfl) ?_
    refine r_vreturn rfl (dd_Jx4a65c_add_7a177 41 _ _ _ rfl) ?_
    exact k _ _ (hA1.ins hk25 hlt hl40 hi) ((hst0.trans hst).trans ((step_scr (hA1.2.2.2.2.2.2.2.2.1 hk25).1).trans ((step_sar (hA1.2.2.2.2.2.2.2.2.1 hk25).1).trans (step_sfi hA1.2.2.2.2.2.2.2.2.2.1))))
