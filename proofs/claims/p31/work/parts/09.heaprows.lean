def zG (g : zGT) : Prop := (gl_ g).stackTraces = false ∧ (∀ w ∈ lw_tbl, w.before (ga_ g) (gS_ g) = true) ∧ va_K (gD_ g) vwCl [] (gS_ g) ∧ (∀ k, 20 ≤ k → k ≤ 27 → ArrOfT (gS_ g) (gA_ g k) (z_aty k) ∧ va_RA (gS_ g) (gA_ g k) (z_aty k)) ∧ vx_Zq Bundle.tN "UNASSIGNED_STACK" Bundle.steD (fun q => (gS_ g).heap.size ≤ q) (gS_ g) (gS_ g).heap ∧ vx_Zq Bundle.tN "SUPPRESSED_SENTINEL" Bundle.listD (fun q => (gS_ g).heap.size ≤ q) (gS_ g) (gS_ g).heap ∧ (va_Z "java/util/ArrayList" "DEFAULTCAPACITY_EMPTY_ELEMENTDATA" "[Ljava/lang/Object;" (.ref (ge_ g)) (fun q => (gS_ g).heap.size ≤ q) (gS_ g) (gS_ g).heap ∧ va_T (.object "java/lang/Object") (ge_ g) 0 (fun _ => .null) (fun q => (gS_ g).heap.size ≤ q) (gS_ g) (gS_ g).heap)
def z_in (C : String) (T : u_T) (N : Nat) : Prop := ∀ w ∈ u_ws C T N, w ∈ lw_tbl.filter goodWord
theorem z_in_of {C : String} {T : u_T} {N : Nat} (h : ∀ k, k < N → u_lay C T k ∈ lw_tbl) (hg : (u_ws C T N).all goodWord = true) : z_in C T N := by
  intro w hw
  refine List.mem_filter.mpr ⟨?_, List.all_eq_true.mp hg w hw⟩
  obtain ⟨k, hk, rfl⟩ := List.mem_map.mp hw
  exact h k (List.mem_range.mp hk)
def z_cls (c : Nat) (C : String) (T : u_T) (N : Nat) (ty : Nat → FieldType) : Prop := vwCl[c]? = some (C, T, N) ∧ z_in C T N ∧ (∀ k, k < N → parseFieldDescriptor (T k).2.2.1 = some (ty k)) ∧ (∀ a, a < N → ∀ b, b < N → a ≠ b → (T a).2.1 ≠ (T b).2.1) ∧ z_ty c = ty ∧ z_N c = N ∧ (0 < c ∧ c < 16)

theorem zc_J4 : z_cls 1 RJ4 TJ4 4 tyJ4 := ⟨rfl, z_in_of (fun k hk => match k, hk with
  | 0, _ => tb_3 109 _ rfl
  | 1, _ => tb_3 111 _ rfl
  | 2, _ => tb_3 113 _ rfl
  | 3, _ => tb_3 115 _ rfl
  | n + 4, hk => absurd hk (by omega)) (by decide +kernel), tyJ4_ok, nmJ4, rfl, rfl, by decide⟩
theorem zc_Jx4a65c : z_cls 2 RJx4a65c TJx4a65c 3 tyJx4a65c := ⟨rfl, z_in_of (fun k hk => match k, hk with
  | 0, _ => tb_1 100 _ rfl
  | 1, _ => tb_1 96 _ rfl
  | 2, _ => tb_1 98 _ rfl
  | n + 3, hk => absurd hk (by omega)) (by decide +kernel), tyJx4a65c_ok, nmJx4a65c, rfl, rfl, by decide⟩
theorem zc_X0 : z_cls 3 RX0 TX0 2 tyX0 := ⟨rfl, z_in_of (fun k hk => match k, hk with
  | 0, _ => tb_1 52 _ rfl
  | 1, _ => tb_1 54 _ rfl
  | n + 2, hk => absurd hk (by omega)) (by decide +kernel), tyX0_ok, nmX0, rfl, rfl, by decide⟩
theorem zc_X1 : z_cls 4 RX1 TX1 3 tyX1 := ⟨rfl, z_in_of (fun k hk => match k, hk with
  | 0, _ => tb_1 113 _ rfl
  | 1, _ => tb_1 115 _ rfl
  | 2, _ => tb_1 117 _ rfl
  | n + 3, hk => absurd hk (by omega)) (by decide +kernel), tyX1_ok, nmX1, rfl, rfl, by decide⟩
theorem zc_X2 : z_cls 5 RX2 TX2 4 tyX2 := ⟨rfl, z_in_of (fun k hk => match k, hk with
  | 0, _ => tb_3 59 _ rfl
  | 1, _ => tb_3 61 _ rfl
  | 2, _ => tb_3 63 _ rfl
  | 3, _ => tb_3 65 _ rfl
  | n + 4, hk => absurd hk (by omega)) (by decide +kernel), tyX2_ok, nmX2, rfl, rfl, by decide⟩
theorem zc_X3 : z_cls 6 RX3 TX3 5 tyX3 := ⟨rfl, z_in_of (fun k hk => match k, hk with
  | 0, _ => tb_5 177 _ rfl
  | 1, _ => tb_5 179 _ rfl
  | 2, _ => tb_5 181 _ rfl
  | 3, _ => tb_5 183 _ rfl
  | 4, _ => tb_5 185 _ rfl
  | n + 5, hk => absurd hk (by omega)) (by decide +kernel), tyX3_ok, nmX3, rfl, rfl, by decide⟩
theorem zc_X4 : z_cls 7 RX4 TX4 3 tyX4 := ⟨rfl, z_in_of (fun k hk => match k, hk with
  | 0, _ => tb_2 85 _ rfl
  | 1, _ => tb_2 87 _ rfl
  | 2, _ => tb_2 89 _ rfl
  | n + 3, hk => absurd hk (by omega)) (by decide +kernel), tyX4_ok, nmX4, rfl, rfl, by decide⟩
theorem zc_X5 : z_cls 8 RX5 TX5 2 tyX5 := ⟨rfl, z_in_of (fun k hk => match k, hk with
  | 0, _ => tb_2 230 _ rfl
  | 1, _ => tb_2 232 _ rfl
  | n + 2, hk => absurd hk (by omega)) (by decide +kernel), tyX5_ok, nmX5, rfl, rfl, by decide⟩
theorem zc_X6 : z_cls 9 RX6 TX6 3 tyX6 := ⟨rfl, z_in_of (fun k hk => match k, hk with
  | 0, _ => tb_1 68 _ rfl
  | 1, _ => tb_1 70 _ rfl
  | 2, _ => tb_1 72 _ rfl
  | n + 3, hk => absurd hk (by omega)) (by decide +kernel), tyX6_ok, nmX6, rfl, rfl, by decide⟩
theorem zc_X7 : z_cls 10 RX7 TX7 4 tyX7 := ⟨rfl, z_in_of (fun k hk => match k, hk with
  | 0, _ => tb_5 125 _ rfl
  | 1, _ => tb_5 127 _ rfl
  | 2, _ => tb_5 129 _ rfl
  | 3, _ => tb_5 131 _ rfl
  | n + 4, hk => absurd hk (by omega)) (by decide +kernel), tyX7_ok, nmX7, rfl, rfl, by decide⟩
theorem zc_X8 : z_cls 11 RX8 TX8 5 tyX8 := ⟨rfl, z_in_of (fun k hk => match k, hk with
  | 0, _ => tb_2 71 _ rfl
  | 1, _ => tb_2 73 _ rfl
  | 2, _ => tb_2 75 _ rfl
  | 3, _ => tb_2 77 _ rfl
  | 4, _ => tb_2 79 _ rfl
  | n + 5, hk => absurd hk (by omega)) (by decide +kernel), tyX8_ok, nmX8, rfl, rfl, by decide⟩
theorem zc_X9 : z_cls 12 RX9 TX9 5 tyX9 := ⟨rfl, z_in_of (fun k hk => match k, hk with
  | 0, _ => tb_2 107 _ rfl
  | 1, _ => tb_2 109 _ rfl
  | 2, _ => tb_2 111 _ rfl
  | 3, _ => tb_2 113 _ rfl
  | 4, _ => tb_2 115 _ rfl
  | n + 5, hk => absurd hk (by omega)) (by decide +kernel), tyX9_ok, nmX9, rfl, rfl, by decide⟩
theorem zc_X10 : z_cls 13 RX10 TX10 7 tyX10 := ⟨rfl, z_in_of (fun k hk => match k, hk with
  | 0, _ => tb_2 132 _ rfl
  | 1, _ => tb_2 134 _ rfl
  | 2, _ => tb_2 136 _ rfl
  | 3, _ => tb_2 138 _ rfl
  | 4, _ => tb_2 140 _ rfl
  | 5, _ => tb_2 142 _ rfl
  | 6, _ => tb_2 144 _ rfl
  | n + 7, hk => absurd hk (by omega)) (by decide +kernel), tyX10_ok, nmX10, rfl, rfl, by decide⟩
theorem zc_X11 : z_cls 14 RX11 TX11 10 tyX11 := ⟨rfl, z_in_of (fun k hk => match k, hk with
  | 0, _ => tb_1 131 _ rfl
  | 1, _ => tb_1 133 _ rfl
  | 2, _ => tb_1 135 _ rfl
  | 3, _ => tb_1 137 _ rfl
  | 4, _ => tb_1 139 _ rfl
  | 5, _ => tb_1 141 _ rfl
  | 6, _ => tb_1 143 _ rfl
  | 7, _ => tb_1 145 _ rfl
  | 8, _ => tb_1 147 _ rfl
  | 9, _ => tb_1 149 _ rfl
  | n + 10, hk => absurd hk (by omega)) (by decide +kernel), tyX11_ok, nmX11, rfl, rfl, by decide⟩

theorem zw {g : zGT} {M : zM} {p : Program} {s : State} {m : MethodId} {meth : Method} {c : Code} (hg : zG g) (F : zF g M p s m meth c) {args : Array Value} {w : Cond} (hw : w ∈ lw_tbl) (hgw : goodWord w = true) : w.before args s = true :=
  word_at F.2.2.2.2.2.2.2.1 (good_of_word hgw) (hg.2.1 w hw)
theorem zts {g : zGT} {M : zM} {p : Program} {s : State} {m : MethodId} {meth : Method} {c : Code} (hg : zG g) (F : zF g M p s m meth c) {args : Array Value} : ∀ w ∈ lw_tbl.filter goodWord, w.before args s = true := fun w hw => zw hg F (List.mem_filter.mp hw).1 (List.mem_filter.mp hw).2
theorem zK {g : zGT} {M : zM} {p : Program} {s : State} {m : MethodId} {meth : Method} {c : Code} (hg : zG g) (F : zF g M p s m meth c) : va_K (gD_ g) vwCl [] s := va_K.moved F.2.2.2.2.2.2.2.1.alike hg.2.2.1
theorem zKa {g : zGT} {M : zM} {p : Program} {s : State} {m : MethodId} {meth : Method} {c : Code} (hg : zG g) (F : zF g M p s m meth c) {k : Nat} (h1 : 20 ≤ k) (h2 : k ≤ 27) : va_K (gD_ g) vwCl [(gA_ g k, z_aty k)] s := by
  refine ⟨(zK hg F).1, fun i q hq => ?_⟩
  have hi : i < 1 := (List.getElem?_eq_some_iff.mp hq).1
  rw [show i = 0 by omega] at hq
  cases hq
  obtain ⟨a, b⟩ := hg.2.2.2.1 k h1 h2
  exact ⟨arrOfT_moved F.2.2.2.2.2.2.2.1.alike a, b.moved F.2.2.2.2.2.2.2.1.alike⟩
theorem z_in2 {i : Int} {n : Nat} (h0 : 0 ≤ i) (h2 : i ≤ 2147483647) (h1 : i < n) : vp_in (zI i) n := by
  rintro (q | q)
  · exact zI_nonneg (by unfold zR; omega) h0 q
  · rw [zI_clamp h0 h2] at q; omega
theorem zP.real {g : zGT} {h : zH} {H : Heap} (hP : zP g h H) {a k : Nat} (hk : kd_ h a = k) (h0 : k ≠ 0) (h1 : k ≠ 1) (h2 : k ≠ 24) (h3 : k ≠ 27) : (gS_ g).heap.size ≤ a := hP.2.1 a (by omega) (by unfold z_ro; omega)
section Heap
variable {g : zGT} {M : zM} {mc ms : Nat} {Q : zO → zH → Prop} {pc : Nat} {lv : List (Option Value)} {st : List Value} {h : zH} {bc bs : Nat}

theorem r_getf {ci C T N ty a idx ref} (hg : zG g) (zc : z_cls ci C T N ty) (k : Nat) (hk : k < N) {v : Value} (hv : z_fld h a ci k = v) (hkd : kd_ h a = ci + 1) (href : ref = (T k).1 ∨ Cond.sameField ref (T k).1 (T k).2.1 (T k).2.2.1 ∈ lw_tbl) (hlink : Cond.fieldLink M.1 idx ref (T k).2.1 (T k).2.2.1 ∈ lw_tbl) (pc' : Nat) (hp : pc + 3 = pc') (d : decode M.2.1 pc = .ok (.getfield idx, 3)) (kk : zX g M mc ms Q pc' lv (v :: st) h bc bs) : zX g M mc ms Q pc lv (.ref a :: st) h bc bs := by
  subst hp
  intro p e s m args below meth c F H locs cells slots ls hP hs hL hc hsl hl
  obtain ⟨z1, z2, z3, z4, z5, z6, z7⟩ := zc
  refine va_get F.1 F.2.1 (zts hg F) z2 F.2.2.2.2.1 (zK hg F) (hP.obj hkd z7) 0 rfl z1 k hk (zw hg F hlink rfl) ?_ (by rw [z_obj_get (by rw [z6]; exact hk), hv]) d (kk p e s m args below meth c F H locs cells slots ls hP hs hL hc hsl hl)
  rcases href with rfl | q
  · exact fun x hx => hx
  · exact u_same (zw hg F (args := args) q rfl)

theorem r_putf {ci C T N ty a idx ref} {h1 : zH} (hg : zG g) (zc : z_cls ci C T N ty) (k : Nat) (hk : k < N) {v : Value} (hfin : (T k).2.2.2 = false) (hn : narrow (ty k) v = v) (hfit : fits (ty k) v = true) (hci : 2 ≤ ci) (hkd : kd_ h a = ci + 1)
    (hv : z_fld h1 a ci k = v) (ho : ∀ j, j ≠ k → z_fld h1 a ci j = z_fld h a ci j) (hb : ∀ b, b ≠ a → z_ent (gA_ g) h1 b = z_ent (gA_ g) h b) (e1 : kd_ h1 = kd_ h) (e2 : ln_ h1 = ln_ h) 
    (href : ref = (T k).1 ∨ Cond.sameField ref (T k).1 (T k).2.1 (T k).2.2.1 ∈ lw_tbl) (hlink : Cond.fieldLink M.1 idx ref (T k).2.1 (T k).2.2.1 ∈ lw_tbl) (pc' : Nat) (hp : pc + 3 = pc') (d : decode M.2.1 pc = .ok (.putfield idx, 3)) (kk : zX g M mc ms Q pc' lv st h1 bc bs) : zX g M mc ms Q pc lv (v :: .ref a :: st) h bc bs := by
  subst hp
  intro p e s m args below meth c F H locs cells slots ls hP hs hL hc hsl hl
  obtain ⟨z1, z2, z3, z4, z5, z6, z7⟩ := zc
  have ha0 : (gS_ g).heap.size ≤ a := hP.real hkd (by omega) (by omega) (by omega) (by omega)
  have hts := zts hg F (args := args)
  have hKs := zK hg F
  have hap := va_apart (own := M.1) hts z2 ty z3 z4 hKs z1
  have hPo := hP.obj hkd z7
  obtain ⟨r, q0, cell, q1, q2, q3, q4⟩ := hPo 0 _ rfl
  have hr : r = (C, T, N) := Option.some.inj (q0.symm.trans z1)
  subst hr
  obtain ⟨hS, hfc, kC, hkC, hkind⟩ := hKs.1 ci _ z1
  obtain ⟨cf, kf, fi, f, hi, hsl2⟩ := hS k hk
  have hlay := hts _ (z2 _ (u_in_lay hk))
  unfold u_lay at hlay
  have hst := (u_facts hfc hkC (u_lays hts z2 hk) hi).1
  have hsame : ∀ x, s.fieldFound? (T k).1 (T k).2.1 (T k).2.2.1 = some x → s.fieldFound? ref (T k).2.1 (T k).2.2.1 = some x := by
    rcases href with rfl | q
    · exact fun x hx => hx
    · exact u_same (zw hg F (args := args) q rfl)
  rw [if_neg (by rw [hfin]; decide)] at hlay
  have h6 := u_store hfc hkC hkind hlay hi (z3 k hk) hn hfit
  refine W.putK F.1 F.2.1 (f := f) ⟨F.2.2.2.2.1, zw hg F hlink rfl, ⟨_, _, _, hsame _ hi⟩, hst⟩ (by rw [q2]; exact h6) q1 q3 (by rw [hsl2]; exact k2_hasslot (q4 k hk)) rfl rfl d fun H1 e1x e2x e3x => ?_
  rw [hsl2] at e1x
  have hP1 : zP g h1 H1 := by
    refine hP.put ha0 e2x e3x hb e1 e2 (fun e he => ?_)
    rw [z_at_obj (by rw [e1]; exact hkd) z7] at he
    cases he
    refine ⟨_, z1, t_OB.to (V := updV (vp_V (z_obj h a ci)) k v) ⟨_, e1x, q2, q3, t_set q4 hap hk v⟩ (fun j _ => ?_)⟩
    rw [z_obj_set hv ho]
    exact vp_updV_set (by rw [z_obj_len, z6]; exact hk) v j
  exact kk p e s m args below meth c F H1 _ cells slots ls hP1 (by omega) (fun z hz => (List.mem_append.mp hz).elim (hL z) (fun q => by rw [List.mem_singleton.mp q]; exact ha0)) hc hsl hl

theorem r_putfF {ci C T N ty a idx ref} {h1 : zH} (hg : zG g) (zc : z_cls ci C T N ty) (k : Nat) (hk : k < N) {v : Value} (hfin : (T k).2.2.2 = true) (hn : narrow (ty k) v = v) (hfit : fits (ty k) v = true) (hci : 2 ≤ ci) (hkd : kd_ h a = ci + 1)
    (hv : z_fld h1 a ci k = v) (ho : ∀ j, j ≠ k → z_fld h1 a ci j = z_fld h a ci j) (hb : ∀ b, b ≠ a → z_ent (gA_ g) h1 b = z_ent (gA_ g) h b) (e1 : kd_ h1 = kd_ h) (e2 : ln_ h1 = ln_ h) (hinit : M.2.2.2.2.2.1 = "<init>") (hdecl : (T k).1 = M.1)
    (href : ref = (T k).1 ∨ Cond.sameField ref (T k).1 (T k).2.1 (T k).2.2.1 ∈ lw_tbl) (hlink : Cond.fieldLink M.1 idx ref (T k).2.1 (T k).2.2.1 ∈ lw_tbl) (pc' : Nat) (hp : pc + 3 = pc') (d : decode M.2.1 pc = .ok (.putfield idx, 3)) (kk : zX g M mc ms Q pc' lv st h1 bc bs) : zX g M mc ms Q pc lv (v :: .ref a :: st) h bc bs := by
  subst hp
  intro p e s m args below meth c F H locs cells slots ls hP hs hL hc hsl hl
  obtain ⟨z1, z2, z3, z4, z5, z6, z7⟩ := zc
  have ha0 : (gS_ g).heap.size ≤ a := hP.real hkd (by omega) (by omega) (by omega) (by omega)
  have hts := zts hg F (args := args)
  have hKs := zK hg F
  have hap := va_apart (own := M.1) hts z2 ty z3 z4 hKs z1
  have hPo := hP.obj hkd z7
  obtain ⟨r, q0, cell, q1, q2, q3, q4⟩ := hPo 0 _ rfl
  have hr : r = (C, T, N) := Option.some.inj (q0.symm.trans z1)
  subst hr
  obtain ⟨hS, hfc, kC, hkC, hkind⟩ := hKs.1 ci _ z1
  obtain ⟨cf, kf, fi, f, hi, hsl2⟩ := hS k hk
  have hlay := hts _ (z2 _ (u_in_lay hk))
  unfold u_lay at hlay
  have hst := (u_facts hfc hkC (u_lays hts z2 hk) hi).1
  have hsame : ∀ x, s.fieldFound? (T k).1 (T k).2.1 (T k).2.2.1 = some x → s.fieldFound? ref (T k).2.1 (T k).2.2.1 = some x := by
    rcases href with rfl | q
    · exact fun x hx => hx
    · exact u_same (zw hg F (args := args) q rfl)
  rw [if_pos hfin] at hlay
  have hcf : m.cls = cf := by
    obtain ⟨_, _, c', _, _, _, -, -, hf', -, -, -, hown2, -⟩ := Cond.laysFinal_spec hlay
    have e1 : c' = cf := by have := hi.symm.trans hf'; simp at this; exact this.1.symm
    rw [hdecl] at hown2
    rw [← e1]; exact Option.some.inj (F.2.2.2.2.1.symm.trans hown2)
  have h6 := u_fits hfc hkC hkind (Or.inr hlay) hi (z3 k hk) hn hfit
  refine W.putFinK F.1 F.2.1 F.2.2.2.2.1 (zw hg F hlink rfl) (hsame _ hi) hst hcf (by rw [F.2.2.2.2.2.2.2.2.1]; exact hinit) (by rw [q2]; exact h6) q1 q3 (by rw [hsl2]; exact k2_hasslot (q4 k hk)) rfl rfl d fun H1 e1x e2x e3x => ?_
  rw [hsl2] at e1x
  have hP1 : zP g h1 H1 := by
    refine hP.put ha0 e2x e3x hb e1 e2 (fun e he => ?_)
    rw [z_at_obj (by rw [e1]; exact hkd) z7] at he
    cases he
    refine ⟨_, z1, t_OB.to (V := updV (vp_V (z_obj h a ci)) k v) ⟨_, e1x, q2, q3, t_set q4 hap hk v⟩ (fun j _ => ?_)⟩
    rw [z_obj_set hv ho]
    exact vp_updV_set (by rw [z_obj_len, z6]; exact hk) v j
  exact kk p e s m args below meth c F H1 _ cells slots ls hP1 (by omega) (fun z hz => (List.mem_append.mp hz).elim (hL z) (fun q => by rw [List.mem_singleton.mp q]; exact ha0)) hc hsl hl

theorem r_puti {ci C T N ty a idx ref} {x : Int} (hg : zG g) (zc : z_cls ci C T N ty) (k : Nat) (hk : k < N) (hfin : (T k).2.2.2 = false) (hv : ∀ i j r, z_val (ty k) i j r = .int (zI i)) (hn : narrow (ty k) (.int (zI x)) = .int (zI x)) (hfit : fits (ty k) (.int (zI x)) = true) (hci : 2 ≤ ci) (hkd : kd_ h a = ci + 1) (href : ref = (T k).1 ∨ Cond.sameField ref (T k).1 (T k).2.1 (T k).2.2.1 ∈ lw_tbl) (hlink : Cond.fieldLink M.1 idx ref (T k).2.1 (T k).2.2.1 ∈ lw_tbl) (pc' : Nat) (hp : pc + 3 = pc') (d : decode M.2.1 pc = .ok (.putfield idx, 3)) (kk : zX g M mc ms Q pc' lv st (sfi h a k x) bc bs) : zX g M mc ms Q pc lv (.int (zI x) :: .ref a :: st) h bc bs := by
  have zt := zc.2.2.2.2.1
  refine r_putf (h1 := sfi h a k x) hg zc k hk hfin hn hfit hci hkd ?_ (fun j hj => ?_) (fun b hb => z_ent_sfi hb) rfl rfl href hlink pc' hp d kk
  · unfold z_fld; rw [zt, hv]; simp [fi_, sfi, zu2, va_rf]
  · unfold z_fld; simp [fi_, sfi, zu2, hj, fj_, fr_]

theorem r_putj {ci C T N ty a idx ref} {x : Int} (hg : zG g) (zc : z_cls ci C T N ty) (k : Nat) (hk : k < N) (hfin : (T k).2.2.2 = false) (hv : ∀ i j r, z_val (ty k) i j r = .long (zL j)) (hn : narrow (ty k) (.long (zL x)) = .long (zL x)) (hfit : fits (ty k) (.long (zL x)) = true) (hci : 2 ≤ ci) (hkd : kd_ h a = ci + 1) (href : ref = (T k).1 ∨ Cond.sameField ref (T k).1 (T k).2.1 (T k).2.2.1 ∈ lw_tbl) (hlink : Cond.fieldLink M.1 idx ref (T k).2.1 (T k).2.2.1 ∈ lw_tbl) (pc' : Nat) (hp : pc + 3 = pc') (d : decode M.2.1 pc = .ok (.putfield idx, 3)) (kk : zX g M mc ms Q pc' lv st (sfj h a k x) bc bs) : zX g M mc ms Q pc lv (.long (zL x) :: .ref a :: st) h bc bs := by
  have zt := zc.2.2.2.2.1
  refine r_putf (h1 := sfj h a k x) hg zc k hk hfin hn hfit hci hkd ?_ (fun j hj => ?_) (fun b hb => z_ent_sfj hb) rfl rfl href hlink pc' hp d kk
  · unfold z_fld; rw [zt, hv]; simp [fj_, sfj, zu2, va_rf]
  · unfold z_fld; simp [fj_, sfj, zu2, hj, fi_, fr_]

theorem r_putr {ci C T N ty a idx ref} {x : Nat} (hg : zG g) (zc : z_cls ci C T N ty) (k : Nat) (hk : k < N) (hfin : (T k).2.2.2 = false) (hv : ∀ i j r, z_val (ty k) i j r = va_rf r) (hn : narrow (ty k) (.ref x) = .ref x) (hfit : fits (ty k) (.ref x) = true) (hci : 2 ≤ ci) (hkd : kd_ h a = ci + 1) (href : ref = (T k).1 ∨ Cond.sameField ref (T k).1 (T k).2.1 (T k).2.2.1 ∈ lw_tbl) (hlink : Cond.fieldLink M.1 idx ref (T k).2.1 (T k).2.2.1 ∈ lw_tbl) (pc' : Nat) (hp : pc + 3 = pc') (d : decode M.2.1 pc = .ok (.putfield idx, 3)) (kk : zX g M mc ms Q pc' lv st (sfr h a k (some x)) bc bs) : zX g M mc ms Q pc lv (.ref x :: .ref a :: st) h bc bs := by
  have zt := zc.2.2.2.2.1
  refine r_putf (h1 := sfr h a k (some x)) hg zc k hk hfin hn hfit hci hkd ?_ (fun j hj => ?_) (fun b hb => z_ent_sfr hb) rfl rfl href hlink pc' hp d kk
  · unfold z_fld; rw [zt, hv]; simp [fr_, sfr, zu2, va_rf]
  · unfold z_fld; simp [fr_, sfr, zu2, hj, fi_, fj_]

theorem r_putiF {ci C T N ty a idx ref} {x : Int} (hg : zG g) (zc : z_cls ci C T N ty) (k : Nat) (hk : k < N) (hfin : (T k).2.2.2 = true) (hv : ∀ i j r, z_val (ty k) i j r = .int (zI i)) (hn : narrow (ty k) (.int (zI x)) = .int (zI x)) (hfit : fits (ty k) (.int (zI x)) = true) (hci : 2 ≤ ci) (hkd : kd_ h a = ci + 1) (hinit : M.2.2.2.2.2.1 = "<init>") (hdecl : (T k).1 = M.1) (href : ref = (T k).1 ∨ Cond.sameField ref (T k).1 (T k).2.1 (T k).2.2.1 ∈ lw_tbl) (hlink : Cond.fieldLink M.1 idx ref (T k).2.1 (T k).2.2.1 ∈ lw_tbl) (pc' : Nat) (hp : pc + 3 = pc') (d : decode M.2.1 pc = .ok (.putfield idx, 3)) (kk : zX g M mc ms Q pc' lv st (sfi h a k x) bc bs) : zX g M mc ms Q pc lv (.int (zI x) :: .ref a :: st) h bc bs := by
  have zt := zc.2.2.2.2.1
  refine r_putfF (h1 := sfi h a k x) hg zc k hk hfin hn hfit hci hkd ?_ (fun j hj => ?_) (fun b hb => z_ent_sfi hb) rfl rfl hinit hdecl href hlink pc' hp d kk
  · unfold z_fld; rw [zt, hv]; simp [fi_, sfi, zu2, va_rf]
  · unfold z_fld; simp [fi_, sfi, zu2, hj, fj_, fr_]

theorem r_putjF {ci C T N ty a idx ref} {x : Int} (hg : zG g) (zc : z_cls ci C T N ty) (k : Nat) (hk : k < N) (hfin : (T k).2.2.2 = true) (hv : ∀ i j r, z_val (ty k) i j r = .long (zL j)) (hn : narrow (ty k) (.long (zL x)) = .long (zL x)) (hfit : fits (ty k) (.long (zL x)) = true) (hci : 2 ≤ ci) (hkd : kd_ h a = ci + 1) (hinit : M.2.2.2.2.2.1 = "<init>") (hdecl : (T k).1 = M.1) (href : ref = (T k).1 ∨ Cond.sameField ref (T k).1 (T k).2.1 (T k).2.2.1 ∈ lw_tbl) (hlink : Cond.fieldLink M.1 idx ref (T k).2.1 (T k).2.2.1 ∈ lw_tbl) (pc' : Nat) (hp : pc + 3 = pc') (d : decode M.2.1 pc = .ok (.putfield idx, 3)) (kk : zX g M mc ms Q pc' lv st (sfj h a k x) bc bs) : zX g M mc ms Q pc lv (.long (zL x) :: .ref a :: st) h bc bs := by
  have zt := zc.2.2.2.2.1
  refine r_putfF (h1 := sfj h a k x) hg zc k hk hfin hn hfit hci hkd ?_ (fun j hj => ?_) (fun b hb => z_ent_sfj hb) rfl rfl hinit hdecl href hlink pc' hp d kk
  · unfold z_fld; rw [zt, hv]; simp [fj_, sfj, zu2, va_rf]
  · unfold z_fld; simp [fj_, sfj, zu2, hj, fi_, fr_]

theorem r_putrF {ci C T N ty a idx ref} {x : Nat} (hg : zG g) (zc : z_cls ci C T N ty) (k : Nat) (hk : k < N) (hfin : (T k).2.2.2 = true) (hv : ∀ i j r, z_val (ty k) i j r = va_rf r) (hn : narrow (ty k) (.ref x) = .ref x) (hfit : fits (ty k) (.ref x) = true) (hci : 2 ≤ ci) (hkd : kd_ h a = ci + 1) (hinit : M.2.2.2.2.2.1 = "<init>") (hdecl : (T k).1 = M.1) (href : ref = (T k).1 ∨ Cond.sameField ref (T k).1 (T k).2.1 (T k).2.2.1 ∈ lw_tbl) (hlink : Cond.fieldLink M.1 idx ref (T k).2.1 (T k).2.2.1 ∈ lw_tbl) (pc' : Nat) (hp : pc + 3 = pc') (d : decode M.2.1 pc = .ok (.putfield idx, 3)) (kk : zX g M mc ms Q pc' lv st (sfr h a k (some x)) bc bs) : zX g M mc ms Q pc lv (.ref x :: .ref a :: st) h bc bs := by
  have zt := zc.2.2.2.2.1
  refine r_putfF (h1 := sfr h a k (some x)) hg zc k hk hfin hn hfit hci hkd ?_ (fun j hj => ?_) (fun b hb => z_ent_sfr hb) rfl rfl hinit hdecl href hlink pc' hp d kk
  · unfold z_fld; rw [zt, hv]; simp [fr_, sfr, zu2, va_rf]
  · unfold z_fld; simp [fr_, sfr, zu2, hj, fi_, fj_]

theorem r_iaload {a : Nat} {i : Int} (hg : zG g) (hk : kd_ h a = 20) (h0 : 0 ≤ i) (h2 : i ≤ 2147483647) (h1 : i < ln_ h a) (pc' : Nat) (hp : pc + 1 = pc') (d : decode M.2.1 pc = .ok (.iaload, 1)) (k : zX g M mc ms Q pc' lv (.int (zI (ai_ h a i.toNat)) :: st) h bc bs) : zX g M mc ms Q pc lv (.int (zI i) :: .ref a :: st) h bc bs := by
  subst hp
  intro p e s m args below meth c F H locs cells slots ls hP hs hL hc hsl hl
  refine va_iald F.1 F.2.1 (zKa hg F (k := 20) (by decide) (by decide)) (hP.arr hk (by decide) (by decide)) 0 0 rfl rfl (z_in2 h0 h2 h1) d ?_
  rw [zI_clamp h0 h2]
  exact k p e s m args below meth c F H locs cells slots ls hP hs hL hc hsl hl

theorem r_caload {a : Nat} {i : Int} (hg : zG g) (hk : kd_ h a = 21) (h0 : 0 ≤ i) (h2 : i ≤ 2147483647) (h1 : i < ln_ h a) (pc' : Nat) (hp : pc + 1 = pc') (d : decode M.2.1 pc = .ok (.caload, 1)) (k : zX g M mc ms Q pc' lv (.int (zI (ai_ h a i.toNat)) :: st) h bc bs) : zX g M mc ms Q pc lv (.int (zI i) :: .ref a :: st) h bc bs := by
  subst hp
  intro p e s m args below meth c F H locs cells slots ls hP hs hL hc hsl hl
  refine va_cald F.1 F.2.1 (zKa hg F (k := 21) (by decide) (by decide)) (hP.arr hk (by decide) (by decide)) 0 0 rfl rfl (z_in2 h0 h2 h1) d ?_
  rw [zI_clamp h0 h2]
  exact k p e s m args below meth c F H locs cells slots ls hP hs hL hc hsl hl

theorem r_zaload {a : Nat} {i : Int} (hg : zG g) (hk : kd_ h a = 22) (h0 : 0 ≤ i) (h2 : i ≤ 2147483647) (h1 : i < ln_ h a) (pc' : Nat) (hp : pc + 1 = pc') (d : decode M.2.1 pc = .ok (.baload, 1)) (k : zX g M mc ms Q pc' lv (.int (zI (ai_ h a i.toNat)) :: st) h bc bs) : zX g M mc ms Q pc lv (.int (zI i) :: .ref a :: st) h bc bs := by
  subst hp
  intro p e s m args below meth c F H locs cells slots ls hP hs hL hc hsl hl
  refine va_zald F.1 F.2.1 (zKa hg F (k := 22) (by decide) (by decide)) (hP.arr hk (by decide) (by decide)) 0 0 rfl rfl (z_in2 h0 h2 h1) d ?_
  rw [zI_clamp h0 h2]
  exact k p e s m args below meth c F H locs cells slots ls hP hs hL hc hsl hl

theorem zTs {g : zGT} {M : zM} {p : Program} {s : State} {m : MethodId} {meth : Method} {c : Code} {ty : FieldType} {t N : Nat} {f : Nat → Value} (F : zF g M p s m meth c) (hT : va_T ty t N f (fun q => (gS_ g).heap.size ≤ q) (gS_ g) (gS_ g).heap) : va_T ty t N f (fun q => (gS_ g).heap.size ≤ q) s s.heap := (va_T.moved F.2.2.2.2.2.2.2.1.alike hT).kept (H1 := s.heap) (fun a h1 h2 => F.2.2.2.2.2.2.2.2.2.2 a (by omega))
theorem zSs {g : zGT} {M : zM} {p : Program} {s : State} {m : MethodId} {meth : Method} {c : Code} {h : zH} {H : Heap} {locs : List Loc} (F : zF g M p s m meth c) (hP : zP g h H) (hs : s.heap.size ≤ H.size) (hL : ∀ z ∈ locs, (gS_ g).heap.size ≤ z.base) : va_S (fun q => (gS_ g).heap.size ≤ q) s.heap H locs := ⟨hs, fun q hq hn => by rw [hP.2.2.1 q (by omega), F.2.2.2.2.2.2.2.2.2.2 q (by omega)], hL⟩
theorem r_bbaload {a N : Nat} {f : Nat → Int} {i : Int} (hT : va_T .byte a N (fun j => .int (zI (f j))) (fun q => (gS_ g).heap.size ≤ q) (gS_ g) (gS_ g).heap) (h0 : 0 ≤ i) (h2 : i ≤ 2147483647) (h1 : i < N) (pc' : Nat) (hp : pc + 1 = pc') (d : decode M.2.1 pc = .ok (.baload, 1)) (k : zX g M mc ms Q pc' lv (.int (zI (f i.toNat)) :: st) h bc bs) : zX g M mc ms Q pc lv (.int (zI i) :: .ref a :: st) h bc bs := by
  subst hp
  intro p e s m args below meth c F H locs cells slots ls hP hs hL hc hsl hl
  refine va_tb F.1 F.2.1 (zTs F hT) (zSs F hP hs hL) (z_in2 h0 h2 h1) rfl d ?_
  rw [zI_clamp h0 h2]
  exact k p e s m args below meth c F H locs cells slots ls hP hs hL hc hsl hl
theorem r_alenT {a N : Nat} {ty : FieldType} {f : Nat → Value} (hT : va_T ty a N f (fun q => (gS_ g).heap.size ≤ q) (gS_ g) (gS_ g).heap) (pc' : Nat) (hp : pc + 1 = pc') (d : decode M.2.1 pc = .ok (.arraylength, 1)) (k : zX g M mc ms Q pc' lv (.int (zI N) :: st) h bc bs) : zX g M mc ms Q pc lv (.ref a :: st) h bc bs := by
  subst hp
  intro p e s m args below meth c F H locs cells slots ls hP hs hL hc hsl hl
  refine va_tlen F.1 F.2.1 (zTs F hT) (zSs F hP hs hL) (v := zI N) ?_ d (k p e s m args below meth c F H locs cells slots ls hP hs hL hc hsl hl)
  unfold zI
  rw [← Int32.ofInt_eq_ofNat]
theorem r_laload {a : Nat} {i : Int} (hg : zG g) (hk : kd_ h a = 23) (h0 : 0 ≤ i) (h2 : i ≤ 2147483647) (h1 : i < ln_ h a) (pc' : Nat) (hp : pc + 1 = pc') (d : decode M.2.1 pc = .ok (.laload, 1)) (k : zX g M mc ms Q pc' lv (.long (zL (aj_ h a i.toNat)) :: st) h bc bs) : zX g M mc ms Q pc lv (.int (zI i) :: .ref a :: st) h bc bs := by
  subst hp
  intro p e s m args below meth c F H locs cells slots ls hP hs hL hc hsl hl
  refine va_lald F.1 F.2.1 (zKa hg F (k := 23) (by decide) (by decide)) (hP.arr hk (by decide) (by decide)) 0 0 rfl rfl (z_in2 h0 h2 h1) d ?_
  rw [zI_clamp h0 h2]
  exact k p e s m args below meth c F H locs cells slots ls hP hs hL hc hsl hl

theorem r_aaload {a : Nat} {i : Int} {v : Value} (hg : zG g) (hk : kd_ h a = 25) (h0 : 0 ≤ i) (h2 : i ≤ 2147483647) (h1 : i < ln_ h a) (hv : va_rf (ar_ h a i.toNat) = v) (pc' : Nat) (hp : pc + 1 = pc') (d : decode M.2.1 pc = .ok (.aaload, 1)) (k : zX g M mc ms Q pc' lv (v :: st) h bc bs) : zX g M mc ms Q pc lv (.int (zI i) :: .ref a :: st) h bc bs := by
  subst hp
  intro p e s m args below meth c F H locs cells slots ls hP hs hL hc hsl hl
  refine va_aldq F.1 F.2.1 (zKa hg F (k := 25) (by decide) (by decide)) (hP.arr hk (by decide) (by decide)) 0 0 rfl rfl (z_in2 h0 h2 h1) d ?_
  rw [zI_clamp h0 h2, hv]
  exact k p e s m args below meth c F H locs cells slots ls hP hs hL hc hsl hl

theorem r_aaloadC {a : Nat} {i : Int} {v : Value} (hg : zG g) (hk : kd_ h a = 26) (h0 : 0 ≤ i) (h2 : i ≤ 2147483647) (h1 : i < ln_ h a) (hv : va_rf (ar_ h a i.toNat) = v) (pc' : Nat) (hp : pc + 1 = pc') (d : decode M.2.1 pc = .ok (.aaload, 1)) (k : zX g M mc ms Q pc' lv (v :: st) h bc bs) : zX g M mc ms Q pc lv (.int (zI i) :: .ref a :: st) h bc bs := by
  subst hp
  intro p e s m args below meth c F H locs cells slots ls hP hs hL hc hsl hl
  refine va_aldq F.1 F.2.1 (zKa hg F (k := 26) (by decide) (by decide)) (hP.arr hk (by decide) (by decide)) 0 0 rfl rfl (z_in2 h0 h2 h1) d ?_
  rw [zI_clamp h0 h2, hv]
  exact k p e s m args below meth c F H locs cells slots ls hP hs hL hc hsl hl

theorem r_arraylength {a k9 : Nat} (hg : zG g) (hk : kd_ h a = k9) (h1 : 20 ≤ k9) (h2 : k9 ≤ 26 ∧ k9 ≠ 24) (pc' : Nat) (hp : pc + 1 = pc') (d : decode M.2.1 pc = .ok (.arraylength, 1)) (k : zX g M mc ms Q pc' lv (.int (zI (ln_ h a)) :: st) h bc bs) : zX g M mc ms Q pc lv (.ref a :: st) h bc bs := by
  subst hp
  intro p e s m args below meth c F H locs cells slots ls hP hs hL hc hsl hl
  refine va_alen F.1 F.2.1 (zKa hg F h1 (by omega)) (hP.arr hk (by omega) h2) 0 0 rfl rfl (v := zI (ln_ h a)) ?_ d (k p e s m args below meth c F H locs cells slots ls hP hs hL hc hsl hl)
  unfold zI
  rw [← Int32.ofInt_eq_ofNat]

theorem r_alenL {a : Nat} (hg : zG g) (hk : kd_ h a = 25 ∨ kd_ h a = 27) (he : kd_ h a = 27 → ln_ h a = 0 ∧ a = ge_ g) (pc' : Nat) (hp : pc + 1 = pc') (d : decode M.2.1 pc = .ok (.arraylength, 1)) (k : zX g M mc ms Q pc' lv (.int (zI (ln_ h a)) :: st) h bc bs) : zX g M mc ms Q pc lv (.ref a :: st) h bc bs := by
  rcases hk with hk | hk
  · exact r_arraylength hg hk (by decide) (by decide) pc' hp d k
  · obtain ⟨e1, e2⟩ := he hk
    rw [e1] at k
    rw [e2]
    exact r_alenT hg.2.2.2.2.2.2.2 pc' hp d k
theorem r_iastore {a : Nat} {i x : Int} (hg : zG g) (hk : kd_ h a = 20) (h0 : 0 ≤ i) (h2 : i ≤ 2147483647) (h1 : i < ln_ h a)  (pc' : Nat) (hp : pc + 1 = pc') (d : decode M.2.1 pc = .ok (.iastore, 1)) (k : zX g M mc ms Q pc' lv st (sai h a i.toNat x) bc bs) : zX g M mc ms Q pc lv (.int (zI x) :: .int (zI i) :: .ref a :: st) h bc bs := by
  subst hp
  intro p e s m args below meth c F H locs cells slots ls hP hs hL hc hsl hl
  have ha0 : (gS_ g).heap.size ≤ a := hP.real hk (by decide) (by decide) (by decide) (by decide)
  have hPa := hP.arr hk (by decide) (by decide)
  have hKa := zKa hg F (k := 20) (by decide) (by decide)
  refine W.iast F.1 F.2.1 (hPa 0 _ rfl) ((hKa.2 0 _ rfl).1 (ln_ h a) (fun j => .int (zI (ai_ h a j)))) (fun q => by cases q) (by show ¬ (zI i < 0 ∨ (arrV _ _ _).slots.size ≤ _); rw [arrV_size]; exact z_in2 h0 h2 h1) rfl rfl d fun H1 e9 z oq => ?_
  have hP1 : zP g (sai h a i.toNat x) H1 := by
    refine hP.put ha0 z oq (fun b hb => z_ent_sai hb) rfl rfl (fun e he => ?_)
    rw [z_at_arr (k := 20) (by exact hk) (by decide) (by decide)] at he
    cases he
    show H1[a]? = some (vp_cell _ _)
    rw [e9]
    show some ((vp_cell _ (_, .inl fun j => zI (ai_ h a j))).setSlot _ _) = some (vp_cell _ (_, .inl fun j => zI (ai_ (sai h a i.toNat x) a j)))
    rw [vp_cell_i, vp_cell_i, arrV_store]
    congr 2
    funext q
    rw [zI_clamp h0 h2]
    by_cases hq : q = i.toNat
    · subst hq
      simp [updV, ai_, sai, zu2]
    · simp [updV, ai_, sai, zu2, hq]
  exact k p e s m args below meth c F H1 _ cells slots ls hP1 (by omega) (fun z hz => (List.mem_append.mp hz).elim (hL z) (fun q => by rw [List.mem_singleton.mp q]; exact ha0)) hc hsl hl

theorem r_lastore {a : Nat} {i x : Int} (hg : zG g) (hk : kd_ h a = 23) (h0 : 0 ≤ i) (h2 : i ≤ 2147483647) (h1 : i < ln_ h a)  (pc' : Nat) (hp : pc + 1 = pc') (d : decode M.2.1 pc = .ok (.lastore, 1)) (k : zX g M mc ms Q pc' lv st (saj h a i.toNat x) bc bs) : zX g M mc ms Q pc lv (.long (zL x) :: .int (zI i) :: .ref a :: st) h bc bs := by
  subst hp
  intro p e s m args below meth c F H locs cells slots ls hP hs hL hc hsl hl
  have ha0 : (gS_ g).heap.size ≤ a := hP.real hk (by decide) (by decide) (by decide) (by decide)
  have hPa := hP.arr hk (by decide) (by decide)
  have hKa := zKa hg F (k := 23) (by decide) (by decide)
  refine W.last F.1 F.2.1 (hPa 0 _ rfl) ((hKa.2 0 _ rfl).1 (ln_ h a) (fun j => .long (zL (aj_ h a j)))) (fun q => by cases q) (by show ¬ (zI i < 0 ∨ (arrV _ _ _).slots.size ≤ _); rw [arrV_size]; exact z_in2 h0 h2 h1) rfl rfl d fun H1 e9 z oq => ?_
  have hP1 : zP g (saj h a i.toNat x) H1 := by
    refine hP.put ha0 z oq (fun b hb => z_ent_saj hb) rfl rfl (fun e he => ?_)
    rw [z_at_arr (k := 23) (by exact hk) (by decide) (by decide)] at he
    cases he
    show H1[a]? = some (vp_cell _ _)
    rw [e9]
    show some ((vp_cell _ (_, .inr (.inl fun j => zL (aj_ h a j)))).setSlot _ _) = some (vp_cell _ (_, .inr (.inl fun j => zL (aj_ (saj h a i.toNat x) a j))))
    rw [vp_cell_l, vp_cell_l, arrV_store]
    congr 2
    funext q
    rw [zI_clamp h0 h2]
    by_cases hq : q = i.toNat
    · subst hq
      simp [updV, aj_, saj, zu2]
    · simp [updV, aj_, saj, zu2, hq]
  exact k p e s m args below meth c F H1 _ cells slots ls hP1 (by omega) (fun z hz => (List.mem_append.mp hz).elim (hL z) (fun q => by rw [List.mem_singleton.mp q]; exact ha0)) hc hsl hl

theorem r_castore {a : Nat} {i x : Int} (hg : zG g) (hk : kd_ h a = 21) (h0 : 0 ≤ i) (h2 : i ≤ 2147483647) (h1 : i < ln_ h a) (hx : narrow .char (.int (zI x)) = .int (zI x)) (pc' : Nat) (hp : pc + 1 = pc') (d : decode M.2.1 pc = .ok (.castore, 1)) (k : zX g M mc ms Q pc' lv st (sai h a i.toNat x) bc bs) : zX g M mc ms Q pc lv (.int (zI x) :: .int (zI i) :: .ref a :: st) h bc bs := by
  subst hp
  intro p e s m args below meth c F H locs cells slots ls hP hs hL hc hsl hl
  have ha0 : (gS_ g).heap.size ≤ a := hP.real hk (by decide) (by decide) (by decide) (by decide)
  have hPa := hP.arr hk (by decide) (by decide)
  have hKa := zKa hg F (k := 21) (by decide) (by decide)
  refine W.cast F.1 F.2.1 (hPa 0 _ rfl) ((hKa.2 0 _ rfl).1 (ln_ h a) (fun j => .int (zI (ai_ h a j)))) (fun q => by cases q) (by show ¬ (zI i < 0 ∨ (arrV _ _ _).slots.size ≤ _); rw [arrV_size]; exact z_in2 h0 h2 h1) rfl rfl d fun H1 e9 z oq => ?_
  have hP1 : zP g (sai h a i.toNat x) H1 := by
    refine hP.put ha0 z oq (fun b hb => z_ent_sai hb) rfl rfl (fun e he => ?_)
    rw [z_at_arr (k := 21) (by exact hk) (by decide) (by decide)] at he
    cases he
    show H1[a]? = some (vp_cell _ _)
    rw [e9]
    show some ((vp_cell _ (_, .inl fun j => zI (ai_ h a j))).setSlot _ _) = some (vp_cell _ (_, .inl fun j => zI (ai_ (sai h a i.toNat x) a j)))
    rw [vp_cell_i, vp_cell_i, arrV_store]
    congr 2
    funext q
    rw [zI_clamp h0 h2]
    by_cases hq : q = i.toNat
    · subst hq
      simp [updV, ai_, sai, zu2, hx]
    · simp [updV, ai_, sai, zu2, hq]
  exact k p e s m args below meth c F H1 _ cells slots ls hP1 (by omega) (fun z hz => (List.mem_append.mp hz).elim (hL z) (fun q => by rw [List.mem_singleton.mp q]; exact ha0)) hc hsl hl

theorem r_zastore {a : Nat} {i x : Int} (hg : zG g) (hk : kd_ h a = 22) (h0 : 0 ≤ i) (h2 : i ≤ 2147483647) (h1 : i < ln_ h a) (hx : narrow .boolean (.int (zI x)) = .int (zI x)) (pc' : Nat) (hp : pc + 1 = pc') (d : decode M.2.1 pc = .ok (.bastore, 1)) (k : zX g M mc ms Q pc' lv st (sai h a i.toNat x) bc bs) : zX g M mc ms Q pc lv (.int (zI x) :: .int (zI i) :: .ref a :: st) h bc bs := by
  subst hp
  intro p e s m args below meth c F H locs cells slots ls hP hs hL hc hsl hl
  have ha0 : (gS_ g).heap.size ≤ a := hP.real hk (by decide) (by decide) (by decide) (by decide)
  have hPa := hP.arr hk (by decide) (by decide)
  have hKa := zKa hg F (k := 22) (by decide) (by decide)
  refine W.zast F.1 F.2.1 (hPa 0 _ rfl) ((hKa.2 0 _ rfl).1 (ln_ h a) (fun j => .int (zI (ai_ h a j)))) (fun q => by cases q) (by show ¬ (zI i < 0 ∨ (arrV _ _ _).slots.size ≤ _); rw [arrV_size]; exact z_in2 h0 h2 h1) rfl rfl d fun H1 e9 z oq => ?_
  have hP1 : zP g (sai h a i.toNat x) H1 := by
    refine hP.put ha0 z oq (fun b hb => z_ent_sai hb) rfl rfl (fun e he => ?_)
    rw [z_at_arr (k := 22) (by exact hk) (by decide) (by decide)] at he
    cases he
    show H1[a]? = some (vp_cell _ _)
    rw [e9]
    show some ((vp_cell _ (_, .inl fun j => zI (ai_ h a j))).setSlot _ _) = some (vp_cell _ (_, .inl fun j => zI (ai_ (sai h a i.toNat x) a j)))
    rw [vp_cell_i, vp_cell_i, arrV_store]
    congr 2
    funext q
    rw [zI_clamp h0 h2]
    by_cases hq : q = i.toNat
    · subst hq
      simp [updV, ai_, sai, zu2, hx]
    · simp [updV, ai_, sai, zu2, hq]
  exact k p e s m args below meth c F H1 _ cells slots ls hP1 (by omega) (fun z hz => (List.mem_append.mp hz).elim (hL z) (fun q => by rw [List.mem_singleton.mp q]; exact ha0)) hc hsl hl

end Heap
