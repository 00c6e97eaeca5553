theorem word_of {s : State} {args : Array Value} {tm : Term} {L : List Int} (hn : L.length ≤ 7) (hex : (Cond.exactly tm "java/lang/String").before args s = true) (hco : (Cond.eq (.field tm "java/lang/String" "coder" "B") (.int 0)).before args s = true) (har : (Cond.arrayOf (.field tm "java/lang/String" "value" "[B") .byte).before args s = true) (hle : (Cond.eq (.length (.field tm "java/lang/String" "value" "[B")) (.int (Int32.ofNat L.length))).before args s = true) (hel : ∀ j : Nat, j < L.length → (Cond.eq (.elem (.field tm "java/lang/String" "value" "[B") (.int (Int32.ofNat j))) (.int (zI (L.getD j 0)))).before args s = true) (hr : ∀ i, i < L.length → 97 ≤ L.getD i 0 ∧ L.getD i 0 ≤ 122) {g : zGT} (hg : gS_ g = s) : ∃ w : Nat, tm.eval args s none [] s = some (.ref w) ∧ zWd g w L := by
  subst hg
  have hA : ∀ a : Nat, a < (gS_ g).heap.size → ¬ (fun q => (gS_ g).heap.size ≤ q) a := fun a h => Nat.not_le.mpr h
  have e0 : ∀ j : Nat, ([L.map zI].getD 0 []).getD j 0 = zI (L.getD j 0) := fun j => by
    show (L.map zI).getD j 0 = _
    simp only [List.getD_eq_getElem?_getD, List.getElem?_map]
    cases L[j]? <;> rfl
  obtain ⟨aK, aV, hS, hE⟩ := vk_Sof (args := args) (s := gS_ g) (N := 1) (tm := fun _ => tm) (len := [L.length]) (byt := [L.map zI]) (A := fun q => (gS_ g).heap.size ≤ q) (fun i hi => by
      have h : i = 0 := by omega
      subst h
      show L.length < _
      omega) (fun _ _ => hex) (fun _ _ => hco) (fun _ _ => har) (fun i hi => by
      have h : i = 0 := by omega
      subst h
      exact hle) (fun i hi j hj => by
      have h : i = 0 := by omega
      subst h
      rw [e0]
      exact hel j hj) (fun i j hi hj hij => by omega) hA
  obtain ⟨h1, h2, h3, h4⟩ := hS.1 0 (by omega)
  refine ⟨aK 0, hE 0 (by omega), aV 0, h1, h3, h2, ?_, hn, hr⟩
  have e1 : (fun j => Value.int (([L.map zI].getD 0 []).getD j 0)) = fun j => Value.int (zI (L.getD j 0)) := funext fun j => by rw [e0]
  rw [e1] at h4
  exact h4
set_option maxRecDepth 100000 in
theorem word_police {s : State} {args : Array Value} (hts : ∀ w ∈ lw_tbl, w.before args s = true) (hv : (Jvm.Cond.and given_1 narrow_1).before args s = true) {g : zGT} (hg : gS_ g = s) : ∃ w : Nat, zSR g 360 "police" w ∧ zWd g w [112, 111, 108, 105, 99, 101] := by
  have hs := flat_of_before _ hv
  obtain ⟨w, h1, h2⟩ := word_of (s := s) (args := args) (tm := (.string "Platehall" 360 : Term)) (L := [112, 111, 108, 105, 99, 101]) (by decide) (hs (Cond.exactly (.string "Platehall" 360 : Term) "java/lang/String") (by decide +kernel)) (hs (Cond.eq (.field (.string "Platehall" 360 : Term) "java/lang/String" "coder" "B") (.int 0)) (by decide +kernel)) (hs (Cond.arrayOf (.field (.string "Platehall" 360 : Term) "java/lang/String" "value" "[B") .byte) (by decide +kernel)) (hs (Cond.eq (.length (.field (.string "Platehall" 360 : Term) "java/lang/String" "value" "[B")) (.int 6)) (by decide +kernel)) (fun j hj => match j, hj with
    | 0, _ => hs (Cond.eq (.elem (.field (.string "Platehall" 360 : Term) "java/lang/String" "value" "[B") (.int 0)) (.int 112)) (by decide +kernel)
    | 1, _ => hs (Cond.eq (.elem (.field (.string "Platehall" 360 : Term) "java/lang/String" "value" "[B") (.int 1)) (.int 111)) (by decide +kernel)
    | 2, _ => hs (Cond.eq (.elem (.field (.string "Platehall" 360 : Term) "java/lang/String" "value" "[B") (.int 2)) (.int 108)) (by decide +kernel)
    | 3, _ => hs (Cond.eq (.elem (.field (.string "Platehall" 360 : Term) "java/lang/String" "value" "[B") (.int 3)) (.int 105)) (by decide +kernel)
    | 4, _ => hs (Cond.eq (.elem (.field (.string "Platehall" 360 : Term) "java/lang/String" "value" "[B") (.int 4)) (.int 99)) (by decide +kernel)
    | 5, _ => hs (Cond.eq (.elem (.field (.string "Platehall" 360 : Term) "java/lang/String" "value" "[B") (.int 5)) (.int 101)) (by decide +kernel)
    | k + 6, hj => absurd hj (by simp)) (fun j hj => match j, hj with
    | 0, _ => (by decide)
    | 1, _ => (by decide)
    | 2, _ => (by decide)
    | 3, _ => (by decide)
    | 4, _ => (by decide)
    | 5, _ => (by decide)
    | k + 6, hj => absurd hj (by simp)) hg
  refine ⟨w, ?_, h2⟩
  unfold zSR
  rw [hg]
  exact vk_R.of (hts (Cond.stringRef "Platehall" 360 "police") (tb_5 228 _ rfl)) h1
set_option maxRecDepth 100000 in
theorem word_insurer {s : State} {args : Array Value} (hts : ∀ w ∈ lw_tbl, w.before args s = true) (hv : (Jvm.Cond.and given_1 narrow_1).before args s = true) {g : zGT} (hg : gS_ g = s) : ∃ w : Nat, zSR g 372 "insurer" w ∧ zWd g w [105, 110, 115, 117, 114, 101, 114] := by
  have hs := flat_of_before _ hv
  obtain ⟨w, h1, h2⟩ := word_of (s := s) (args := args) (tm := (.string "Platehall" 372 : Term)) (L := [105, 110, 115, 117, 114, 101, 114]) (by decide) (hs (Cond.exactly (.string "Platehall" 372 : Term) "java/lang/String") (by decide +kernel)) (hs (Cond.eq (.field (.string "Platehall" 372 : Term) "java/lang/String" "coder" "B") (.int 0)) (by decide +kernel)) (hs (Cond.arrayOf (.field (.string "Platehall" 372 : Term) "java/lang/String" "value" "[B") .byte) (by decide +kernel)) (hs (Cond.eq (.length (.field (.string "Platehall" 372 : Term) "java/lang/String" "value" "[B")) (.int 7)) (by decide +kernel)) (fun j hj => match j, hj with
    | 0, _ => hs (Cond.eq (.elem (.field (.string "Platehall" 372 : Term) "java/lang/String" "value" "[B") (.int 0)) (.int 105)) (by decide +kernel)
    | 1, _ => hs (Cond.eq (.elem (.field (.string "Platehall" 372 : Term) "java/lang/String" "value" "[B") (.int 1)) (.int 110)) (by decide +kernel)
    | 2, _ => hs (Cond.eq (.elem (.field (.string "Platehall" 372 : Term) "java/lang/String" "value" "[B") (.int 2)) (.int 115)) (by decide +kernel)
    | 3, _ => hs (Cond.eq (.elem (.field (.string "Platehall" 372 : Term) "java/lang/String" "value" "[B") (.int 3)) (.int 117)) (by decide +kernel)
    | 4, _ => hs (Cond.eq (.elem (.field (.string "Platehall" 372 : Term) "java/lang/String" "value" "[B") (.int 4)) (.int 114)) (by decide +kernel)
    | 5, _ => hs (Cond.eq (.elem (.field (.string "Platehall" 372 : Term) "java/lang/String" "value" "[B") (.int 5)) (.int 101)) (by decide +kernel)
    | 6, _ => hs (Cond.eq (.elem (.field (.string "Platehall" 372 : Term) "java/lang/String" "value" "[B") (.int 6)) (.int 114)) (by decide +kernel)
    | k + 7, hj => absurd hj (by simp)) (fun j hj => match j, hj with
    | 0, _ => (by decide)
    | 1, _ => (by decide)
    | 2, _ => (by decide)
    | 3, _ => (by decide)
    | 4, _ => (by decide)
    | 5, _ => (by decide)
    | 6, _ => (by decide)
    | k + 7, hj => absurd hj (by simp)) hg
  refine ⟨w, ?_, h2⟩
  unfold zSR
  rw [hg]
  exact vk_R.of (hts (Cond.stringRef "Platehall" 372 "insurer") (tb_6 20 _ rfl)) h1
set_option maxRecDepth 100000 in
theorem word_clamper {s : State} {args : Array Value} (hts : ∀ w ∈ lw_tbl, w.before args s = true) (hv : (Jvm.Cond.and given_1 narrow_1).before args s = true) {g : zGT} (hg : gS_ g = s) : ∃ w : Nat, zSR g 374 "clamper" w ∧ zWd g w [99, 108, 97, 109, 112, 101, 114] := by
  have hs := flat_of_before _ hv
  obtain ⟨w, h1, h2⟩ := word_of (s := s) (args := args) (tm := (.string "Platehall" 374 : Term)) (L := [99, 108, 97, 109, 112, 101, 114]) (by decide) (hs (Cond.exactly (.string "Platehall" 374 : Term) "java/lang/String") (by decide +kernel)) (hs (Cond.eq (.field (.string "Platehall" 374 : Term) "java/lang/String" "coder" "B") (.int 0)) (by decide +kernel)) (hs (Cond.arrayOf (.field (.string "Platehall" 374 : Term) "java/lang/String" "value" "[B") .byte) (by decide +kernel)) (hs (Cond.eq (.length (.field (.string "Platehall" 374 : Term) "java/lang/String" "value" "[B")) (.int 7)) (by decide +kernel)) (fun j hj => match j, hj with
    | 0, _ => hs (Cond.eq (.elem (.field (.string "Platehall" 374 : Term) "java/lang/String" "value" "[B") (.int 0)) (.int 99)) (by decide +kernel)
    | 1, _ => hs (Cond.eq (.elem (.field (.string "Platehall" 374 : Term) "java/lang/String" "value" "[B") (.int 1)) (.int 108)) (by decide +kernel)
    | 2, _ => hs (Cond.eq (.elem (.field (.string "Platehall" 374 : Term) "java/lang/String" "value" "[B") (.int 2)) (.int 97)) (by decide +kernel)
    | 3, _ => hs (Cond.eq (.elem (.field (.string "Platehall" 374 : Term) "java/lang/String" "value" "[B") (.int 3)) (.int 109)) (by decide +kernel)
    | 4, _ => hs (Cond.eq (.elem (.field (.string "Platehall" 374 : Term) "java/lang/String" "value" "[B") (.int 4)) (.int 112)) (by decide +kernel)
    | 5, _ => hs (Cond.eq (.elem (.field (.string "Platehall" 374 : Term) "java/lang/String" "value" "[B") (.int 5)) (.int 101)) (by decide +kernel)
    | 6, _ => hs (Cond.eq (.elem (.field (.string "Platehall" 374 : Term) "java/lang/String" "value" "[B") (.int 6)) (.int 114)) (by decide +kernel)
    | k + 7, hj => absurd hj (by simp)) (fun j hj => match j, hj with
    | 0, _ => (by decide)
    | 1, _ => (by decide)
    | 2, _ => (by decide)
    | 3, _ => (by decide)
    | 4, _ => (by decide)
    | 5, _ => (by decide)
    | 6, _ => (by decide)
    | k + 7, hj => absurd hj (by simp)) hg
  refine ⟨w, ?_, h2⟩
  unfold zSR
  rw [hg]
  exact vk_R.of (hts (Cond.stringRef "Platehall" 374 "clamper") (tb_6 21 _ rfl)) h1
def R_law : String := "PlatehallLaw"
def lw_P (b : Addr) (xs : List Int32) (args : Array Value) (s : State) : Prop := args = #[.ref b] ∧ s.IntsAt b xs ∧ xs.length ≤ 260 ∧ (Jvm.Cond.and given_1 narrow_1).before args s = true
def lw_Q (_ : Array Value) (s : State) (o : Outcome) (t : State) : Prop := o = .returned (some (.int 1)) ∧ Framed s o t [] 600104 7301314
def lw_Z (below : List Frame) (a : Array Value) (s : State) : State → Prop := fun t => ∃ o, t.status = .running ∧ Ended t below o ∧ lw_Q a s o t
/-- what holds at the law's entry: the machine, the code, the tables' words (any of lw_tbl by 'hts w (by decide +kernel)'), the script of L ints xs at the cell b, what the Statement gives of the start (any of its parts by flat_of_before) -/
def lw_At (p : Program) (s : State) (m : MethodId) (meth : Method) (c : Code) (b L : Nat) (xs : Nat → Int32) : Prop :=
  p.tables.exec = Jvm.exec ∧ c.code = code ∧ meth.sig.returnType = ret ∧ c.maxLocals = 9 ∧ s.vm.findClass R_law = some m.cls ∧ (∀ w ∈ lw_tbl, w.before #[Value.ref b] s = true) ∧ va_X b L xs s s.heap ∧ b < s.heap.size ∧ meth.locks = false ∧ (Jvm.Cond.and given_1 narrow_1).before #[Value.ref b] s = true ∧ c.exceptionTable.toList = [] ∧ meth.name = "law"
set_option maxHeartbeats 4000000 in
/-- from the entry, for every script of at most 260 ints, the law comes to its end with true -/
theorem whole_start {p : Program} {e : Env} {s : State} {m : MethodId} {below : List Frame} {meth : Method} {c : Code} (l : Launch) (hflags : l.flags = flags0) {b L : Nat} {xs : Nat → Int32} (hL : L ≤ 260) (C0 : lw_At p s m meth c b L xs) : W p l e room_1 s m #[Value.ref b] below meth c s.heap [] 0 0 (lw_Z below #[Value.ref b] s) (entryFrame m ([Value.ref b] : List Value).toArray 9) := by
  obtain ⟨hx, hcode, hret, hml, hown, hts, hX, hbl, hlk, hv, htab, hnm⟩ := C0
  obtain ⟨D, hD⟩ := classes_of hts
  obtain ⟨A, hA⟩ := arrays_of hts
  obtain ⟨ge, he1, he2⟩ := em_of hts hv
  obtain ⟨mi, hmi⟩ := mi_of hv
  have hst : l.stackTraces = false := by
    unfold Launch.stackTraces
    rw [hflags]
    decide +kernel
  have hg : zG (l, s, #[.ref b], D, A, ge) := ⟨hst, hts, hD, hA, (th_of hts hv).1, (th_of hts hv).2, he1, he2⟩
  obtain ⟨p0, g0, w0⟩ := word_police hts hv (g := (l, s, #[.ref b], D, A, ge)) rfl
  obtain ⟨p1, g1, w1⟩ := word_insurer hts hv (g := (l, s, #[.ref b], D, A, ge)) rfl
  obtain ⟨p2, g2, w2⟩ := word_clamper hts hv (g := (l, s, #[.ref b], D, A, ge)) rfl
  have hsv : (fun j => zI ((xs j).toInt)) = xs := funext fun j => zI_self (xs j)
  have hLA : zLA (l, s, #[.ref b], D, A, ge) b (fun j => (xs j).toInt) L := ⟨by show va_X b L (fun j => zI ((xs j).toInt)) s s.heap; rw [hsv]; exact hX, hbl, hL, fun j => zR_self (xs j)⟩
  intro T hT X
  have X2 : Stand p l e (zRoom mL_law 600104 7301314) s m #[Value.ref b] below meth c T [] 0 0 := by
    refine ⟨X.admits, X.cas, X.clock, X.frames, ?_, X.hears, X.method, X.code, X.here, X.tail, X.warmed, X.limits, X.bytes, X.same⟩
    have h := X.room
    simp only [State.hasRoom, Bool.and_eq_true, decide_eq_true_eq] at h ⊢
    obtain ⟨⟨⟨⟨h1, h2, h3, h4, h5, h6⟩, h7⟩, h8⟩, h9⟩ := h
    have f1 : (zRoom mL_law 600104 7301314).frames = 21 := rfl
    have f2 : (zRoom mL_law 600104 7301314).cells = 600104 := rfl
    have f3 : (zRoom mL_law 600104 7301314).slots = 7301314 := rfl
    have f4 : (zRoom mL_law 600104 7301314).locals = 4200 := rfl
    have r1 : room_1.frames = 2048 := rfl
    have r2 : room_1.cells = 600104 := rfl
    have r3 : room_1.slots = 7301314 := rfl
    have r4 : room_1.locals = 84000 := rfl
    exact ⟨⟨⟨⟨by omega, by omega, by omega, by omega, by omega, h6⟩, h7⟩, h8⟩, h9⟩
  have hl := lv_entry [Value.ref b] (n := 9) (by show 1 ≤ 9; decide)
  rw [lg_entry_eq]
  generalize (lg_sl [Value.ref b] ++ List.replicate (9 - (lg_sl [Value.ref b]).length) Slot.unset).toArray = ls at hl ⊢
  have hlaw := law_all (g := (l, s, #[.ref b], D, A, ge)) (Q := fun o _ => o = .inl (some (.int (zI 1)))) hg (nx_of hv) hLA hmi (cs_of hts hv) g0 g1 g2 (h0 := zH0 ge) w0 w1 w2 (fun _ => rfl)
  obtain ⟨t, a1, o, b1, b2, b3⟩ := hlaw p e s m #[.ref b] below meth c ⟨hx, hcode, hml, hret, hown, hlk, htab, State.WarmedH.refl s, hnm, Nat.le_refl _, fun _ _ => rfl⟩ s.heap [] 0 0 ls (zP_start he2) (Nat.le_refl _) (fun z hz => by cases hz) (by omega) (by omega) (by
    refine ⟨hl.1, hl.2.1, fun q hq => hl.2.2 q ?_⟩
    obtain ⟨i, v⟩ := q
    have h := z_args_mem [Value.ref b] 8 0 i v (z_as_mem.mp hq)
    rwa [Nat.zero_add] at h) T hT X2
  refine ⟨t, a1, o, b1, b2, ?_⟩
  rcases b3 with ⟨⟨v, h', ho, -, hQ⟩, L9, hF, hfree⟩ | ⟨q, -, E, ce, L9, ⟨h', -, hQ⟩, -⟩
  · have hv1 : v = some (.int (zI 1)) := by cases hQ; rfl
    subst hv1
    exact ⟨ho, ⟨_, ho⟩, hF.2.1, sb_forget hF.2.2 hfree⟩
  · cases hQ
set_option maxHeartbeats 4000000 in
theorem lw_walk (l : Launch) (hflags : l.flags = flags0) (b : Addr) (xs : List Int32) : MetFree l x (headSpec (Jvm.Cond.code x code maxLocals ret :: tables_1) room_1) (lw_P b xs) (fun _ _ _ _ _ => True) lw_Q := by
  refine MetFree.of_bodyS (code := code) (maxLocals := maxLocals) (ret := ret) (by decide) ?_ ?_
  · intro args s m h hn
    obtain ⟨meth, c, h1, h2, h3, h4, h5, h6, -, -⟩ := Cond.code_spec hn (atoms_spec (ws := Jvm.Cond.code x code maxLocals ret :: tables_1) h _ List.mem_cons_self)
    exact ⟨meth, c, h1, h2, h3, h4, h5, h6⟩
  · intro p e s m args below meth c s₁ B hml0 hP _
    obtain ⟨rfl, hx, hbd, hgv⟩ := hP
    obtain ⟨scr, harrAt, hlist, hof, hsmall⟩ := hx
    obtain ⟨hcb, hkn, -, -⟩ := State.arrayAt?_spec harrAt
    have hown : s.vm.findClass R_law = some m.cls := findClass_of_methodNamed B.named
    have hts0 : ∀ c ∈ (Jvm.Cond.code x code maxLocals ret :: tables_1), c.before #[Value.ref b] s = true := atoms_spec (ws := Jvm.Cond.code x code maxLocals ret :: tables_1) B.pre
    have hts : ∀ w ∈ lw_tbl, w.before #[Value.ref b] s = true := k2_hts_sels lw_privs (fun w hw => hts0 w (List.mem_cons_of_mem _ hw)) lw_privs_ok
    have htab : c.exceptionTable.toList = [] := by
      obtain ⟨meth9, c9, h1, h2, -, -, -, -, h7, -⟩ := Cond.code_spec B.named (hts0 _ List.mem_cons_self)
      cases Option.some.inj (h1.symm.trans B.method)
      cases Option.some.inj (h2.symm.trans (Stand.of_body B).code)
      rw [Array.isEmpty_iff.mp h7]
    have hml : c.maxLocals = 9 := B.maxLocals_eq (hts0 _ List.mem_cons_self)
    have X₀ : Stand p l e room_1 s m #[Value.ref b] below meth c s₁ [] 0 0 := Stand.of_body B
    have hh0 : s₁.heap = s.heap := by rw [B.state]; rfl
    have hsz : scr.slots.size = xs.length := by rw [← Array.length_toList, hlist, List.length_map]
    have hval : ∀ j : Nat, j < xs.length → scr.slots[j]? = some (.int (xs.getD j 0)) := fun j hj => by
      rw [← Array.getElem?_toList, hlist]
      simp [hj]
    have hbl : b < s.heap.size := (Array.getElem?_eq_some_iff.mp hcb).1
    have hX : va_X b xs.length (fun j => xs.getD j 0) s s.heap := ⟨scr, hcb, hof, hkn, hsz, hval⟩
    have K : W p l e room_1 s m #[Value.ref b] below meth c s₁.heap [] 0 0 (lw_Z below #[Value.ref b] s) (entryFrame m ([Value.ref b] : List Value).toArray 9) := by
      rw [hh0]
      exact whole_start l hflags hbd ⟨B.exec, B.bytes, B.returns, hml, hown, hts, hX, hbl, B.notSynchronized, hgv, htab, (name_of_methodNamed B.named B.method).1⟩
    obtain ⟨t, a1, o, b1, b2, b3⟩ := K s₁ rfl X₀
    exact ⟨t, o, a1, b1, b2, b3⟩
theorem lw_pre_spec {args : Array Value} {s : State} (h : (Jvm.Cond.and given_1 narrow_1).before args s = true) (hr : rest_1_c.before args s = true) : ∃ (b : Addr) (xs : List Int32), lw_P b xs args s := by
  have hs := flat_of_before _ h
  have hq := flat_of_before _ hr
  have hc : (Cond.count 1).before args s = true := hs _ (by decide +kernel)
  have harr : (Cond.arrayOf (.arg 0) .int).before args s = true := hs _ (by decide +kernel)
  have hle : (Cond.le (.length (.arg 0)) (.int 260)).before args s = true := hs _ (by decide +kernel)
  have hlen : (Cond.isInt (.length (.arg 0))).before args s = true := hq _ (by decide +kernel)
  have hall : (Cond.all (.arg 0) (.isInt (.elem (.arg 0) (.index 0)))).before args s = true := hq _ (by decide +kernel)
  obtain ⟨b, xs, hb, hx⟩ := State.ints_of_pre rfl harr hlen hall
  have hsm : xs.length < 2 ^ 31 := hx.choose_spec.2.2.2
  have hev : (Term.length (.arg 0)).eval args s none [] s = some (.int xs.length.toInt32) := hx.length_eval hb
  have hv := Cond.le_ints hev (show (Term.int 260).eval args s none [] s = some (.int 260) from rfl)
  have hd : xs.length.toInt32 ≤ 260 := by
    simpa [Cond.before, Cond.holds, hv] using hle
  have hN : xs.length ≤ 260 := (Int32.ofNat_le_ofNat hsm (by decide)).mp (show Int32.ofNat xs.length ≤ Int32.ofNat 260 from hd)
  exact ⟨b, xs, Cond.one_arg hc (show args[0]? = some (.ref b) from hb), hx, hN, h⟩
theorem lw_comes (l : Launch) (hflags : l.flags = flags0) : Comes l x (Jvm.Cond.code x code maxLocals ret :: tables_1) room_1 (fun tb e args s => Calls_1 tb e args s ∧ rest_1 tb e args s ∧ Pre_1 tb e args s)
    (fun _ _ args s o t => lw_Q args s o t) := by
  intro p e ha hc hk s m args below hf hfit hheap happ hpre
  obtain ⟨b, xs, hP⟩ := lw_pre_spec hpre.2.2 hpre.2.1
  obtain ⟨k, o, h1, h2, h3, hQ⟩ := lw_walk l hflags b xs p e ha hc hk s m args below hf ((Spec.applies_iff_loose hf).mp happ).1 hP trivial
  exact ⟨k, o, h1, h2, h3, hQ⟩
theorem lw_frame {s t : State} {o : Outcome} {args : Array Value} (h : Framed s o t [] 600104 7301314) :
    Framed s o t (fieldLocs frame_1_writes args s ++ arrayLocs frame_1_arrays args s ++ staticLocs frame_1_statics s) 600104 7301314 := h
theorem lw_limb (L : Cond) (hL : ∀ (args : Array Value) (s t : State), L.after args s (.returned (some (.int 1))) t = true) :
    ArmFor flags0 classFile x code maxLocals ret World_1 tables_1 room_1 Calls_1 rest_1 Pre_1
      (fun tb e a s o t => postC L tb e a s o t ∧ Framed s o t (fieldLocs frame_1_writes a s ++ arrayLocs frame_1_arrays a s ++ staticLocs frame_1_statics s) 600104 7301314) := by
  intro l hflags _ _ p e ha hc hk s m args below hf hfit hheap happ hpre
  obtain ⟨k, o, h1, h2, h3, rfl, hF⟩ := lw_comes l hflags p e ha hc hk s m args below hf hfit hheap happ hpre
  exact ⟨k, _, h1, h2, h3, hL args s _, lw_frame hF⟩
theorem i_vc : Claimed_1_1 ∧ Claimed_1_2 := ⟨lw_limb limb_1_1 (fun args s t => by simp [limb_1_1, Cond.after, Cond.holds, Cond.value]), lw_limb limb_1_2 (fun args s t => Cond.after_iff.mpr (by
  first | (rw [show limb_1_2 = Cond.eq .result (.int 1) from rfl, Cond.eq_ints (x := 1) (y := 1) rfl rfl]; simp; done) | (simp [limb_1_2, Cond.value, Term.eval]; done)))⟩
