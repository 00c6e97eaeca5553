abbrev zM : Type := String × ByteArray × Nat × Option FieldType × List ExceptionTableEntry × String × Nat
abbrev zO : Type := Option Value ⊕ String
def zRoom (M : zM) (mc ms : Nat) : Room := { frames := M.2.2.2.2.2.2, cells := mc, slots := ms, locals := 200 * M.2.2.2.2.2.2 }
def zF (g : zGT) (M : zM) (p : Program) (s : State) (m : MethodId) (meth : Method) (c : Code) : Prop :=
  p.tables.exec = Jvm.exec ∧ c.code = M.2.1 ∧ c.maxLocals = M.2.2.1 ∧ meth.sig.returnType = M.2.2.2.1 ∧ s.vm.findClass M.1 = some m.cls ∧ meth.locks = false ∧ c.exceptionTable.toList = M.2.2.2.2.1 ∧ (gS_ g).WarmedH s.vm ∧ meth.name = M.2.2.2.2.2.1 ∧ (gS_ g).heap.size ≤ s.heap.size ∧ (∀ q, q < (gS_ g).heap.size → s.heap[q]? = (gS_ g).heap[q]?)
def zQc (g : zGT) (Q : zO → zH → Prop) : Array Value → State → Outcome → State → Prop := fun _ _ o t => ∃ (v : Option Value) (h' : zH), o = .returned v ∧ zP g h' t.heap ∧ Q (.inl v) h'
def zXC (g : zGT) (Q : zO → zH → Prop) : String → State → State → Prop := fun E _ t => ∃ h' : zH, zP g h' t.heap ∧ Q (.inr E) h'
def z_as (lv : List (Option Value)) : List (Nat × Value) := (List.range lv.length).filterMap fun i => (lv.getD i none).map fun v => (i, v)
theorem z_as_mem {lv : List (Option Value)} {i : Nat} {v : Value} : (i, v) ∈ z_as lv ↔ lv[i]? = some (some v) := by
  unfold z_as
  rw [List.mem_filterMap]
  constructor
  · rintro ⟨a, ha, hb⟩
    rw [Option.map_eq_some_iff] at hb
    obtain ⟨w, hw, he⟩ := hb
    cases he
    have hl := List.mem_range.mp ha
    rw [List.getD_eq_getElem?_getD, List.getElem?_eq_getElem hl] at hw
    rw [List.getElem?_eq_getElem hl]
    simpa using hw
  · intro h
    have hl := (List.getElem?_eq_some_iff.mp h).1
    refine ⟨i, List.mem_range.mpr hl, ?_⟩
    rw [List.getD_eq_getElem?_getD, h]
    rfl
def z_has (ls : Array Slot) (n : Nat) (lv : List (Option Value)) : Prop := lv_has ls n (z_as lv)
theorem z_has.at {ls : Array Slot} {n : Nat} {lv : List (Option Value)} (h : z_has ls n lv) {i : Nat} {v : Value} (hv : lv[i]? = some (some v)) : ls[i]? = some (.val v) := h.2.2 (i, v) (z_as_mem.mpr hv)
theorem z_has.le {ls : Array Slot} {n : Nat} {lv lv' : List (Option Value)} (h : z_has ls n lv) (hle : ∀ (i : Nat) (v : Value), lv'[i]? = some (some v) → lv[i]? = some (some v)) : z_has ls n lv' :=
  ⟨h.1, h.2.1, fun q hq => h.2.2 q (z_as_mem.mpr (hle _ _ (z_as_mem.mp hq)))⟩
/-- from here the method's frame comes to its end, with Q behind it, over the heap's picture h, with room for bc cells and bs slots more -/
def zX (g : zGT) (M : zM) (mc ms : Nat) (Q : zO → zH → Prop) (pc : Nat) (lv : List (Option Value)) (st : List Value) (h : zH) (bc bs : Nat) : Prop :=
  ∀ (p : Program) (e : Env) (s : State) (m : MethodId) (args : Array Value) (below : List Frame) (meth : Method) (c : Code), zF g M p s m meth c →
  ∀ (H : Heap) (locs : List Loc) (cells slots : Nat) (ls : Array Slot), zP g h H → s.heap.size ≤ H.size → (∀ z ∈ locs, (gS_ g).heap.size ≤ z.base) → cells + bc ≤ mc → slots + bs ≤ ms → z_has ls M.2.2.1 lv →
  W p (gl_ g) e (zRoom M mc ms) s m args below meth c H locs cells slots (vx_MQ below (zQc g Q) (zXC g Q) args s mc ms (fun q => (gS_ g).heap.size ≤ q)) (F0 m pc ls st)
section Rows
variable {g : zGT} {M : zM} {mc ms : Nat} {Q : zO → zH → Prop} {pc : Nat} {lv : List (Option Value)} {st : List Value} {h : zH} {bc bs : Nat}

theorem r_iconst {n : Int} (pc' : Nat) (hp : pc + 1 = pc') (d : decode M.2.1 pc = .ok (.iconst n, 1)) (k : zX g M mc ms Q pc' lv (.int (zI n) :: st) h bc bs) : zX g M mc ms Q pc lv (st) h bc bs := by
  subst hp
  intro p e s m args below meth c F H locs cells slots ls hP hs hL hc hsl hl
  refine lv_iconst F.1 F.2.1 d (v := zI n) rfl ?_
  exact k p e s m args below meth c F H locs cells slots ls hP hs hL hc hsl hl

theorem r_bipush {n : Int} (hn : -128 ≤ n ∧ n ≤ 127) (pc' : Nat) (hp : pc + 2 = pc') (d : decode M.2.1 pc = .ok (.bipush n, 2)) (k : zX g M mc ms Q pc' lv (.int (zI n) :: st) h bc bs) : zX g M mc ms Q pc lv (st) h bc bs := by
  subst hp
  intro p e s m args below meth c F H locs cells slots ls hP hs hL hc hsl hl
  refine lv_bipush F.1 F.2.1 d (zI_b8 hn) ?_
  exact k p e s m args below meth c F H locs cells slots ls hP hs hL hc hsl hl

theorem r_sipush {n : Int} (hn : -32768 ≤ n ∧ n ≤ 32767) (pc' : Nat) (hp : pc + 3 = pc') (d : decode M.2.1 pc = .ok (.sipush n, 3)) (k : zX g M mc ms Q pc' lv (.int (zI n) :: st) h bc bs) : zX g M mc ms Q pc lv (st) h bc bs := by
  subst hp
  intro p e s m args below meth c F H locs cells slots ls hP hs hL hc hsl hl
  refine lv_sipush F.1 F.2.1 d (zI_b16 hn) ?_
  exact k p e s m args below meth c F H locs cells slots ls hP hs hL hc hsl hl

theorem r_lconst0  (pc' : Nat) (hp : pc + 1 = pc') (d : decode M.2.1 pc = .ok (.lconst 0, 1)) (k : zX g M mc ms Q pc' lv (.long (zL 0) :: st) h bc bs) : zX g M mc ms Q pc lv (st) h bc bs := by
  subst hp
  intro p e s m args below meth c F H locs cells slots ls hP hs hL hc hsl hl
  refine lv_lconst F.1 F.2.1 d rfl ?_
  exact k p e s m args below meth c F H locs cells slots ls hP hs hL hc hsl hl

theorem r_lconst1  (pc' : Nat) (hp : pc + 1 = pc') (d : decode M.2.1 pc = .ok (.lconst 1, 1)) (k : zX g M mc ms Q pc' lv (.long (zL 1) :: st) h bc bs) : zX g M mc ms Q pc lv (st) h bc bs := by
  subst hp
  intro p e s m args below meth c F H locs cells slots ls hP hs hL hc hsl hl
  refine lv_lconst F.1 F.2.1 d rfl ?_
  exact k p e s m args below meth c F H locs cells slots ls hP hs hL hc hsl hl

theorem r_iload_n {i : Fin 4} {x : Int32} (hv : lv[(i : Nat)]? = some (some (.int x))) (pc' : Nat) (hp : pc + 1 = pc') (d : decode M.2.1 pc = .ok (.iload_n i, 1)) (k : zX g M mc ms Q pc' lv (.int x :: st) h bc bs) : zX g M mc ms Q pc lv (st) h bc bs := by
  subst hp
  intro p e s m args below meth c F H locs cells slots ls hP hs hL hc hsl hl
  refine lv_iload_n F.1 F.2.1 d rfl (hl.at hv) ?_
  exact k p e s m args below meth c F H locs cells slots ls hP hs hL hc hsl hl

theorem r_iload {i : Nat} {x : Int32} (hv : lv[i]? = some (some (.int x))) (pc' : Nat) (hp : pc + 2 = pc') (d : decode M.2.1 pc = .ok (.iload i, 2)) (k : zX g M mc ms Q pc' lv (.int x :: st) h bc bs) : zX g M mc ms Q pc lv (st) h bc bs := by
  subst hp
  intro p e s m args below meth c F H locs cells slots ls hP hs hL hc hsl hl
  refine lv_iload F.1 F.2.1 d (hl.at hv) ?_
  exact k p e s m args below meth c F H locs cells slots ls hP hs hL hc hsl hl

theorem r_lload_n {i : Fin 4} {x : Int64} (hv : lv[(i : Nat)]? = some (some (.long x))) (pc' : Nat) (hp : pc + 1 = pc') (d : decode M.2.1 pc = .ok (.lload_n i, 1)) (k : zX g M mc ms Q pc' lv (.long x :: st) h bc bs) : zX g M mc ms Q pc lv (st) h bc bs := by
  subst hp
  intro p e s m args below meth c F H locs cells slots ls hP hs hL hc hsl hl
  refine lv_lload_n F.1 F.2.1 d rfl (hl.at hv) ?_
  exact k p e s m args below meth c F H locs cells slots ls hP hs hL hc hsl hl

theorem r_lload {i : Nat} {x : Int64} (hv : lv[i]? = some (some (.long x))) (pc' : Nat) (hp : pc + 2 = pc') (d : decode M.2.1 pc = .ok (.lload i, 2)) (k : zX g M mc ms Q pc' lv (.long x :: st) h bc bs) : zX g M mc ms Q pc lv (st) h bc bs := by
  subst hp
  intro p e s m args below meth c F H locs cells slots ls hP hs hL hc hsl hl
  refine lv_lload F.1 F.2.1 d (hl.at hv) ?_
  exact k p e s m args below meth c F H locs cells slots ls hP hs hL hc hsl hl

theorem r_aload_n {i : Fin 4} {x : Nat} (hv : lv[(i : Nat)]? = some (some (.ref x))) (pc' : Nat) (hp : pc + 1 = pc') (d : decode M.2.1 pc = .ok (.aload_n i, 1)) (k : zX g M mc ms Q pc' lv (.ref x :: st) h bc bs) : zX g M mc ms Q pc lv (st) h bc bs := by
  subst hp
  intro p e s m args below meth c F H locs cells slots ls hP hs hL hc hsl hl
  refine lv_aload_n F.1 F.2.1 d rfl (hl.at hv) ?_
  exact k p e s m args below meth c F H locs cells slots ls hP hs hL hc hsl hl

theorem r_aload {i : Nat} {x : Nat} (hv : lv[i]? = some (some (.ref x))) (pc' : Nat) (hp : pc + 2 = pc') (d : decode M.2.1 pc = .ok (.aload i, 2)) (k : zX g M mc ms Q pc' lv (.ref x :: st) h bc bs) : zX g M mc ms Q pc lv (st) h bc bs := by
  subst hp
  intro p e s m args below meth c F H locs cells slots ls hP hs hL hc hsl hl
  refine lv_aload F.1 F.2.1 d (hl.at hv) ?_
  exact k p e s m args below meth c F H locs cells slots ls hP hs hL hc hsl hl

theorem r_aload_nN {i : Fin 4} (hv : lv[(i : Nat)]? = some (some .null)) (pc' : Nat) (hp : pc + 1 = pc') (d : decode M.2.1 pc = .ok (.aload_n i, 1)) (k : zX g M mc ms Q pc' lv (.null :: st) h bc bs) : zX g M mc ms Q pc lv (st) h bc bs := by
  subst hp
  intro p e s m args below meth c F H locs cells slots ls hP hs hL hc hsl hl
  refine lv_aload_nN F.1 F.2.1 d rfl (hl.at hv) ?_
  exact k p e s m args below meth c F H locs cells slots ls hP hs hL hc hsl hl

theorem r_aloadN {i : Nat} (hv : lv[i]? = some (some .null)) (pc' : Nat) (hp : pc + 2 = pc') (d : decode M.2.1 pc = .ok (.aload i, 2)) (k : zX g M mc ms Q pc' lv (.null :: st) h bc bs) : zX g M mc ms Q pc lv (st) h bc bs := by
  subst hp
  intro p e s m args below meth c F H locs cells slots ls hP hs hL hc hsl hl
  refine lv_aloadN F.1 F.2.1 d (hl.at hv) ?_
  exact k p e s m args below meth c F H locs cells slots ls hP hs hL hc hsl hl

def z_c1 (lv : List (Option Value)) (i : Nat) : Prop := match i with
  | 0 => True
  | j + 1 => ∀ v, lv[j]? = some (some v) → v.category = 1
theorem z_st1 {ls : Array Slot} {n i : Nat} {v : Value} (hi : i < n) (h9 : z_c1 lv i) (hx : lv_has ls n ((i, v) :: (z_as lv).filter (fun q => !(q.1 == i) && !(q.1 + 1 == i && q.2.category == 2)))) : z_has ls n (lv.set i (some v)) := by
  refine ⟨hx.1, hx.2.1, fun q hq => hx.2.2 q ?_⟩
  obtain ⟨j, w⟩ := q
  have h1 := z_as_mem.mp hq
  rw [List.getElem?_set] at h1
  by_cases hji : i = j
  · subst hji
    rw [if_pos rfl] at h1
    split at h1
    · cases h1; exact List.mem_cons_self
    · cases h1
  · rw [if_neg hji] at h1
    refine List.mem_cons_of_mem _ (List.mem_filter.mpr ⟨z_as_mem.mpr h1, ?_⟩)
    have e1 : (j == i) = false := by simpa using fun q => hji q.symm
    by_cases hj1 : j + 1 = i
    · subst hj1
      have := h9 w h1
      simp [this]
    · have e2 : (j + 1 == i) = false := by simpa using hj1
      simp [e1, e2]
theorem z_st2 {ls : Array Slot} {n i : Nat} {v : Value} (hi : i + 1 < n) (h9 : z_c1 lv i) (hx : lv_has ls n ((i, v) :: (z_as lv).filter (fun q => !(q.1 == i) && (!(q.1 == i + 1) && !(q.1 + 1 == i && q.2.category == 2))))) : z_has ls n ((lv.set i (some v)).set (i + 1) none) := by
  refine ⟨hx.1, hx.2.1, fun q hq => hx.2.2 q ?_⟩
  obtain ⟨j, w⟩ := q
  have h1 := z_as_mem.mp hq
  rw [List.getElem?_set] at h1
  by_cases hj2 : i + 1 = j
  · subst hj2
    rw [if_pos rfl] at h1
    split at h1 <;> cases h1
  rw [if_neg hj2] at h1
  rw [List.getElem?_set] at h1
  by_cases hji : i = j
  · subst hji
    rw [if_pos rfl] at h1
    split at h1
    · cases h1; exact List.mem_cons_self
    · cases h1
  · rw [if_neg hji] at h1
    refine List.mem_cons_of_mem _ (List.mem_filter.mpr ⟨z_as_mem.mpr h1, ?_⟩)
    have e1 : (j == i) = false := by simpa using fun q => hji q.symm
    have e3 : (j == i + 1) = false := by simpa using fun q => hj2 q.symm
    by_cases hj1 : j + 1 = i
    · subst hj1
      have := h9 w h1
      simp [this]; omega
    · have e2 : (j + 1 == i) = false := by simpa using hj1
      simp [e1, e2, e3]

theorem r_istore_n {i : Nat} {x : Int32} {j : Fin 4} (hj : (j : Nat) = i) (pc' : Nat) (hp : pc + 1 = pc') (hi : i < M.2.2.1) (h9 : z_c1 lv i) {lv2 : List (Option Value)} (h2 : lv.set i (some (.int x)) = lv2) (d : decode M.2.1 pc = .ok (.istore_n j, 1)) (k : zX g M mc ms Q pc' lv2 st h bc bs) : zX g M mc ms Q pc lv (.int x :: st) h bc bs := by
  subst hp; subst h2
  intro p e s m args below meth c F H locs cells slots ls hP hs hL hc hsl hl
  refine lv_istore_n (nL := M.2.2.1) (i := i) F.1 F.2.1 d hj hl hi rfl fun ls2 hl2 => ?_
  exact k p e s m args below meth c F H locs cells slots ls2 hP hs hL hc hsl (z_st1 hi h9 hl2)

theorem r_istore {i : Nat} {x : Int32}  (pc' : Nat) (hp : pc + 2 = pc') (hi : i < M.2.2.1) (h9 : z_c1 lv i) {lv2 : List (Option Value)} (h2 : lv.set i (some (.int x)) = lv2) (d : decode M.2.1 pc = .ok (.istore i, 2)) (k : zX g M mc ms Q pc' lv2 st h bc bs) : zX g M mc ms Q pc lv (.int x :: st) h bc bs := by
  subst hp; subst h2
  intro p e s m args below meth c F H locs cells slots ls hP hs hL hc hsl hl
  refine lv_istore (nL := M.2.2.1) (i := i) F.1 F.2.1 d  hl hi rfl fun ls2 hl2 => ?_
  exact k p e s m args below meth c F H locs cells slots ls2 hP hs hL hc hsl (z_st1 hi h9 hl2)

theorem r_lstore_n {i : Nat} {x : Int64} {j : Fin 4} (hj : (j : Nat) = i) (pc' : Nat) (hp : pc + 1 = pc') (hi : i + 1 < M.2.2.1) (h9 : z_c1 lv i) {lv2 : List (Option Value)} (h2 : (lv.set i (some (.long x))).set (i + 1) none = lv2) (d : decode M.2.1 pc = .ok (.lstore_n j, 1)) (k : zX g M mc ms Q pc' lv2 st h bc bs) : zX g M mc ms Q pc lv (.long x :: st) h bc bs := by
  subst hp; subst h2
  intro p e s m args below meth c F H locs cells slots ls hP hs hL hc hsl hl
  refine lv_lstore_n (nL := M.2.2.1) (i := i) F.1 F.2.1 d hj hl hi rfl fun ls2 hl2 => ?_
  exact k p e s m args below meth c F H locs cells slots ls2 hP hs hL hc hsl (z_st2 hi h9 hl2)

theorem r_lstore {i : Nat} {x : Int64}  (pc' : Nat) (hp : pc + 2 = pc') (hi : i + 1 < M.2.2.1) (h9 : z_c1 lv i) {lv2 : List (Option Value)} (h2 : (lv.set i (some (.long x))).set (i + 1) none = lv2) (d : decode M.2.1 pc = .ok (.lstore i, 2)) (k : zX g M mc ms Q pc' lv2 st h bc bs) : zX g M mc ms Q pc lv (.long x :: st) h bc bs := by
  subst hp; subst h2
  intro p e s m args below meth c F H locs cells slots ls hP hs hL hc hsl hl
  refine lv_lstore (nL := M.2.2.1) (i := i) F.1 F.2.1 d  hl hi rfl fun ls2 hl2 => ?_
  exact k p e s m args below meth c F H locs cells slots ls2 hP hs hL hc hsl (z_st2 hi h9 hl2)

theorem r_astore_n {i : Nat} {x : Nat} {j : Fin 4} (hj : (j : Nat) = i) (pc' : Nat) (hp : pc + 1 = pc') (hi : i < M.2.2.1) (h9 : z_c1 lv i) {lv2 : List (Option Value)} (h2 : lv.set i (some (.ref x)) = lv2) (d : decode M.2.1 pc = .ok (.astore_n j, 1)) (k : zX g M mc ms Q pc' lv2 st h bc bs) : zX g M mc ms Q pc lv (.ref x :: st) h bc bs := by
  subst hp; subst h2
  intro p e s m args below meth c F H locs cells slots ls hP hs hL hc hsl hl
  refine lv_astore_n (nL := M.2.2.1) (i := i) F.1 F.2.1 d hj hl hi rfl fun ls2 hl2 => ?_
  exact k p e s m args below meth c F H locs cells slots ls2 hP hs hL hc hsl (z_st1 hi h9 hl2)

theorem r_astore {i : Nat} {x : Nat}  (pc' : Nat) (hp : pc + 2 = pc') (hi : i < M.2.2.1) (h9 : z_c1 lv i) {lv2 : List (Option Value)} (h2 : lv.set i (some (.ref x)) = lv2) (d : decode M.2.1 pc = .ok (.astore i, 2)) (k : zX g M mc ms Q pc' lv2 st h bc bs) : zX g M mc ms Q pc lv (.ref x :: st) h bc bs := by
  subst hp; subst h2
  intro p e s m args below meth c F H locs cells slots ls hP hs hL hc hsl hl
  refine lv_astore (nL := M.2.2.1) (i := i) F.1 F.2.1 d  hl hi rfl fun ls2 hl2 => ?_
  exact k p e s m args below meth c F H locs cells slots ls2 hP hs hL hc hsl (z_st1 hi h9 hl2)

theorem r_astore_nN {i : Nat} {j : Fin 4} (hj : (j : Nat) = i) (pc' : Nat) (hp : pc + 1 = pc') (hi : i < M.2.2.1) (h9 : z_c1 lv i) {lv2 : List (Option Value)} (h2 : lv.set i (some .null) = lv2) (d : decode M.2.1 pc = .ok (.astore_n j, 1)) (k : zX g M mc ms Q pc' lv2 st h bc bs) : zX g M mc ms Q pc lv (.null :: st) h bc bs := by
  subst hp; subst h2
  intro p e s m args below meth c F H locs cells slots ls hP hs hL hc hsl hl
  refine lv_astore_nN (nL := M.2.2.1) (i := i) F.1 F.2.1 d hj hl hi rfl fun ls2 hl2 => ?_
  exact k p e s m args below meth c F H locs cells slots ls2 hP hs hL hc hsl (z_st1 hi h9 hl2)

theorem r_astoreN {i : Nat}  (pc' : Nat) (hp : pc + 2 = pc') (hi : i < M.2.2.1) (h9 : z_c1 lv i) {lv2 : List (Option Value)} (h2 : lv.set i (some .null) = lv2) (d : decode M.2.1 pc = .ok (.astore i, 2)) (k : zX g M mc ms Q pc' lv2 st h bc bs) : zX g M mc ms Q pc lv (.null :: st) h bc bs := by
  subst hp; subst h2
  intro p e s m args below meth c F H locs cells slots ls hP hs hL hc hsl hl
  refine lv_astoreN (nL := M.2.2.1) (i := i) F.1 F.2.1 d  hl hi rfl fun ls2 hl2 => ?_
  exact k p e s m args below meth c F H locs cells slots ls2 hP hs hL hc hsl (z_st1 hi h9 hl2)

theorem r_iinc {i : Nat} {n x : Int} (pc' : Nat) (hp : pc + 3 = pc') (hi : i < M.2.2.1) (h9 : z_c1 lv i) (hv : lv[i]? = some (some (.int (zI x)))) {lv2 : List (Option Value)} (h2 : lv.set i (some (.int (zI (x + n)))) = lv2) (d : decode M.2.1 pc = .ok (.iinc i n, 3)) (k : zX g M mc ms Q pc' lv2 st h bc bs) : zX g M mc ms Q pc lv st h bc bs := by
  subst hp; subst h2
  intro p e s m args below meth c F H locs cells slots ls hP hs hL hc hsl hl
  obtain ⟨kk, hkk⟩ := List.getElem?_of_mem (z_as_mem.mpr hv)
  refine lv_iinc (nL := M.2.2.1) (v := zI (x + n)) F.1 F.2.1 d hl hkk (by rw [zI_lit, zI_add]) hi rfl fun ls2 hl2 => ?_
  exact k p e s m args below meth c F H locs cells slots ls2 hP hs hL hc hsl (z_st1 hi h9 hl2)

theorem r_iadd {a b : Int} (pc' : Nat) (hp : pc + 1 = pc') (d : decode M.2.1 pc = .ok (.iadd, 1)) (k : zX g M mc ms Q pc' lv (.int (zI (a + b)) :: st) h bc bs) : zX g M mc ms Q pc lv (.int (zI b) :: .int (zI a) :: st) h bc bs := by
  subst hp
  intro p e s m args below meth c F H locs cells slots ls hP hs hL hc hsl hl
  rw [← zI_add] at k
  refine lv_iadd F.1 F.2.1 d  ?_
  exact k p e s m args below meth c F H locs cells slots ls hP hs hL hc hsl hl

theorem r_isub {a b : Int} (pc' : Nat) (hp : pc + 1 = pc') (d : decode M.2.1 pc = .ok (.isub, 1)) (k : zX g M mc ms Q pc' lv (.int (zI (a - b)) :: st) h bc bs) : zX g M mc ms Q pc lv (.int (zI b) :: .int (zI a) :: st) h bc bs := by
  subst hp
  intro p e s m args below meth c F H locs cells slots ls hP hs hL hc hsl hl
  rw [← zI_sub] at k
  refine lv_isub F.1 F.2.1 d  ?_
  exact k p e s m args below meth c F H locs cells slots ls hP hs hL hc hsl hl

theorem r_imul {a b : Int} (pc' : Nat) (hp : pc + 1 = pc') (d : decode M.2.1 pc = .ok (.imul, 1)) (k : zX g M mc ms Q pc' lv (.int (zI (a * b)) :: st) h bc bs) : zX g M mc ms Q pc lv (.int (zI b) :: .int (zI a) :: st) h bc bs := by
  subst hp
  intro p e s m args below meth c F H locs cells slots ls hP hs hL hc hsl hl
  rw [← zI_mul] at k
  refine lv_imul F.1 F.2.1 d  ?_
  exact k p e s m args below meth c F H locs cells slots ls hP hs hL hc hsl hl

theorem r_ladd {a b : Int} (pc' : Nat) (hp : pc + 1 = pc') (d : decode M.2.1 pc = .ok (.ladd, 1)) (k : zX g M mc ms Q pc' lv (.long (zL (a + b)) :: st) h bc bs) : zX g M mc ms Q pc lv (.long (zL b) :: .long (zL a) :: st) h bc bs := by
  subst hp
  intro p e s m args below meth c F H locs cells slots ls hP hs hL hc hsl hl
  rw [← zL_add] at k
  refine lv_ladd F.1 F.2.1 d  ?_
  exact k p e s m args below meth c F H locs cells slots ls hP hs hL hc hsl hl

theorem r_lsub {a b : Int} (pc' : Nat) (hp : pc + 1 = pc') (d : decode M.2.1 pc = .ok (.lsub, 1)) (k : zX g M mc ms Q pc' lv (.long (zL (a - b)) :: st) h bc bs) : zX g M mc ms Q pc lv (.long (zL b) :: .long (zL a) :: st) h bc bs := by
  subst hp
  intro p e s m args below meth c F H locs cells slots ls hP hs hL hc hsl hl
  rw [← zL_sub] at k
  refine lv_lsub F.1 F.2.1 d  ?_
  exact k p e s m args below meth c F H locs cells slots ls hP hs hL hc hsl hl

theorem r_lmul {a b : Int} (pc' : Nat) (hp : pc + 1 = pc') (d : decode M.2.1 pc = .ok (.lmul, 1)) (k : zX g M mc ms Q pc' lv (.long (zL (a * b)) :: st) h bc bs) : zX g M mc ms Q pc lv (.long (zL b) :: .long (zL a) :: st) h bc bs := by
  subst hp
  intro p e s m args below meth c F H locs cells slots ls hP hs hL hc hsl hl
  rw [← zL_mul] at k
  refine lv_lmul F.1 F.2.1 d  ?_
  exact k p e s m args below meth c F H locs cells slots ls hP hs hL hc hsl hl

theorem r_ineg {a : Int} (pc' : Nat) (hp : pc + 1 = pc') (d : decode M.2.1 pc = .ok (.ineg, 1)) (k : zX g M mc ms Q pc' lv (.int (zI (-a)) :: st) h bc bs) : zX g M mc ms Q pc lv (.int (zI a) :: st) h bc bs := by
  subst hp
  intro p e s m args below meth c F H locs cells slots ls hP hs hL hc hsl hl
  rw [← zI_neg] at k
  refine lv_ineg F.1 F.2.1 d  ?_
  exact k p e s m args below meth c F H locs cells slots ls hP hs hL hc hsl hl

theorem r_lneg {a : Int} (pc' : Nat) (hp : pc + 1 = pc') (d : decode M.2.1 pc = .ok (.lneg, 1)) (k : zX g M mc ms Q pc' lv (.long (zL (-a)) :: st) h bc bs) : zX g M mc ms Q pc lv (.long (zL a) :: st) h bc bs := by
  subst hp
  intro p e s m args below meth c F H locs cells slots ls hP hs hL hc hsl hl
  rw [← zL_neg] at k
  refine lv_lneg F.1 F.2.1 d  ?_
  exact k p e s m args below meth c F H locs cells slots ls hP hs hL hc hsl hl

theorem r_idiv {a b : Int} (ha : zR a) (hb : zR b) (h0 : 0 ≤ a) (h1 : 0 < b) (pc' : Nat) (hp : pc + 1 = pc') (d : decode M.2.1 pc = .ok (.idiv, 1)) (k : zX g M mc ms Q pc' lv (.int (zI (a / b)) :: st) h bc bs) : zX g M mc ms Q pc lv (.int (zI b) :: .int (zI a) :: st) h bc bs := by
  subst hp
  intro p e s m args below meth c F H locs cells slots ls hP hs hL hc hsl hl
  rw [← zI_div ha hb h0 h1] at k
  refine lv_idiv F.1 F.2.1 d (fun q => by rw [zI_0, zI_eq hb (by omega)] at q; omega) ?_
  exact k p e s m args below meth c F H locs cells slots ls hP hs hL hc hsl hl

theorem r_irem {a b : Int} (ha : zR a) (hb : zR b) (h0 : 0 ≤ a) (h1 : 0 < b) (pc' : Nat) (hp : pc + 1 = pc') (d : decode M.2.1 pc = .ok (.irem, 1)) (k : zX g M mc ms Q pc' lv (.int (zI (a % b)) :: st) h bc bs) : zX g M mc ms Q pc lv (.int (zI b) :: .int (zI a) :: st) h bc bs := by
  subst hp
  intro p e s m args below meth c F H locs cells slots ls hP hs hL hc hsl hl
  rw [← zI_rem ha hb h0 h1] at k
  refine lv_irem F.1 F.2.1 d (fun q => by rw [zI_0, zI_eq hb (by omega)] at q; omega) ?_
  exact k p e s m args below meth c F H locs cells slots ls hP hs hL hc hsl hl

theorem r_iand {x y : Int32} (pc' : Nat) (hp : pc + 1 = pc') (d : decode M.2.1 pc = .ok (.iand, 1)) (k : zX g M mc ms Q pc' lv (.int (x &&& y) :: st) h bc bs) : zX g M mc ms Q pc lv (.int y :: .int x :: st) h bc bs := by
  subst hp
  intro p e s m args below meth c F H locs cells slots ls hP hs hL hc hsl hl
  refine lv_iand F.1 F.2.1 d  ?_
  exact k p e s m args below meth c F H locs cells slots ls hP hs hL hc hsl hl

theorem r_ior {x y : Int32} (pc' : Nat) (hp : pc + 1 = pc') (d : decode M.2.1 pc = .ok (.ior, 1)) (k : zX g M mc ms Q pc' lv (.int (x ||| y) :: st) h bc bs) : zX g M mc ms Q pc lv (.int y :: .int x :: st) h bc bs := by
  subst hp
  intro p e s m args below meth c F H locs cells slots ls hP hs hL hc hsl hl
  refine lv_ior F.1 F.2.1 d  ?_
  exact k p e s m args below meth c F H locs cells slots ls hP hs hL hc hsl hl

theorem r_ixor {x y : Int32} (pc' : Nat) (hp : pc + 1 = pc') (d : decode M.2.1 pc = .ok (.ixor, 1)) (k : zX g M mc ms Q pc' lv (.int (x ^^^ y) :: st) h bc bs) : zX g M mc ms Q pc lv (.int y :: .int x :: st) h bc bs := by
  subst hp
  intro p e s m args below meth c F H locs cells slots ls hP hs hL hc hsl hl
  refine lv_ixor F.1 F.2.1 d  ?_
  exact k p e s m args below meth c F H locs cells slots ls hP hs hL hc hsl hl

theorem r_land {x y : Int64} (pc' : Nat) (hp : pc + 1 = pc') (d : decode M.2.1 pc = .ok (.land, 1)) (k : zX g M mc ms Q pc' lv (.long (x &&& y) :: st) h bc bs) : zX g M mc ms Q pc lv (.long y :: .long x :: st) h bc bs := by
  subst hp
  intro p e s m args below meth c F H locs cells slots ls hP hs hL hc hsl hl
  refine lv_land F.1 F.2.1 d  ?_
  exact k p e s m args below meth c F H locs cells slots ls hP hs hL hc hsl hl

theorem r_lor {x y : Int64} (pc' : Nat) (hp : pc + 1 = pc') (d : decode M.2.1 pc = .ok (.lor, 1)) (k : zX g M mc ms Q pc' lv (.long (x ||| y) :: st) h bc bs) : zX g M mc ms Q pc lv (.long y :: .long x :: st) h bc bs := by
  subst hp
  intro p e s m args below meth c F H locs cells slots ls hP hs hL hc hsl hl
  refine lv_lor F.1 F.2.1 d  ?_
  exact k p e s m args below meth c F H locs cells slots ls hP hs hL hc hsl hl

theorem r_lxor {x y : Int64} (pc' : Nat) (hp : pc + 1 = pc') (d : decode M.2.1 pc = .ok (.lxor, 1)) (k : zX g M mc ms Q pc' lv (.long (x ^^^ y) :: st) h bc bs) : zX g M mc ms Q pc lv (.long y :: .long x :: st) h bc bs := by
  subst hp
  intro p e s m args below meth c F H locs cells slots ls hP hs hL hc hsl hl
  refine lv_lxor F.1 F.2.1 d  ?_
  exact k p e s m args below meth c F H locs cells slots ls hP hs hL hc hsl hl

theorem r_lshl {x : Int64} {y : Int32} (pc' : Nat) (hp : pc + 1 = pc') (d : decode M.2.1 pc = .ok (.lshl, 1)) (k : zX g M mc ms Q pc' lv (.long (x <<< (y.toInt64 &&& 63)) :: st) h bc bs) : zX g M mc ms Q pc lv (.int y :: .long x :: st) h bc bs := by
  subst hp
  intro p e s m args below meth c F H locs cells slots ls hP hs hL hc hsl hl
  refine lv_lshl F.1 F.2.1 d rfl ?_
  exact k p e s m args below meth c F H locs cells slots ls hP hs hL hc hsl hl

theorem r_lshr {x : Int64} {y : Int32} (pc' : Nat) (hp : pc + 1 = pc') (d : decode M.2.1 pc = .ok (.lshr, 1)) (k : zX g M mc ms Q pc' lv (.long (x >>> (y.toInt64 &&& 63)) :: st) h bc bs) : zX g M mc ms Q pc lv (.int y :: .long x :: st) h bc bs := by
  subst hp
  intro p e s m args below meth c F H locs cells slots ls hP hs hL hc hsl hl
  refine lv_lshr F.1 F.2.1 d rfl ?_
  exact k p e s m args below meth c F H locs cells slots ls hP hs hL hc hsl hl

theorem r_lushr {x : Int64} {y : Int32} (pc' : Nat) (hp : pc + 1 = pc') (d : decode M.2.1 pc = .ok (.lushr, 1)) (k : zX g M mc ms Q pc' lv (.long ((x.toUInt64 >>> (y.toInt64.toUInt64 &&& Int64.toUInt64 63)).toInt64) :: st) h bc bs) : zX g M mc ms Q pc lv (.int y :: .long x :: st) h bc bs := by
  subst hp
  intro p e s m args below meth c F H locs cells slots ls hP hs hL hc hsl hl
  refine lv_lushr F.1 F.2.1 d rfl ?_
  exact k p e s m args below meth c F H locs cells slots ls hP hs hL hc hsl hl

theorem r_i2l {a : Int} (ha : zR a) (pc' : Nat) (hp : pc + 1 = pc') (d : decode M.2.1 pc = .ok (.i2l, 1)) (k : zX g M mc ms Q pc' lv (.long (zL a) :: st) h bc bs) : zX g M mc ms Q pc lv (.int (zI a) :: st) h bc bs := by
  subst hp
  intro p e s m args below meth c F H locs cells slots ls hP hs hL hc hsl hl
  refine lv_i2l F.1 F.2.1 d (zI_toL ha) ?_
  exact k p e s m args below meth c F H locs cells slots ls hP hs hL hc hsl hl

theorem r_l2i {x : Int64} (pc' : Nat) (hp : pc + 1 = pc') (d : decode M.2.1 pc = .ok (.l2i, 1)) (k : zX g M mc ms Q pc' lv (.int x.toInt32 :: st) h bc bs) : zX g M mc ms Q pc lv (.long x :: st) h bc bs := by
  subst hp
  intro p e s m args below meth c F H locs cells slots ls hP hs hL hc hsl hl
  refine lv_l2i F.1 F.2.1 d rfl ?_
  exact k p e s m args below meth c F H locs cells slots ls hP hs hL hc hsl hl

theorem r_i2c {a : Int} (h0 : 0 ≤ a) (h1 : a < 65536) (pc' : Nat) (hp : pc + 1 = pc') (d : decode M.2.1 pc = .ok (.i2c, 1)) (k : zX g M mc ms Q pc' lv (.int (zI a) :: st) h bc bs) : zX g M mc ms Q pc lv (.int (zI a) :: st) h bc bs := by
  subst hp
  intro p e s m args below meth c F H locs cells slots ls hP hs hL hc hsl hl
  refine lv_i2c F.1 F.2.1 d (zI_char h0 h1) ?_
  exact k p e s m args below meth c F H locs cells slots ls hP hs hL hc hsl hl

theorem r_i2c_any {x : Int32} (pc' : Nat) (hp : pc + 1 = pc') (d : decode M.2.1 pc = .ok (.i2c, 1)) (k : zX g M mc ms Q pc' lv (.int ((x.toUInt32 % 65536).toInt32) :: st) h bc bs) : zX g M mc ms Q pc lv (.int x :: st) h bc bs := by
  subst hp
  intro p e s m args below meth c F H locs cells slots ls hP hs hL hc hsl hl
  refine lv_i2c F.1 F.2.1 d rfl ?_
  exact k p e s m args below meth c F H locs cells slots ls hP hs hL hc hsl hl

theorem r_lcmp_any {x y : Int64} (pc' : Nat) (hp : pc + 1 = pc') (d : decode M.2.1 pc = .ok (.lcmp, 1)) (k : zX g M mc ms Q pc' lv (.int (lg_cmp x y) :: st) h bc bs) : zX g M mc ms Q pc lv (.long y :: .long x :: st) h bc bs := by
  subst hp
  intro p e s m args below meth c F H locs cells slots ls hP hs hL hc hsl hl
  refine W.lcmp F.1 F.2.1 d  ?_
  exact k p e s m args below meth c F H locs cells slots ls hP hs hL hc hsl hl

theorem r_dup {v : Value} (hv : v.category = 1) (pc' : Nat) (hp : pc + 1 = pc') (d : decode M.2.1 pc = .ok (.dup, 1)) (k : zX g M mc ms Q pc' lv (v :: v :: st) h bc bs) : zX g M mc ms Q pc lv (v :: st) h bc bs := by
  subst hp
  intro p e s m args below meth c F H locs cells slots ls hP hs hL hc hsl hl
  refine lv_dup F.1 F.2.1 d hv ?_
  exact k p e s m args below meth c F H locs cells slots ls hP hs hL hc hsl hl

theorem r_pop {v : Value} (hv : v.category = 1) (pc' : Nat) (hp : pc + 1 = pc') (d : decode M.2.1 pc = .ok (.pop, 1)) (k : zX g M mc ms Q pc' lv (st) h bc bs) : zX g M mc ms Q pc lv (v :: st) h bc bs := by
  subst hp
  intro p e s m args below meth c F H locs cells slots ls hP hs hL hc hsl hl
  refine lv_pop F.1 F.2.1 d hv ?_
  exact k p e s m args below meth c F H locs cells slots ls hP hs hL hc hsl hl

theorem r_dup2 {v w : Value} (hv : v.category = 1) (hw : w.category = 1) (pc' : Nat) (hp : pc + 1 = pc') (d : decode M.2.1 pc = .ok (.dup2, 1)) (k : zX g M mc ms Q pc' lv (v :: w :: v :: w :: st) h bc bs) : zX g M mc ms Q pc lv (v :: w :: st) h bc bs := by
  subst hp
  intro p e s m args below meth c F H locs cells slots ls hP hs hL hc hsl hl
  refine lv_dup2_11 F.1 F.2.1 d hv hw ?_
  exact k p e s m args below meth c F H locs cells slots ls hP hs hL hc hsl hl

theorem r_top {x : Int32} (y : Int) (hy : x = zI y) (k : zX g M mc ms Q pc lv (.int (zI y) :: st) h bc bs) : zX g M mc ms Q pc lv (.int x :: st) h bc bs := by subst hy; exact k

theorem r_topl {x : Int64} (y : Int) (hy : x = zL y) (k : zX g M mc ms Q pc lv (.long (zL y) :: st) h bc bs) : zX g M mc ms Q pc lv (.long x :: st) h bc bs := by subst hy; exact k

theorem r_cut (tgt : Nat) (v : Int) (hk : zX g M mc ms Q tgt lv (.int (zI v) :: st) h bc bs) (hw : zX g M mc ms Q tgt lv (.int (zI v) :: st) h bc bs → zX g M mc ms Q pc lv st h bc bs) : zX g M mc ms Q pc lv st h bc bs := hw hk

theorem r_lv {lv2 : List (Option Value)} (hle : ∀ (i : Nat) (v : Value), lv2[i]? = some (some v) → lv[i]? = some (some v)) (k : zX g M mc ms Q pc lv2 st h bc bs) : zX g M mc ms Q pc lv st h bc bs := by
  intro p e s m args below meth c F H locs cells slots ls hP hs hL hc hsl hl
  exact k p e s m args below meth c F H locs cells slots ls hP hs hL hc hsl (hl.le hle)

theorem r_room {bc2 bs2 : Nat} (h1 : bc2 ≤ bc) (h2 : bs2 ≤ bs) (k : zX g M mc ms Q pc lv st h bc2 bs2) : zX g M mc ms Q pc lv st h bc bs := by
  intro p e s m args below meth c F H locs cells slots ls hP hs hL hc hsl hl
  exact k p e s m args below meth c F H locs cells slots ls hP hs hL (by omega) (by omega) hl

theorem r_ifeq {a : Int} (ha : zR a) (pc' : Nat) (hp : pc + 3 = pc') (tgt : Nat) {off : Int} (ht : (pc : Int) + off = (tgt : Int)) (d : decode M.2.1 pc = .ok (.ifCond .eq off, 3)) (kt : a = 0 → zX g M mc ms Q tgt lv st h bc bs) (kf : ¬ a = 0 → zX g M mc ms Q pc' lv st h bc bs) : zX g M mc ms Q pc lv (.int (zI a) :: st) h bc bs := by
  subst hp
  intro p e s m args below meth c F H locs cells slots ls hP hs hL hc hsl hl
  refine lv_if_eq F.1 F.2.1 d ht (fun q => ?_) (fun q => ?_)
  · exact kt (by simp only [ge_iff_le, gt_iff_lt, ne_eq, zI_0, zI_eq ha (b := 0) (by omega), zI_lt ha (b := 0) (by omega), zI_le ha (b := 0) (by omega), zI_lt (a := 0) (by omega) ha, zI_le (a := 0) (by omega) ha] at q; omega) p e s m args below meth c F H locs cells slots ls hP hs hL hc hsl hl
  · exact kf (by simp only [ge_iff_le, gt_iff_lt, ne_eq, zI_0, zI_eq ha (b := 0) (by omega), zI_lt ha (b := 0) (by omega), zI_le ha (b := 0) (by omega), zI_lt (a := 0) (by omega) ha, zI_le (a := 0) (by omega) ha] at q; omega) p e s m args below meth c F H locs cells slots ls hP hs hL hc hsl hl

theorem r_if_icmpeq {a b : Int} (ha : zR a) (hb : zR b) (pc' : Nat) (hp : pc + 3 = pc') (tgt : Nat) {off : Int} (ht : (pc : Int) + off = (tgt : Int)) (d : decode M.2.1 pc = .ok (.if_icmp .eq off, 3)) (kt : a = b → zX g M mc ms Q tgt lv st h bc bs) (kf : ¬ a = b → zX g M mc ms Q pc' lv st h bc bs) : zX g M mc ms Q pc lv (.int (zI b) :: .int (zI a) :: st) h bc bs := by
  subst hp
  intro p e s m args below meth c F H locs cells slots ls hP hs hL hc hsl hl
  refine lv_icmp_eq F.1 F.2.1 d ht (fun q => ?_) (fun q => ?_)
  · exact kt (by simp only [ge_iff_le, gt_iff_lt, ne_eq, zI_eq ha hb, zI_lt ha hb, zI_le ha hb, zI_lt hb ha, zI_le hb ha] at q; omega) p e s m args below meth c F H locs cells slots ls hP hs hL hc hsl hl
  · exact kf (by simp only [ge_iff_le, gt_iff_lt, ne_eq, zI_eq ha hb, zI_lt ha hb, zI_le ha hb, zI_lt hb ha, zI_le hb ha] at q; omega) p e s m args below meth c F H locs cells slots ls hP hs hL hc hsl hl

theorem r_ifne {a : Int} (ha : zR a) (pc' : Nat) (hp : pc + 3 = pc') (tgt : Nat) {off : Int} (ht : (pc : Int) + off = (tgt : Int)) (d : decode M.2.1 pc = .ok (.ifCond .ne off, 3)) (kt : ¬ a = 0 → zX g M mc ms Q tgt lv st h bc bs) (kf : a = 0 → zX g M mc ms Q pc' lv st h bc bs) : zX g M mc ms Q pc lv (.int (zI a) :: st) h bc bs := by
  subst hp
  intro p e s m args below meth c F H locs cells slots ls hP hs hL hc hsl hl
  refine lv_if_ne F.1 F.2.1 d ht (fun q => ?_) (fun q => ?_)
  · exact kt (by simp only [ge_iff_le, gt_iff_lt, ne_eq, zI_0, zI_eq ha (b := 0) (by omega), zI_lt ha (b := 0) (by omega), zI_le ha (b := 0) (by omega), zI_lt (a := 0) (by omega) ha, zI_le (a := 0) (by omega) ha] at q; omega) p e s m args below meth c F H locs cells slots ls hP hs hL hc hsl hl
  · exact kf (by simp only [ge_iff_le, gt_iff_lt, ne_eq, zI_0, zI_eq ha (b := 0) (by omega), zI_lt ha (b := 0) (by omega), zI_le ha (b := 0) (by omega), zI_lt (a := 0) (by omega) ha, zI_le (a := 0) (by omega) ha] at q; omega) p e s m args below meth c F H locs cells slots ls hP hs hL hc hsl hl

theorem r_if_icmpne {a b : Int} (ha : zR a) (hb : zR b) (pc' : Nat) (hp : pc + 3 = pc') (tgt : Nat) {off : Int} (ht : (pc : Int) + off = (tgt : Int)) (d : decode M.2.1 pc = .ok (.if_icmp .ne off, 3)) (kt : ¬ a = b → zX g M mc ms Q tgt lv st h bc bs) (kf : a = b → zX g M mc ms Q pc' lv st h bc bs) : zX g M mc ms Q pc lv (.int (zI b) :: .int (zI a) :: st) h bc bs := by
  subst hp
  intro p e s m args below meth c F H locs cells slots ls hP hs hL hc hsl hl
  refine lv_icmp_ne F.1 F.2.1 d ht (fun q => ?_) (fun q => ?_)
  · exact kt (by simp only [ge_iff_le, gt_iff_lt, ne_eq, zI_eq ha hb, zI_lt ha hb, zI_le ha hb, zI_lt hb ha, zI_le hb ha] at q; omega) p e s m args below meth c F H locs cells slots ls hP hs hL hc hsl hl
  · exact kf (by simp only [ge_iff_le, gt_iff_lt, ne_eq, zI_eq ha hb, zI_lt ha hb, zI_le ha hb, zI_lt hb ha, zI_le hb ha] at q; omega) p e s m args below meth c F H locs cells slots ls hP hs hL hc hsl hl

theorem r_iflt {a : Int} (ha : zR a) (pc' : Nat) (hp : pc + 3 = pc') (tgt : Nat) {off : Int} (ht : (pc : Int) + off = (tgt : Int)) (d : decode M.2.1 pc = .ok (.ifCond .lt off, 3)) (kt : a < 0 → zX g M mc ms Q tgt lv st h bc bs) (kf : 0 ≤ a → zX g M mc ms Q pc' lv st h bc bs) : zX g M mc ms Q pc lv (.int (zI a) :: st) h bc bs := by
  subst hp
  intro p e s m args below meth c F H locs cells slots ls hP hs hL hc hsl hl
  refine lv_if_lt F.1 F.2.1 d ht (fun q => ?_) (fun q => ?_)
  · exact kt (by simp only [ge_iff_le, gt_iff_lt, ne_eq, zI_0, zI_eq ha (b := 0) (by omega), zI_lt ha (b := 0) (by omega), zI_le ha (b := 0) (by omega), zI_lt (a := 0) (by omega) ha, zI_le (a := 0) (by omega) ha] at q; omega) p e s m args below meth c F H locs cells slots ls hP hs hL hc hsl hl
  · exact kf (by simp only [ge_iff_le, gt_iff_lt, ne_eq, zI_0, zI_eq ha (b := 0) (by omega), zI_lt ha (b := 0) (by omega), zI_le ha (b := 0) (by omega), zI_lt (a := 0) (by omega) ha, zI_le (a := 0) (by omega) ha] at q; omega) p e s m args below meth c F H locs cells slots ls hP hs hL hc hsl hl

theorem r_if_icmplt {a b : Int} (ha : zR a) (hb : zR b) (pc' : Nat) (hp : pc + 3 = pc') (tgt : Nat) {off : Int} (ht : (pc : Int) + off = (tgt : Int)) (d : decode M.2.1 pc = .ok (.if_icmp .lt off, 3)) (kt : a < b → zX g M mc ms Q tgt lv st h bc bs) (kf : b ≤ a → zX g M mc ms Q pc' lv st h bc bs) : zX g M mc ms Q pc lv (.int (zI b) :: .int (zI a) :: st) h bc bs := by
  subst hp
  intro p e s m args below meth c F H locs cells slots ls hP hs hL hc hsl hl
  refine lv_icmp_lt F.1 F.2.1 d ht (fun q => ?_) (fun q => ?_)
  · exact kt (by simp only [ge_iff_le, gt_iff_lt, ne_eq, zI_eq ha hb, zI_lt ha hb, zI_le ha hb, zI_lt hb ha, zI_le hb ha] at q; omega) p e s m args below meth c F H locs cells slots ls hP hs hL hc hsl hl
  · exact kf (by simp only [ge_iff_le, gt_iff_lt, ne_eq, zI_eq ha hb, zI_lt ha hb, zI_le ha hb, zI_lt hb ha, zI_le hb ha] at q; omega) p e s m args below meth c F H locs cells slots ls hP hs hL hc hsl hl

theorem r_ifge {a : Int} (ha : zR a) (pc' : Nat) (hp : pc + 3 = pc') (tgt : Nat) {off : Int} (ht : (pc : Int) + off = (tgt : Int)) (d : decode M.2.1 pc = .ok (.ifCond .ge off, 3)) (kt : 0 ≤ a → zX g M mc ms Q tgt lv st h bc bs) (kf : a < 0 → zX g M mc ms Q pc' lv st h bc bs) : zX g M mc ms Q pc lv (.int (zI a) :: st) h bc bs := by
  subst hp
  intro p e s m args below meth c F H locs cells slots ls hP hs hL hc hsl hl
  refine lv_if_ge F.1 F.2.1 d ht (fun q => ?_) (fun q => ?_)
  · exact kt (by simp only [ge_iff_le, gt_iff_lt, ne_eq, zI_0, zI_eq ha (b := 0) (by omega), zI_lt ha (b := 0) (by omega), zI_le ha (b := 0) (by omega), zI_lt (a := 0) (by omega) ha, zI_le (a := 0) (by omega) ha] at q; omega) p e s m args below meth c F H locs cells slots ls hP hs hL hc hsl hl
  · exact kf (by simp only [ge_iff_le, gt_iff_lt, ne_eq, zI_0, zI_eq ha (b := 0) (by omega), zI_lt ha (b := 0) (by omega), zI_le ha (b := 0) (by omega), zI_lt (a := 0) (by omega) ha, zI_le (a := 0) (by omega) ha] at q; omega) p e s m args below meth c F H locs cells slots ls hP hs hL hc hsl hl

theorem r_if_icmpge {a b : Int} (ha : zR a) (hb : zR b) (pc' : Nat) (hp : pc + 3 = pc') (tgt : Nat) {off : Int} (ht : (pc : Int) + off = (tgt : Int)) (d : decode M.2.1 pc = .ok (.if_icmp .ge off, 3)) (kt : b ≤ a → zX g M mc ms Q tgt lv st h bc bs) (kf : a < b → zX g M mc ms Q pc' lv st h bc bs) : zX g M mc ms Q pc lv (.int (zI b) :: .int (zI a) :: st) h bc bs := by
  subst hp
  intro p e s m args below meth c F H locs cells slots ls hP hs hL hc hsl hl
  refine lv_icmp_ge F.1 F.2.1 d ht (fun q => ?_) (fun q => ?_)
  · exact kt (by simp only [ge_iff_le, gt_iff_lt, ne_eq, zI_eq ha hb, zI_lt ha hb, zI_le ha hb, zI_lt hb ha, zI_le hb ha] at q; omega) p e s m args below meth c F H locs cells slots ls hP hs hL hc hsl hl
  · exact kf (by simp only [ge_iff_le, gt_iff_lt, ne_eq, zI_eq ha hb, zI_lt ha hb, zI_le ha hb, zI_lt hb ha, zI_le hb ha] at q; omega) p e s m args below meth c F H locs cells slots ls hP hs hL hc hsl hl

theorem r_ifgt {a : Int} (ha : zR a) (pc' : Nat) (hp : pc + 3 = pc') (tgt : Nat) {off : Int} (ht : (pc : Int) + off = (tgt : Int)) (d : decode M.2.1 pc = .ok (.ifCond .gt off, 3)) (kt : 0 < a → zX g M mc ms Q tgt lv st h bc bs) (kf : a ≤ 0 → zX g M mc ms Q pc' lv st h bc bs) : zX g M mc ms Q pc lv (.int (zI a) :: st) h bc bs := by
  subst hp
  intro p e s m args below meth c F H locs cells slots ls hP hs hL hc hsl hl
  refine lv_if_gt F.1 F.2.1 d ht (fun q => ?_) (fun q => ?_)
  · exact kt (by simp only [ge_iff_le, gt_iff_lt, ne_eq, zI_0, zI_eq ha (b := 0) (by omega), zI_lt ha (b := 0) (by omega), zI_le ha (b := 0) (by omega), zI_lt (a := 0) (by omega) ha, zI_le (a := 0) (by omega) ha] at q; omega) p e s m args below meth c F H locs cells slots ls hP hs hL hc hsl hl
  · exact kf (by simp only [ge_iff_le, gt_iff_lt, ne_eq, zI_0, zI_eq ha (b := 0) (by omega), zI_lt ha (b := 0) (by omega), zI_le ha (b := 0) (by omega), zI_lt (a := 0) (by omega) ha, zI_le (a := 0) (by omega) ha] at q; omega) p e s m args below meth c F H locs cells slots ls hP hs hL hc hsl hl

theorem r_if_icmpgt {a b : Int} (ha : zR a) (hb : zR b) (pc' : Nat) (hp : pc + 3 = pc') (tgt : Nat) {off : Int} (ht : (pc : Int) + off = (tgt : Int)) (d : decode M.2.1 pc = .ok (.if_icmp .gt off, 3)) (kt : b < a → zX g M mc ms Q tgt lv st h bc bs) (kf : a ≤ b → zX g M mc ms Q pc' lv st h bc bs) : zX g M mc ms Q pc lv (.int (zI b) :: .int (zI a) :: st) h bc bs := by
  subst hp
  intro p e s m args below meth c F H locs cells slots ls hP hs hL hc hsl hl
  refine lv_icmp_gt F.1 F.2.1 d ht (fun q => ?_) (fun q => ?_)
  · exact kt (by simp only [ge_iff_le, gt_iff_lt, ne_eq, zI_eq ha hb, zI_lt ha hb, zI_le ha hb, zI_lt hb ha, zI_le hb ha] at q; omega) p e s m args below meth c F H locs cells slots ls hP hs hL hc hsl hl
  · exact kf (by simp only [ge_iff_le, gt_iff_lt, ne_eq, zI_eq ha hb, zI_lt ha hb, zI_le ha hb, zI_lt hb ha, zI_le hb ha] at q; omega) p e s m args below meth c F H locs cells slots ls hP hs hL hc hsl hl

theorem r_ifle {a : Int} (ha : zR a) (pc' : Nat) (hp : pc + 3 = pc') (tgt : Nat) {off : Int} (ht : (pc : Int) + off = (tgt : Int)) (d : decode M.2.1 pc = .ok (.ifCond .le off, 3)) (kt : a ≤ 0 → zX g M mc ms Q tgt lv st h bc bs) (kf : 0 < a → zX g M mc ms Q pc' lv st h bc bs) : zX g M mc ms Q pc lv (.int (zI a) :: st) h bc bs := by
  subst hp
  intro p e s m args below meth c F H locs cells slots ls hP hs hL hc hsl hl
  refine lv_if_le F.1 F.2.1 d ht (fun q => ?_) (fun q => ?_)
  · exact kt (by simp only [ge_iff_le, gt_iff_lt, ne_eq, zI_0, zI_eq ha (b := 0) (by omega), zI_lt ha (b := 0) (by omega), zI_le ha (b := 0) (by omega), zI_lt (a := 0) (by omega) ha, zI_le (a := 0) (by omega) ha] at q; omega) p e s m args below meth c F H locs cells slots ls hP hs hL hc hsl hl
  · exact kf (by simp only [ge_iff_le, gt_iff_lt, ne_eq, zI_0, zI_eq ha (b := 0) (by omega), zI_lt ha (b := 0) (by omega), zI_le ha (b := 0) (by omega), zI_lt (a := 0) (by omega) ha, zI_le (a := 0) (by omega) ha] at q; omega) p e s m args below meth c F H locs cells slots ls hP hs hL hc hsl hl

theorem r_if_icmple {a b : Int} (ha : zR a) (hb : zR b) (pc' : Nat) (hp : pc + 3 = pc') (tgt : Nat) {off : Int} (ht : (pc : Int) + off = (tgt : Int)) (d : decode M.2.1 pc = .ok (.if_icmp .le off, 3)) (kt : a ≤ b → zX g M mc ms Q tgt lv st h bc bs) (kf : b < a → zX g M mc ms Q pc' lv st h bc bs) : zX g M mc ms Q pc lv (.int (zI b) :: .int (zI a) :: st) h bc bs := by
  subst hp
  intro p e s m args below meth c F H locs cells slots ls hP hs hL hc hsl hl
  refine lv_icmp_le F.1 F.2.1 d ht (fun q => ?_) (fun q => ?_)
  · exact kt (by simp only [ge_iff_le, gt_iff_lt, ne_eq, zI_eq ha hb, zI_lt ha hb, zI_le ha hb, zI_lt hb ha, zI_le hb ha] at q; omega) p e s m args below meth c F H locs cells slots ls hP hs hL hc hsl hl
  · exact kf (by simp only [ge_iff_le, gt_iff_lt, ne_eq, zI_eq ha hb, zI_lt ha hb, zI_le ha hb, zI_lt hb ha, zI_le hb ha] at q; omega) p e s m args below meth c F H locs cells slots ls hP hs hL hc hsl hl

theorem r_goto (tgt : Nat) {off : Int} (ht : (pc : Int) + off = (tgt : Int)) (d : decode M.2.1 pc = .ok (.goto off, 3)) (k : zX g M mc ms Q tgt lv st h bc bs) : zX g M mc ms Q pc lv st h bc bs := by
  intro p e s m args below meth c F H locs cells slots ls hP hs hL hc hsl hl
  exact lv_goto F.1 F.2.1 d ht (k p e s m args below meth c F H locs cells slots ls hP hs hL hc hsl hl)

theorem r_ifnonnull {x : Nat} (tgt : Nat) {off : Int} (ht : (pc : Int) + off = (tgt : Int)) (d : decode M.2.1 pc = .ok (.ifnonnull off, 3)) (k : zX g M mc ms Q tgt lv st h bc bs) : zX g M mc ms Q pc lv (.ref x :: st) h bc bs := by
  intro p e s m args below meth c F H locs cells slots ls hP hs hL hc hsl hl
  exact lv_ifnonnull F.1 F.2.1 d ht (k p e s m args below meth c F H locs cells slots ls hP hs hL hc hsl hl)

theorem r_ifnull {x : Nat} (pc' : Nat) (hp : pc + 3 = pc') {off : Int} (d : decode M.2.1 pc = .ok (.ifnull off, 3)) (k : zX g M mc ms Q pc' lv st h bc bs) : zX g M mc ms Q pc lv (.ref x :: st) h bc bs := by
  subst hp
  intro p e s m args below meth c F H locs cells slots ls hP hs hL hc hsl hl
  exact lv_ifnull F.1 F.2.1 d (k p e s m args below meth c F H locs cells slots ls hP hs hL hc hsl hl)

theorem r_ifnullN (tgt : Nat) {off : Int} (ht : (pc : Int) + off = (tgt : Int)) (d : decode M.2.1 pc = .ok (.ifnull off, 3)) (k : zX g M mc ms Q tgt lv st h bc bs) : zX g M mc ms Q pc lv (.null :: st) h bc bs := by
  intro p e s m args below meth c F H locs cells slots ls hP hs hL hc hsl hl
  exact lv_ifnullN F.1 F.2.1 d ht (k p e s m args below meth c F H locs cells slots ls hP hs hL hc hsl hl)

theorem r_null (pc' : Nat) (hp : pc + 1 = pc') (d : decode M.2.1 pc = .ok (.aconst_null, 1)) (k : zX g M mc ms Q pc' lv (.null :: st) h bc bs) : zX g M mc ms Q pc lv st h bc bs := by
  subst hp
  intro p e s m args below meth c F H locs cells slots ls hP hs hL hc hsl hl
  exact lv_null F.1 F.2.1 d (k p e s m args below meth c F H locs cells slots ls hP hs hL hc hsl hl)

end Rows
