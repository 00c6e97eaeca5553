/-- the places of the array b replaced -/
def sca (h : zH) (b : Nat) (f : Nat → Int) : zH := (h.1, h.2.1, h.2.2.1, h.2.2.2.1, h.2.2.2.2.1, (fun x j => if x = b then f j else h.2.2.2.2.2.1 x j), h.2.2.2.2.2.2)
def scr (h : zH) (b : Nat) (f : Nat → Option Nat) : zH := (h.1, h.2.1, h.2.2.1, h.2.2.2.1, h.2.2.2.2.1, h.2.2.2.2.2.1, h.2.2.2.2.2.2.1, (fun x j => if x = b then f j else h.2.2.2.2.2.2.2 x j))
theorem z_ent_sca {dA : Nat → ClassId} {h : zH} {a : Nat} {f : Nat → Int} {b : Nat} (hb : b ≠ a) : z_ent dA (sca h a f) b = z_ent dA h b :=
  z_ent_congr rfl rfl (fun j => rfl) (fun j => rfl) (fun j => rfl) (fun j => if_neg hb) (fun j => rfl) (fun j => rfl)
theorem z_ent_scr {dA : Nat → ClassId} {h : zH} {a : Nat} {f : Nat → Option Nat} {b : Nat} (hb : b ≠ a) : z_ent dA (scr h a f) b = z_ent dA h b :=
  z_ent_congr rfl rfl (fun j => rfl) (fun j => rfl) (fun j => rfl) (fun j => rfl) (fun j => rfl) (fun j => if_neg hb)
theorem agree_sca {P : Nat → Prop} {h : zH} {a : Nat} {f : Nat → Int} (ha : P a) : z_agree P h (sca h a f) := fun b hb _ => ⟨rfl, rfl, fun _ => rfl, fun _ => rfl, fun _ => rfl, fun j => if_neg (fun q => hb (by rw [q]; exact ha)), fun _ => rfl, fun _ => rfl⟩
theorem agree_scr {P : Nat → Prop} {h : zH} {a : Nat} {f : Nat → Option Nat} (ha : P a) : z_agree P h (scr h a f) := fun b hb _ => ⟨rfl, rfl, fun _ => rfl, fun _ => rfl, fun _ => rfl, fun _ => rfl, fun _ => rfl, fun j => if_neg (fun q => hb (by rw [q]; exact ha))⟩
theorem wn_copy : Cond.native arraycopyName ∈ lw_tbl := tb_2 209 _ rfl
theorem ws_copy : Cond.static arraycopyName ∈ lw_tbl := tb_2 208 _ rfl
theorem w0_copy : Cond.initialized "java/lang/System" ∈ lw_tbl := tb_1 22 _ rfl
section Copy
variable {g : zGT} {M : zM} {mc ms : Nat} {Q : zO → zH → Prop} {pc : Nat} {lv : List (Option Value)} {st : List Value} {h : zH} {bc bs : Nat}
theorem r_copyi {a b idx : Nat} {sp dp n : Int} (hg : zG g) (hka : kd_ h a = 20) (hkb : kd_ h b = 20) (hlink : Cond.methodLink M.1 idx arraycopyName ∈ lw_tbl) (h1 : 0 ≤ sp) (h2 : 0 ≤ dp) (h3 : 0 ≤ n) (q1 : sp ≤ 2147483647) (q2 : dp ≤ 2147483647) (q3 : n ≤ 2147483647) (h4 : sp + n ≤ ln_ h a) (h5 : dp + n ≤ ln_ h b) (hlv : 1 ≤ M.2.2.2.2.2.2) (hroom : (st.map fun v => v.category).sum ≤ 8) (pc' : Nat) (hp : pc + 3 = pc') (d : decode M.2.1 pc = .ok (.invokestatic idx, 3)) (k : zX g M mc ms Q pc' lv st (sca h b (va_cpy (ai_ h a) (ai_ h b) sp.toNat dp.toNat n.toNat)) bc bs) : zX g M mc ms Q pc lv (.int (zI n) :: .int (zI dp) :: .ref b :: .int (zI sp) :: .ref a :: st) h bc bs := by
  subst hp
  intro p e s m args below meth c F H locs cells slots ls hP hs hL hc hsl hl
  have ha0 : (gS_ g).heap.size ≤ b := hP.real hkb (by decide) (by decide) (by decide) (by decide)
  have hc0 : H[a]? = some (vp_cell (gA_ g 20) (ln_ h a, .inl fun j => zI (ai_ h a j))) := hP.arr hka (by decide) (by decide) 0 _ rfl
  have hc1 : H[b]? = some (vp_cell (gA_ g 20) (ln_ h b, .inl fun j => zI (ai_ h b j))) := hP.arr hkb (by decide) (by decide) 0 _ rfl
  have hKa := zKa hg F (k := 20) (by decide) (by decide)
  have nn : ∀ z : Int, 0 ≤ z → z ≤ 2147483647 → (zI z).toInt = z := fun z g1 g2 => zI_toInt (by omega)
  have nc : ∀ z : Int, 0 ≤ z → z ≤ 2147483647 → (zI z).toNatClampNeg = z.toNat := fun z g1 g2 => zI_clamp g1 g2
  intro T hT X
  obtain ⟨-, k0, hk0, cm0, hkk0⟩ := (hKa.2 0 _ rfl).1 (ln_ h a) (fun j => .int (zI (ai_ h a j)))
  obtain ⟨-, k1, hk1, cm1, hkk1⟩ := (hKa.2 0 _ rfl).1 (ln_ h b) (fun j => .int (zI (ai_ h b j)))
  obtain ⟨vm', X', step⟩ := X.arraycopy F.1 F.2.2.2.2.1 (zw hg F hlink rfl) (zw hg F wn_copy rfl) (zw hg F ws_copy rfl) (zw hg F w0_copy rfl) (src := a) (dst := b) (cs := vp_cell (gA_ g 20) (ln_ h a, .inl fun j => zI (ai_ h a j))) (cd := vp_cell (gA_ g 20) (ln_ h b, .inl fun j => zI (ai_ h b j))) (srcPos := zI sp) (destPos := zI dp) (n := zI n) (by rw [hT]; exact hc0) (by rw [hT]; exact hc1)
    (fun _ h => by cases h) (fun _ h => by cases h) (fun h => by cases h) (fun h => by cases h) hk0 hk1 hkk0 hkk1 (by simp [z_aty, refKind]) (zI_nonneg (i := sp) (by omega) h1) (zI_nonneg (i := dp) (by omega) h2) (zI_nonneg (i := n) (by omega) h3)
    (by rw [nn sp h1 q1, nn n h3 q3]; show ¬ _ > ((arrV _ (ln_ h a) _).slots.size : Int); rw [arrV_size]; omega)
    (by rw [nn dp h2 q2, nn n h3 q3]; show ¬ _ > ((arrV _ (ln_ h b) _).slots.size : Int); rw [arrV_size]; omega)
    (fun vm₁ _ i hi => by
      rw [nc n h3 q3] at hi
      rw [nc sp h1 q1]
      have e : (vp_cell (gA_ g 20) (ln_ h a, .inl fun j => zI (ai_ h a j))).slots.getD (sp.toNat + i) .null = .int (zI (ai_ h a (sp.toNat + i))) := by
        show (arrV _ (ln_ h a) (fun j => .int (zI (ai_ h a j)))).slots.getD _ _ = _
        rw [Array.getD_eq_getD_getElem?, arrV_read _ _ (by omega)]
        rfl
      refine ⟨?_, ?_⟩
      · rw [e]; rfl
      · rw [e]; exact trivial)
    (g := F0 m pc ls (.int (zI n) :: .int (zI dp) :: .ref b :: .int (zI sp) :: .ref a :: st)) rfl (by rw [F.2.2.1]; exact hl.1) (rest := st) rfl (by rw [F.2.1]; exact d) (show 1 ≤ M.2.2.2.2.2.2 from hlv) (by have hw : nativeFrameWords "java/lang/System" "arraycopy" 5 ≤ 20 := (by decide); show 2 * 0 + _ + _ ≤ 200 * M.2.2.2.2.2.2; omega)
  have e1 : copied (vp_cell (gA_ g 20) (ln_ h a, .inl fun j => zI (ai_ h a j))) (vp_cell (gA_ g 20) (ln_ h b, .inl fun j => zI (ai_ h b j))) (zI sp) (zI dp) (zI n) = vp_cell (gA_ g 20) (ln_ h b, .inl (va_cpy (fun j => zI (ai_ h a j)) (fun j => zI (ai_ h b j)) sp.toNat dp.toNat n.toNat)) := by
    have := va_copied (fun z => .int z) (gA_ g 20) (gA_ g 20) (n0 := ln_ h a) (n1 := ln_ h b) (sp := sp.toNat) (dp := dp.toNat) (n := n.toNat) (fun j => zI (ai_ h a j)) (fun j => zI (ai_ h b j)) (by omega)
    unfold copied
    rw [nc sp h1 q1, nc dp h2 q2, nc n h3 q3]
    exact this
  rw [e1] at X' step
  have hlb : b < H.size := (Array.getElem?_eq_some_iff.mp hc1).1
  generalize hcell : vp_cell (gA_ g 20) (ln_ h b, .inl (va_cpy (fun j => zI (ai_ h a j)) (fun j => zI (ai_ h b j)) sp.toNat dp.toNat n.toNat)) = cell at X' step
  have hheap : ((T.setVm vm').setCell b cell).heap = H.setIfInBounds b cell := by rw [← hT]; rfl
  have oq : ∀ q : Nat, q ≠ b → (H.setIfInBounds b cell)[q]? = H[q]? := fun q hq => by simp [Array.getElem?_setIfInBounds, Ne.symm hq]
  have hP1 : zP g (sca h b (va_cpy (ai_ h a) (ai_ h b) sp.toNat dp.toNat n.toNat)) (H.setIfInBounds b cell) := by
    refine hP.put ha0 (by simp) oq (fun x hx => z_ent_sca hx) rfl rfl (fun e9 he => ?_)
    rw [z_at_arr (k := 20) (by exact hkb) (by decide) (by decide)] at he
    cases he
    show (H.setIfInBounds b cell)[b]? = some (vp_cell _ _)
    rw [← hcell]
    simp only [Array.getElem?_setIfInBounds, hlb, if_true]
    have eF : va_cpy (fun j => zI (ai_ h a j)) (fun j => zI (ai_ h b j)) sp.toNat dp.toNat n.toNat = fun j => zI (ai_ (sca h b (va_cpy (ai_ h a) (ai_ h b) sp.toNat dp.toNat n.toNat)) b j) := by
      funext j
      show _ = zI (if b = b then va_cpy (ai_ h a) (ai_ h b) sp.toNat dp.toNat n.toNat j else _)
      rw [if_pos rfl]
      unfold va_cpy
      split <;> rfl
    rw [eF]
    rfl
  obtain ⟨t, a1, b1⟩ := k p e s m args below meth c F (H.setIfInBounds b cell) _ cells slots ls hP1 (by simp; exact hs) (fun q hq => by
      rcases List.mem_append.mp hq with h | h
      · exact hL q h
      · obtain ⟨z, -, hz⟩ := List.mem_map.mp h
        rw [← hz]
        exact ha0) hc hsl hl _ hheap X'
  exact ⟨t, step t a1, b1⟩
theorem r_copyq {a b idx ci : Nat} {C : String} {T0 : u_T} {N : Nat} {ty : Nat → FieldType} {sp dp n : Int} (hg : zG g) (zc : z_cls ci C T0 N ty) (hca : Cond.castable C "java/lang/Object" ∈ lw_tbl) (hka : kd_ h a = 25) (hkb : kd_ h b = 25) (hel : ∀ i, i < n.toNat → ∀ y, ar_ h a (sp.toNat + i) = some y → kd_ h y = ci + 1) (hlink : Cond.methodLink M.1 idx arraycopyName ∈ lw_tbl) (h1 : 0 ≤ sp) (h2 : 0 ≤ dp) (h3 : 0 ≤ n) (q1 : sp ≤ 2147483647) (q2 : dp ≤ 2147483647) (q3 : n ≤ 2147483647) (h4 : sp + n ≤ ln_ h a) (h5 : dp + n ≤ ln_ h b) (hlv : 1 ≤ M.2.2.2.2.2.2) (hroom : (st.map fun v => v.category).sum ≤ 8) (pc' : Nat) (hp : pc + 3 = pc') (d : decode M.2.1 pc = .ok (.invokestatic idx, 3)) (k : zX g M mc ms Q pc' lv st (scr h b (va_cpy (ar_ h a) (ar_ h b) sp.toNat dp.toNat n.toNat)) bc bs) : zX g M mc ms Q pc lv (.int (zI n) :: .int (zI dp) :: .ref b :: .int (zI sp) :: .ref a :: st) h bc bs := by
  subst hp
  intro p e s m args below meth c F H locs cells slots ls hP hs hL hc hsl hl
  have ha0 : (gS_ g).heap.size ≤ b := hP.real hkb (by decide) (by decide) (by decide) (by decide)
  have hc0 : H[a]? = some (vp_cell (gA_ g 25) (ln_ h a, .inr (.inr (.inr (.inr fun j => ar_ h a j))))) := hP.arr hka (by decide) (by decide) 0 _ rfl
  have hc1 : H[b]? = some (vp_cell (gA_ g 25) (ln_ h b, .inr (.inr (.inr (.inr fun j => ar_ h b j))))) := hP.arr hkb (by decide) (by decide) 0 _ rfl
  have hKa := zKa hg F (k := 25) (by decide) (by decide)
  have nn : ∀ z : Int, 0 ≤ z → z ≤ 2147483647 → (zI z).toInt = z := fun z g1 g2 => zI_toInt (by omega)
  have nc : ∀ z : Int, 0 ≤ z → z ≤ 2147483647 → (zI z).toNatClampNeg = z.toNat := fun z g1 g2 => zI_clamp g1 g2
  obtain ⟨z1, z2, z3, z4, z5, z6, z7⟩ := zc
  intro T hT X
  obtain ⟨-, k0, hk0, cm0, hkk0⟩ := (hKa.2 0 _ rfl).1 (ln_ h a) (fun j => va_rf (ar_ h a j))
  obtain ⟨-, k1, hk1, cm1, hkk1⟩ := (hKa.2 0 _ rfl).1 (ln_ h b) (fun j => va_rf (ar_ h b j))
  obtain ⟨vm', X', step⟩ := X.arraycopy F.1 F.2.2.2.2.1 (zw hg F hlink rfl) (zw hg F wn_copy rfl) (zw hg F ws_copy rfl) (zw hg F w0_copy rfl) (src := a) (dst := b) (cs := vp_cell (gA_ g 25) (ln_ h a, .inr (.inr (.inr (.inr fun j => ar_ h a j))))) (cd := vp_cell (gA_ g 25) (ln_ h b, .inr (.inr (.inr (.inr fun j => ar_ h b j))))) (srcPos := zI sp) (destPos := zI dp) (n := zI n) (by rw [hT]; exact hc0) (by rw [hT]; exact hc1)
    (fun _ h => by cases h) (fun _ h => by cases h) (fun h => by cases h) (fun h => by cases h) hk0 hk1 hkk0 hkk1 rfl (zI_nonneg (i := sp) (by omega) h1) (zI_nonneg (i := dp) (by omega) h2) (zI_nonneg (i := n) (by omega) h3)
    (by rw [nn sp h1 q1, nn n h3 q3]; show ¬ _ > ((arrV _ (ln_ h a) _).slots.size : Int); rw [arrV_size]; omega)
    (by rw [nn dp h2 q2, nn n h3 q3]; show ¬ _ > ((arrV _ (ln_ h b) _).slots.size : Int); rw [arrV_size]; omega)
    (fun vm₁ hal i hi => by
      rw [nc n h3 q3] at hi
      rw [nc sp h1 q1]
      have e : (vp_cell (gA_ g 25) (ln_ h a, .inr (.inr (.inr (.inr fun j => ar_ h a j))))).slots.getD (sp.toNat + i) .null = va_rf (ar_ h a (sp.toNat + i)) := by
        show (arrV _ (ln_ h a) (fun j => va_rf (ar_ h a j))).slots.getD _ _ = _
        rw [Array.getD_eq_getD_getElem?, arrV_read _ _ (by omega)]
        rfl
      rw [e]
      cases hy : ar_ h a (sp.toNat + i) with
      | none => exact ⟨rfl, trivial⟩
      | some y =>
        obtain ⟨cellV, g1, g2, g3⟩ := va_recv (zK hg F) (hP.obj (hel i hi y hy) z7) z1 (q0 := 0) rfl
        obtain ⟨kA, comp, r1, r2, r3, -⟩ := (hKa.2 0 _ rfl).2
        cases hk1.symm.trans r1
        cases hkk1.symm.trans r2
        obtain ⟨c0, t1, f1, f2, f3⟩ := Cond.castable_spec (zw2 hg F (args := args) hca rfl)
        obtain ⟨kC, hkC, -⟩ := Vm.findClass_spec g3
        obtain ⟨kE, hkE, -⟩ := Vm.findClass_spec r3
        obtain ⟨kC', hkC', -⟩ := hal.2.2 _ _ hkC
        obtain ⟨kE', hkE', -⟩ := hal.2.2 _ _ hkE
        refine ⟨rfl, cellV, (show T.heap[y]? = some cellV by rw [hT]; exact g1), (fun q h => by rw [h] at g2; cases g2), ⟨kC', hkC'⟩, ?_, ?_⟩
        · exact ⟨kE', hkE'⟩
        · show vm₁.assignable _ _ = true
          rw [hal.assignable]
          cases g3.symm.trans f1
          cases r3.symm.trans f2
          exact f3)
    (g := F0 m pc ls (.int (zI n) :: .int (zI dp) :: .ref b :: .int (zI sp) :: .ref a :: st)) rfl (by rw [F.2.2.1]; exact hl.1) (rest := st) rfl (by rw [F.2.1]; exact d) (show 1 ≤ M.2.2.2.2.2.2 from hlv) (by have hw : nativeFrameWords "java/lang/System" "arraycopy" 5 ≤ 20 := (by decide); show 2 * 0 + _ + _ ≤ 200 * M.2.2.2.2.2.2; omega)
  have e1 : copied (vp_cell (gA_ g 25) (ln_ h a, .inr (.inr (.inr (.inr fun j => ar_ h a j))))) (vp_cell (gA_ g 25) (ln_ h b, .inr (.inr (.inr (.inr fun j => ar_ h b j))))) (zI sp) (zI dp) (zI n) = vp_cell (gA_ g 25) (ln_ h b, .inr (.inr (.inr (.inr (va_cpy (fun j => ar_ h a j) (fun j => ar_ h b j) sp.toNat dp.toNat n.toNat))))) := by
    have := va_copied va_rf (gA_ g 25) (gA_ g 25) (n0 := ln_ h a) (n1 := ln_ h b) (sp := sp.toNat) (dp := dp.toNat) (n := n.toNat) (fun j => ar_ h a j) (fun j => ar_ h b j) (by omega)
    unfold copied
    rw [nc sp h1 q1, nc dp h2 q2, nc n h3 q3]
    exact this
  rw [e1] at X' step
  have hlb : b < H.size := (Array.getElem?_eq_some_iff.mp hc1).1
  generalize hcell : vp_cell (gA_ g 25) (ln_ h b, .inr (.inr (.inr (.inr (va_cpy (fun j => ar_ h a j) (fun j => ar_ h b j) sp.toNat dp.toNat n.toNat))))) = cell at X' step
  have hheap : ((T.setVm vm').setCell b cell).heap = H.setIfInBounds b cell := by rw [← hT]; rfl
  have oq : ∀ q : Nat, q ≠ b → (H.setIfInBounds b cell)[q]? = H[q]? := fun q hq => by simp [Array.getElem?_setIfInBounds, Ne.symm hq]
  have hP1 : zP g (scr h b (va_cpy (ar_ h a) (ar_ h b) sp.toNat dp.toNat n.toNat)) (H.setIfInBounds b cell) := by
    refine hP.put ha0 (by simp) oq (fun x hx => z_ent_scr hx) rfl rfl (fun e9 he => ?_)
    rw [z_at_arr (k := 25) (by exact hkb) (by decide) (by decide)] at he
    cases he
    show (H.setIfInBounds b cell)[b]? = some (vp_cell _ _)
    rw [← hcell]
    simp only [Array.getElem?_setIfInBounds, hlb, if_true]
    have eF : va_cpy (fun j => ar_ h a j) (fun j => ar_ h b j) sp.toNat dp.toNat n.toNat = fun j => ar_ (scr h b (va_cpy (ar_ h a) (ar_ h b) sp.toNat dp.toNat n.toNat)) b j := by
      funext j
      show _ = (if b = b then va_cpy (ar_ h a) (ar_ h b) sp.toNat dp.toNat n.toNat j else _)
      rw [if_pos rfl]
    exact congrArg (fun F : Nat → Option Nat => (some (vp_cell (gA_ g 25) (ln_ h b, .inr (.inr (.inr (.inr F)))))) ) eF
  obtain ⟨t, a1, b1⟩ := k p e s m args below meth c F (H.setIfInBounds b cell) _ cells slots ls hP1 (by simp; exact hs) (fun q hq => by
      rcases List.mem_append.mp hq with h | h
      · exact hL q h
      · obtain ⟨z, -, hz⟩ := List.mem_map.mp h
        rw [← hz]
        exact ha0) hc hsl hl _ hheap X'
  exact ⟨t, step t a1, b1⟩
end Copy
