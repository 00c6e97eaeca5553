section Law31
variable {g : zGT} {M : zM} {mc ms : Nat} {Q : zO → zH → Prop} {pc : Nat} {lv : List (Option Value)} {st : List Value} {h : zH} {bc bs : Nat}
def zshr (a k : Int) : Int := (zI a >>> (zI k &&& 31)).toInt
def zand (a b : Int) : Int := (zI a &&& zI b).toInt
theorem zshr_R (a k : Int) : zR (zshr a k) := zR_self _
theorem zand_R (a k : Int) : zR (zand a k) := zR_self _
theorem r_ishr {a k : Int} (pc' : Nat) (hp : pc + 1 = pc') (d : decode M.2.1 pc = .ok (.ishr, 1)) (kk : zX g M mc ms Q pc' lv (.int (zI (zshr a k)) :: st) h bc bs) : zX g M mc ms Q pc lv (.int (zI k) :: .int (zI a) :: st) h bc bs := by
  subst hp
  intro p e s m args below meth c F H locs cells slots ls hP hs hL hc hsl hl
  refine lv_ishr F.1 F.2.1 d ?_
  unfold zshr at kk
  rw [zI_self] at kk
  exact kk p e s m args below meth c F H locs cells slots ls hP hs hL hc hsl hl
theorem r_iandz {a b : Int} (pc' : Nat) (hp : pc + 1 = pc') (d : decode M.2.1 pc = .ok (.iand, 1)) (kk : zX g M mc ms Q pc' lv (.int (zI (zand a b)) :: st) h bc bs) : zX g M mc ms Q pc lv (.int (zI b) :: .int (zI a) :: st) h bc bs := by
  refine r_iand pc' hp d ?_
  unfold zand at kk
  rw [zI_self] at kk
  exact kk
theorem z31b (a : Int) : 0 ≤ zand a 2147483647 := by
  unfold zand
  have h : (zI a &&& zI 2147483647).toBitVec.toNat ≤ 2147483647 := by
    rw [Int32.toBitVec_and, BitVec.toNat_and]
    exact Nat.and_le_right
  show 0 ≤ (zI a &&& zI 2147483647).toBitVec.toInt
  rw [BitVec.toInt_eq_toNat_cond]
  split <;> omega
def zlow (a n : Int) : Int := zand a 2147483647 % n
theorem zlow_range {a n : Int} (hn : 0 < n) : 0 ≤ zlow a n ∧ zlow a n < n := ⟨Int.emod_nonneg _ (by omega), Int.emod_lt_of_pos _ hn⟩
/-- law's script: a row of L ints, below the start's size -/
def zLA (g : zGT) (a : Nat) (sv : Nat → Int) (L : Nat) : Prop := va_X a L (fun j => zI (sv j)) (gS_ g) (gS_ g).heap ∧ a < (gS_ g).heap.size ∧ L ≤ 260 ∧ ∀ j, zR (sv j)
theorem r_scr {a L : Nat} {sv : Nat → Int} (hA : zLA g a sv L) {i : Int} (h0 : 0 ≤ i) (h1 : i < L) (pc' : Nat) (hp : pc + 1 = pc') (d : decode M.2.1 pc = .ok (.iaload, 1)) (k : zX g M mc ms Q pc' lv (.int (zI (sv i.toNat)) :: st) h bc bs) : zX g M mc ms Q pc lv (.int (zI i) :: .ref a :: st) h bc bs := by
  subst hp
  obtain ⟨a1, a2, a3, a4⟩ := hA
  intro p e s m args below meth c F H locs cells slots ls hP hs hL hc hsl hl
  have ek := zI_clamp (i := i) h0 (by omega)
  refine va_sld F.1 F.2.1 (A := fun q => (gS_ g).heap.size ≤ q) (va_X.moved F.2.2.2.2.2.2.2.1.alike a1) a2 (Nat.not_le.mpr a2) ⟨hP.2.2.2.1, fun q hq _ => hP.2.2.1 q hq, hL⟩ (z_in2 h0 (by omega) h1) d ?_
  rw [ek]
  exact k p e s m args below meth c F H locs cells slots ls hP hs hL hc hsl hl
theorem r_slen {a L : Nat} {sv : Nat → Int} (hA : zLA g a sv L) (pc' : Nat) (hp : pc + 1 = pc') (d : decode M.2.1 pc = .ok (.arraylength, 1)) (k : zX g M mc ms Q pc' lv (.int (zI L) :: st) h bc bs) : zX g M mc ms Q pc lv (.ref a :: st) h bc bs := by
  subst hp
  obtain ⟨a1, a2, a3, a4⟩ := hA
  intro p e s m args below meth c F H locs cells slots ls hP hs hL hc hsl hl
  refine va_slen F.1 F.2.1 (A := fun q => (gS_ g).heap.size ≤ q) (va_X.moved F.2.2.2.2.2.2.2.1.alike a1) a2 (Nat.not_le.mpr a2) ⟨hP.2.2.2.1, fun q hq _ => hP.2.2.1 q hq, hL⟩ d ?_
  rw [show Int32.ofNat L = zI (L : Int) by unfold zI; rw [← Int32.ofInt_eq_ofNat]]
  exact k p e s m args below meth c F H locs cells slots ls hP hs hL hc hsl hl
theorem r_lcmpe {a : Int} (pc' : Nat) (hp : pc + 1 = pc') (d : decode M.2.1 pc = .ok (.lcmp, 1)) (k : zX g M mc ms Q pc' lv (.int (zI 0) :: st) h bc bs) : zX g M mc ms Q pc lv (.long (zL a) :: .long (zL a) :: st) h bc bs := by
  refine r_lcmp_any pc' hp d ?_
  have : lg_cmp (zL a) (zL a) = zI 0 := by unfold lg_cmp; simp; rfl
  rw [this]; exact k
def zcell (sv : Nat → Int) (L : Nat) (k : Int) : Int := if k < L then sv k.toNat else (zI (7919 * (k + 2677) * (k + 409))).toInt
theorem zcell_R {a L : Nat} {sv : Nat → Int} (hA : zLA g a sv L) (k : Int) : zR (zcell sv L k) := by
  unfold zcell
  split
  · exact hA.2.2.2 _
  · exact zR_self _
end Law31
set_option maxRecDepth 20000
abbrev mL_low : zM := (RL, cL_low, 2, (Option.some Jvm.ClassFile.FieldType.int), [], "low", 10)
set_option maxRecDepth 20000 in
theorem c_L_low {g : zGT} {Q : zO → zH → Prop} {h : zH} (hg : zG g) {a n : Int} (hn : 0 < n ∧ n ≤ 2147483647) (k : 0 ≤ zlow a n → zlow a n < n → Q (.inl (some (.int (zI (zlow a n))))) h) : zC g (.code yL_low cL_low 2 (Option.some Jvm.ClassFile.FieldType.int)) yL_low 10 0 0 [.int (zI a), .int (zI n)] h Q := by
  refine zC_of (M := mL_low) (lv := [some (.int (zI a)), some (.int (zI n))]) (by decide) rfl rfl (Nat.le_of_ble_eq_true rfl) rfl rfl ?_
  have e1 := z31b a
  have e2 := zand_R a 2147483647
  refine r_iload_0 1 rfl (dd_L_low 0 _ _ _ rfl) ?_
  refine r_ldc hg (tb_1 158 _ rfl) 3 rfl (dd_L_low 1 _ _ _ rfl) ?_
  refine r_top 2147483647 rfl ?_
  refine r_iandz 4 rfl (dd_L_low 2 _ _ _ rfl) ?_
  refine r_iload_1 5 rfl (dd_L_low 3 _ _ _ rfl) ?_
  refine r_irem (by omega) (by omega) (by omega) (by omega) 6 rfl (dd_L_low 4 _ _ _ rfl) ?_
  refine r_ireturn rfl rfl (dd_L_low 5 _ _ _ rfl) ?_
  unfold zlow at k
  exact k (zlow_range (by omega)).1 (zlow_range (by omega)).2

abbrev mL_cell : zM := (RL, cL_cell, 2, (Option.some Jvm.ClassFile.FieldType.int), [], "cell", 10)
set_option maxRecDepth 20000 in
theorem c_L_cell {g : zGT} {Q : zO → zH → Prop} {h : zH} (hg : zG g) {a L : Nat} {sv : Nat → Int} (hA : zLA g a sv L) {e : Int} (he : 0 ≤ e ∧ e < 1000) (k : Q (.inl (some (.int (zI (zcell sv L e))))) h) : zC g (.code yL_cell cL_cell 2 (Option.some Jvm.ClassFile.FieldType.int)) yL_cell 10 0 0 [.ref a, .int (zI e)] h Q := by
  refine zC_of (M := mL_cell) (lv := [some (.ref a), some (.int (zI e))]) (by decide) rfl rfl (Nat.le_of_ble_eq_true rfl) rfl rfl ?_
  have h9 := hA.2.2.1
  unfold zcell at k
  refine r_iload_1 1 rfl (dd_L_cell 0 _ _ _ rfl) ?_
  refine r_aload_0 2 rfl (dd_L_cell 1 _ _ _ rfl) ?_
  refine r_slen hA 3 rfl (dd_L_cell 2 _ _ _ rfl) ?_
  refine r_if_icmpge (by omega) (by omega) 6 rfl 12 rfl (dd_L_cell 3 _ _ _ rfl) (fun hc1 => ?_) (fun hc1 => ?_)
  · refine r_sipush (by decide) 15 rfl (dd_L_cell 8 _ _ _ rfl) ?_
    refine r_iload_1 16 rfl (dd_L_cell 9 _ _ _ rfl) ?_
    refine r_sipush (by decide) 19 rfl (dd_L_cell 10 _ _ _ rfl) ?_
    refine r_iadd 20 rfl (dd_L_cell 11 _ _ _ rfl) ?_
    refine r_imul 21 rfl (dd_L_cell 12 _ _ _ rfl) ?_
    refine r_iload_1 22 rfl (dd_L_cell 13 _ _ _ rfl) ?_
    refine r_sipush (by decide) 25 rfl (dd_L_cell 14 _ _ _ rfl) ?_
    refine r_iadd 26 rfl (dd_L_cell 15 _ _ _ rfl) ?_
    refine r_imul 27 rfl (dd_L_cell 16 _ _ _ rfl) ?_
    refine r_ireturn rfl rfl (dd_L_cell 17 _ _ _ rfl) ?_
    first | (rw [if_pos (by omega)] at k; exact k) | (rw [if_neg (by omega), zI_self] at k; exact k)
  · refine r_aload_0 7 rfl (dd_L_cell 4 _ _ _ rfl) ?_
    refine r_iload_1 8 rfl (dd_L_cell 5 _ _ _ rfl) ?_
    refine r_scr hA (by omega) (by omega) 9 rfl (dd_L_cell 6 _ _ _ rfl) ?_
    refine r_goto 27 rfl (dd_L_cell 7 _ _ _ rfl) ?_
    refine r_ireturn rfl rfl (dd_L_cell 17 _ _ _ rfl) ?_
    first | (rw [if_pos (by omega)] at k; exact k) | (rw [if_neg (by omega), zI_self] at k; exact k)

def tyR (n : Nat) (S S2 : zS) : Prop := zOK n S2 ∧ ∀ k, k ≠ 2 → S2.1 k = S.1 k
theorem tyR.refl {n : Nat} {S : zS} (h : zOK n S) : tyR n S S := ⟨h, fun _ _ => rfl⟩
theorem tyR.trans {n : Nat} {S S1 S2 : zS} (x : tyR n S S1) (y : tyR n S1 S2) : tyR n S S2 := ⟨y.1, fun k hk => (y.2 k hk).trans (x.2 k hk)⟩
theorem ty_sign {n : Nat} {S : zS} (x : zOK n S) {v : Int} (hv : 0 ≤ v ∧ v < 65536) (h : S.1 2 < 8) : tyR n S (zu1 S.1 2 (S.1 2 + 1), zu2 S.2 3 (S.1 2).toNat v) :=
  ⟨x.of (x.1.of (((show MInv n (S.1, S.2) from x.1.1).a3 hv).s2 (by have := x.1.1.signs; omega)) (zu1_ne (by decide)) (fun i => zu2_ne (fun q => absurd q.1 (by decide)))) (by show S.1 1 ≤ zu1 S.1 2 (S.1 2 + 1) 1; rw [zu1_ne (by decide)]; exact Int.le_refl _) (fun i => by show zu2 S.2 3 (S.1 2).toNat v 34 i = S.2 34 i; exact zu2_ne (fun q => absurd q.1 (by decide))), fun k hk => zu1_ne hk⟩
theorem ty_clear {n : Nat} {S : zS} (x : zOK n S) : tyR n S (zu1 S.1 2 0, S.2) :=
  ⟨x.of (x.1.of ((show MInv n (S.1, S.2) from x.1.1).s2 (by omega)) (zu1_ne (by decide)) (fun i => rfl)) (by show S.1 1 ≤ zu1 S.1 2 0 1; rw [zu1_ne (by decide)]; exact Int.le_refl _) (fun i => rfl), fun k hk => zu1_ne hk⟩
def zsg (a kd k : Int) : Int := if kd = 2 ∧ zlow (zshr a (4 + k)) 3 = 0 then 63 else if k < 2 then 65 + zlow (zshr a (3 + 2 * k)) 2 else 48 + zlow (zshr a (5 + 2 * k)) (if k = 2 then 1 else 4)
theorem zsg_range (a kd k : Int) : 0 ≤ zsg a kd k ∧ zsg a kd k < 65536 := by
  unfold zsg
  have h1 := zlow_range (a := zshr a (3 + 2 * k)) (n := 2) (by decide)
  have h2 := zlow_range (a := zshr a (5 + 2 * k)) (n := 1) (by decide)
  have h3 := zlow_range (a := zshr a (5 + 2 * k)) (n := 4) (by decide)
  split
  · decide
  split
  · omega
  split <;> omega
def zwsg (W k : Int) : Int := ((zL W >>> ((zI (8 * k)).toInt64 &&& 63)) &&& zL 255).toInt32.toInt % 65536
theorem zwsg_range (W k : Int) : 0 ≤ zwsg W k ∧ zwsg W k < 65536 := by unfold zwsg; omega
theorem zwsg_top (W k : Int) : (((zL W >>> ((zI (8 * k)).toInt64 &&& 63)) &&& zL 255).toInt32.toUInt32 % 65536).toInt32 = zI (zwsg W k) := by
  obtain ⟨c, -, -, h1, h2⟩ := zI_toChar ((zL W >>> ((zI (8 * k)).toInt64 &&& 63)) &&& zL 255).toInt32
  rw [h1, h2]
  rfl
abbrev mL_types : zM := (RL, cL_types, 7, (Option.none : Option Jvm.ClassFile.FieldType), [], "types", 15)
theorem ty_l1 {g : zGT} (hg : zG g) {n : Nat} {a kd : Int} (hk : 0 ≤ kd ∧ kd ≤ 5) : ∀ (r : Nat) (k : Int), k + r = 4 → 0 ≤ k → ∀ S, zOK n S → S.1 2 ≤ k → ∃ S2, tyR n S S2 ∧ (3 ≤ kd → S2 = S) ∧ ∀ (x : Nat) (o : Nat → Nat) (h : zH) (mc ms : Nat) (Q : zO → zH → Prop) (bc bs b1 b2 : Nat), CEx g o h x S n → 4 * r + b1 ≤ bc → 40 * r + b2 ≤ bs → (∀ o1 h1, CEx g o1 h1 x S2 n → zStep zOwn o h o1 h1 → zX g mL_types mc ms Q 107 [some (.ref x), some (.int (zI a)), some (.int (zI kd)), none, none, none, none] [] h1 b1 b2) → zX g mL_types mc ms Q 14 [some (.ref x), some (.int (zI a)), some (.int (zI kd)), some (.int (zI k)), none, none, none] [] h bc bs := by
  intro r
  induction r with
  | zero =>
    intro k hk1 h0 S hS h2
    refine ⟨S, tyR.refl hS, fun _ => rfl, fun x o h mc ms Q bc bs b1 b2 c hb1 hb2 kk => ?_⟩
    refine r_iload_3 15 rfl (dd_L_types_0 9 _ _ _ rfl) ?_
    refine r_iconst 16 rfl (dd_L_types_0 10 _ _ _ rfl) ?_
    refine r_if_icmpge (by omega) (by omega) 19 rfl 107 rfl (dd_L_types_0 11 _ _ _ rfl) (fun hc1 => ?_) (fun hc1 => ?_)
    · first | (exfalso; omega) | exact r_sub _ (z_s1 (z_s1 (z_s1 (z_s0 (z_s0 (z_s0 (z_s0 z_sN))))))) (r_room (by omega) (by omega) (kk o h c .refl))
    · exfalso; omega
  | succ r ih =>
    intro k hk1 h0 S hS h2
    by_cases h3 : 3 ≤ kd
    · refine ⟨S, tyR.refl hS, fun _ => rfl, fun x o h mc ms Q bc bs b1 b2 c hb1 hb2 kk => ?_⟩
      refine r_iload_3 15 rfl (dd_L_types_0 9 _ _ _ rfl) ?_
      refine r_iconst 16 rfl (dd_L_types_0 10 _ _ _ rfl) ?_
      refine r_if_icmpge (by omega) (by omega) 19 rfl 107 rfl (dd_L_types_0 11 _ _ _ rfl) (fun hc2 => ?_) (fun hc2 => ?_)
      · first | (exfalso; omega) | exact r_sub _ (z_s1 (z_s1 (z_s1 (z_s0 (z_s0 (z_s0 (z_s0 z_sN))))))) (r_room (by omega) (by omega) (kk o h c .refl))
      · refine r_iload_2 20 rfl (dd_L_types_0 12 _ _ _ rfl) ?_
        refine r_iconst 21 rfl (dd_L_types_0 13 _ _ _ rfl) ?_
        refine r_if_icmpge (by omega) (by omega) 24 rfl 107 rfl (dd_L_types_0 14 _ _ _ rfl) (fun hc3 => ?_) (fun hc3 => ?_)
        · first | (exfalso; omega) | exact r_sub _ (z_s1 (z_s1 (z_s1 (z_s0 (z_s0 (z_s0 (z_s0 z_sN))))))) (r_room (by omega) (by omega) (kk o h c .refl))
        · exfalso; omega
    · have e2 := hS.1.1.signs
      have h4 := ty_sign hS (zsg_range a kd k) (by omega)
      obtain ⟨S2, R, -, hh⟩ := ih (k + 1) (by omega) (by omega) _ h4.1 (by show zu1 S.1 2 (S.1 2 + 1) 2 ≤ _; rw [zu1_at]; omega)
      refine ⟨S2, h4.trans R, fun q => absurd q h3, fun x o h mc ms Q bc bs b1 b2 c hb1 hb2 kk => ?_⟩
      refine r_iload_3 15 rfl (dd_L_types_0 9 _ _ _ rfl) ?_
      refine r_iconst 16 rfl (dd_L_types_0 10 _ _ _ rfl) ?_
      refine r_if_icmpge (by omega) (by omega) 19 rfl 107 rfl (dd_L_types_0 11 _ _ _ rfl) (fun hc4 => ?_) (fun hc4 => ?_)
      · exfalso; omega
      · refine r_iload_2 20 rfl (dd_L_types_0 12 _ _ _ rfl) ?_
        refine r_iconst 21 rfl (dd_L_types_0 13 _ _ _ rfl) ?_
        refine r_if_icmpge (by omega) (by omega) 24 rfl 107 rfl (dd_L_types_0 14 _ _ _ rfl) (fun hc5 => ?_) (fun hc5 => ?_)
        · exfalso; omega
        · refine r_iload_3 25 rfl (dd_L_types_0 15 _ _ _ rfl) ?_
          refine r_iconst 26 rfl (dd_L_types_0 16 _ _ _ rfl) ?_
          refine r_if_icmpge (by omega) (by omega) 29 rfl 46 rfl (dd_L_types_0 17 _ _ _ rfl) (fun hc6 => ?_) (fun hc6 => ?_)
          · refine r_bipush (by decide) 48 rfl (dd_L_types_0 30 _ _ _ rfl) ?_
            refine r_iload_1 49 rfl (dd_L_types_0 31 _ _ _ rfl) ?_
            refine r_iconst 50 rfl (dd_L_types_0 32 _ _ _ rfl) ?_
            refine r_iconst 51 rfl (dd_L_types_0 33 _ _ _ rfl) ?_
            refine r_iload_3 52 rfl (dd_L_types_0 34 _ _ _ rfl) ?_
            refine r_imul 53 rfl (dd_L_types_0 35 _ _ _ rfl) ?_
            refine r_iadd 54 rfl (dd_L_types_0 36 _ _ _ rfl) ?_
            refine r_ishr 55 rfl (dd_L_types_0 37 _ _ _ rfl) ?_
            refine r_iload_3 56 rfl (dd_L_types_0 38 _ _ _ rfl) ?_
            refine r_iconst 57 rfl (dd_L_types_0 39 _ _ _ rfl) ?_
            refine r_if_icmpne (by omega) (by omega) 60 rfl 64 rfl (dd_L_types_0 40 _ _ _ rfl) (fun hc7 => ?_) (fun hc7 => ?_)
            · refine r_iconst 65 rfl (dd_L_types_0 43 _ _ _ rfl) ?_
              refine r_callS2 (lvl := 10) (mc1 := 0) (ms1 := 0) bc bs hg rfl md_L_low ws_L_low (tb_1 155 _ rfl) (by decide) (by decide) rfl (Nat.le_of_ble_eq_true rfl) (by omega) (by omega) 68 rfl (dd_L_types_0 44 _ _ _ rfl) ?_
              refine c_L_low hg (by omega) (fun la1 lb1 => ?_)
              dsimp only [zCont, Option.toList, List.cons_append, List.nil_append]
              refine r_iadd 69 rfl (dd_L_types_0 45 _ _ _ rfl) ?_
              refine r_i2c (by omega) (by omega) 70 rfl (dd_L_types_0 46 _ _ _ rfl) ?_
              refine r_istore_4 72 rfl (by decide) rfl (dd_L_types_0 47 _ _ _ rfl) ?_
              refine r_aload_0 73 rfl (dd_L_types_0 48 _ _ _ rfl) ?_
              refine r_iload_2 74 rfl (dd_L_types_0 49 _ _ _ rfl) ?_
              refine r_iconst 75 rfl (dd_L_types_0 50 _ _ _ rfl) ?_
              refine r_if_icmpne (by omega) (by omega) 78 rfl 95 rfl (dd_L_types_0 51 _ _ _ rfl) (fun hc8 => ?_) (fun hc8 => ?_)
              · refine r_iload_4 97 rfl (dd_L_types_1 2 _ _ _ rfl) ?_
                refine r_top (zsg a kd k) (congrArg zI (by unfold zsg; (repeat' split) <;> first | rfl | omega | (exfalso; omega))) ?_
                refine r_callV1 (lvl := 14) (mc1 := 4) (ms1 := 40) (bc - 4) (bs - 40) hg rfl md_X11_type zc_X11 c.kd wi_X11_type wv_X11_type (tb_4 188 _ rfl) (by decide) (by decide) rfl (Nat.le_of_ble_eq_true rfl) (by omega) (by omega) 100 rfl (dd_L_types_1 3 _ _ _ rfl) ?_
                obtain ⟨Vs, Ps, Ss, Ts, Fs, Tn, A, G, Rc, y⟩ := id c
                refine c_X11_type hg hS.1.1 y (zsg_range a kd k) (fun q => by exfalso; omega) (fun _ o1 h1 cx st => ?_)
                dsimp only [zCont, Option.toList, List.cons_append, List.nil_append]
                refine r_pop rfl 101 rfl (dd_L_types_1 4 _ _ _ rfl) ?_
                refine r_iinc_3 104 rfl (by decide) rfl (dd_L_types_1 5 _ _ _ rfl) ?_
                refine r_goto 14 rfl (dd_L_types_1 6 _ _ _ rfl) ?_
                refine r_sub [some (.ref x), some (.int (zI a)), some (.int (zI kd)), some (.int (zI (k + 1))), none, none, none] (z_s1 (z_s1 (z_s1 (z_s1 (z_s0 (z_s0 (z_s0 z_sN))))))) ?_
                exact hh x o1 h1 mc ms Q _ _ b1 b2 cx (by omega) (by omega) (fun o2 h2 c2 s2 => kk o2 h2 c2 (st.trans s2))
              · refine r_iload_1 79 rfl (dd_L_types_0 52 _ _ _ rfl) ?_
                refine r_iconst 80 rfl (dd_L_types_0 53 _ _ _ rfl) ?_
                refine r_iload_3 81 rfl (dd_L_types_0 54 _ _ _ rfl) ?_
                refine r_iadd 82 rfl (dd_L_types_0 55 _ _ _ rfl) ?_
                refine r_ishr 83 rfl (dd_L_types_0 56 _ _ _ rfl) ?_
                refine r_iconst 84 rfl (dd_L_types_0 57 _ _ _ rfl) ?_
                refine r_callS2 (lvl := 10) (mc1 := 0) (ms1 := 0) bc bs hg rfl md_L_low ws_L_low (tb_1 155 _ rfl) (by decide) (by decide) rfl (Nat.le_of_ble_eq_true rfl) (by omega) (by omega) 87 rfl (dd_L_types_0 58 _ _ _ rfl) ?_
                refine c_L_low hg (by omega) (fun la2 lb2 => ?_)
                dsimp only [zCont, Option.toList, List.cons_append, List.nil_append]
                refine r_ifne (by omega) 90 rfl 95 rfl (dd_L_types_0 59 _ _ _ rfl) (fun hc9 => ?_) (fun hc9 => ?_)
                · refine r_iload_4 97 rfl (dd_L_types_1 2 _ _ _ rfl) ?_
                  refine r_top (zsg a kd k) (congrArg zI (by unfold zsg; (repeat' split) <;> first | rfl | omega | (exfalso; omega))) ?_
                  refine r_callV1 (lvl := 14) (mc1 := 4) (ms1 := 40) (bc - 4) (bs - 40) hg rfl md_X11_type zc_X11 c.kd wi_X11_type wv_X11_type (tb_4 188 _ rfl) (by decide) (by decide) rfl (Nat.le_of_ble_eq_true rfl) (by omega) (by omega) 100 rfl (dd_L_types_1 3 _ _ _ rfl) ?_
                  obtain ⟨Vs, Ps, Ss, Ts, Fs, Tn, A, G, Rc, y⟩ := id c
                  refine c_X11_type hg hS.1.1 y (zsg_range a kd k) (fun q => by exfalso; omega) (fun _ o1 h1 cx st => ?_)
                  dsimp only [zCont, Option.toList, List.cons_append, List.nil_append]
                  refine r_pop rfl 101 rfl (dd_L_types_1 4 _ _ _ rfl) ?_
                  refine r_iinc_3 104 rfl (by decide) rfl (dd_L_types_1 5 _ _ _ rfl) ?_
                  refine r_goto 14 rfl (dd_L_types_1 6 _ _ _ rfl) ?_
                  refine r_sub [some (.ref x), some (.int (zI a)), some (.int (zI kd)), some (.int (zI (k + 1))), none, none, none] (z_s1 (z_s1 (z_s1 (z_s1 (z_s0 (z_s0 (z_s0 z_sN))))))) ?_
                  exact hh x o1 h1 mc ms Q _ _ b1 b2 cx (by omega) (by omega) (fun o2 h2 c2 s2 => kk o2 h2 c2 (st.trans s2))
                · refine r_bipush (by decide) 92 rfl (dd_L_types_1 0 _ _ _ rfl) ?_
                  refine r_goto 97 rfl (dd_L_types_1 1 _ _ _ rfl) ?_
                  refine r_top (zsg a kd k) (congrArg zI (by unfold zsg; (repeat' split) <;> first | rfl | omega | (exfalso; omega))) ?_
                  refine r_callV1 (lvl := 14) (mc1 := 4) (ms1 := 40) (bc - 4) (bs - 40) hg rfl md_X11_type zc_X11 c.kd wi_X11_type wv_X11_type (tb_4 188 _ rfl) (by decide) (by decide) rfl (Nat.le_of_ble_eq_true rfl) (by omega) (by omega) 100 rfl (dd_L_types_1 3 _ _ _ rfl) ?_
                  obtain ⟨Vs, Ps, Ss, Ts, Fs, Tn, A, G, Rc, y⟩ := id c
                  refine c_X11_type hg hS.1.1 y (zsg_range a kd k) (fun q => by exfalso; omega) (fun _ o1 h1 cx st => ?_)
                  dsimp only [zCont, Option.toList, List.cons_append, List.nil_append]
                  refine r_pop rfl 101 rfl (dd_L_types_1 4 _ _ _ rfl) ?_
                  refine r_iinc_3 104 rfl (by decide) rfl (dd_L_types_1 5 _ _ _ rfl) ?_
                  refine r_goto 14 rfl (dd_L_types_1 6 _ _ _ rfl) ?_
                  refine r_sub [some (.ref x), some (.int (zI a)), some (.int (zI kd)), some (.int (zI (k + 1))), none, none, none] (z_s1 (z_s1 (z_s1 (z_s1 (z_s0 (z_s0 (z_s0 z_sN))))))) ?_
                  exact hh x o1 h1 mc ms Q _ _ b1 b2 cx (by omega) (by omega) (fun o2 h2 c2 s2 => kk o2 h2 c2 (st.trans s2))
            · refine r_iconst 61 rfl (dd_L_types_0 41 _ _ _ rfl) ?_
              refine r_goto 65 rfl (dd_L_types_0 42 _ _ _ rfl) ?_
              refine r_callS2 (lvl := 10) (mc1 := 0) (ms1 := 0) bc bs hg rfl md_L_low ws_L_low (tb_1 155 _ rfl) (by decide) (by decide) rfl (Nat.le_of_ble_eq_true rfl) (by omega) (by omega) 68 rfl (dd_L_types_0 44 _ _ _ rfl) ?_
              refine c_L_low hg (by omega) (fun la3 lb3 => ?_)
              dsimp only [zCont, Option.toList, List.cons_append, List.nil_append]
              refine r_iadd 69 rfl (dd_L_types_0 45 _ _ _ rfl) ?_
              refine r_i2c (by omega) (by omega) 70 rfl (dd_L_types_0 46 _ _ _ rfl) ?_
              refine r_istore_4 72 rfl (by decide) rfl (dd_L_types_0 47 _ _ _ rfl) ?_
              refine r_aload_0 73 rfl (dd_L_types_0 48 _ _ _ rfl) ?_
              refine r_iload_2 74 rfl (dd_L_types_0 49 _ _ _ rfl) ?_
              refine r_iconst 75 rfl (dd_L_types_0 50 _ _ _ rfl) ?_
              refine r_if_icmpne (by omega) (by omega) 78 rfl 95 rfl (dd_L_types_0 51 _ _ _ rfl) (fun hc10 => ?_) (fun hc10 => ?_)
              · refine r_iload_4 97 rfl (dd_L_types_1 2 _ _ _ rfl) ?_
                refine r_top (zsg a kd k) (congrArg zI (by unfold zsg; (repeat' split) <;> first | rfl | omega | (exfalso; omega))) ?_
                refine r_callV1 (lvl := 14) (mc1 := 4) (ms1 := 40) (bc - 4) (bs - 40) hg rfl md_X11_type zc_X11 c.kd wi_X11_type wv_X11_type (tb_4 188 _ rfl) (by decide) (by decide) rfl (Nat.le_of_ble_eq_true rfl) (by omega) (by omega) 100 rfl (dd_L_types_1 3 _ _ _ rfl) ?_
                obtain ⟨Vs, Ps, Ss, Ts, Fs, Tn, A, G, Rc, y⟩ := id c
                refine c_X11_type hg hS.1.1 y (zsg_range a kd k) (fun q => by exfalso; omega) (fun _ o1 h1 cx st => ?_)
                dsimp only [zCont, Option.toList, List.cons_append, List.nil_append]
                refine r_pop rfl 101 rfl (dd_L_types_1 4 _ _ _ rfl) ?_
                refine r_iinc_3 104 rfl (by decide) rfl (dd_L_types_1 5 _ _ _ rfl) ?_
                refine r_goto 14 rfl (dd_L_types_1 6 _ _ _ rfl) ?_
                refine r_sub [some (.ref x), some (.int (zI a)), some (.int (zI kd)), some (.int (zI (k + 1))), none, none, none] (z_s1 (z_s1 (z_s1 (z_s1 (z_s0 (z_s0 (z_s0 z_sN))))))) ?_
                exact hh x o1 h1 mc ms Q _ _ b1 b2 cx (by omega) (by omega) (fun o2 h2 c2 s2 => kk o2 h2 c2 (st.trans s2))
              · refine r_iload_1 79 rfl (dd_L_types_0 52 _ _ _ rfl) ?_
                refine r_iconst 80 rfl (dd_L_types_0 53 _ _ _ rfl) ?_
                refine r_iload_3 81 rfl (dd_L_types_0 54 _ _ _ rfl) ?_
                refine r_iadd 82 rfl (dd_L_types_0 55 _ _ _ rfl) ?_
                refine r_ishr 83 rfl (dd_L_types_0 56 _ _ _ rfl) ?_
                refine r_iconst 84 rfl (dd_L_types_0 57 _ _ _ rfl) ?_
                refine r_callS2 (lvl := 10) (mc1 := 0) (ms1 := 0) bc bs hg rfl md_L_low ws_L_low (tb_1 155 _ rfl) (by decide) (by decide) rfl (Nat.le_of_ble_eq_true rfl) (by omega) (by omega) 87 rfl (dd_L_types_0 58 _ _ _ rfl) ?_
                refine c_L_low hg (by omega) (fun la4 lb4 => ?_)
                dsimp only [zCont, Option.toList, List.cons_append, List.nil_append]
                refine r_ifne (by omega) 90 rfl 95 rfl (dd_L_types_0 59 _ _ _ rfl) (fun hc11 => ?_) (fun hc11 => ?_)
                · refine r_iload_4 97 rfl (dd_L_types_1 2 _ _ _ rfl) ?_
                  refine r_top (zsg a kd k) (congrArg zI (by unfold zsg; (repeat' split) <;> first | rfl | omega | (exfalso; omega))) ?_
                  refine r_callV1 (lvl := 14) (mc1 := 4) (ms1 := 40) (bc - 4) (bs - 40) hg rfl md_X11_type zc_X11 c.kd wi_X11_type wv_X11_type (tb_4 188 _ rfl) (by decide) (by decide) rfl (Nat.le_of_ble_eq_true rfl) (by omega) (by omega) 100 rfl (dd_L_types_1 3 _ _ _ rfl) ?_
                  obtain ⟨Vs, Ps, Ss, Ts, Fs, Tn, A, G, Rc, y⟩ := id c
                  refine c_X11_type hg hS.1.1 y (zsg_range a kd k) (fun q => by exfalso; omega) (fun _ o1 h1 cx st => ?_)
                  dsimp only [zCont, Option.toList, List.cons_append, List.nil_append]
                  refine r_pop rfl 101 rfl (dd_L_types_1 4 _ _ _ rfl) ?_
                  refine r_iinc_3 104 rfl (by decide) rfl (dd_L_types_1 5 _ _ _ rfl) ?_
                  refine r_goto 14 rfl (dd_L_types_1 6 _ _ _ rfl) ?_
                  refine r_sub [some (.ref x), some (.int (zI a)), some (.int (zI kd)), some (.int (zI (k + 1))), none, none, none] (z_s1 (z_s1 (z_s1 (z_s1 (z_s0 (z_s0 (z_s0 z_sN))))))) ?_
                  exact hh x o1 h1 mc ms Q _ _ b1 b2 cx (by omega) (by omega) (fun o2 h2 c2 s2 => kk o2 h2 c2 (st.trans s2))
                · refine r_bipush (by decide) 92 rfl (dd_L_types_1 0 _ _ _ rfl) ?_
                  refine r_goto 97 rfl (dd_L_types_1 1 _ _ _ rfl) ?_
                  refine r_top (zsg a kd k) (congrArg zI (by unfold zsg; (repeat' split) <;> first | rfl | omega | (exfalso; omega))) ?_
                  refine r_callV1 (lvl := 14) (mc1 := 4) (ms1 := 40) (bc - 4) (bs - 40) hg rfl md_X11_type zc_X11 c.kd wi_X11_type wv_X11_type (tb_4 188 _ rfl) (by decide) (by decide) rfl (Nat.le_of_ble_eq_true rfl) (by omega) (by omega) 100 rfl (dd_L_types_1 3 _ _ _ rfl) ?_
                  obtain ⟨Vs, Ps, Ss, Ts, Fs, Tn, A, G, Rc, y⟩ := id c
                  refine c_X11_type hg hS.1.1 y (zsg_range a kd k) (fun q => by exfalso; omega) (fun _ o1 h1 cx st => ?_)
                  dsimp only [zCont, Option.toList, List.cons_append, List.nil_append]
                  refine r_pop rfl 101 rfl (dd_L_types_1 4 _ _ _ rfl) ?_
                  refine r_iinc_3 104 rfl (by decide) rfl (dd_L_types_1 5 _ _ _ rfl) ?_
                  refine r_goto 14 rfl (dd_L_types_1 6 _ _ _ rfl) ?_
                  refine r_sub [some (.ref x), some (.int (zI a)), some (.int (zI kd)), some (.int (zI (k + 1))), none, none, none] (z_s1 (z_s1 (z_s1 (z_s1 (z_s0 (z_s0 (z_s0 z_sN))))))) ?_
                  exact hh x o1 h1 mc ms Q _ _ b1 b2 cx (by omega) (by omega) (fun o2 h2 c2 s2 => kk o2 h2 c2 (st.trans s2))
          · refine r_bipush (by decide) 31 rfl (dd_L_types_0 18 _ _ _ rfl) ?_
            refine r_iload_1 32 rfl (dd_L_types_0 19 _ _ _ rfl) ?_
            refine r_iconst 33 rfl (dd_L_types_0 20 _ _ _ rfl) ?_
            refine r_iconst 34 rfl (dd_L_types_0 21 _ _ _ rfl) ?_
            refine r_iload_3 35 rfl (dd_L_types_0 22 _ _ _ rfl) ?_
            refine r_imul 36 rfl (dd_L_types_0 23 _ _ _ rfl) ?_
            refine r_iadd 37 rfl (dd_L_types_0 24 _ _ _ rfl) ?_
            refine r_ishr 38 rfl (dd_L_types_0 25 _ _ _ rfl) ?_
            refine r_iconst 39 rfl (dd_L_types_0 26 _ _ _ rfl) ?_
            refine r_callS2 (lvl := 10) (mc1 := 0) (ms1 := 0) bc bs hg rfl md_L_low ws_L_low (tb_1 155 _ rfl) (by decide) (by decide) rfl (Nat.le_of_ble_eq_true rfl) (by omega) (by omega) 42 rfl (dd_L_types_0 27 _ _ _ rfl) ?_
            refine c_L_low hg (by omega) (fun la5 lb5 => ?_)
            dsimp only [zCont, Option.toList, List.cons_append, List.nil_append]
            refine r_iadd 43 rfl (dd_L_types_0 28 _ _ _ rfl) ?_
            refine r_goto 69 rfl (dd_L_types_0 29 _ _ _ rfl) ?_
            refine r_i2c (by omega) (by omega) 70 rfl (dd_L_types_0 46 _ _ _ rfl) ?_
            refine r_istore_4 72 rfl (by decide) rfl (dd_L_types_0 47 _ _ _ rfl) ?_
            refine r_aload_0 73 rfl (dd_L_types_0 48 _ _ _ rfl) ?_
            refine r_iload_2 74 rfl (dd_L_types_0 49 _ _ _ rfl) ?_
            refine r_iconst 75 rfl (dd_L_types_0 50 _ _ _ rfl) ?_
            refine r_if_icmpne (by omega) (by omega) 78 rfl 95 rfl (dd_L_types_0 51 _ _ _ rfl) (fun hc12 => ?_) (fun hc12 => ?_)
            · refine r_iload_4 97 rfl (dd_L_types_1 2 _ _ _ rfl) ?_
              refine r_top (zsg a kd k) (congrArg zI (by unfold zsg; (repeat' split) <;> first | rfl | omega | (exfalso; omega))) ?_
              refine r_callV1 (lvl := 14) (mc1 := 4) (ms1 := 40) (bc - 4) (bs - 40) hg rfl md_X11_type zc_X11 c.kd wi_X11_type wv_X11_type (tb_4 188 _ rfl) (by decide) (by decide) rfl (Nat.le_of_ble_eq_true rfl) (by omega) (by omega) 100 rfl (dd_L_types_1 3 _ _ _ rfl) ?_
              obtain ⟨Vs, Ps, Ss, Ts, Fs, Tn, A, G, Rc, y⟩ := id c
              refine c_X11_type hg hS.1.1 y (zsg_range a kd k) (fun q => by exfalso; omega) (fun _ o1 h1 cx st => ?_)
              dsimp only [zCont, Option.toList, List.cons_append, List.nil_append]
              refine r_pop rfl 101 rfl (dd_L_types_1 4 _ _ _ rfl) ?_
              refine r_iinc_3 104 rfl (by decide) rfl (dd_L_types_1 5 _ _ _ rfl) ?_
              refine r_goto 14 rfl (dd_L_types_1 6 _ _ _ rfl) ?_
              refine r_sub [some (.ref x), some (.int (zI a)), some (.int (zI kd)), some (.int (zI (k + 1))), none, none, none] (z_s1 (z_s1 (z_s1 (z_s1 (z_s0 (z_s0 (z_s0 z_sN))))))) ?_
              exact hh x o1 h1 mc ms Q _ _ b1 b2 cx (by omega) (by omega) (fun o2 h2 c2 s2 => kk o2 h2 c2 (st.trans s2))
            · refine r_iload_1 79 rfl (dd_L_types_0 52 _ _ _ rfl) ?_
              refine r_iconst 80 rfl (dd_L_types_0 53 _ _ _ rfl) ?_
              refine r_iload_3 81 rfl (dd_L_types_0 54 _ _ _ rfl) ?_
              refine r_iadd 82 rfl (dd_L_types_0 55 _ _ _ rfl) ?_
              refine r_ishr 83 rfl (dd_L_types_0 56 _ _ _ rfl) ?_
              refine r_iconst 84 rfl (dd_L_types_0 57 _ _ _ rfl) ?_
              refine r_callS2 (lvl := 10) (mc1 := 0) (ms1 := 0) bc bs hg rfl md_L_low ws_L_low (tb_1 155 _ rfl) (by decide) (by decide) rfl (Nat.le_of_ble_eq_true rfl) (by omega) (by omega) 87 rfl (dd_L_types_0 58 _ _ _ rfl) ?_
              refine c_L_low hg (by omega) (fun la6 lb6 => ?_)
              dsimp only [zCont, Option.toList, List.cons_append, List.nil_append]
              refine r_ifne (by omega) 90 rfl 95 rfl (dd_L_types_0 59 _ _ _ rfl) (fun hc13 => ?_) (fun hc13 => ?_)
              · refine r_iload_4 97 rfl (dd_L_types_1 2 _ _ _ rfl) ?_
                refine r_top (zsg a kd k) (congrArg zI (by unfold zsg; (repeat' split) <;> first | rfl | omega | (exfalso; omega))) ?_
                refine r_callV1 (lvl := 14) (mc1 := 4) (ms1 := 40) (bc - 4) (bs - 40) hg rfl md_X11_type zc_X11 c.kd wi_X11_type wv_X11_type (tb_4 188 _ rfl) (by decide) (by decide) rfl (Nat.le_of_ble_eq_true rfl) (by omega) (by omega) 100 rfl (dd_L_types_1 3 _ _ _ rfl) ?_
                obtain ⟨Vs, Ps, Ss, Ts, Fs, Tn, A, G, Rc, y⟩ := id c
                refine c_X11_type hg hS.1.1 y (zsg_range a kd k) (fun q => by exfalso; omega) (fun _ o1 h1 cx st => ?_)
                dsimp only [zCont, Option.toList, List.cons_append, List.nil_append]
                refine r_pop rfl 101 rfl (dd_L_types_1 4 _ _ _ rfl) ?_
                refine r_iinc_3 104 rfl (by decide) rfl (dd_L_types_1 5 _ _ _ rfl) ?_
                refine r_goto 14 rfl (dd_L_types_1 6 _ _ _ rfl) ?_
                refine r_sub [some (.ref x), some (.int (zI a)), some (.int (zI kd)), some (.int (zI (k + 1))), none, none, none] (z_s1 (z_s1 (z_s1 (z_s1 (z_s0 (z_s0 (z_s0 z_sN))))))) ?_
                exact hh x o1 h1 mc ms Q _ _ b1 b2 cx (by omega) (by omega) (fun o2 h2 c2 s2 => kk o2 h2 c2 (st.trans s2))
              · refine r_bipush (by decide) 92 rfl (dd_L_types_1 0 _ _ _ rfl) ?_
                refine r_goto 97 rfl (dd_L_types_1 1 _ _ _ rfl) ?_
                refine r_top (zsg a kd k) (congrArg zI (by unfold zsg; (repeat' split) <;> first | rfl | omega | (exfalso; omega))) ?_
                refine r_callV1 (lvl := 14) (mc1 := 4) (ms1 := 40) (bc - 4) (bs - 40) hg rfl md_X11_type zc_X11 c.kd wi_X11_type wv_X11_type (tb_4 188 _ rfl) (by decide) (by decide) rfl (Nat.le_of_ble_eq_true rfl) (by omega) (by omega) 100 rfl (dd_L_types_1 3 _ _ _ rfl) ?_
                obtain ⟨Vs, Ps, Ss, Ts, Fs, Tn, A, G, Rc, y⟩ := id c
                refine c_X11_type hg hS.1.1 y (zsg_range a kd k) (fun q => by exfalso; omega) (fun _ o1 h1 cx st => ?_)
                dsimp only [zCont, Option.toList, List.cons_append, List.nil_append]
                refine r_pop rfl 101 rfl (dd_L_types_1 4 _ _ _ rfl) ?_
                refine r_iinc_3 104 rfl (by decide) rfl (dd_L_types_1 5 _ _ _ rfl) ?_
                refine r_goto 14 rfl (dd_L_types_1 6 _ _ _ rfl) ?_
                refine r_sub [some (.ref x), some (.int (zI a)), some (.int (zI kd)), some (.int (zI (k + 1))), none, none, none] (z_s1 (z_s1 (z_s1 (z_s1 (z_s0 (z_s0 (z_s0 z_sN))))))) ?_
                exact hh x o1 h1 mc ms Q _ _ b1 b2 cx (by omega) (by omega) (fun o2 h2 c2 s2 => kk o2 h2 c2 (st.trans s2))
theorem ty_l2 {g : zGT} (hg : zG g) {n : Nat} {a kd W : Int} (hk : 0 ≤ kd ∧ kd ≤ 5) : ∀ (r : Nat) (k : Int), k + r = 7 → 0 ≤ k → ∀ S, zOK n S → (kd ≤ 2 ∨ S.1 2 ≤ k) → ∃ S2, tyR n S S2 ∧ ∀ (x : Nat) (o : Nat → Nat) (h : zH) (mc ms : Nat) (Q : zO → zH → Prop) (bc bs : Nat), CEx g o h x S n → 4 * r ≤ bc → 40 * r ≤ bs → (∀ o1 h1, CEx g o1 h1 x S2 n → zStep zOwn o h o1 h1 → Q (.inl none) h1) → zX g mL_types mc ms Q 136 [some (.ref x), some (.int (zI a)), some (.int (zI kd)), some (.long (zL W)), none, some (.int (zI k)), none] [] h bc bs := by
  intro r
  induction r with
  | zero =>
    intro k hk1 h0 S hS h2
    refine ⟨S, tyR.refl hS, fun x o h mc ms Q bc bs c hb1 hb2 kk => ?_⟩
    refine r_iload_5 138 rfl (dd_L_types_1 21 _ _ _ rfl) ?_
    refine r_bipush (by decide) 140 rfl (dd_L_types_1 22 _ _ _ rfl) ?_
    refine r_if_icmpge (by omega) (by omega) 143 rfl 181 rfl (dd_L_types_1 23 _ _ _ rfl) (fun hc1 => ?_) (fun hc1 => ?_)
    · refine r_vreturn rfl (dd_L_types_1 45 _ _ _ rfl) ?_
      exact kk o h c .refl
    · exfalso; omega
  | succ r ih =>
    intro k hk1 h0 S hS h2
    by_cases h3 : kd ≤ 2
    · refine ⟨S, tyR.refl hS, fun x o h mc ms Q bc bs c hb1 hb2 kk => ?_⟩
      refine r_iload_5 138 rfl (dd_L_types_1 21 _ _ _ rfl) ?_
      refine r_bipush (by decide) 140 rfl (dd_L_types_1 22 _ _ _ rfl) ?_
      refine r_if_icmpge (by omega) (by omega) 143 rfl 181 rfl (dd_L_types_1 23 _ _ _ rfl) (fun hc2 => ?_) (fun hc2 => ?_)
      · exfalso; omega
      · refine r_iload_2 144 rfl (dd_L_types_1 24 _ _ _ rfl) ?_
        refine r_iconst 145 rfl (dd_L_types_1 25 _ _ _ rfl) ?_
        refine r_if_icmple (by omega) (by omega) 148 rfl 181 rfl (dd_L_types_1 26 _ _ _ rfl) (fun hc3 => ?_) (fun hc3 => ?_)
        · refine r_vreturn rfl (dd_L_types_1 45 _ _ _ rfl) ?_
          exact kk o h c .refl
        · exfalso; omega
    · by_cases h4 : zwsg W k ≤ 0
      · obtain ⟨S2, R, hh⟩ := ih (k + 1) (by omega) (by omega) S hS (Or.inr (by omega))
        refine ⟨S2, R, fun x o h mc ms Q bc bs c hb1 hb2 kk => ?_⟩
        have hw := zwsg_range W k
        refine r_iload_5 138 rfl (dd_L_types_1 21 _ _ _ rfl) ?_
        refine r_bipush (by decide) 140 rfl (dd_L_types_1 22 _ _ _ rfl) ?_
        refine r_if_icmpge (by omega) (by omega) 143 rfl 181 rfl (dd_L_types_1 23 _ _ _ rfl) (fun hc4 => ?_) (fun hc4 => ?_)
        · exfalso; omega
        · refine r_iload_2 144 rfl (dd_L_types_1 24 _ _ _ rfl) ?_
          refine r_iconst 145 rfl (dd_L_types_1 25 _ _ _ rfl) ?_
          refine r_if_icmple (by omega) (by omega) 148 rfl 181 rfl (dd_L_types_1 26 _ _ _ rfl) (fun hc5 => ?_) (fun hc5 => ?_)
          · exfalso; omega
          · refine r_lload_3 149 rfl (dd_L_types_1 27 _ _ _ rfl) ?_
            refine r_bipush (by decide) 151 rfl (dd_L_types_1 28 _ _ _ rfl) ?_
            refine r_iload_5 153 rfl (dd_L_types_1 29 _ _ _ rfl) ?_
            refine r_imul 154 rfl (dd_L_types_1 30 _ _ _ rfl) ?_
            refine r_lshr 155 rfl (dd_L_types_1 31 _ _ _ rfl) ?_
            refine r_ldc2 hg (tb_4 199 _ rfl) 158 rfl (dd_L_types_1 32 _ _ _ rfl) ?_
            refine r_topl (255) rfl ?_
            refine r_land 159 rfl (dd_L_types_1 33 _ _ _ rfl) ?_
            refine r_l2i 160 rfl (dd_L_types_1 34 _ _ _ rfl) ?_
            refine r_i2c_any 161 rfl (dd_L_types_1 35 _ _ _ rfl) ?_
            refine r_top (zwsg W k) (zwsg_top W k) ?_
            refine r_istore_6 163 rfl (by decide) rfl (dd_L_types_1 36 _ _ _ rfl) ?_
            refine r_iload_6 165 rfl (dd_L_types_1 37 _ _ _ rfl) ?_
            refine r_ifle (by omega) 168 rfl 175 rfl (dd_L_types_1 38 _ _ _ rfl) (fun hc6 => ?_) (fun hc6 => ?_)
            · refine r_iinc_5 178 rfl (by decide) rfl (dd_L_types_1 43 _ _ _ rfl) ?_
              refine r_goto 136 rfl (dd_L_types_1 44 _ _ _ rfl) ?_
              refine r_sub [some (.ref x), some (.int (zI a)), some (.int (zI kd)), some (.long (zL W)), none, some (.int (zI (k + 1))), none] (z_s1 (z_s1 (z_s1 (z_s1 (z_s0 (z_s1 (z_s0 z_sN))))))) ?_
              exact hh x o h mc ms Q _ _ c (by omega) (by omega) kk
            · exfalso; omega
      · have e2 := hS.1.1.signs
        have hw := zwsg_range W k
        have h5 := ty_sign hS (zwsg_range W k) (by omega)
        obtain ⟨S2, R, hh⟩ := ih (k + 1) (by omega) (by omega) _ h5.1 (Or.inr (by show zu1 S.1 2 (S.1 2 + 1) 2 ≤ _; rw [zu1_at]; omega))
        refine ⟨S2, h5.trans R, fun x o h mc ms Q bc bs c hb1 hb2 kk => ?_⟩
        refine r_iload_5 138 rfl (dd_L_types_1 21 _ _ _ rfl) ?_
        refine r_bipush (by decide) 140 rfl (dd_L_types_1 22 _ _ _ rfl) ?_
        refine r_if_icmpge (by omega) (by omega) 143 rfl 181 rfl (dd_L_types_1 23 _ _ _ rfl) (fun hc7 => ?_) (fun hc7 => ?_)
        · exfalso; omega
        · refine r_iload_2 144 rfl (dd_L_types_1 24 _ _ _ rfl) ?_
          refine r_iconst 145 rfl (dd_L_types_1 25 _ _ _ rfl) ?_
          refine r_if_icmple (by omega) (by omega) 148 rfl 181 rfl (dd_L_types_1 26 _ _ _ rfl) (fun hc8 => ?_) (fun hc8 => ?_)
          · exfalso; omega
          · refine r_lload_3 149 rfl (dd_L_types_1 27 _ _ _ rfl) ?_
            refine r_bipush (by decide) 151 rfl (dd_L_types_1 28 _ _ _ rfl) ?_
            refine r_iload_5 153 rfl (dd_L_types_1 29 _ _ _ rfl) ?_
            refine r_imul 154 rfl (dd_L_types_1 30 _ _ _ rfl) ?_
            refine r_lshr 155 rfl (dd_L_types_1 31 _ _ _ rfl) ?_
            refine r_ldc2 hg (tb_4 199 _ rfl) 158 rfl (dd_L_types_1 32 _ _ _ rfl) ?_
            refine r_topl (255) rfl ?_
            refine r_land 159 rfl (dd_L_types_1 33 _ _ _ rfl) ?_
            refine r_l2i 160 rfl (dd_L_types_1 34 _ _ _ rfl) ?_
            refine r_i2c_any 161 rfl (dd_L_types_1 35 _ _ _ rfl) ?_
            refine r_top (zwsg W k) (zwsg_top W k) ?_
            refine r_istore_6 163 rfl (by decide) rfl (dd_L_types_1 36 _ _ _ rfl) ?_
            refine r_iload_6 165 rfl (dd_L_types_1 37 _ _ _ rfl) ?_
            refine r_ifle (by omega) 168 rfl 175 rfl (dd_L_types_1 38 _ _ _ rfl) (fun q => by exfalso; omega) (fun _ => ?_)
            refine r_aload_0 169 rfl (dd_L_types_1 39 _ _ _ rfl) ?_
            refine r_iload_6 171 rfl (dd_L_types_1 40 _ _ _ rfl) ?_
            refine r_callV1 (lvl := 14) (mc1 := 4) (ms1 := 40) (bc - 4) (bs - 40) hg rfl md_X11_type zc_X11 c.kd wi_X11_type wv_X11_type (tb_4 188 _ rfl) (by decide) (by decide) rfl (Nat.le_of_ble_eq_true rfl) (by omega) (by omega) 174 rfl (dd_L_types_1 41 _ _ _ rfl) ?_
            obtain ⟨Vs, Ps, Ss, Ts, Fs, Tn, A, G, Rc, y⟩ := id c
            refine c_X11_type hg hS.1.1 y (zwsg_range W k) (fun q => by exfalso; omega) (fun _ o1 h1 cx st => ?_)
            dsimp only [zCont, Option.toList, List.cons_append, List.nil_append]
            refine r_pop rfl 175 rfl (dd_L_types_1 42 _ _ _ rfl) ?_
            refine r_iinc_5 178 rfl (by decide) rfl (dd_L_types_1 43 _ _ _ rfl) ?_
            refine r_goto 136 rfl (dd_L_types_1 44 _ _ _ rfl) ?_
            refine r_sub [some (.ref x), some (.int (zI a)), some (.int (zI kd)), some (.long (zL W)), none, some (.int (zI (k + 1))), none] (z_s1 (z_s1 (z_s1 (z_s1 (z_s0 (z_s1 (z_s0 z_sN))))))) ?_
            exact hh x o1 h1 mc ms Q _ _ cx (by omega) (by omega) (fun o2 h2 c2 s2 => kk o2 h2 c2 (st.trans s2))
theorem c_types {g : zGT} (hg : zG g) {n : Nat} {S : zS} (hS : zOK n S) (a : Int) : ∃ S2, tyR n S S2 ∧ ∀ (x : Nat) (o : Nat → Nat) (h : zH) (Q : zO → zH → Prop), CEx g o h x S n → (∀ o1 h1, CEx g o1 h1 x S2 n → zStep zOwn o h o1 h1 → Q (.inl none) h1) → zC g (.code yL_types cL_types 7 (Option.none : Option Jvm.ClassFile.FieldType)) yL_types 15 44 440 [.ref x, .int (zI a)] h Q := by
  have hk := zlow_range (a := a) (n := 6) (by decide)
  have h0 := ty_clear hS
  obtain ⟨S1, R1, hS1, hh1⟩ := ty_l1 hg (n := n) (a := a) (kd := zlow a 6) (by omega) 4 0 rfl (by decide) _ h0.1 (by show zu1 S.1 2 0 2 ≤ 0; rw [zu1_at]; decide)
  have hl : zlow a 6 ≤ 2 ∨ S1.1 2 ≤ 0 := by
    by_cases q : zlow a 6 ≤ 2
    · exact Or.inl q
    · right; rw [hS1 (by omega)]; show zu1 S.1 2 0 2 ≤ 0; rw [zu1_at]; decide
  by_cases h3 : zlow a 6 = 3
  · obtain ⟨S2, R2, hh2⟩ := ty_l2 hg (n := n) (a := a) (kd := zlow a 6) (W := 32199689616191081) (by omega) 7 0 rfl (by decide) S1 R1.1 hl
    refine ⟨S2, h0.trans (R1.trans R2), fun x o h Q c k => ?_⟩
    refine zC_of (M := mL_types) (lv := [some (.ref x), some (.int (zI a)), none, none, none, none, none]) (by decide) rfl rfl (Nat.le_of_ble_eq_true rfl) rfl rfl ?_
    refine r_iload_1 1 rfl (dd_L_types_0 0 _ _ _ rfl) ?_
    refine r_bipush (by decide) 3 rfl (dd_L_types_0 1 _ _ _ rfl) ?_
    refine r_callS2 (lvl := 10) (mc1 := 0) (ms1 := 0) 44 440 hg rfl md_L_low ws_L_low (tb_1 155 _ rfl) (by decide) (by decide) rfl (Nat.le_of_ble_eq_true rfl) (by omega) (by omega) 6 rfl (dd_L_types_0 2 _ _ _ rfl) ?_
    refine c_L_low hg (by omega) (fun la1 lb1 => ?_)
    dsimp only [zCont, Option.toList, List.cons_append, List.nil_append]
    refine r_istore_2 7 rfl (by decide) rfl (dd_L_types_0 3 _ _ _ rfl) ?_
    refine r_aload_0 8 rfl (dd_L_types_0 4 _ _ _ rfl) ?_
    refine r_callV0 (lvl := 14) (mc1 := 0) (ms1 := 0) 44 440 hg rfl md_X11_clear zc_X11 c.kd wi_X11_clear wv_X11_clear (tb_4 180 _ rfl) (by decide) (by decide) rfl (Nat.le_of_ble_eq_true rfl) (by omega) (by omega) 11 rfl (dd_L_types_0 5 _ _ _ rfl) ?_
    obtain ⟨Vs, Ps, Ss, Ts, Fs, Tn, A, G, Rc, y⟩ := id c
    refine c_X11_clear hg hS.1.1 y (fun o1 h1 cx st => ?_)
    dsimp only [zCont, Option.toList, List.cons_append, List.nil_append]
    refine r_pop rfl 12 rfl (dd_L_types_0 6 _ _ _ rfl) ?_
    refine r_iconst 13 rfl (dd_L_types_0 7 _ _ _ rfl) ?_
    refine r_istore_3 14 rfl (by decide) rfl (dd_L_types_0 8 _ _ _ rfl) ?_
    refine r_sub [some (.ref x), some (.int (zI a)), some (.int (zI (zlow a 6))), some (.int (zI 0)), none, none, none] (z_s1 (z_s1 (z_s1 (z_s1 (z_s0 (z_s0 (z_s0 z_sN))))))) ?_
    refine hh1 x o1 h1 44 440 Q _ _ 28 280 cx (by decide) (by decide) (fun o2 h2 c2 s2 => ?_)
    refine r_iload_2 108 rfl (dd_L_types_1 7 _ _ _ rfl) ?_
    refine r_iconst 109 rfl (dd_L_types_1 8 _ _ _ rfl) ?_
    refine r_if_icmpne (by omega) (by omega) 112 rfl 118 rfl (dd_L_types_1 9 _ _ _ rfl) (fun hc1 => ?_) (fun hc1 => ?_)
    · refine r_iload_2 119 rfl (dd_L_types_1 12 _ _ _ rfl) ?_
      refine r_iconst 120 rfl (dd_L_types_1 13 _ _ _ rfl) ?_
      refine r_if_icmpne (by omega) (by omega) 123 rfl 129 rfl (dd_L_types_1 14 _ _ _ rfl) (fun hc2 => ?_) (fun hc2 => ?_)
      · refine r_ldc2 hg (tb_4 198 _ rfl) 132 rfl (dd_L_types_1 17 _ _ _ rfl) ?_
        refine r_topl (111477644881776) rfl ?_
        refine r_lstore_3 133 rfl (by decide) rfl (dd_L_types_1 18 _ _ _ rfl) ?_
        refine r_iconst 134 rfl (dd_L_types_1 19 _ _ _ rfl) ?_
        refine r_istore_5 136 rfl (by decide) rfl (dd_L_types_1 20 _ _ _ rfl) ?_
        first | (exfalso; omega) | exact hh2 x o2 h2 44 440 Q _ _ c2 (by decide) (by decide) (fun o3 h3 c3 s3 => k o3 h3 c3 (st.trans (s2.trans s3)))
      · refine r_ldc2 hg (tb_4 197 _ rfl) 126 rfl (dd_L_types_1 15 _ _ _ rfl) ?_
        refine r_topl (32199680890858595) rfl ?_
        refine r_goto 132 rfl (dd_L_types_1 16 _ _ _ rfl) ?_
        refine r_lstore_3 133 rfl (by decide) rfl (dd_L_types_1 18 _ _ _ rfl) ?_
        refine r_iconst 134 rfl (dd_L_types_1 19 _ _ _ rfl) ?_
        refine r_istore_5 136 rfl (by decide) rfl (dd_L_types_1 20 _ _ _ rfl) ?_
        first | (exfalso; omega) | exact hh2 x o2 h2 44 440 Q _ _ c2 (by decide) (by decide) (fun o3 h3 c3 s3 => k o3 h3 c3 (st.trans (s2.trans s3)))
    · refine r_ldc2 hg (tb_4 196 _ rfl) 115 rfl (dd_L_types_1 10 _ _ _ rfl) ?_
      refine r_topl (32199689616191081) rfl ?_
      refine r_goto 132 rfl (dd_L_types_1 11 _ _ _ rfl) ?_
      refine r_lstore_3 133 rfl (by decide) rfl (dd_L_types_1 18 _ _ _ rfl) ?_
      refine r_iconst 134 rfl (dd_L_types_1 19 _ _ _ rfl) ?_
      refine r_istore_5 136 rfl (by decide) rfl (dd_L_types_1 20 _ _ _ rfl) ?_
      first | (exfalso; omega) | exact hh2 x o2 h2 44 440 Q _ _ c2 (by decide) (by decide) (fun o3 h3 c3 s3 => k o3 h3 c3 (st.trans (s2.trans s3)))
  by_cases h4 : zlow a 6 = 4
  · obtain ⟨S2, R2, hh2⟩ := ty_l2 hg (n := n) (a := a) (kd := zlow a 6) (W := 32199680890858595) (by omega) 7 0 rfl (by decide) S1 R1.1 hl
    refine ⟨S2, h0.trans (R1.trans R2), fun x o h Q c k => ?_⟩
    refine zC_of (M := mL_types) (lv := [some (.ref x), some (.int (zI a)), none, none, none, none, none]) (by decide) rfl rfl (Nat.le_of_ble_eq_true rfl) rfl rfl ?_
    refine r_iload_1 1 rfl (dd_L_types_0 0 _ _ _ rfl) ?_
    refine r_bipush (by decide) 3 rfl (dd_L_types_0 1 _ _ _ rfl) ?_
    refine r_callS2 (lvl := 10) (mc1 := 0) (ms1 := 0) 44 440 hg rfl md_L_low ws_L_low (tb_1 155 _ rfl) (by decide) (by decide) rfl (Nat.le_of_ble_eq_true rfl) (by omega) (by omega) 6 rfl (dd_L_types_0 2 _ _ _ rfl) ?_
    refine c_L_low hg (by omega) (fun la1 lb1 => ?_)
    dsimp only [zCont, Option.toList, List.cons_append, List.nil_append]
    refine r_istore_2 7 rfl (by decide) rfl (dd_L_types_0 3 _ _ _ rfl) ?_
    refine r_aload_0 8 rfl (dd_L_types_0 4 _ _ _ rfl) ?_
    refine r_callV0 (lvl := 14) (mc1 := 0) (ms1 := 0) 44 440 hg rfl md_X11_clear zc_X11 c.kd wi_X11_clear wv_X11_clear (tb_4 180 _ rfl) (by decide) (by decide) rfl (Nat.le_of_ble_eq_true rfl) (by omega) (by omega) 11 rfl (dd_L_types_0 5 _ _ _ rfl) ?_
    obtain ⟨Vs, Ps, Ss, Ts, Fs, Tn, A, G, Rc, y⟩ := id c
    refine c_X11_clear hg hS.1.1 y (fun o1 h1 cx st => ?_)
    dsimp only [zCont, Option.toList, List.cons_append, List.nil_append]
    refine r_pop rfl 12 rfl (dd_L_types_0 6 _ _ _ rfl) ?_
    refine r_iconst 13 rfl (dd_L_types_0 7 _ _ _ rfl) ?_
    refine r_istore_3 14 rfl (by decide) rfl (dd_L_types_0 8 _ _ _ rfl) ?_
    refine r_sub [some (.ref x), some (.int (zI a)), some (.int (zI (zlow a 6))), some (.int (zI 0)), none, none, none] (z_s1 (z_s1 (z_s1 (z_s1 (z_s0 (z_s0 (z_s0 z_sN))))))) ?_
    refine hh1 x o1 h1 44 440 Q _ _ 28 280 cx (by decide) (by decide) (fun o2 h2 c2 s2 => ?_)
    refine r_iload_2 108 rfl (dd_L_types_1 7 _ _ _ rfl) ?_
    refine r_iconst 109 rfl (dd_L_types_1 8 _ _ _ rfl) ?_
    refine r_if_icmpne (by omega) (by omega) 112 rfl 118 rfl (dd_L_types_1 9 _ _ _ rfl) (fun hc1 => ?_) (fun hc1 => ?_)
    · refine r_iload_2 119 rfl (dd_L_types_1 12 _ _ _ rfl) ?_
      refine r_iconst 120 rfl (dd_L_types_1 13 _ _ _ rfl) ?_
      refine r_if_icmpne (by omega) (by omega) 123 rfl 129 rfl (dd_L_types_1 14 _ _ _ rfl) (fun hc2 => ?_) (fun hc2 => ?_)
      · refine r_ldc2 hg (tb_4 198 _ rfl) 132 rfl (dd_L_types_1 17 _ _ _ rfl) ?_
        refine r_topl (111477644881776) rfl ?_
        refine r_lstore_3 133 rfl (by decide) rfl (dd_L_types_1 18 _ _ _ rfl) ?_
        refine r_iconst 134 rfl (dd_L_types_1 19 _ _ _ rfl) ?_
        refine r_istore_5 136 rfl (by decide) rfl (dd_L_types_1 20 _ _ _ rfl) ?_
        first | (exfalso; omega) | exact hh2 x o2 h2 44 440 Q _ _ c2 (by decide) (by decide) (fun o3 h3 c3 s3 => k o3 h3 c3 (st.trans (s2.trans s3)))
      · refine r_ldc2 hg (tb_4 197 _ rfl) 126 rfl (dd_L_types_1 15 _ _ _ rfl) ?_
        refine r_topl (32199680890858595) rfl ?_
        refine r_goto 132 rfl (dd_L_types_1 16 _ _ _ rfl) ?_
        refine r_lstore_3 133 rfl (by decide) rfl (dd_L_types_1 18 _ _ _ rfl) ?_
        refine r_iconst 134 rfl (dd_L_types_1 19 _ _ _ rfl) ?_
        refine r_istore_5 136 rfl (by decide) rfl (dd_L_types_1 20 _ _ _ rfl) ?_
        first | (exfalso; omega) | exact hh2 x o2 h2 44 440 Q _ _ c2 (by decide) (by decide) (fun o3 h3 c3 s3 => k o3 h3 c3 (st.trans (s2.trans s3)))
    · refine r_ldc2 hg (tb_4 196 _ rfl) 115 rfl (dd_L_types_1 10 _ _ _ rfl) ?_
      refine r_topl (32199689616191081) rfl ?_
      refine r_goto 132 rfl (dd_L_types_1 11 _ _ _ rfl) ?_
      refine r_lstore_3 133 rfl (by decide) rfl (dd_L_types_1 18 _ _ _ rfl) ?_
      refine r_iconst 134 rfl (dd_L_types_1 19 _ _ _ rfl) ?_
      refine r_istore_5 136 rfl (by decide) rfl (dd_L_types_1 20 _ _ _ rfl) ?_
      first | (exfalso; omega) | exact hh2 x o2 h2 44 440 Q _ _ c2 (by decide) (by decide) (fun o3 h3 c3 s3 => k o3 h3 c3 (st.trans (s2.trans s3)))
  obtain ⟨S2, R2, hh2⟩ := ty_l2 hg (n := n) (a := a) (kd := zlow a 6) (W := 111477644881776) (by omega) 7 0 rfl (by decide) S1 R1.1 hl
  refine ⟨S2, h0.trans (R1.trans R2), fun x o h Q c k => ?_⟩
  refine zC_of (M := mL_types) (lv := [some (.ref x), some (.int (zI a)), none, none, none, none, none]) (by decide) rfl rfl (Nat.le_of_ble_eq_true rfl) rfl rfl ?_
  refine r_iload_1 1 rfl (dd_L_types_0 0 _ _ _ rfl) ?_
  refine r_bipush (by decide) 3 rfl (dd_L_types_0 1 _ _ _ rfl) ?_
  refine r_callS2 (lvl := 10) (mc1 := 0) (ms1 := 0) 44 440 hg rfl md_L_low ws_L_low (tb_1 155 _ rfl) (by decide) (by decide) rfl (Nat.le_of_ble_eq_true rfl) (by omega) (by omega) 6 rfl (dd_L_types_0 2 _ _ _ rfl) ?_
  refine c_L_low hg (by omega) (fun la1 lb1 => ?_)
  dsimp only [zCont, Option.toList, List.cons_append, List.nil_append]
  refine r_istore_2 7 rfl (by decide) rfl (dd_L_types_0 3 _ _ _ rfl) ?_
  refine r_aload_0 8 rfl (dd_L_types_0 4 _ _ _ rfl) ?_
  refine r_callV0 (lvl := 14) (mc1 := 0) (ms1 := 0) 44 440 hg rfl md_X11_clear zc_X11 c.kd wi_X11_clear wv_X11_clear (tb_4 180 _ rfl) (by decide) (by decide) rfl (Nat.le_of_ble_eq_true rfl) (by omega) (by omega) 11 rfl (dd_L_types_0 5 _ _ _ rfl) ?_
  obtain ⟨Vs, Ps, Ss, Ts, Fs, Tn, A, G, Rc, y⟩ := id c
  refine c_X11_clear hg hS.1.1 y (fun o1 h1 cx st => ?_)
  dsimp only [zCont, Option.toList, List.cons_append, List.nil_append]
  refine r_pop rfl 12 rfl (dd_L_types_0 6 _ _ _ rfl) ?_
  refine r_iconst 13 rfl (dd_L_types_0 7 _ _ _ rfl) ?_
  refine r_istore_3 14 rfl (by decide) rfl (dd_L_types_0 8 _ _ _ rfl) ?_
  refine r_sub [some (.ref x), some (.int (zI a)), some (.int (zI (zlow a 6))), some (.int (zI 0)), none, none, none] (z_s1 (z_s1 (z_s1 (z_s1 (z_s0 (z_s0 (z_s0 z_sN))))))) ?_
  refine hh1 x o1 h1 44 440 Q _ _ 28 280 cx (by decide) (by decide) (fun o2 h2 c2 s2 => ?_)
  refine r_iload_2 108 rfl (dd_L_types_1 7 _ _ _ rfl) ?_
  refine r_iconst 109 rfl (dd_L_types_1 8 _ _ _ rfl) ?_
  refine r_if_icmpne (by omega) (by omega) 112 rfl 118 rfl (dd_L_types_1 9 _ _ _ rfl) (fun hc1 => ?_) (fun hc1 => ?_)
  · refine r_iload_2 119 rfl (dd_L_types_1 12 _ _ _ rfl) ?_
    refine r_iconst 120 rfl (dd_L_types_1 13 _ _ _ rfl) ?_
    refine r_if_icmpne (by omega) (by omega) 123 rfl 129 rfl (dd_L_types_1 14 _ _ _ rfl) (fun hc2 => ?_) (fun hc2 => ?_)
    · refine r_ldc2 hg (tb_4 198 _ rfl) 132 rfl (dd_L_types_1 17 _ _ _ rfl) ?_
      refine r_topl (111477644881776) rfl ?_
      refine r_lstore_3 133 rfl (by decide) rfl (dd_L_types_1 18 _ _ _ rfl) ?_
      refine r_iconst 134 rfl (dd_L_types_1 19 _ _ _ rfl) ?_
      refine r_istore_5 136 rfl (by decide) rfl (dd_L_types_1 20 _ _ _ rfl) ?_
      first | (exfalso; omega) | exact hh2 x o2 h2 44 440 Q _ _ c2 (by decide) (by decide) (fun o3 h3 c3 s3 => k o3 h3 c3 (st.trans (s2.trans s3)))
    · refine r_ldc2 hg (tb_4 197 _ rfl) 126 rfl (dd_L_types_1 15 _ _ _ rfl) ?_
      refine r_topl (32199680890858595) rfl ?_
      refine r_goto 132 rfl (dd_L_types_1 16 _ _ _ rfl) ?_
      refine r_lstore_3 133 rfl (by decide) rfl (dd_L_types_1 18 _ _ _ rfl) ?_
      refine r_iconst 134 rfl (dd_L_types_1 19 _ _ _ rfl) ?_
      refine r_istore_5 136 rfl (by decide) rfl (dd_L_types_1 20 _ _ _ rfl) ?_
      first | (exfalso; omega) | exact hh2 x o2 h2 44 440 Q _ _ c2 (by decide) (by decide) (fun o3 h3 c3 s3 => k o3 h3 c3 (st.trans (s2.trans s3)))
  · refine r_ldc2 hg (tb_4 196 _ rfl) 115 rfl (dd_L_types_1 10 _ _ _ rfl) ?_
    refine r_topl (32199689616191081) rfl ?_
    refine r_goto 132 rfl (dd_L_types_1 11 _ _ _ rfl) ?_
    refine r_lstore_3 133 rfl (by decide) rfl (dd_L_types_1 18 _ _ _ rfl) ?_
    refine r_iconst 134 rfl (dd_L_types_1 19 _ _ _ rfl) ?_
    refine r_istore_5 136 rfl (by decide) rfl (dd_L_types_1 20 _ _ _ rfl) ?_
    first | (exfalso; omega) | exact hh2 x o2 h2 44 440 Q _ _ c2 (by decide) (by decide) (fun o3 h3 c3 s3 => k o3 h3 c3 (st.trans (s2.trans s3)))
