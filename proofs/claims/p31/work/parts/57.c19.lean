theorem zword_iff {S : zS} {W : Int} {L : List Int} {n : Nat} (hn : L.length = n) (h : ∀ k, k < n → 97 + W / 2 ^ (5 * k) % 32 = L.getD k 0) : (S.1 2 = (L.length : Int) ∧ ∀ i, i < L.length → S.2 3 i = L.getD i 0) ↔ zwordOK S W n := by
  constructor
  · rintro ⟨a, b⟩; exact ⟨by rw [a, hn], fun k hk => (b k (by omega)).trans (h k hk).symm⟩
  · rintro ⟨a, b⟩; exact ⟨by rw [a, hn], fun k hk => (b k (by omega)).trans (h k (by omega))⟩
def zWords (g : zGT) : Prop := ∃ p0 p1 p2, zSR g 360 "police" p0 ∧ zWd g p0 [112, 111, 108, 105, 99, 101] ∧ zSR g 372 "insurer" p1 ∧ zWd g p1 [105, 110, 115, 117, 114, 101, 114] ∧ zSR g 374 "clamper" p2 ∧ zWd g p2 [99, 108, 97, 109, 112, 101, 114]
theorem zlat_people {S : zS} {u : Nat} {m : Int} {c : Nat} (hm : 0 ≤ m) (hk : ∀ j : Nat, j < c → S.2 9 (30 * u + j) = 0 → S.2 10 (30 * u + j) < m) : ∀ j, j ≤ c → zlat S u 0 (-1) j < m
  | 0, _ => by show (-1 : Int) < m; omega
  | j + 1, h => by
    unfold zlat
    split
    · rename_i h9; exact hk j (by omega) h9
    · exact zlat_people hm hk j (by omega)
abbrev mX11_isAllowedByState : zM := (RX11, cX11_isAllowedByState, 2, (Option.some Jvm.ClassFile.FieldType.boolean), [], "isAllowedByState", 15)
set_option maxRecDepth 20000 in
theorem c_X11_isAllowedByState {g : zGT} {Q : zO → zH → Prop} {h : zH} (hg : zG g) {o : Nat → Nat} {x : Nat} {S : zS} {n : Nat} {Vs Ps Ss Ts Fs Tn : List Nat} {A : Nat → Nat} {G : Nat → Nat → Nat} {Rc : Nat → Nat} (hI : MInv n S) (y : CRep g o h x S n Vs Ps Ss Ts Fs Tn A G Rc) (hcs : zCS g) {p0 p1 p2 : Nat} (g0 : zSR g 360 "police" p0) (w0 : zWd g p0 [112, 111, 108, 105, 99, 101]) (g1 : zSR g 372 "insurer" p1) (w1 : zWd g p1 [105, 110, 115, 117, 114, 101, 114]) (g2 : zSR g 374 "clamper" p2) (w2 : zWd g p2 [99, 108, 97, 109, 112, 101, 114]) {s : Int} (hs : zR s) (k1 : (s = 1 ∧ zwordOK S 18406328744 7 ∨ (s = 2 ∨ s = 0) ∧ zwordOK S 18403950946 7) → Q (.inl (some (.int (zI 1)))) h) (k0 : ¬ ((s = 1 ∧ zwordOK S 18406328744 7 ∨ (s = 2 ∨ s = 0) ∧ zwordOK S 18403950946 7)) → Q (.inl (some (.int (zI 0)))) h) : zC g (.code yX11_isAllowedByState cX11_isAllowedByState 2 (Option.some Jvm.ClassFile.FieldType.boolean)) yX11_isAllowedByState 15 0 0 [.ref x, .int (zI s)] h Q := by
  refine zC_of (M := mX11_isAllowedByState) (lv := [some (.ref x), some (.int (zI s))]) (by decide) rfl rfl (Nat.le_of_ble_eq_true rfl) rfl rfl ?_
  have e1 := hI.vehicles
  have e2 := hI.today
  have e3 := hI.people
  have e4 := hI.sightings
  have e5 := hI.fines
  have e6 := hI.calls
  have nv := y.nv
  have np := y.np
  have ns := y.ns
  have nf := y.nf
  have e9 := hI.signs
  obtain ⟨bg, b1, b2, b3, b4, b5, b6, b7, b8⟩ := id y.bu
  refine r_iload_1 1 rfl (dd_X11_isAllowedByState 0 _ _ _ rfl) ?_
  refine r_iconst 2 rfl (dd_X11_isAllowedByState 1 _ _ _ rfl) ?_
  refine r_if_icmpne (by omega) (by omega) 5 rfl 16 rfl (dd_X11_isAllowedByState 2 _ _ _ rfl) (fun hc1 => ?_) (fun hc1 => ?_)
  · refine r_iload_1 17 rfl (dd_X11_isAllowedByState 8 _ _ _ rfl) ?_
    refine r_iconst 18 rfl (dd_X11_isAllowedByState 9 _ _ _ rfl) ?_
    refine r_if_icmpeq (by omega) (by omega) 21 rfl 25 rfl (dd_X11_isAllowedByState 10 _ _ _ rfl) (fun hc2 => ?_) (fun hc2 => ?_)
    · refine r_aload_0 26 rfl (dd_X11_isAllowedByState 13 _ _ _ rfl) ?_
      refine r_getr hg zc_X11 1 (by decide) (fun _ _ _ => rfl) y.mn.2.2.2.2.1 y.mn.1 (Or.inl rfl) (tb_1 122 _ rfl) 29 rfl (dd_X11_isAllowedByState 14 _ _ _ rfl) ?_
      refine r_ldcwS rfl g2 32 rfl (dd_X11_isAllowedByState 15 _ _ _ rfl) ?_
      refine r_callV1 (lvl := 14) (mc1 := 0) (ms1 := 0) 0 0 hg rfl md_X0_spells zc_X0 b1 wi_X0_spells wv_X0_spells (tb_5 229 _ rfl) (by decide) (by decide) rfl (Nat.le_of_ble_eq_true rfl) (Nat.le_of_ble_eq_true rfl) (Nat.le_of_ble_eq_true rfl) 35 rfl (dd_X11_isAllowedByState 16 _ _ _ rfl) ?_
      refine c_X0_spells hg hI y.bu hcs w2 (fun hsp => ?_) (fun hsp => ?_)
      · replace hsp := (zword_iff (S := S) (W := 18403950946) (n := 7) rfl (by decide)).mp hsp
        have hs2 := hsp
        dsimp only [zCont, Option.toList, List.cons_append, List.nil_append]
        refine r_ifeq (by omega) 38 rfl 42 rfl (dd_X11_isAllowedByState 17 _ _ _ rfl) (fun q => absurd q (by decide)) (fun _ => ?_)
        refine r_iconst 39 rfl (dd_X11_isAllowedByState 18 _ _ _ rfl) ?_
        refine r_goto 43 rfl (dd_X11_isAllowedByState 19 _ _ _ rfl) ?_
        refine r_ireturn rfl rfl (dd_X11_isAllowedByState 21 _ _ _ rfl) ?_
        exact k1 (by first | exact Or.inl ⟨by omega, hsp⟩ | exact Or.inr ⟨by omega, hsp⟩)
      · replace hsp := fun q => hsp ((zword_iff (S := S) (W := 18403950946) (n := 7) rfl (by decide)).mpr q)
        have hs2 := hsp
        dsimp only [zCont, Option.toList, List.cons_append, List.nil_append]
        refine r_ifeq (by omega) 38 rfl 42 rfl (dd_X11_isAllowedByState 17 _ _ _ rfl) (fun _ => ?_) (fun q => absurd q (by decide))
        refine r_iconst 43 rfl (dd_X11_isAllowedByState 20 _ _ _ rfl) ?_
        refine r_ireturn rfl rfl (dd_X11_isAllowedByState 21 _ _ _ rfl) ?_
        exact k0 (fun q => by rcases q with ⟨q1, q2⟩ | ⟨q1, q2⟩ <;> first | omega | first | exact hsp q2 | exact absurd q2 (by first | exact hsp | omega))
    · refine r_iload_1 22 rfl (dd_X11_isAllowedByState 11 _ _ _ rfl) ?_
      refine r_ifne (by omega) 25 rfl 42 rfl (dd_X11_isAllowedByState 12 _ _ _ rfl) (fun hc3 => ?_) (fun hc3 => ?_)
      · refine r_iconst 43 rfl (dd_X11_isAllowedByState 20 _ _ _ rfl) ?_
        refine r_ireturn rfl rfl (dd_X11_isAllowedByState 21 _ _ _ rfl) ?_
        exact k0 (fun q => by rcases q with ⟨q1, q2⟩ | ⟨q1, q2⟩ <;> first | omega | first | exact hsp q2 | exact absurd q2 (by first | exact hsp | omega))
      · refine r_aload_0 26 rfl (dd_X11_isAllowedByState 13 _ _ _ rfl) ?_
        refine r_getr hg zc_X11 1 (by decide) (fun _ _ _ => rfl) y.mn.2.2.2.2.1 y.mn.1 (Or.inl rfl) (tb_1 122 _ rfl) 29 rfl (dd_X11_isAllowedByState 14 _ _ _ rfl) ?_
        refine r_ldcwS rfl g2 32 rfl (dd_X11_isAllowedByState 15 _ _ _ rfl) ?_
        refine r_callV1 (lvl := 14) (mc1 := 0) (ms1 := 0) 0 0 hg rfl md_X0_spells zc_X0 b1 wi_X0_spells wv_X0_spells (tb_5 229 _ rfl) (by decide) (by decide) rfl (Nat.le_of_ble_eq_true rfl) (Nat.le_of_ble_eq_true rfl) (Nat.le_of_ble_eq_true rfl) 35 rfl (dd_X11_isAllowedByState 16 _ _ _ rfl) ?_
        refine c_X0_spells hg hI y.bu hcs w2 (fun hsp => ?_) (fun hsp => ?_)
        · replace hsp := (zword_iff (S := S) (W := 18403950946) (n := 7) rfl (by decide)).mp hsp
          have hs2 := hsp
          dsimp only [zCont, Option.toList, List.cons_append, List.nil_append]
          refine r_ifeq (by omega) 38 rfl 42 rfl (dd_X11_isAllowedByState 17 _ _ _ rfl) (fun q => absurd q (by decide)) (fun _ => ?_)
          refine r_iconst 39 rfl (dd_X11_isAllowedByState 18 _ _ _ rfl) ?_
          refine r_goto 43 rfl (dd_X11_isAllowedByState 19 _ _ _ rfl) ?_
          refine r_ireturn rfl rfl (dd_X11_isAllowedByState 21 _ _ _ rfl) ?_
          exact k1 (by first | exact Or.inl ⟨by omega, hsp⟩ | exact Or.inr ⟨by omega, hsp⟩)
        · replace hsp := fun q => hsp ((zword_iff (S := S) (W := 18403950946) (n := 7) rfl (by decide)).mpr q)
          have hs2 := hsp
          dsimp only [zCont, Option.toList, List.cons_append, List.nil_append]
          refine r_ifeq (by omega) 38 rfl 42 rfl (dd_X11_isAllowedByState 17 _ _ _ rfl) (fun _ => ?_) (fun q => absurd q (by decide))
          refine r_iconst 43 rfl (dd_X11_isAllowedByState 20 _ _ _ rfl) ?_
          refine r_ireturn rfl rfl (dd_X11_isAllowedByState 21 _ _ _ rfl) ?_
          exact k0 (fun q => by rcases q with ⟨q1, q2⟩ | ⟨q1, q2⟩ <;> first | omega | first | exact hsp q2 | exact absurd q2 (by first | exact hsp | omega))
  · refine r_aload_0 6 rfl (dd_X11_isAllowedByState 3 _ _ _ rfl) ?_
    refine r_getr hg zc_X11 1 (by decide) (fun _ _ _ => rfl) y.mn.2.2.2.2.1 y.mn.1 (Or.inl rfl) (tb_1 122 _ rfl) 9 rfl (dd_X11_isAllowedByState 4 _ _ _ rfl) ?_
    refine r_ldcwS rfl g1 12 rfl (dd_X11_isAllowedByState 5 _ _ _ rfl) ?_
    refine r_callV1 (lvl := 14) (mc1 := 0) (ms1 := 0) 0 0 hg rfl md_X0_spells zc_X0 b1 wi_X0_spells wv_X0_spells (tb_5 229 _ rfl) (by decide) (by decide) rfl (Nat.le_of_ble_eq_true rfl) (Nat.le_of_ble_eq_true rfl) (Nat.le_of_ble_eq_true rfl) 15 rfl (dd_X11_isAllowedByState 6 _ _ _ rfl) ?_
    refine c_X0_spells hg hI y.bu hcs w1 (fun hsp => ?_) (fun hsp => ?_)
    · replace hsp := (zword_iff (S := S) (W := 18406328744) (n := 7) rfl (by decide)).mp hsp
      have hs1 := hsp
      dsimp only [zCont, Option.toList, List.cons_append, List.nil_append]
      refine r_ireturn rfl rfl (dd_X11_isAllowedByState 7 _ _ _ rfl) ?_
      exact k1 (by first | exact Or.inl ⟨by omega, hsp⟩ | exact Or.inr ⟨by omega, hsp⟩)
    · replace hsp := fun q => hsp ((zword_iff (S := S) (W := 18406328744) (n := 7) rfl (by decide)).mpr q)
      have hs1 := hsp
      dsimp only [zCont, Option.toList, List.cons_append, List.nil_append]
      refine r_ireturn rfl rfl (dd_X11_isAllowedByState 7 _ _ _ rfl) ?_
      exact k0 (fun q => by rcases q with ⟨q1, q2⟩ | ⟨q1, q2⟩ <;> first | omega | first | exact hsp q2 | exact absurd q2 (by first | exact hsp | omega))

abbrev mX11_look : zM := (RX11, cX11_look, 7, (Option.some Jvm.ClassFile.FieldType.int), [], "look", 17)
set_option maxRecDepth 20000 in
theorem c_X11_look {g : zGT} {Q : zO → zH → Prop} {h : zH} (hg : zG g) {o : Nat → Nat} {x : Nat} {S : zS} {n : Nat} {Vs Ps Ss Ts Fs Tn : List Nat} {A : Nat → Nat} {G : Nat → Nat → Nat} {Rc : Nat → Nat} (hI : MInv n S) (y : CRep g o h x S n Vs Ps Ss Ts Fs Tn A G Rc) (hcs : zCS g) {p0 p1 p2 : Nat} (g0 : zSR g 360 "police" p0) (w0 : zWd g p0 [112, 111, 108, 105, 99, 101]) (g1 : zSR g 372 "insurer" p1) (w1 : zWd g p1 [105, 110, 115, 117, 114, 101, 114]) (g2 : zSR g 374 "clamper" p2) (w2 : zWd g p2 [99, 108, 97, 109, 112, 101, 114]) {v : Int} (hv : zR v) (kE : ¬ (0 ≤ v ∧ v < S.1 4) → Q (.inr "java/lang/IndexOutOfBoundsException") h) (k2 : ∀ u : Nat, v = u → v < S.1 4 → ¬ ((zwordOK S 136588751 6 ∨ zwordOK S 18406328744 7 ∧ zstate S u (S.1 1) = 1 ∨ zwordOK S 18403950946 7 ∧ (zstate S u (S.1 1) = 2 ∨ zstate S u (S.1 1) = 0)) ∧ (zlast S u (S.1 1) 0 (-1)) ≠ -1 ∧ (S.2 13 (zlast S u (S.1 1) 0 (-1)).toNat = 0 ∨ zwordOK S 136588751 6)) → ∀ o1 h1, CEx g o1 h1 x (zu1 S.1 2 0, S.2) (n + 1) → zStep zOwn o h o1 h1 → Q (.inl (some (.int (zI (-1))))) h1) (k0 : ∀ u : Nat, v = u → v < S.1 4 → ((zwordOK S 136588751 6 ∨ zwordOK S 18406328744 7 ∧ zstate S u (S.1 1) = 1 ∨ zwordOK S 18403950946 7 ∧ (zstate S u (S.1 1) = 2 ∨ zstate S u (S.1 1) = 0)) ∧ (zlast S u (S.1 1) 0 (-1)) ≠ -1 ∧ (S.2 13 (zlast S u (S.1 1) 0 (-1)).toNat = 0 ∨ zwordOK S 136588751 6)) → ∀ o1 h1, CEx g o1 h1 x (zu1 S.1 2 0, zu2 S.2 14 (zlast S u (S.1 1) 0 (-1)).toNat (S.2 14 (zlast S u (S.1 1) 0 (-1)).toNat + 1)) (n + 1) → zStep zOwn o h o1 h1 → Q (.inl (some (.int (zI (zlast S u (S.1 1) 0 (-1)))))) h1) : zC g (.code yX11_look cX11_look 7 (Option.some Jvm.ClassFile.FieldType.int)) yX11_look 17 4 40 [.ref x, .int (zI v)] h Q := by
  refine zC_of (M := mX11_look) (lv := [some (.ref x), some (.int (zI v)), none, none, none, none, none]) (by decide) rfl rfl (Nat.le_of_ble_eq_true rfl) rfl rfl ?_
  have e1 := hI.vehicles
  have e2 := hI.today
  have e3 := hI.people
  have e4 := hI.sightings
  have e5 := hI.fines
  have e6 := hI.calls
  have nv := y.nv
  have np := y.np
  have ns := y.ns
  have nf := y.nf
  have e9 := hI.signs
  refine r_aload_0 1 rfl (dd_X11_look_0 0 _ _ _ rfl) ?_
  refine r_iload_1 2 rfl (dd_X11_look_0 1 _ _ _ rfl) ?_
  refine r_callV1 (lvl := 13) (mc1 := 1) (ms1 := 6) 3 34 hg rfl md_X11_vehicleAt zc_X11 y.mn.1 wi_X11_vehicleAt wv_X11_vehicleAt (tb_3 29 _ rfl) (by decide) (by decide) rfl (Nat.le_of_ble_eq_true rfl) (Nat.le_of_ble_eq_true rfl) (Nat.le_of_ble_eq_true rfl) 5 rfl (dd_X11_look_0 2 _ _ _ rfl) ?_
  refine c_X11_vehicleAt hg hI y (by omega) (fun hE => ?_) (fun u va hu hV hu4 => ?_)
  · dsimp only [zCont]
    exact kE hE
  · dsimp only [zCont, Option.toList, List.cons_append, List.nil_append]
    have hul : u < Vs.length := by omega
    have hu12 : u < 12 := by omega
    obtain ⟨⟨t, l, L, B, hp⟩, hsd⟩ := id (y.hi u hul)
    obtain ⟨hp1, hp2, hp3, hp4, hp5, hp6, hp7, hp8, hp9, hp10, hp11, hp12⟩ := id hp
    obtain ⟨bg, b1, b2, b3, b4, b5, b6, b7, b8⟩ := id y.bu
    refine r_getr hg zc_X10 2 (by decide) (fun _ _ _ => rfl) (y.vo u va hV).2.2.2.2.1 (y.vo u va hV).1 (Or.inl rfl) (tb_2 123 _ rfl) 8 rfl (dd_X11_look_0 3 _ _ _ rfl) ?_
    refine r_aload_0 9 rfl (dd_X11_look_0 4 _ _ _ rfl) ?_
    refine r_geti hg zc_X11 0 (by decide) (fun _ _ _ => rfl) y.mn.2.2.1 y.mn.1 (Or.inl rfl) (tb_1 121 _ rfl) 12 rfl (dd_X11_look_0 5 _ _ _ rfl) ?_
    refine r_callV1 (lvl := 13) (mc1 := 0) (ms1 := 0) 3 34 hg rfl md_X4_standingOn zc_X4 hp1 wi_X4_standingOn wv_X4_standingOn (tb_4 145 _ rfl) (by decide) (by decide) rfl (Nat.le_of_ble_eq_true rfl) (Nat.le_of_ble_eq_true rfl) (Nat.le_of_ble_eq_true rfl) 15 rfl (dd_X11_look_0 6 _ _ _ rfl) ?_
    refine c_X4_standingOn hg hI hsd hp (by omega) (fun sb hsb => ?_)
    dsimp only [zCont, Option.toList, List.cons_append, List.nil_append]
    refine r_astore_2 16 rfl (by decide) rfl (dd_X11_look_0 7 _ _ _ rfl) ?_
    have hzr := zst_range S u (zev S u (S.1 1))
    have hzs : zstate S u (S.1 1) = (zst S u (zev S u (S.1 1))).1 := rfl
    have hkr := zlast_range (v := u) (w := S.1 1) (its := 0) (wo := -1) hI (by decide)
    have hkp : (zlast S u (S.1 1) 0 (-1)) < S.1 12 := zlat_people (c := L.length) (by omega) (fun j hj h9 => y.kp u j (by omega) (by omega) h9) (zev S u (S.1 1)) (by have := zpre_le (fun j => decide (S.2 11 (30 * u + j) ≤ S.1 1)) (S.2 8 u).toNat; show zpre _ _ ≤ _; omega)
    refine r_aload_0 17 rfl (dd_X11_look_0 8 _ _ _ rfl) ?_
    refine r_getr hg zc_X11 1 (by decide) (fun _ _ _ => rfl) y.mn.2.2.2.2.1 y.mn.1 (Or.inl rfl) (tb_1 122 _ rfl) 20 rfl (dd_X11_look_0 9 _ _ _ rfl) ?_
    refine r_ldcwS rfl g0 23 rfl (dd_X11_look_0 10 _ _ _ rfl) ?_
    refine r_callV1 (lvl := 14) (mc1 := 0) (ms1 := 0) 3 34 hg rfl md_X0_spells zc_X0 b1 wi_X0_spells wv_X0_spells (tb_5 229 _ rfl) (by decide) (by decide) rfl (Nat.le_of_ble_eq_true rfl) (Nat.le_of_ble_eq_true rfl) (Nat.le_of_ble_eq_true rfl) 26 rfl (dd_X11_look_0 11 _ _ _ rfl) ?_
    refine c_X0_spells hg hI y.bu hcs w0 (fun hsp => ?_) (fun hsp => ?_)
    · replace hsp := (zword_iff (S := S) (W := 136588751) (n := 6) rfl (by decide)).mp hsp
      have hs0 := hsp
      dsimp only [zCont, Option.toList, List.cons_append, List.nil_append]
      refine r_istore_3 27 rfl (by decide) rfl (dd_X11_look_0 12 _ _ _ rfl) ?_
      refine r_iload_3 28 rfl (dd_X11_look_0 13 _ _ _ rfl) ?_
      refine r_ifne (by omega) 31 rfl 42 rfl (dd_X11_look_0 14 _ _ _ rfl) (fun _ => ?_) (fun q => absurd q (by decide))
      refine r_iconst 43 rfl (dd_X11_look_0 20 _ _ _ rfl) ?_
      refine r_goto 47 rfl (dd_X11_look_0 21 _ _ _ rfl) ?_
      refine r_istore_4 49 rfl (by decide) rfl (dd_X11_look_0 23 _ _ _ rfl) ?_
      refine r_aload_0 50 rfl (dd_X11_look_0 24 _ _ _ rfl) ?_
      refine r_getr hg zc_X11 1 (by decide) (fun _ _ _ => rfl) y.mn.2.2.2.2.1 y.mn.1 (Or.inl rfl) (tb_1 122 _ rfl) 53 rfl (dd_X11_look_0 25 _ _ _ rfl) ?_
      refine r_callV0 (lvl := 10) (mc1 := 0) (ms1 := 0) 3 34 hg rfl md_X0_empty zc_X0 b1 wi_X0_empty wv_X0_empty (tb_4 184 _ rfl) (by decide) (by decide) rfl (Nat.le_of_ble_eq_true rfl) (Nat.le_of_ble_eq_true rfl) (Nat.le_of_ble_eq_true rfl) 56 rfl (dd_X11_look_0 26 _ _ _ rfl) ?_
      refine c_X0_empty hg hI y.bu (fun h1 hb st => ?_)
      have hsb1 := hsb.fr (st.fr (r := rg 1 u) (by show ¬ _ = _; unfold rg; omega))
      have y1 := y.toBu (S2 := (zu1 S.1 2 0, S.2)) (n2 := n + 1) (Nat.le_succ n) st (fun k i _ => rfl) (fun k hk => (zu1_ne (fun q => hk (by omega)))) hb
      have np1 : (Ps.length : Int) = S.1 12 := y.np
      dsimp only [zCont, Option.toList, List.cons_append, List.nil_append]
      refine r_pop rfl 57 rfl (dd_X11_look_0 27 _ _ _ rfl) ?_
      refine r_aload_2 58 rfl (dd_X11_look_0 28 _ _ _ rfl) ?_
      refine r_geti hg zc_X8 2 (by decide) (fun _ _ _ => rfl) hsb1.2.2.2.2.1 hsb1.1 (Or.inl rfl) (tb_2 67 _ rfl) 61 rfl (dd_X11_look_0 29 _ _ _ rfl) ?_
      refine r_istore_5 63 rfl (by decide) rfl (dd_X11_look_0 30 _ _ _ rfl) ?_
      rw [show zlat S u 0 (-1) (zev S u (S.1 1)) = (zlast S u (S.1 1) 0 (-1)) from rfl]
      refine r_iload_4 65 rfl (dd_X11_look_0 31 _ _ _ rfl) ?_
      refine r_ifeq (by omega) 68 rfl 85 rfl (dd_X11_look_0 32 _ _ _ rfl) (fun q => absurd q (by decide)) (fun _ => ?_)
      refine r_iload_5 70 rfl (dd_X11_look_0 33 _ _ _ rfl) ?_
      refine r_iflt (by omega) 73 rfl 85 rfl (dd_X11_look_0 34 _ _ _ rfl) (fun hc1 => ?_) (fun hc1 => ?_)
      · refine r_iconst 86 rfl (dd_X11_look_0 40 _ _ _ rfl) ?_
        refine r_ireturn rfl rfl (dd_X11_look_0 41 _ _ _ rfl) ?_
        exact k2 u hu (by omega) (fun q => by rcases q with ⟨q1, q3, q4⟩; first | omega | (rcases q1 with q1 | ⟨q1, q5⟩ | ⟨q1, q5⟩ <;> first | exact hs0 q1 | exact hal (Or.inl ⟨q5, q1⟩) | exact hal (Or.inr ⟨q5, q1⟩) | (rcases q4 with q4 | q4 <;> first | (rw [hKn] at q4; omega) | exact hs0 q4))) _ _ y1.ex (st.mono (fun q hq => by show q ≠ 0; rw [show q = _ from hq]; first | decide | (unfold rg; omega)))
      · refine r_iload_5 75 rfl (dd_X11_look_0 35 _ _ _ rfl) ?_
        refine r_aload_0 76 rfl (dd_X11_look_0 36 _ _ _ rfl) ?_
        refine r_getr hg zc_X11 4 (by decide) (fun _ _ _ => rfl) y1.mn.2.2.2.2.2.2.2.1 y1.mn.1 (Or.inl rfl) (tb_1 125 _ rfl) 79 rfl (dd_X11_look_0 37 _ _ _ rfl) ?_
        refine r_callV0 (lvl := 10) (mc1 := 0) (ms1 := 0) 3 34 hg rfl md_Jx4a65c_size_8abf5 zc_Jx4a65c y1.lp.1 wi_Jx4a65c_size_8abf5 wv_Jx4a65c_size_8abf5 (tb_2 8 _ rfl) (by decide) (by decide) rfl (Nat.le_of_ble_eq_true rfl) (Nat.le_of_ble_eq_true rfl) (Nat.le_of_ble_eq_true rfl) 82 rfl (dd_X11_look_0 38 _ _ _ rfl) ?_
        refine c_Jx4a65c_size_8abf5 hg y1.lp ?_
        dsimp only [zCont, Option.toList, List.cons_append, List.nil_append]
        refine r_if_icmplt (by omega) (by omega) 85 rfl 87 rfl (dd_X11_look_0 39 _ _ _ rfl) (fun hc2 => ?_) (fun hc2 => ?_)
        · obtain ⟨p, hpK⟩ := Int.eq_ofNat_of_zero_le (show 0 ≤ (zlast S u (S.1 1) 0 (-1)) by omega)
          obtain ⟨pa, hPa⟩ : ∃ a, Ps[p]? = some a := ⟨Ps[p], List.getElem?_eq_getElem (by omega)⟩
          have pe1 : PeRep o (rg 5 p) h1 pa S p := y1.pe p pa hPa
          have hpr := hI.prot p
          have hKn : (zlast S u (S.1 1) 0 (-1)).toNat = p := by omega
          have hlk := hI.looked p
          refine r_aload_0 88 rfl (dd_X11_look_0 42 _ _ _ rfl) ?_
          refine r_getr hg zc_X11 4 (by decide) (fun _ _ _ => rfl) y1.mn.2.2.2.2.2.2.2.1 y1.mn.1 (Or.inl rfl) (tb_1 125 _ rfl) 91 rfl (dd_X11_look_0 43 _ _ _ rfl) ?_
          refine r_iload_5 93 rfl (dd_X11_look_0 44 _ _ _ rfl) ?_
          refine r_top ((p : Nat) : Int) (congrArg zI hpK) ?_
          refine r_callV1 (lvl := 12) (mc1 := 0) (ms1 := 0) 3 34 hg rfl md_Jx4a65c_get_915e3 zc_Jx4a65c y1.lp.1 wi_Jx4a65c_get_915e3 wv_Jx4a65c_get_915e3 (tb_2 12 _ rfl) (by decide) (by decide) rfl (Nat.le_of_ble_eq_true rfl) (Nat.le_of_ble_eq_true rfl) (Nat.le_of_ble_eq_true rfl) 96 rfl (dd_X11_look_0 45 _ _ _ rfl) ?_
          refine c_Jx4a65c_get_915e3 hg y1.lp (i := p) (y := pa) hPa ?_
          dsimp only [zCont, Option.toList, List.cons_append, List.nil_append]
          refine r_checkcastS hg zc_X5 pe1.1 (tb_2 220 _ rfl) 99 rfl (dd_X11_look_0 46 _ _ _ rfl) ?_
          refine r_astore_6 101 rfl (by decide) rfl (dd_X11_look_0 47 _ _ _ rfl) ?_
          refine r_aload_6 103 rfl (dd_X11_look_0 48 _ _ _ rfl) ?_
          refine r_geti hg zc_X5 0 (by decide) (fun _ _ _ => rfl) pe1.2.2.1 pe1.1 (Or.inl rfl) (tb_2 227 _ rfl) 106 rfl (dd_X11_look_0 49 _ _ _ rfl) ?_
          refine r_ifeq (by omega) 109 rfl 115 rfl (dd_X11_look_0 50 _ _ _ rfl) (fun hc3 => ?_) (fun hc3 => ?_)
          · refine r_aload_6 117 rfl (dd_X11_look_0 55 _ _ _ rfl) ?_
            refine r_dup rfl 118 rfl (dd_X11_look_0 56 _ _ _ rfl) ?_
            refine r_geti hg zc_X5 1 (by decide) (fun _ _ _ => rfl) pe1.2.2.2 pe1.1 (Or.inl rfl) (tb_2 229 _ rfl) 121 rfl (dd_X11_look_0 57 _ _ _ rfl) ?_
            refine r_iconst 122 rfl (dd_X11_look_0 58 _ _ _ rfl) ?_
            refine r_iadd 123 rfl (dd_X11_look_0 59 _ _ _ rfl) ?_
            refine r_puti hg zc_X5 1 (by decide) rfl (fun _ _ _ => rfl) rfl rfl (by decide) pe1.1 (Or.inl rfl) (tb_2 229 _ rfl) 126 rfl (dd_X11_look_1 0 _ _ _ rfl) ?_
            refine r_iload_5 128 rfl (dd_X11_look_1 1 _ _ _ rfl) ?_
            refine r_ireturn rfl rfl (dd_X11_look_1 2 _ _ _ rfl) ?_
            have st5 : zStep (fun q => q = rg 5 p) o h1 o (sfi h1 pa 1 (S.2 14 p + 1)) := step_sfi (R := fun q => q = rg 5 p) pe1.2.1
            have z := y1.toPe (S2 := (zu1 S.1 2 0, zu2 S.2 14 p (S.2 14 p + 1))) (n2 := n + 1) (Nat.le_refl _) (p := p) st5 (fun k i hk => (zu2_ne (fun q => hk (by omega)))) (fun k _ => rfl) (by show (p : Int) < S.1 12; omega) (fun i hi => rfl) (fun i hi => zu2_ne (fun q => hi q.2)) (fun a ha => by obtain rfl : pa = a := Option.some.inj (hPa.symm.trans ha); exact ⟨pe1.1, pe1.2.1, (zu2_ne (fun q => by omega)).trans pe1.2.2.1, zu2_at.trans (show zu2 S.2 14 p (S.2 14 p + 1) 14 p = _ from zu2_at).symm⟩)
            have k := k0 u hu (by omega) ⟨by first | exact Or.inl hs0 | (rcases hal with ⟨q1, q2⟩ | ⟨q1, q2⟩; exact Or.inr (Or.inl ⟨q2, q1⟩); exact Or.inr (Or.inr ⟨q2, q1⟩)), by omega, by rw [hKn]; first | exact Or.inr hs0 | exact Or.inl (by omega)⟩ o (sfi h1 pa 1 (S.2 14 p + 1))
            rw [hKn] at k
            exact k z.ex ((st.mono (fun q hq => by show q ≠ 0; rw [show q = _ from hq]; first | decide | (unfold rg; omega))).trans (st5.mono (fun q hq => by show q ≠ 0; rw [show q = _ from hq]; first | decide | (unfold rg; omega))))
          · refine r_iload_3 110 rfl (dd_X11_look_0 51 _ _ _ rfl) ?_
            refine r_ifne (by omega) 113 rfl 115 rfl (dd_X11_look_0 52 _ _ _ rfl) (fun _ => ?_) (fun q => absurd q (by decide))
            refine r_aload_6 117 rfl (dd_X11_look_0 55 _ _ _ rfl) ?_
            refine r_dup rfl 118 rfl (dd_X11_look_0 56 _ _ _ rfl) ?_
            refine r_geti hg zc_X5 1 (by decide) (fun _ _ _ => rfl) pe1.2.2.2 pe1.1 (Or.inl rfl) (tb_2 229 _ rfl) 121 rfl (dd_X11_look_0 57 _ _ _ rfl) ?_
            refine r_iconst 122 rfl (dd_X11_look_0 58 _ _ _ rfl) ?_
            refine r_iadd 123 rfl (dd_X11_look_0 59 _ _ _ rfl) ?_
            refine r_puti hg zc_X5 1 (by decide) rfl (fun _ _ _ => rfl) rfl rfl (by decide) pe1.1 (Or.inl rfl) (tb_2 229 _ rfl) 126 rfl (dd_X11_look_1 0 _ _ _ rfl) ?_
            refine r_iload_5 128 rfl (dd_X11_look_1 1 _ _ _ rfl) ?_
            refine r_ireturn rfl rfl (dd_X11_look_1 2 _ _ _ rfl) ?_
            have st5 : zStep (fun q => q = rg 5 p) o h1 o (sfi h1 pa 1 (S.2 14 p + 1)) := step_sfi (R := fun q => q = rg 5 p) pe1.2.1
            have z := y1.toPe (S2 := (zu1 S.1 2 0, zu2 S.2 14 p (S.2 14 p + 1))) (n2 := n + 1) (Nat.le_refl _) (p := p) st5 (fun k i hk => (zu2_ne (fun q => hk (by omega)))) (fun k _ => rfl) (by show (p : Int) < S.1 12; omega) (fun i hi => rfl) (fun i hi => zu2_ne (fun q => hi q.2)) (fun a ha => by obtain rfl : pa = a := Option.some.inj (hPa.symm.trans ha); exact ⟨pe1.1, pe1.2.1, (zu2_ne (fun q => by omega)).trans pe1.2.2.1, zu2_at.trans (show zu2 S.2 14 p (S.2 14 p + 1) 14 p = _ from zu2_at).symm⟩)
            have k := k0 u hu (by omega) ⟨by first | exact Or.inl hs0 | (rcases hal with ⟨q1, q2⟩ | ⟨q1, q2⟩; exact Or.inr (Or.inl ⟨q2, q1⟩); exact Or.inr (Or.inr ⟨q2, q1⟩)), by omega, by rw [hKn]; first | exact Or.inr hs0 | exact Or.inl (by omega)⟩ o (sfi h1 pa 1 (S.2 14 p + 1))
            rw [hKn] at k
            exact k z.ex ((st.mono (fun q hq => by show q ≠ 0; rw [show q = _ from hq]; first | decide | (unfold rg; omega))).trans (st5.mono (fun q hq => by show q ≠ 0; rw [show q = _ from hq]; first | decide | (unfold rg; omega))))
        · refine r_iconst 86 rfl (dd_X11_look_0 40 _ _ _ rfl) ?_
          refine r_ireturn rfl rfl (dd_X11_look_0 41 _ _ _ rfl) ?_
          exact k2 u hu (by omega) (fun q => by rcases q with ⟨q1, q3, q4⟩; first | omega | (rcases q1 with q1 | ⟨q1, q5⟩ | ⟨q1, q5⟩ <;> first | exact hs0 q1 | exact hal (Or.inl ⟨q5, q1⟩) | exact hal (Or.inr ⟨q5, q1⟩) | (rcases q4 with q4 | q4 <;> first | (rw [hKn] at q4; omega) | exact hs0 q4))) _ _ y1.ex (st.mono (fun q hq => by show q ≠ 0; rw [show q = _ from hq]; first | decide | (unfold rg; omega)))
    · replace hsp := fun q => hsp ((zword_iff (S := S) (W := 136588751) (n := 6) rfl (by decide)).mpr q)
      have hs0 := hsp
      dsimp only [zCont, Option.toList, List.cons_append, List.nil_append]
      refine r_istore_3 27 rfl (by decide) rfl (dd_X11_look_0 12 _ _ _ rfl) ?_
      refine r_iload_3 28 rfl (dd_X11_look_0 13 _ _ _ rfl) ?_
      refine r_ifne (by omega) 31 rfl 42 rfl (dd_X11_look_0 14 _ _ _ rfl) (fun q => absurd q (by decide)) (fun _ => ?_)
      refine r_aload_0 32 rfl (dd_X11_look_0 15 _ _ _ rfl) ?_
      refine r_aload_2 33 rfl (dd_X11_look_0 16 _ _ _ rfl) ?_
      refine r_geti hg zc_X8 0 (by decide) (fun _ _ _ => rfl) hsb.2.2.1 hsb.1 (Or.inl rfl) (tb_2 64 _ rfl) 36 rfl (dd_X11_look_0 17 _ _ _ rfl) ?_
      refine r_callV1 (lvl := 15) (mc1 := 0) (ms1 := 0) 3 34 hg rfl md_X11_isAllowedByState zc_X11 y.mn.1 wi_X11_isAllowedByState wv_X11_isAllowedByState (tb_6 16 _ rfl) (by decide) (by decide) rfl (Nat.le_of_ble_eq_true rfl) (Nat.le_of_ble_eq_true rfl) (Nat.le_of_ble_eq_true rfl) 39 rfl (dd_X11_look_0 18 _ _ _ rfl) ?_
      refine c_X11_isAllowedByState hg hI y hcs g0 w0 g1 w1 g2 w2 (by omega) (fun hal => ?_) (fun hal => ?_)
      · dsimp only [zCont, Option.toList, List.cons_append, List.nil_append]
        refine r_ifeq (by omega) 42 rfl 46 rfl (dd_X11_look_0 19 _ _ _ rfl) (fun q => absurd q (by decide)) (fun _ => ?_)
        refine r_iconst 43 rfl (dd_X11_look_0 20 _ _ _ rfl) ?_
        refine r_goto 47 rfl (dd_X11_look_0 21 _ _ _ rfl) ?_
        refine r_istore_4 49 rfl (by decide) rfl (dd_X11_look_0 23 _ _ _ rfl) ?_
        refine r_aload_0 50 rfl (dd_X11_look_0 24 _ _ _ rfl) ?_
        refine r_getr hg zc_X11 1 (by decide) (fun _ _ _ => rfl) y.mn.2.2.2.2.1 y.mn.1 (Or.inl rfl) (tb_1 122 _ rfl) 53 rfl (dd_X11_look_0 25 _ _ _ rfl) ?_
        refine r_callV0 (lvl := 10) (mc1 := 0) (ms1 := 0) 3 34 hg rfl md_X0_empty zc_X0 b1 wi_X0_empty wv_X0_empty (tb_4 184 _ rfl) (by decide) (by decide) rfl (Nat.le_of_ble_eq_true rfl) (Nat.le_of_ble_eq_true rfl) (Nat.le_of_ble_eq_true rfl) 56 rfl (dd_X11_look_0 26 _ _ _ rfl) ?_
        refine c_X0_empty hg hI y.bu (fun h1 hb st => ?_)
        have hsb1 := hsb.fr (st.fr (r := rg 1 u) (by show ¬ _ = _; unfold rg; omega))
        have y1 := y.toBu (S2 := (zu1 S.1 2 0, S.2)) (n2 := n + 1) (Nat.le_succ n) st (fun k i _ => rfl) (fun k hk => (zu1_ne (fun q => hk (by omega)))) hb
        have np1 : (Ps.length : Int) = S.1 12 := y.np
        dsimp only [zCont, Option.toList, List.cons_append, List.nil_append]
        refine r_pop rfl 57 rfl (dd_X11_look_0 27 _ _ _ rfl) ?_
        refine r_aload_2 58 rfl (dd_X11_look_0 28 _ _ _ rfl) ?_
        refine r_geti hg zc_X8 2 (by decide) (fun _ _ _ => rfl) hsb1.2.2.2.2.1 hsb1.1 (Or.inl rfl) (tb_2 67 _ rfl) 61 rfl (dd_X11_look_0 29 _ _ _ rfl) ?_
        refine r_istore_5 63 rfl (by decide) rfl (dd_X11_look_0 30 _ _ _ rfl) ?_
        rw [show zlat S u 0 (-1) (zev S u (S.1 1)) = (zlast S u (S.1 1) 0 (-1)) from rfl]
        refine r_iload_4 65 rfl (dd_X11_look_0 31 _ _ _ rfl) ?_
        refine r_ifeq (by omega) 68 rfl 85 rfl (dd_X11_look_0 32 _ _ _ rfl) (fun q => absurd q (by decide)) (fun _ => ?_)
        refine r_iload_5 70 rfl (dd_X11_look_0 33 _ _ _ rfl) ?_
        refine r_iflt (by omega) 73 rfl 85 rfl (dd_X11_look_0 34 _ _ _ rfl) (fun hc4 => ?_) (fun hc4 => ?_)
        · refine r_iconst 86 rfl (dd_X11_look_0 40 _ _ _ rfl) ?_
          refine r_ireturn rfl rfl (dd_X11_look_0 41 _ _ _ rfl) ?_
          exact k2 u hu (by omega) (fun q => by rcases q with ⟨q1, q3, q4⟩; first | omega | (rcases q1 with q1 | ⟨q1, q5⟩ | ⟨q1, q5⟩ <;> first | exact hs0 q1 | exact hal (Or.inl ⟨q5, q1⟩) | exact hal (Or.inr ⟨q5, q1⟩) | (rcases q4 with q4 | q4 <;> first | (rw [hKn] at q4; omega) | exact hs0 q4))) _ _ y1.ex (st.mono (fun q hq => by show q ≠ 0; rw [show q = _ from hq]; first | decide | (unfold rg; omega)))
        · refine r_iload_5 75 rfl (dd_X11_look_0 35 _ _ _ rfl) ?_
          refine r_aload_0 76 rfl (dd_X11_look_0 36 _ _ _ rfl) ?_
          refine r_getr hg zc_X11 4 (by decide) (fun _ _ _ => rfl) y1.mn.2.2.2.2.2.2.2.1 y1.mn.1 (Or.inl rfl) (tb_1 125 _ rfl) 79 rfl (dd_X11_look_0 37 _ _ _ rfl) ?_
          refine r_callV0 (lvl := 10) (mc1 := 0) (ms1 := 0) 3 34 hg rfl md_Jx4a65c_size_8abf5 zc_Jx4a65c y1.lp.1 wi_Jx4a65c_size_8abf5 wv_Jx4a65c_size_8abf5 (tb_2 8 _ rfl) (by decide) (by decide) rfl (Nat.le_of_ble_eq_true rfl) (Nat.le_of_ble_eq_true rfl) (Nat.le_of_ble_eq_true rfl) 82 rfl (dd_X11_look_0 38 _ _ _ rfl) ?_
          refine c_Jx4a65c_size_8abf5 hg y1.lp ?_
          dsimp only [zCont, Option.toList, List.cons_append, List.nil_append]
          refine r_if_icmplt (by omega) (by omega) 85 rfl 87 rfl (dd_X11_look_0 39 _ _ _ rfl) (fun hc5 => ?_) (fun hc5 => ?_)
          · obtain ⟨p, hpK⟩ := Int.eq_ofNat_of_zero_le (show 0 ≤ (zlast S u (S.1 1) 0 (-1)) by omega)
            obtain ⟨pa, hPa⟩ : ∃ a, Ps[p]? = some a := ⟨Ps[p], List.getElem?_eq_getElem (by omega)⟩
            have pe1 : PeRep o (rg 5 p) h1 pa S p := y1.pe p pa hPa
            have hpr := hI.prot p
            have hKn : (zlast S u (S.1 1) 0 (-1)).toNat = p := by omega
            have hlk := hI.looked p
            refine r_aload_0 88 rfl (dd_X11_look_0 42 _ _ _ rfl) ?_
            refine r_getr hg zc_X11 4 (by decide) (fun _ _ _ => rfl) y1.mn.2.2.2.2.2.2.2.1 y1.mn.1 (Or.inl rfl) (tb_1 125 _ rfl) 91 rfl (dd_X11_look_0 43 _ _ _ rfl) ?_
            refine r_iload_5 93 rfl (dd_X11_look_0 44 _ _ _ rfl) ?_
            refine r_top ((p : Nat) : Int) (congrArg zI hpK) ?_
            refine r_callV1 (lvl := 12) (mc1 := 0) (ms1 := 0) 3 34 hg rfl md_Jx4a65c_get_915e3 zc_Jx4a65c y1.lp.1 wi_Jx4a65c_get_915e3 wv_Jx4a65c_get_915e3 (tb_2 12 _ rfl) (by decide) (by decide) rfl (Nat.le_of_ble_eq_true rfl) (Nat.le_of_ble_eq_true rfl) (Nat.le_of_ble_eq_true rfl) 96 rfl (dd_X11_look_0 45 _ _ _ rfl) ?_
            refine c_Jx4a65c_get_915e3 hg y1.lp (i := p) (y := pa) hPa ?_
            dsimp only [zCont, Option.toList, List.cons_append, List.nil_append]
            refine r_checkcastS hg zc_X5 pe1.1 (tb_2 220 _ rfl) 99 rfl (dd_X11_look_0 46 _ _ _ rfl) ?_
            refine r_astore_6 101 rfl (by decide) rfl (dd_X11_look_0 47 _ _ _ rfl) ?_
            refine r_aload_6 103 rfl (dd_X11_look_0 48 _ _ _ rfl) ?_
            refine r_geti hg zc_X5 0 (by decide) (fun _ _ _ => rfl) pe1.2.2.1 pe1.1 (Or.inl rfl) (tb_2 227 _ rfl) 106 rfl (dd_X11_look_0 49 _ _ _ rfl) ?_
            refine r_ifeq (by omega) 109 rfl 115 rfl (dd_X11_look_0 50 _ _ _ rfl) (fun hc6 => ?_) (fun hc6 => ?_)
            · refine r_aload_6 117 rfl (dd_X11_look_0 55 _ _ _ rfl) ?_
              refine r_dup rfl 118 rfl (dd_X11_look_0 56 _ _ _ rfl) ?_
              refine r_geti hg zc_X5 1 (by decide) (fun _ _ _ => rfl) pe1.2.2.2 pe1.1 (Or.inl rfl) (tb_2 229 _ rfl) 121 rfl (dd_X11_look_0 57 _ _ _ rfl) ?_
              refine r_iconst 122 rfl (dd_X11_look_0 58 _ _ _ rfl) ?_
              refine r_iadd 123 rfl (dd_X11_look_0 59 _ _ _ rfl) ?_
              refine r_puti hg zc_X5 1 (by decide) rfl (fun _ _ _ => rfl) rfl rfl (by decide) pe1.1 (Or.inl rfl) (tb_2 229 _ rfl) 126 rfl (dd_X11_look_1 0 _ _ _ rfl) ?_
              refine r_iload_5 128 rfl (dd_X11_look_1 1 _ _ _ rfl) ?_
              refine r_ireturn rfl rfl (dd_X11_look_1 2 _ _ _ rfl) ?_
              have st5 : zStep (fun q => q = rg 5 p) o h1 o (sfi h1 pa 1 (S.2 14 p + 1)) := step_sfi (R := fun q => q = rg 5 p) pe1.2.1
              have z := y1.toPe (S2 := (zu1 S.1 2 0, zu2 S.2 14 p (S.2 14 p + 1))) (n2 := n + 1) (Nat.le_refl _) (p := p) st5 (fun k i hk => (zu2_ne (fun q => hk (by omega)))) (fun k _ => rfl) (by show (p : Int) < S.1 12; omega) (fun i hi => rfl) (fun i hi => zu2_ne (fun q => hi q.2)) (fun a ha => by obtain rfl : pa = a := Option.some.inj (hPa.symm.trans ha); exact ⟨pe1.1, pe1.2.1, (zu2_ne (fun q => by omega)).trans pe1.2.2.1, zu2_at.trans (show zu2 S.2 14 p (S.2 14 p + 1) 14 p = _ from zu2_at).symm⟩)
              have k := k0 u hu (by omega) ⟨by first | exact Or.inl hs0 | (rcases hal with ⟨q1, q2⟩ | ⟨q1, q2⟩; exact Or.inr (Or.inl ⟨q2, q1⟩); exact Or.inr (Or.inr ⟨q2, q1⟩)), by omega, by rw [hKn]; first | exact Or.inr hs0 | exact Or.inl (by omega)⟩ o (sfi h1 pa 1 (S.2 14 p + 1))
              rw [hKn] at k
              exact k z.ex ((st.mono (fun q hq => by show q ≠ 0; rw [show q = _ from hq]; first | decide | (unfold rg; omega))).trans (st5.mono (fun q hq => by show q ≠ 0; rw [show q = _ from hq]; first | decide | (unfold rg; omega))))
            · refine r_iload_3 110 rfl (dd_X11_look_0 51 _ _ _ rfl) ?_
              refine r_ifne (by omega) 113 rfl 115 rfl (dd_X11_look_0 52 _ _ _ rfl) (fun q => absurd q (by decide)) (fun _ => ?_)
              refine r_iconst 114 rfl (dd_X11_look_0 53 _ _ _ rfl) ?_
              refine r_ireturn rfl rfl (dd_X11_look_0 54 _ _ _ rfl) ?_
              exact k2 u hu (by omega) (fun q => by rcases q with ⟨q1, q3, q4⟩; first | omega | (rcases q1 with q1 | ⟨q1, q5⟩ | ⟨q1, q5⟩ <;> first | exact hs0 q1 | exact hal (Or.inl ⟨q5, q1⟩) | exact hal (Or.inr ⟨q5, q1⟩) | (rcases q4 with q4 | q4 <;> first | (rw [hKn] at q4; omega) | exact hs0 q4))) _ _ y1.ex (st.mono (fun q hq => by show q ≠ 0; rw [show q = _ from hq]; first | decide | (unfold rg; omega)))
          · refine r_iconst 86 rfl (dd_X11_look_0 40 _ _ _ rfl) ?_
            refine r_ireturn rfl rfl (dd_X11_look_0 41 _ _ _ rfl) ?_
            exact k2 u hu (by omega) (fun q => by rcases q with ⟨q1, q3, q4⟩; first | omega | (rcases q1 with q1 | ⟨q1, q5⟩ | ⟨q1, q5⟩ <;> first | exact hs0 q1 | exact hal (Or.inl ⟨q5, q1⟩) | exact hal (Or.inr ⟨q5, q1⟩) | (rcases q4 with q4 | q4 <;> first | (rw [hKn] at q4; omega) | exact hs0 q4))) _ _ y1.ex (st.mono (fun q hq => by show q ≠ 0; rw [show q = _ from hq]; first | decide | (unfold rg; omega)))
      · dsimp only [zCont, Option.toList, List.cons_append, List.nil_append]
        refine r_ifeq (by omega) 42 rfl 46 rfl (dd_X11_look_0 19 _ _ _ rfl) (fun _ => ?_) (fun q => absurd q (by decide))
        refine r_iconst 47 rfl (dd_X11_look_0 22 _ _ _ rfl) ?_
        refine r_istore_4 49 rfl (by decide) rfl (dd_X11_look_0 23 _ _ _ rfl) ?_
        refine r_aload_0 50 rfl (dd_X11_look_0 24 _ _ _ rfl) ?_
        refine r_getr hg zc_X11 1 (by decide) (fun _ _ _ => rfl) y.mn.2.2.2.2.1 y.mn.1 (Or.inl rfl) (tb_1 122 _ rfl) 53 rfl (dd_X11_look_0 25 _ _ _ rfl) ?_
        refine r_callV0 (lvl := 10) (mc1 := 0) (ms1 := 0) 3 34 hg rfl md_X0_empty zc_X0 b1 wi_X0_empty wv_X0_empty (tb_4 184 _ rfl) (by decide) (by decide) rfl (Nat.le_of_ble_eq_true rfl) (Nat.le_of_ble_eq_true rfl) (Nat.le_of_ble_eq_true rfl) 56 rfl (dd_X11_look_0 26 _ _ _ rfl) ?_
        refine c_X0_empty hg hI y.bu (fun h1 hb st => ?_)
        have hsb1 := hsb.fr (st.fr (r := rg 1 u) (by show ¬ _ = _; unfold rg; omega))
        have y1 := y.toBu (S2 := (zu1 S.1 2 0, S.2)) (n2 := n + 1) (Nat.le_succ n) st (fun k i _ => rfl) (fun k hk => (zu1_ne (fun q => hk (by omega)))) hb
        have np1 : (Ps.length : Int) = S.1 12 := y.np
        dsimp only [zCont, Option.toList, List.cons_append, List.nil_append]
        refine r_pop rfl 57 rfl (dd_X11_look_0 27 _ _ _ rfl) ?_
        refine r_aload_2 58 rfl (dd_X11_look_0 28 _ _ _ rfl) ?_
        refine r_geti hg zc_X8 2 (by decide) (fun _ _ _ => rfl) hsb1.2.2.2.2.1 hsb1.1 (Or.inl rfl) (tb_2 67 _ rfl) 61 rfl (dd_X11_look_0 29 _ _ _ rfl) ?_
        refine r_istore_5 63 rfl (by decide) rfl (dd_X11_look_0 30 _ _ _ rfl) ?_
        rw [show zlat S u 0 (-1) (zev S u (S.1 1)) = (zlast S u (S.1 1) 0 (-1)) from rfl]
        refine r_iload_4 65 rfl (dd_X11_look_0 31 _ _ _ rfl) ?_
        refine r_ifeq (by omega) 68 rfl 85 rfl (dd_X11_look_0 32 _ _ _ rfl) (fun _ => ?_) (fun q => absurd q (by decide))
        refine r_iconst 86 rfl (dd_X11_look_0 40 _ _ _ rfl) ?_
        refine r_ireturn rfl rfl (dd_X11_look_0 41 _ _ _ rfl) ?_
        exact k2 u hu (by omega) (fun q => by rcases q with ⟨q1, q3, q4⟩; first | omega | (rcases q1 with q1 | ⟨q1, q5⟩ | ⟨q1, q5⟩ <;> first | exact hs0 q1 | exact hal (Or.inl ⟨q5, q1⟩) | exact hal (Or.inr ⟨q5, q1⟩) | (rcases q4 with q4 | q4 <;> first | (rw [hKn] at q4; omega) | exact hs0 q4))) _ _ y1.ex (st.mono (fun q hq => by show q ≠ 0; rw [show q = _ from hq]; first | decide | (unfold rg; omega)))
