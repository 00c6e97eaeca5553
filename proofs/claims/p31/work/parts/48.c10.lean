theorem zro_out {S : zS} {n : Nat} {c w : Int} (hI : MInv n S) (hc : ¬ (0 ≤ c ∧ c ≤ 3)) : ∀ k, zro S.2 c w k = (-1, 0)
  | 0 => rfl
  | k + 1 => by unfold zro; rw [if_neg (by have := hI.rateClass k; omega)]; exact zro_out hI hc k
theorem zrate_out {S : zS} {n : Nat} {c w : Int} (hI : MInv n S) (hc : ¬ (0 ≤ c ∧ c ≤ 3)) : zrate S c w = 0 := by unfold zrate; rw [zro_out hI hc]
abbrev ztx (S : zS) (c : Int) : Int → Int := fun d => if d % 30 = 0 then zrate S c d else 0
theorem ztx_range {S : zS} {n : Nat} {c : Int} (hI : MInv n S) (d : Int) : 0 ≤ ztx S c d ∧ ztx S c d ≤ 100000 := by
  have := zrate_range (c := c) (w := d) hI
  show 0 ≤ (if d % 30 = 0 then zrate S c d else 0) ∧ (if d % 30 = 0 then zrate S c d else 0) ≤ 100000
  split <;> omega
/-- a month more -/
theorem ztx_month {S : zS} {c a m : Int} (h : a ≤ 30 * m) : zds (ztx S c) a (30 * (m + 1) - a).toNat = zds (ztx S c) a (30 * m - a).toNat + zrate S c (30 * m) := by
  rw [zds_split (a := a) (b := 30 * m) (c := 30 * (m + 1)) h (by omega), show (30 * (m + 1) - 30 * m).toNat = 1 + 29 by omega, zds_add, zds_zero 29 (fun i hi => if_neg (by omega))]
  have e : zds (ztx S c) (30 * m) 1 = zrate S c (30 * m) := by
    show 0 + (if (30 * m + ((0 : Nat) : Int)) % 30 = 0 then zrate S c (30 * m + ((0 : Nat) : Int)) else 0) = _
    rw [if_pos (by omega), show (30 * m + ((0 : Nat) : Int)) = 30 * m by omega]; omega
  omega
theorem ztx_end {S : zS} {c a e m : Int} (h : a ≤ e + 1) (h1 : e < 30 * m) (h2 : 30 * (m - 1) ≤ e ∨ 30 * (m - 1) < a ) (ha : a ≤ 30 * m) : zds (ztx S c) a (30 * m - a).toNat = zds (ztx S c) a (e + 1 - a).toNat := by
  rw [zds_split (a := a) (b := e + 1) (c := 30 * m) h (by omega), zds_zero (30 * m - (e + 1)).toNat (fun i hi => if_neg (by omega))]
  omega
theorem ztx_none {S : zS} {c a m : Int} (h1 : 30 * (m - 1) < a) (ha : a ≤ 30 * m) : zds (ztx S c) a (30 * m - a).toNat = 0 := zds_zero _ (fun i hi => if_neg (by omega))
/-- the sum over the days up to the j-th row -/
theorem zpart_step {f : Int → Int} {S : zS} {v j : Nat} {T : Int} (c : Nat) (hc : (c : Int) = S.2 8 v) (hj : j < c) (hs : SDay S v) (h0 : 0 ≤ S.2 11 (30 * v + j)) (hT : S.2 11 (30 * v + j) ≤ T) : zds f 0 (zB (fun i => S.2 11 (30 * v + i)) c T (j + 1)).toNat = zds f 0 (zB (fun i => S.2 11 (30 * v + i)) c T j).toNat + zds f (S.2 11 (30 * v + j)) (zB (fun i => S.2 11 (30 * v + i)) c T (j + 1) - S.2 11 (30 * v + j)).toNat ∧ S.2 11 (30 * v + j) ≤ zB (fun i => S.2 11 (30 * v + i)) c T (j + 1) := by
  have hB : zB (fun i => S.2 11 (30 * v + i)) c T j = S.2 11 (30 * v + j) := if_pos hj
  have hle : S.2 11 (30 * v + j) ≤ zB (fun i => S.2 11 (30 * v + i)) c T (j + 1) := by
    unfold zB
    split
    · exact hs j (j + 1) (by omega) (by omega)
    · omega
  have := zds_split (f := f) (a := 0) (b := S.2 11 (30 * v + j)) (c := zB (fun i => S.2 11 (30 * v + i)) c T (j + 1)) h0 hle
  rw [hB]
  refine ⟨?_, hle⟩
  rw [show (S.2 11 (30 * v + j)).toNat = (S.2 11 (30 * v + j) - 0).toNat by omega, show (zB (fun i => S.2 11 (30 * v + i)) c T (j + 1)).toNat = (zB (fun i => S.2 11 (30 * v + i)) c T (j + 1) - 0).toNat by omega]
  exact this
theorem zpart_in {S : zS} {v j : Nat} {T d : Int} (c : Nat) (hc : (c : Int) = S.2 8 v) (hj : j < c) (hs : SDay S v) (h1 : S.2 11 (30 * v + j) ≤ d) (h2 : d < zB (fun i => S.2 11 (30 * v + i)) c T (j + 1)) : zev S v d = j + 1 := by
  refine zev_between hs (by omega) h1 (fun q => ?_)
  unfold zB at h2
  rw [if_pos (by omega)] at h2
  exact h2
theorem zpart_0 {f : Int → Int} {S : zS} {v : Nat} {T : Int} (c : Nat) (hc : (c : Int) = S.2 8 v) (hz : ∀ d, zev S v d = 0 → f d = 0) : zds f 0 (zB (fun i => S.2 11 (30 * v + i)) c T 0).toNat = 0 := by
  refine zds_zero _ fun i hi => hz _ ?_
  refine zev_first (by omega) (fun q => ?_)
  unfold zB at hi
  rw [if_pos (by omega)] at hi
  have hi2 : i < (S.2 11 (30 * v)).toNat := hi
  omega
theorem ztax_0 {S : zS} {v : Nat} {d : Int} (h : zev S v d = 0) : ztax S v d = 0 := by
  unfold ztax zstate
  rw [h]
  rfl
theorem ztax_in {S : zS} {v j : Nat} {d : Int} (h : zev S v d = j) : ztax S v d = if (zst S v j).1 = 1 then zrate S (zlat S v 7 (S.2 7 v) j) d else 0 := by
  unfold ztax zstate zlast
  rw [h]
abbrev mX11_taxBetween : zM := (RX11, cX11_taxBetween, 8, (Option.some Jvm.ClassFile.FieldType.long), [], "taxBetween", 14)
set_option maxRecDepth 20000 in
theorem c_X11_taxBetween {g : zGT} {Q : zO → zH → Prop} {h : zH} (hg : zG g) {o : Nat → Nat} {x : Nat} {S : zS} {n : Nat} {Vs Ps Ss Ts Fs Tn : List Nat} {A : Nat → Nat} {G : Nat → Nat → Nat} {Rc : Nat → Nat} (hI : MInv n S) (y : CRep g o h x S n Vs Ps Ss Ts Fs Tn A G Rc) {a0 e its : Int} (ha : 0 ≤ a0 ∧ a0 ≤ 20000) (he : a0 ≤ e + 1) (he2 : e ≤ 20000) (hi : zR its) (k : Q (.inl (some (.long (zL (zds (ztx S its) a0 (e + 1 - a0).toNat))))) h) : zC g (.code yX11_taxBetween cX11_taxBetween 8 (Option.some Jvm.ClassFile.FieldType.long)) yX11_taxBetween 14 0 0 [.ref x, .int (zI a0), .int (zI e), .int (zI its)] h Q := by
  refine zC_of (M := mX11_taxBetween) (lv := [some (.ref x), some (.int (zI a0)), some (.int (zI e)), some (.int (zI its)), none, none, none, none]) (by decide) rfl rfl (Nat.le_of_ble_eq_true rfl) rfl rfl ?_
  have e1 := hI.vehicles
  have e2 := hI.today
  have e3 := hI.people
  have e4 := hI.sightings
  have e5 := hI.fines
  have e6 := hI.calls
  have nv := y.nv
  have np := y.np
  have ns := y.ns
  have nf := y.nf
  refine r_iload_3 1 rfl (dd_X11_taxBetween 0 _ _ _ rfl) ?_
  refine r_callS1 (lvl := 11) (mc1 := 0) (ms1 := 0) 0 0 hg rfl md_X11_isClass ws_X11_isClass (tb_1 174 _ rfl) (by decide) (by decide) rfl (Nat.le_of_ble_eq_true rfl) (Nat.le_of_ble_eq_true rfl) (Nat.le_of_ble_eq_true rfl) 4 rfl (dd_X11_taxBetween 1 _ _ _ rfl) ?_
  refine c_X11_isClass hg (by omega) (fun hb1 => ?_) (fun hb1 => ?_)
  · dsimp only [zCont, Option.toList, List.cons_append, List.nil_append]
    refine r_ifne (by omega) 7 rfl 9 rfl (dd_X11_taxBetween 2 _ _ _ rfl) (fun _ => ?_) (fun q => absurd q (by decide))
    refine r_iload_1 10 rfl (dd_X11_taxBetween 5 _ _ _ rfl) ?_
    refine r_bipush (by decide) 12 rfl (dd_X11_taxBetween 6 _ _ _ rfl) ?_
    refine r_iadd 13 rfl (dd_X11_taxBetween 7 _ _ _ rfl) ?_
    refine r_iconst 14 rfl (dd_X11_taxBetween 8 _ _ _ rfl) ?_
    refine r_isub 15 rfl (dd_X11_taxBetween 9 _ _ _ rfl) ?_
    refine r_bipush (by decide) 17 rfl (dd_X11_taxBetween 10 _ _ _ rfl) ?_
    refine r_idiv (by omega) (by omega) (by omega) (by omega) 18 rfl (dd_X11_taxBetween 11 _ _ _ rfl) ?_
    refine r_istore_4 20 rfl (by decide) rfl (dd_X11_taxBetween 12 _ _ _ rfl) ?_
    refine r_lconst0 21 rfl (dd_X11_taxBetween 13 _ _ _ rfl) ?_
    refine r_lstore_5 23 rfl (by decide) rfl (dd_X11_taxBetween 14 _ _ _ rfl) ?_
    refine r_iload_4 25 rfl (dd_X11_taxBetween 15 _ _ _ rfl) ?_
    refine r_bipush (by decide) 27 rfl (dd_X11_taxBetween 16 _ _ _ rfl) ?_
    refine r_imul 28 rfl (dd_X11_taxBetween 17 _ _ _ rfl) ?_
    refine r_istore_7 30 rfl (by decide) rfl (dd_X11_taxBetween 18 _ _ _ rfl) ?_
    have L30 : ∀ (tt : Nat), ∀ (m : Int) (b ts : Int), (1000 - m).toNat < tt → (0 ≤ m ∧ m ≤ 700) → (b = 30 * m) → (a0 ≤ 30 * m) → (30 * (m - 1) ≤ e ∨ 30 * (m - 1) < a0) → (ts = zds (ztx S its) a0 (30 * m - a0).toNat) → (0 ≤ ts ∧ ts ≤ 100000 * m) → zX g mX11_taxBetween 0 0 Q 30 [some (.ref x), some (.int (zI a0)), some (.int (zI e)), some (.int (zI its)), none, some (.long (zL ts)), none, some (.int (zI b))] [] h 0 0 := by
      intro tt30
      induction tt30 with
      | zero => intros; exfalso; omega
      | succ tt30 ih30 =>
        intro m b ts hlt30 hm hb hma hm2 hts hr
        refine r_iload_7 32 rfl (dd_X11_taxBetween 19 _ _ _ rfl) ?_
        refine r_iload_2 33 rfl (dd_X11_taxBetween 20 _ _ _ rfl) ?_
        refine r_if_icmpgt (by omega) (by omega) 36 rfl 60 rfl (dd_X11_taxBetween 21 _ _ _ rfl) (fun hc2 => ?_) (fun hc2 => ?_)
        · refine r_lload_5 62 rfl (dd_X11_taxBetween 35 _ _ _ rfl) ?_
          refine r_lreturn rfl (dd_X11_taxBetween 36 _ _ _ rfl) ?_
          rw [← ztx_end (m := m) (by omega) (by omega) hm2 hma, ← hts] at k
          exact k
        · refine r_lload_5 38 rfl (dd_X11_taxBetween 22 _ _ _ rfl) ?_
          refine r_aload_0 39 rfl (dd_X11_taxBetween 23 _ _ _ rfl) ?_
          refine r_getr hg zc_X11 5 (by decide) (fun _ _ _ => rfl) y.mn.2.2.2.2.2.2.2.2.1 y.mn.1 (Or.inl rfl) (tb_1 126 _ rfl) 42 rfl (dd_X11_taxBetween 24 _ _ _ rfl) ?_
          refine r_iload_3 43 rfl (dd_X11_taxBetween 25 _ _ _ rfl) ?_
          refine r_aaloadC (v := .ref (Rc its.toNat)) hg y.ra.1 (by omega) (by omega) (by rw [y.ra.2.2.1]; omega) (by rw [y.ra.2.2.2 its.toNat (by omega)]; rfl) 44 rfl (dd_X11_taxBetween 26 _ _ _ rfl) ?_
          refine r_iload_7 46 rfl (dd_X11_taxBetween 27 _ _ _ rfl) ?_
          refine r_iconst 47 rfl (dd_X11_taxBetween 28 _ _ _ rfl) ?_
          refine r_callV2 (lvl := 11) (mc1 := 0) (ms1 := 0) 0 0 hg rfl md_X1_valueOn zc_X1 (y.rc its.toNat (by omega)).own.1 wi_X1_valueOn wv_X1_valueOn (tb_4 229 _ rfl) (by decide) (by decide) rfl (Nat.le_of_ble_eq_true rfl) (Nat.le_of_ble_eq_true rfl) (Nat.le_of_ble_eq_true rfl) 50 rfl (dd_X11_taxBetween 29 _ _ _ rfl) ?_
          refine c_X1_valueOnS hg (y.rc its.toNat (by omega)) (by omega) (by omega) ?_
          rw [show (zro S.2 ((its.toNat : Nat) : Int) b (S.1 20).toNat).2 = zrate S its b by unfold zrate; rw [show ((its.toNat : Nat) : Int) = its by omega]]
          have hzr := zrate_range (c := its) (w := b) hI
          dsimp only [zCont, Option.toList, List.cons_append, List.nil_append]
          refine r_i2l (by omega) 51 rfl (dd_X11_taxBetween 30 _ _ _ rfl) ?_
          refine r_ladd 52 rfl (dd_X11_taxBetween 31 _ _ _ rfl) ?_
          refine r_lstore_5 54 rfl (by decide) rfl (dd_X11_taxBetween 32 _ _ _ rfl) ?_
          refine r_iinc_7 57 rfl (by decide) rfl (dd_X11_taxBetween 33 _ _ _ rfl) ?_
          refine r_goto 30 rfl (dd_X11_taxBetween 34 _ _ _ rfl) ?_
          exact r_sub _ (z_s1 (z_s1 (z_s1 (z_s1 (z_s0 (z_s1 (z_s0 (z_s1 z_sN)))))))) (ih30 (m + 1) _ _ (by omega) (by omega) (by omega) (by omega) (by omega) (by rw [ztx_month hma, ← hts, hb]) (by omega))
    exact r_sub _ (z_s1 (z_s1 (z_s1 (z_s1 (z_s0 (z_s1 (z_s0 (z_s1 z_sN)))))))) (L30 1000000 ((a0 + 30 - 1) / 30) _ _ (by omega) (by omega) (by omega) (by omega) (by omega) (ztx_none (by omega) (by omega)).symm (by omega))
  · dsimp only [zCont, Option.toList, List.cons_append, List.nil_append]
    refine r_ifne (by omega) 7 rfl 9 rfl (dd_X11_taxBetween 2 _ _ _ rfl) (fun q => absurd q (by decide)) (fun _ => ?_)
    refine r_lconst0 8 rfl (dd_X11_taxBetween 3 _ _ _ rfl) ?_
    refine r_lreturn rfl (dd_X11_taxBetween 4 _ _ _ rfl) ?_
    rw [zds_zero _ (fun i hi => by show (if _ then _ else _) = (0 : Int); rw [zrate_out hI (by omega)]; split <;> rfl)] at k
    exact k

abbrev mX11_taxOf : zM := (RX11, cX11_taxOf, 6, (Option.some Jvm.ClassFile.FieldType.long), [], "taxOf", 15)
set_option maxRecDepth 20000 in
theorem c_X11_taxOf {g : zGT} {Q : zO → zH → Prop} {h : zH} (hg : zG g) {o : Nat → Nat} {x : Nat} {S : zS} {n : Nat} {Vs Ps Ss Ts Fs Tn : List Nat} {A : Nat → Nat} {G : Nat → Nat → Nat} {Rc : Nat → Nat} (hI : MInv n S) (y : CRep g o h x S n Vs Ps Ss Ts Fs Tn A G Rc) {u : Nat} (hul0 : u < Vs.length) (k : Q (.inl (some (.long (zL (zmon S u (S.1 1 / 30 + 1).toNat))))) h) : zC g (.code yX11_taxOf cX11_taxOf 6 (Option.some Jvm.ClassFile.FieldType.long)) yX11_taxOf 15 0 0 [.ref x, .ref (G 2 u)] h Q := by
  refine zC_of (M := mX11_taxOf) (lv := [some (.ref x), some (.ref (G 2 u)), none, none, none, none]) (by decide) rfl rfl (Nat.le_of_ble_eq_true rfl) rfl rfl ?_
  have e1 := hI.vehicles
  have e2 := hI.today
  have e3 := hI.people
  have e4 := hI.sightings
  have e5 := hI.fines
  have e6 := hI.calls
  have nv := y.nv
  have np := y.np
  have ns := y.ns
  have nf := y.nf
  have hul : u < Vs.length := by omega
  have hu12 : u < 12 := by omega
  obtain ⟨⟨t, l, L, B, hp⟩, hsd⟩ := id (y.hi u hul)
  obtain ⟨hp1, hp2, hp3, hp4, hp5, hp6, hp7, hp8, hp9, hp10, hp11, hp12⟩ := id hp
  refine r_lconst0 1 rfl (dd_X11_taxOf 0 _ _ _ rfl) ?_
  refine r_lstore_2 2 rfl (by decide) rfl (dd_X11_taxOf 1 _ _ _ rfl) ?_
  refine r_iconst 3 rfl (dd_X11_taxOf 2 _ _ _ rfl) ?_
  refine r_istore_4 5 rfl (by decide) rfl (dd_X11_taxOf 3 _ _ _ rfl) ?_
  have L5 : ∀ (tt : Nat), ∀ (j : Nat) (b ts : Int), 100 - j < tt → (j ≤ L.length) → (b = j) → (ts = zds (fun w => if w % 30 = 0 then ztax S u w else 0) 0 (zB (fun i => S.2 11 (30 * u + i)) L.length (S.1 1) j).toNat) → zX g mX11_taxOf 0 0 Q 5 [some (.ref x), some (.ref (G 2 u)), some (.long (zL ts)), none, some (.int (zI b)), none] [] h 0 0 := by
    intro tt5
    induction tt5 with
    | zero => intros; exfalso; omega
    | succ tt5 ih5 =>
      intro j b ts hlt5 hj hb hts
      subst hb
      refine r_iload_4 7 rfl (dd_X11_taxOf 4 _ _ _ rfl) ?_
      refine r_aload_1 8 rfl (dd_X11_taxOf 5 _ _ _ rfl) ?_
      refine r_callV0 (lvl := 13) (mc1 := 0) (ms1 := 0) 0 0 hg rfl md_X4_size zc_X4 hp1 wi_X4_size wv_X4_size (tb_3 36 _ rfl) (by decide) (by decide) rfl (Nat.le_of_ble_eq_true rfl) (Nat.le_of_ble_eq_true rfl) (Nat.le_of_ble_eq_true rfl) 11 rfl (dd_X11_taxOf 6 _ _ _ rfl) ?_
      refine c_X4_size hg hp1 hp6 hp7 ?_
      dsimp only [zCont, Option.toList, List.cons_append, List.nil_append]
      refine r_if_icmpge (by omega) (by omega) 14 rfl 70 rfl (dd_X11_taxOf 7 _ _ _ rfl) (fun hc1 => ?_) (fun hc1 => ?_)
      · refine r_lload_2 71 rfl (dd_X11_taxOf 34 _ _ _ rfl) ?_
        refine r_lreturn rfl (dd_X11_taxOf 35 _ _ _ rfl) ?_
        obtain rfl : j = L.length := (by omega)
        have hz : ts = zmon S u (S.1 1 / 30 + 1).toNat := by rw [hts, show zB (fun i => S.2 11 (30 * u + i)) L.length (S.1 1) L.length = S.1 1 + 1 from if_neg (by omega)]; exact zmon_eq2 (by omega)
        rw [← hz] at k
        exact k
      · obtain ⟨e, he⟩ : ∃ e, L[j]? = some e := ⟨L[j], List.getElem?_eq_getElem (by omega)⟩
        obtain ⟨⟨q1, q2, q3, q4, q5⟩, q6, q7, q8, q9, q10⟩ := hp10 j e he
        have q11 := q10 (by omega)
        have hdr := hI.day (30 * u + j)
        have hdy := y.dy u j (by omega) (by omega)
        have hz1 := zst_range S u (j + 1)
        have hz2 := zlat_range (v := u) (its := 7) (wo := S.2 7 u) hI (by have := hI.ofClass u; omega) (j + 1)
        obtain ⟨hst1, hle⟩ := zpart_step (f := (fun w => if w % 30 = 0 then ztax S u w else 0)) (T := S.1 1) L.length hp8 (show j < L.length by omega) hsd hdr.1 hdy
        have hbt : zB (fun i => S.2 11 (30 * u + i)) L.length (S.1 1) (j + 1) ≤ S.1 1 + 1 := by unfold zB; dsimp only; split; (have := y.dy u (j + 1) (by omega) (by omega); omega); omega
        have hrow : zds (fun w => if w % 30 = 0 then ztax S u w else 0) (S.2 11 (30 * u + j)) (zB (fun i => S.2 11 (30 * u + i)) L.length (S.1 1) (j + 1) - S.2 11 (30 * u + j)).toNat = if (zst S u (j + 1)).1 = 1 then zds (ztx S (zlat S u 7 (S.2 7 u) (j + 1))) (S.2 11 (30 * u + j)) (zB (fun i => S.2 11 (30 * u + i)) L.length (S.1 1) (j + 1) - 1 + 1 - S.2 11 (30 * u + j)).toNat else 0 := by
          have hin : ∀ i : Nat, i < (zB (fun i => S.2 11 (30 * u + i)) L.length (S.1 1) (j + 1) - S.2 11 (30 * u + j)).toNat → ztax S u (S.2 11 (30 * u + j) + i) = if (zst S u (j + 1)).1 = 1 then zrate S (zlat S u 7 (S.2 7 u) (j + 1)) (S.2 11 (30 * u + j) + i) else 0 := fun i hi => ztax_in (zpart_in (T := S.1 1) L.length hp8 (by omega) hsd (by omega) (by omega))
          split
          · rename_i hs1; rw [Int.sub_add_cancel]; refine zds_congr _ fun i hi => ?_; have h9 := hin i hi; rw [if_pos hs1] at h9; show (if _ then _ else _) = (if _ then _ else _); rw [h9]
          · rename_i hs1; refine zds_zero _ fun i hi => ?_; have h9 := hin i hi; rw [if_neg hs1] at h9; show (if _ then _ else _) = (0 : Int); rw [h9]; split <;> rfl
        have hrg := zds_range (f := ztx S (zlat S u 7 (S.2 7 u) (j + 1))) (a := S.2 11 (30 * u + j)) (m := 100000) (ztx_range hI) (zB (fun i => S.2 11 (30 * u + i)) L.length (S.1 1) (j + 1) - 1 + 1 - S.2 11 (30 * u + j)).toNat
        have hrg0 := zds_range (f := (fun w => if w % 30 = 0 then ztax S u w else 0)) (a := 0) (m := 100000) (fun d => by have := ztax_range (v := u) (w := d) hI; show 0 ≤ (if d % 30 = 0 then ztax S u d else 0) ∧ (if d % 30 = 0 then ztax S u d else 0) ≤ 100000; split <;> omega) (zB (fun i => S.2 11 (30 * u + i)) L.length (S.1 1) j).toNat
        have hbj : zB (fun i => S.2 11 (30 * u + i)) L.length (S.1 1) j = S.2 11 (30 * u + j) := if_pos (by omega)
        refine r_aload_1 15 rfl (dd_X11_taxOf 8 _ _ _ rfl) ?_
        refine r_iload_4 17 rfl (dd_X11_taxOf 9 _ _ _ rfl) ?_
        refine r_callV1 (lvl := 13) (mc1 := 0) (ms1 := 0) 0 0 hg rfl md_X4_at zc_X4 hp1 wi_X4_at wv_X4_at (tb_5 16 _ rfl) (by decide) (by decide) rfl (Nat.le_of_ble_eq_true rfl) (Nat.le_of_ble_eq_true rfl) (Nat.le_of_ble_eq_true rfl) 20 rfl (dd_X11_taxOf 10 _ _ _ rfl) ?_
        refine c_X4_at hg hp1 hp6 hp7 (j := j) (e := e) he q1 ?_
        dsimp only [zCont, Option.toList, List.cons_append, List.nil_append]
        refine r_astore_5 22 rfl (by decide) rfl (dd_X11_taxOf 11 _ _ _ rfl) ?_
        refine r_aload_5 24 rfl (dd_X11_taxOf 12 _ _ _ rfl) ?_
        refine r_getr hg zc_X2 3 (by decide) (fun _ _ _ => rfl) q6 q1 (Or.inl rfl) (tb_3 58 _ rfl) 27 rfl (dd_X11_taxOf 13 _ _ _ rfl) ?_
        refine r_geti hg zc_X8 0 (by decide) (fun _ _ _ => rfl) q11.2.2.1 q11.1 (Or.inl rfl) (tb_2 64 _ rfl) 30 rfl (dd_X11_taxOf 14 _ _ _ rfl) ?_
        refine r_iconst 31 rfl (dd_X11_taxOf 15 _ _ _ rfl) ?_
        refine r_if_icmpne (by omega) (by omega) 34 rfl 64 rfl (dd_X11_taxOf 16 _ _ _ rfl) (fun hc2 => ?_) (fun hc2 => ?_)
        · refine r_iinc_4 67 rfl (by decide) rfl (dd_X11_taxOf 32 _ _ _ rfl) ?_
          refine r_goto 5 rfl (dd_X11_taxOf 33 _ _ _ rfl) ?_
          exact r_sub _ (z_s1 (z_s1 (z_s1 (z_s0 (z_s1 (z_s0 z_sN)))))) (ih5 (j + 1) _ _ (by omega) (by omega) (by omega) (by rw [hst1, hrow, ← hts]; first | (rw [if_pos (by omega)]) | (rw [if_neg (by omega)]; omega)))
        · refine r_lload_2 35 rfl (dd_X11_taxOf 17 _ _ _ rfl) ?_
          refine r_aload_0 36 rfl (dd_X11_taxOf 18 _ _ _ rfl) ?_
          refine r_aload_5 38 rfl (dd_X11_taxOf 19 _ _ _ rfl) ?_
          refine r_geti hg zc_X2 2 (by decide) (fun _ _ _ => rfl) q5 q1 (Or.inl rfl) (tb_3 55 _ rfl) 41 rfl (dd_X11_taxOf 20 _ _ _ rfl) ?_
          refine r_aload_1 42 rfl (dd_X11_taxOf 21 _ _ _ rfl) ?_
          refine r_iload_4 44 rfl (dd_X11_taxOf 22 _ _ _ rfl) ?_
          refine r_aload_0 45 rfl (dd_X11_taxOf 23 _ _ _ rfl) ?_
          refine r_geti hg zc_X11 0 (by decide) (fun _ _ _ => rfl) y.mn.2.2.1 y.mn.1 (Or.inl rfl) (tb_1 121 _ rfl) 48 rfl (dd_X11_taxOf 24 _ _ _ rfl) ?_
          refine r_callV2 (lvl := 13) (mc1 := 0) (ms1 := 0) 0 0 hg rfl md_X4_endOf zc_X4 hp1 wi_X4_endOf wv_X4_endOf (tb_5 20 _ rfl) (by decide) (by decide) rfl (Nat.le_of_ble_eq_true rfl) (Nat.le_of_ble_eq_true rfl) (Nat.le_of_ble_eq_true rfl) 51 rfl (dd_X11_taxOf 25 _ _ _ rfl) ?_
          refine c_X4_endOf hg hI hp (by omega) (by omega) ?_
          dsimp only [zCont, Option.toList, List.cons_append, List.nil_append]
          refine r_aload_5 53 rfl (dd_X11_taxOf 26 _ _ _ rfl) ?_
          refine r_getr hg zc_X2 3 (by decide) (fun _ _ _ => rfl) q6 q1 (Or.inl rfl) (tb_3 58 _ rfl) 56 rfl (dd_X11_taxOf 27 _ _ _ rfl) ?_
          refine r_geti hg zc_X8 4 (by decide) (fun _ _ _ => rfl) q11.2.2.2.2.2.2 q11.1 (Or.inl rfl) (tb_2 70 _ rfl) 59 rfl (dd_X11_taxOf 28 _ _ _ rfl) ?_
          refine r_callV3 (lvl := 14) (mc1 := 0) (ms1 := 0) 0 0 hg rfl md_X11_taxBetween zc_X11 y.mn.1 wi_X11_taxBetween wv_X11_taxBetween (tb_5 24 _ rfl) (by decide) (by decide) rfl (Nat.le_of_ble_eq_true rfl) (Nat.le_of_ble_eq_true rfl) (Nat.le_of_ble_eq_true rfl) 62 rfl (dd_X11_taxOf 29 _ _ _ rfl) ?_
          refine c_X11_taxBetween hg hI y (by omega) (by omega) (by omega) (by omega) ?_
          dsimp only [zCont, Option.toList, List.cons_append, List.nil_append]
          refine r_ladd 63 rfl (dd_X11_taxOf 30 _ _ _ rfl) ?_
          refine r_lstore_2 64 rfl (by decide) rfl (dd_X11_taxOf 31 _ _ _ rfl) ?_
          refine r_iinc_4 67 rfl (by decide) rfl (dd_X11_taxOf 32 _ _ _ rfl) ?_
          refine r_goto 5 rfl (dd_X11_taxOf 33 _ _ _ rfl) ?_
          exact r_sub _ (z_s1 (z_s1 (z_s1 (z_s0 (z_s1 (z_s0 z_sN)))))) (ih5 (j + 1) _ _ (by omega) (by omega) (by omega) (by rw [hst1, hrow, ← hts]; first | (rw [if_pos (by omega)]) | (rw [if_neg (by omega)]; omega)))
  exact r_sub _ (z_s1 (z_s1 (z_s1 (z_s0 (z_s1 (z_s0 z_sN)))))) (L5 1000000 0 _ _ (by omega) (by omega) rfl (zpart_0 L.length hp8 (fun d hd => by show (if _ then _ else _) = (0 : Int); rw [ztax_0 hd]; split <;> rfl)).symm)

abbrev mX11_owes : zM := (RX11, cX11_owes, 3, (Option.some Jvm.ClassFile.FieldType.long), [], "owes", 16)
set_option maxRecDepth 20000 in
theorem c_X11_owes {g : zGT} {Q : zO → zH → Prop} {h : zH} (hg : zG g) {o : Nat → Nat} {x : Nat} {S : zS} {n : Nat} {Vs Ps Ss Ts Fs Tn : List Nat} {A : Nat → Nat} {G : Nat → Nat → Nat} {Rc : Nat → Nat} (hI : MInv n S) (y : CRep g o h x S n Vs Ps Ss Ts Fs Tn A G Rc) {v : Int} (hv : zR v) (kE : ¬ (0 ≤ v ∧ v < S.1 4) → Q (.inr "java/lang/IndexOutOfBoundsException") h) (k : ∀ u : Nat, v = u → v < S.1 4 → Q (.inl (some (.long (zL (zowed S u))))) h) : zC g (.code yX11_owes cX11_owes 3 (Option.some Jvm.ClassFile.FieldType.long)) yX11_owes 16 4 40 [.ref x, .int (zI v)] h Q := by
  refine zC_of (M := mX11_owes) (lv := [some (.ref x), some (.int (zI v)), none]) (by decide) rfl rfl (Nat.le_of_ble_eq_true rfl) rfl rfl ?_
  have e1 := hI.vehicles
  have e2 := hI.today
  have e3 := hI.people
  have e4 := hI.sightings
  have e5 := hI.fines
  have e6 := hI.calls
  have nv := y.nv
  have np := y.np
  have ns := y.ns
  have nf := y.nf
  refine r_aload_0 1 rfl (dd_X11_owes 0 _ _ _ rfl) ?_
  refine r_iload_1 2 rfl (dd_X11_owes 1 _ _ _ rfl) ?_
  refine r_callV1 (lvl := 13) (mc1 := 1) (ms1 := 6) 3 34 hg rfl md_X11_vehicleAt zc_X11 y.mn.1 wi_X11_vehicleAt wv_X11_vehicleAt (tb_3 29 _ rfl) (by decide) (by decide) rfl (Nat.le_of_ble_eq_true rfl) (Nat.le_of_ble_eq_true rfl) (Nat.le_of_ble_eq_true rfl) 5 rfl (dd_X11_owes 2 _ _ _ rfl) ?_
  refine c_X11_vehicleAt hg hI y (by omega) (fun hE => ?_) (fun u va hu hV hu4 => ?_)
  · dsimp only [zCont]
    exact kE hE
  · dsimp only [zCont, Option.toList, List.cons_append, List.nil_append]
    refine r_astore_2 6 rfl (by decide) rfl (dd_X11_owes 3 _ _ _ rfl) ?_
    have hul : u < Vs.length := by omega
    have hu12 : u < 12 := by omega
    obtain ⟨⟨t, l, L, B, hp⟩, hsd⟩ := id (y.hi u hul)
    obtain ⟨hp1, hp2, hp3, hp4, hp5, hp6, hp7, hp8, hp9, hp10, hp11, hp12⟩ := id hp
    refine r_aload_0 7 rfl (dd_X11_owes 4 _ _ _ rfl) ?_
    refine r_aload_2 8 rfl (dd_X11_owes 5 _ _ _ rfl) ?_
    refine r_getr hg zc_X10 2 (by decide) (fun _ _ _ => rfl) (y.vo u va hV).2.2.2.2.1 (y.vo u va hV).1 (Or.inl rfl) (tb_2 123 _ rfl) 11 rfl (dd_X11_owes 6 _ _ _ rfl) ?_
    refine r_callV1 (lvl := 15) (mc1 := 0) (ms1 := 0) 3 34 hg rfl md_X11_taxOf zc_X11 y.mn.1 wi_X11_taxOf wv_X11_taxOf (tb_5 12 _ rfl) (by decide) (by decide) rfl (Nat.le_of_ble_eq_true rfl) (Nat.le_of_ble_eq_true rfl) (Nat.le_of_ble_eq_true rfl) 14 rfl (dd_X11_owes 7 _ _ _ rfl) ?_
    refine c_X11_taxOf hg hI y (u := u) (by omega) ?_
    dsimp only [zCont, Option.toList, List.cons_append, List.nil_append]
    refine r_aload_2 15 rfl (dd_X11_owes 8 _ _ _ rfl) ?_
    refine r_getj hg zc_X10 6 (by decide) (fun _ _ _ => rfl) (y.vo u va hV).2.2.2.2.2.2.2.2 (y.vo u va hV).1 (Or.inl rfl) (tb_2 131 _ rfl) 18 rfl (dd_X11_owes 9 _ _ _ rfl) ?_
    refine r_lsub 19 rfl (dd_X11_owes 10 _ _ _ rfl) ?_
    refine r_lreturn rfl (dd_X11_owes 11 _ _ _ rfl) ?_
    exact k u hu (by omega)

abbrev mX11_gapOf : zM := (RX11, cX11_gapOf, 7, (Option.some Jvm.ClassFile.FieldType.int), [], "gapOf", 14)
set_option maxRecDepth 20000 in
theorem c_X11_gapOf {g : zGT} {Q : zO → zH → Prop} {h : zH} (hg : zG g) {o : Nat → Nat} {x : Nat} {S : zS} {n : Nat} {Vs Ps Ss Ts Fs Tn : List Nat} {A : Nat → Nat} {G : Nat → Nat → Nat} {Rc : Nat → Nat} (hI : MInv n S) (y : CRep g o h x S n Vs Ps Ss Ts Fs Tn A G Rc) {u va : Nat} (hV : Vs[u]? = some va) (k : Q (.inl (some (.int (zI (zgap S u (S.1 1 + 1).toNat))))) h) : zC g (.code yX11_gapOf cX11_gapOf 7 (Option.some Jvm.ClassFile.FieldType.int)) yX11_gapOf 14 0 0 [.ref x, .ref va] h Q := by
  refine zC_of (M := mX11_gapOf) (lv := [some (.ref x), some (.ref va), none, none, none, none, none]) (by decide) rfl rfl (Nat.le_of_ble_eq_true rfl) rfl rfl ?_
  have e1 := hI.vehicles
  have e2 := hI.today
  have e3 := hI.people
  have e4 := hI.sightings
  have e5 := hI.fines
  have e6 := hI.calls
  have nv := y.nv
  have np := y.np
  have ns := y.ns
  have nf := y.nf
  have huL := (List.getElem?_eq_some_iff.mp hV).1
  have hul : u < Vs.length := by omega
  have hu12 : u < 12 := by omega
  obtain ⟨⟨t, l, L, B, hp⟩, hsd⟩ := id (y.hi u hul)
  obtain ⟨hp1, hp2, hp3, hp4, hp5, hp6, hp7, hp8, hp9, hp10, hp11, hp12⟩ := id hp
  obtain ⟨R, ⟨ef, ev, F, V, c, hC, hCok, hR⟩, hRz, hRt⟩ := y.ii u hul
  refine r_aload_1 1 rfl (dd_X11_gapOf 0 _ _ _ rfl) ?_
  refine r_getr hg zc_X10 2 (by decide) (fun _ _ _ => rfl) (y.vo u va hV).2.2.2.2.1 (y.vo u va hV).1 (Or.inl rfl) (tb_2 123 _ rfl) 4 rfl (dd_X11_gapOf 1 _ _ _ rfl) ?_
  refine r_astore_2 5 rfl (by decide) rfl (dd_X11_gapOf 2 _ _ _ rfl) ?_
  refine r_iconst 6 rfl (dd_X11_gapOf 3 _ _ _ rfl) ?_
  refine r_istore_3 7 rfl (by decide) rfl (dd_X11_gapOf 4 _ _ _ rfl) ?_
  refine r_iconst 8 rfl (dd_X11_gapOf 5 _ _ _ rfl) ?_
  refine r_istore_4 10 rfl (by decide) rfl (dd_X11_gapOf 6 _ _ _ rfl) ?_
  have L10 : ∀ (tt : Nat), ∀ (j : Nat) (b ts : Int), 100 - j < tt → (j ≤ L.length) → (b = j) → (ts = zds (fun w => if zstate S u w = 1 ∧ zins S.2 u w = false then 1 else 0) 0 (zB (fun i => S.2 11 (30 * u + i)) L.length (S.1 1) j).toNat) → zX g mX11_gapOf 0 0 Q 10 [some (.ref x), some (.ref va), some (.ref (G 2 u)), some (.int (zI ts)), some (.int (zI b)), none, none] [] h 0 0 := by
    intro tt10
    induction tt10 with
    | zero => intros; exfalso; omega
    | succ tt10 ih10 =>
      intro j b ts hlt10 hj hb hts
      subst hb
      refine r_iload_4 12 rfl (dd_X11_gapOf 7 _ _ _ rfl) ?_
      refine r_aload_2 13 rfl (dd_X11_gapOf 8 _ _ _ rfl) ?_
      refine r_callV0 (lvl := 13) (mc1 := 0) (ms1 := 0) 0 0 hg rfl md_X4_size zc_X4 hp1 wi_X4_size wv_X4_size (tb_3 36 _ rfl) (by decide) (by decide) rfl (Nat.le_of_ble_eq_true rfl) (Nat.le_of_ble_eq_true rfl) (Nat.le_of_ble_eq_true rfl) 16 rfl (dd_X11_gapOf 9 _ _ _ rfl) ?_
      refine c_X4_size hg hp1 hp6 hp7 ?_
      dsimp only [zCont, Option.toList, List.cons_append, List.nil_append]
      refine r_if_icmpge (by omega) (by omega) 19 rfl 93 rfl (dd_X11_gapOf 10 _ _ _ rfl) (fun hc1 => ?_) (fun hc1 => ?_)
      · refine r_iload_3 94 rfl (dd_X11_gapOf 48 _ _ _ rfl) ?_
        refine r_ireturn rfl rfl (dd_X11_gapOf 49 _ _ _ rfl) ?_
        obtain rfl : j = L.length := (by omega)
        have hz : ts = zgap S u (S.1 1 + 1).toNat := by rw [hts, show zB (fun i => S.2 11 (30 * u + i)) L.length (S.1 1) L.length = S.1 1 + 1 from if_neg (by omega), zgap_eq]
        rw [← hz] at k
        exact k
      · obtain ⟨e, he⟩ : ∃ e, L[j]? = some e := ⟨L[j], List.getElem?_eq_getElem (by omega)⟩
        obtain ⟨⟨q1, q2, q3, q4, q5⟩, q6, q7, q8, q9, q10⟩ := hp10 j e he
        have q11 := q10 (by omega)
        have hdr := hI.day (30 * u + j)
        have hdy := y.dy u j (by omega) (by omega)
        have hz1 := zst_range S u (j + 1)
        have hz2 := zlat_range (v := u) (its := 7) (wo := S.2 7 u) hI (by have := hI.ofClass u; omega) (j + 1)
        obtain ⟨hst1, hle⟩ := zpart_step (f := (fun w => if zstate S u w = 1 ∧ zins S.2 u w = false then 1 else 0)) (T := S.1 1) L.length hp8 (show j < L.length by omega) hsd hdr.1 hdy
        have hbt : zB (fun i => S.2 11 (30 * u + i)) L.length (S.1 1) (j + 1) ≤ S.1 1 + 1 := by unfold zB; dsimp only; split; (have := y.dy u (j + 1) (by omega) (by omega); omega); omega
        have hin : ∀ i : Nat, i < (zB (fun i => S.2 11 (30 * u + i)) L.length (S.1 1) (j + 1) - S.2 11 (30 * u + j)).toNat → zstate S u (S.2 11 (30 * u + j) + i) = (zst S u (j + 1)).1 := fun i hi => by unfold zstate; rw [zpart_in (T := S.1 1) L.length hp8 (show j < L.length by omega) hsd (by omega) (by omega)]
        have hrow0 : (zst S u (j + 1)).1 ≠ 1 → zds (fun w => if zstate S u w = 1 ∧ zins S.2 u w = false then 1 else 0) (S.2 11 (30 * u + j)) (zB (fun i => S.2 11 (30 * u + i)) L.length (S.1 1) (j + 1) - S.2 11 (30 * u + j)).toNat = 0 := fun hs1 => zds_zero _ fun i hi => by have h9 := hin i hi; show (if _ then _ else _) = (0 : Int); rw [if_neg (by rw [h9]; exact fun q => hs1 q.1)]
        have hrow1 : (zst S u (j + 1)).1 = 1 → zds (fun w => if zstate S u w = 1 ∧ zins S.2 u w = false then 1 else 0) (S.2 11 (30 * u + j)) (zB (fun i => S.2 11 (30 * u + i)) L.length (S.1 1) (j + 1) - S.2 11 (30 * u + j)).toNat = (zB (fun i => S.2 11 (30 * u + i)) L.length (S.1 1) (j + 1) - S.2 11 (30 * u + j)).toNat - zds (fun w => if w ≤ (zcp1 F V (-1) w c).2 then 1 else 0) (S.2 11 (30 * u + j)) (zB (fun i => S.2 11 (30 * u + i)) L.length (S.1 1) (j + 1) - S.2 11 (30 * u + j)).toNat := fun hs1 => zds_neg1 _ fun i hi => by have h9 := hin i hi; (try dsimp only); have h8 := hRz (S.2 11 (30 * u + j) + i) (by omega) (by omega); rw [← hR] at h8; cases h7 : zins S.2 u (S.2 11 (30 * u + j) + i) with | true => rw [if_neg (by rintro ⟨_, q⟩; cases q), if_pos (h8.mp h7)]; rfl | false => rw [if_pos ⟨by rw [h9]; exact hs1, rfl⟩, if_neg (fun q => by rw [h8.mpr q] at h7; cases h7)]; rfl
        have hgr := zgap_range (S := S) (v := u) (zB (fun i => S.2 11 (30 * u + i)) L.length (S.1 1) j).toNat
        rw [zgap_eq] at hgr
        have hbj : zB (fun i => S.2 11 (30 * u + i)) L.length (S.1 1) j = S.2 11 (30 * u + j) := if_pos (by omega)
        refine r_aload_2 20 rfl (dd_X11_gapOf 11 _ _ _ rfl) ?_
        refine r_iload_4 22 rfl (dd_X11_gapOf 12 _ _ _ rfl) ?_
        refine r_callV1 (lvl := 13) (mc1 := 0) (ms1 := 0) 0 0 hg rfl md_X4_at zc_X4 hp1 wi_X4_at wv_X4_at (tb_5 16 _ rfl) (by decide) (by decide) rfl (Nat.le_of_ble_eq_true rfl) (Nat.le_of_ble_eq_true rfl) (Nat.le_of_ble_eq_true rfl) 25 rfl (dd_X11_gapOf 13 _ _ _ rfl) ?_
        refine c_X4_at hg hp1 hp6 hp7 (j := j) (e := e) he q1 ?_
        dsimp only [zCont, Option.toList, List.cons_append, List.nil_append]
        refine r_geti hg zc_X2 2 (by decide) (fun _ _ _ => rfl) q5 q1 (Or.inl rfl) (tb_3 55 _ rfl) 28 rfl (dd_X11_gapOf 14 _ _ _ rfl) ?_
        refine r_istore_5 30 rfl (by decide) rfl (dd_X11_gapOf 15 _ _ _ rfl) ?_
        refine r_aload_2 31 rfl (dd_X11_gapOf 16 _ _ _ rfl) ?_
        refine r_iload_4 33 rfl (dd_X11_gapOf 17 _ _ _ rfl) ?_
        refine r_aload_0 34 rfl (dd_X11_gapOf 18 _ _ _ rfl) ?_
        refine r_geti hg zc_X11 0 (by decide) (fun _ _ _ => rfl) y.mn.2.2.1 y.mn.1 (Or.inl rfl) (tb_1 121 _ rfl) 37 rfl (dd_X11_gapOf 19 _ _ _ rfl) ?_
        refine r_callV2 (lvl := 13) (mc1 := 0) (ms1 := 0) 0 0 hg rfl md_X4_endOf zc_X4 hp1 wi_X4_endOf wv_X4_endOf (tb_5 20 _ rfl) (by decide) (by decide) rfl (Nat.le_of_ble_eq_true rfl) (Nat.le_of_ble_eq_true rfl) (Nat.le_of_ble_eq_true rfl) 40 rfl (dd_X11_gapOf 20 _ _ _ rfl) ?_
        refine c_X4_endOf hg hI hp (by omega) (by omega) ?_
        dsimp only [zCont, Option.toList, List.cons_append, List.nil_append]
        refine r_istore_6 42 rfl (by decide) rfl (dd_X11_gapOf 21 _ _ _ rfl) ?_
        refine r_aload_2 43 rfl (dd_X11_gapOf 22 _ _ _ rfl) ?_
        refine r_iload_4 45 rfl (dd_X11_gapOf 23 _ _ _ rfl) ?_
        refine r_callV1 (lvl := 13) (mc1 := 0) (ms1 := 0) 0 0 hg rfl md_X4_at zc_X4 hp1 wi_X4_at wv_X4_at (tb_5 16 _ rfl) (by decide) (by decide) rfl (Nat.le_of_ble_eq_true rfl) (Nat.le_of_ble_eq_true rfl) (Nat.le_of_ble_eq_true rfl) 48 rfl (dd_X11_gapOf 24 _ _ _ rfl) ?_
        refine c_X4_at hg hp1 hp6 hp7 (j := j) (e := e) he q1 ?_
        dsimp only [zCont, Option.toList, List.cons_append, List.nil_append]
        refine r_getr hg zc_X2 3 (by decide) (fun _ _ _ => rfl) q6 q1 (Or.inl rfl) (tb_3 58 _ rfl) 51 rfl (dd_X11_gapOf 25 _ _ _ rfl) ?_
        refine r_geti hg zc_X8 0 (by decide) (fun _ _ _ => rfl) q11.2.2.1 q11.1 (Or.inl rfl) (tb_2 64 _ rfl) 54 rfl (dd_X11_gapOf 26 _ _ _ rfl) ?_
        refine r_iconst 55 rfl (dd_X11_gapOf 27 _ _ _ rfl) ?_
        refine r_if_icmpne (by omega) (by omega) 58 rfl 87 rfl (dd_X11_gapOf 28 _ _ _ rfl) (fun hc2 => ?_) (fun hc2 => ?_)
        · refine r_iinc_4 90 rfl (by decide) rfl (dd_X11_gapOf 46 _ _ _ rfl) ?_
          refine r_goto 10 rfl (dd_X11_gapOf 47 _ _ _ rfl) ?_
          exact r_sub _ (z_s1 (z_s1 (z_s1 (z_s1 (z_s1 (z_s0 (z_s0 z_sN))))))) (ih10 (j + 1) _ _ (by omega) (by omega) (by omega) (by rw [hst1, ← hts]; by_cases hs1 : (zst S u (j + 1)).1 = 1; (rw [hrow1 hs1]; first | omega | (rw [show (zB (fun i => S.2 11 (30 * u + i)) L.length (S.1 1) (j + 1) - S.2 11 (30 * u + j)).toNat = 0 by omega]; show ts = ts + (0 - 0); omega)); (rw [hrow0 hs1]; omega)))
        · refine r_iload_5 60 rfl (dd_X11_gapOf 29 _ _ _ rfl) ?_
          refine r_iload_6 62 rfl (dd_X11_gapOf 30 _ _ _ rfl) ?_
          refine r_if_icmpgt (by omega) (by omega) 65 rfl 87 rfl (dd_X11_gapOf 31 _ _ _ rfl) (fun hc3 => ?_) (fun hc3 => ?_)
          · refine r_iinc_4 90 rfl (by decide) rfl (dd_X11_gapOf 46 _ _ _ rfl) ?_
            refine r_goto 10 rfl (dd_X11_gapOf 47 _ _ _ rfl) ?_
            exact r_sub _ (z_s1 (z_s1 (z_s1 (z_s1 (z_s1 (z_s0 (z_s0 z_sN))))))) (ih10 (j + 1) _ _ (by omega) (by omega) (by omega) (by rw [hst1, ← hts]; by_cases hs1 : (zst S u (j + 1)).1 = 1; (rw [hrow1 hs1]; first | omega | (rw [show (zB (fun i => S.2 11 (30 * u + i)) L.length (S.1 1) (j + 1) - S.2 11 (30 * u + j)).toNat = 0 by omega]; show ts = ts + (0 - 0); omega)); (rw [hrow0 hs1]; omega)))
          · refine r_iload_3 66 rfl (dd_X11_gapOf 32 _ _ _ rfl) ?_
            refine r_iload_6 68 rfl (dd_X11_gapOf 33 _ _ _ rfl) ?_
            refine r_iload_5 70 rfl (dd_X11_gapOf 34 _ _ _ rfl) ?_
            refine r_isub 71 rfl (dd_X11_gapOf 35 _ _ _ rfl) ?_
            refine r_iconst 72 rfl (dd_X11_gapOf 36 _ _ _ rfl) ?_
            refine r_iadd 73 rfl (dd_X11_gapOf 37 _ _ _ rfl) ?_
            refine r_aload_1 74 rfl (dd_X11_gapOf 38 _ _ _ rfl) ?_
            refine r_getr hg zc_X10 5 (by decide) (fun _ _ _ => rfl) (y.vo u va hV).2.2.2.2.2.2.2.1 (y.vo u va hV).1 (Or.inl rfl) (tb_2 129 _ rfl) 77 rfl (dd_X11_gapOf 39 _ _ _ rfl) ?_
            refine r_iload_5 79 rfl (dd_X11_gapOf 40 _ _ _ rfl) ?_
            refine r_iload_6 81 rfl (dd_X11_gapOf 41 _ _ _ rfl) ?_
            refine r_callV2 (lvl := 10) (mc1 := 0) (ms1 := 0) 0 0 hg rfl md_X1_daysReached zc_X1 hC.1 wi_X1_daysReached wv_X1_daysReached (tb_5 77 _ rfl) (by decide) (by decide) rfl (Nat.le_of_ble_eq_true rfl) (Nat.le_of_ble_eq_true rfl) (Nat.le_of_ble_eq_true rfl) 84 rfl (dd_X11_gapOf 42 _ _ _ rfl) ?_
            refine c_X1_daysReached hg hC hCok (by omega) (by omega) (by omega) (by have := hCok.2.2; omega) ?_
            have hzz := zdr_all (F := F) (V := V) hCok (a := S.2 11 (30 * u + j)) (b := zB (fun i => S.2 11 (30 * u + i)) L.length (S.1 1) (j + 1) - 1) (by omega) (by omega)
            rw [show zB (fun i => S.2 11 (30 * u + i)) L.length (S.1 1) (j + 1) - 1 - S.2 11 (30 * u + j) + 1 = zB (fun i => S.2 11 (30 * u + i)) L.length (S.1 1) (j + 1) - S.2 11 (30 * u + j) by omega] at hzz
            have hdrg := zds_range (f := fun w => if w ≤ (zcp1 F V (-1) w c).2 then 1 else 0) (a := S.2 11 (30 * u + j)) (m := 1) (fun d => by (try dsimp only); split <;> omega) (zB (fun i => S.2 11 (30 * u + i)) L.length (S.1 1) (j + 1) - S.2 11 (30 * u + j)).toNat
            dsimp only [zCont, Option.toList, List.cons_append, List.nil_append]
            refine r_isub 85 rfl (dd_X11_gapOf 43 _ _ _ rfl) ?_
            refine r_iadd 86 rfl (dd_X11_gapOf 44 _ _ _ rfl) ?_
            refine r_istore_3 87 rfl (by decide) rfl (dd_X11_gapOf 45 _ _ _ rfl) ?_
            refine r_iinc_4 90 rfl (by decide) rfl (dd_X11_gapOf 46 _ _ _ rfl) ?_
            refine r_goto 10 rfl (dd_X11_gapOf 47 _ _ _ rfl) ?_
            exact r_sub _ (z_s1 (z_s1 (z_s1 (z_s1 (z_s1 (z_s0 (z_s0 z_sN))))))) (ih10 (j + 1) _ _ (by omega) (by omega) (by omega) (by rw [hst1, ← hts]; by_cases hs1 : (zst S u (j + 1)).1 = 1; (rw [hrow1 hs1]; first | omega | (rw [show (zB (fun i => S.2 11 (30 * u + i)) L.length (S.1 1) (j + 1) - S.2 11 (30 * u + j)).toNat = 0 by omega]; show ts = ts + (0 - 0); omega)); (rw [hrow0 hs1]; omega)))
  exact r_sub _ (z_s1 (z_s1 (z_s1 (z_s1 (z_s1 (z_s0 (z_s0 z_sN))))))) (L10 1000000 0 _ _ (by omega) (by omega) rfl (zpart_0 L.length hp8 (fun d hd => by show (if _ then _ else _) = (0 : Int); rw [if_neg (by unfold zstate; rw [hd]; rintro ⟨q, _⟩; cases q)])).symm)
