set_option maxRecDepth 20000
set_option maxHeartbeats 1600000
theorem zplateV_R {S : zS} (h : zplateOK S) : zR (zplateV S) := by unfold zplateOK at h; unfold zplateV; omega
theorem zuntil_R {n : Nat} {S : zS} (hI : MInv n S) {u : Nat} {w gr far U : Int} (h : ztestOK S u w gr far) (hU : U = zuntil S u w gr) : zR U := by
  have e1 := hI.today
  have e29 := hI.until u
  have e6 := hI.built u
  have e26 := hI.testDay u
  have h1 := h.1
  have h2 := h.2.1
  have hw : 0 ≤ w := by split at h1 <;> omega
  subst hU
  unfold zuntil
  split <;> split <;> omega
theorem zlast0_R {n : Nat} {S : zS} (hI : MInv n S) {u : Nat} {w : Int} : zR (zlast S u w 0 (-1)) := by have := zlast_range (v := u) (w := w) (its := 0) (wo := -1) hI (by omega); omega
theorem zsign0_R {n : Nat} {S : zS} (hI : MInv n S) {u : Int} {w q : Int} : zR (if zplate S u w = -1 then 0 else zsign (zplate S u w) q) := by
  have e := zplate_range (v := u) (w := w) hI
  split
  · omega
  · have := zsign_range (p := zplate S u w) (q := q) (by omega) (by omega); omega
theorem it_tell {g : zGT} {Q : zO → zH → Prop} (hg : zG g) (hnx : zNX g) {x m : Nat} {A : Nat → Nat} {out : Nat} {F : Nat → Prop} {hB : zH} {a L : Nat} (hF : zLF m A out F hB) {sv : Nat → Int} (hA : zLA g a sv L) {mi : Nat} (hm : zMi g mi) {o : Nat → Nat} {n : Nat} {S : zS} {h : zH} (y : zLS g x m A out F hB o n S S h) (hS : MOk n S) (hn : n < 512) {i : Int} (hi : 0 ≤ i) (hi5 : i + 5 ≤ L) {mc ms bc bs bc2 bs2 : Nat} (hb : bc2 + 20 ≤ bc) (hb2 : bs2 + 4300 ≤ bs) (k : ∀ o2 S2 h2, zLS g x m A out F hB o2 (n + 1) S2 S2 h2 → MOk (n + 1) S2 → zX g mL_law mc ms Q 2034 [some (.ref a), some (.ref x), some (.ref m), some (.ref out), some (.int (zI i)), none, none, none] [] h2 bc2 bs2) : zX g mL_law mc ms Q 506 [some (.ref a), some (.ref x), some (.ref m), some (.ref out), some (.int (zI i)), none, none, none] [] h bc bs := by
  have hL := hA.2.2.1
  have hz := hA.2.2.2
  have e1 := hS.1.today
  have e2 := hS.1.signs
  have e4 := hS.1.vehicles
  have e12 := hS.1.people
  have e18 := hS.1.allotted
  have e20 := hS.1.rates
  have e31 := hS.1.sightings
  have e36 := hS.1.fines
  refine r_aload_1 507 rfl (dd_L_law_4 0 _ _ _ rfl) ?_
  refine r_aload_0 508 rfl (dd_L_law_4 1 _ _ _ rfl) ?_
  refine r_iload_4 510 rfl (dd_L_law_4 2 _ _ _ rfl) ?_
  refine r_iconst 511 rfl (dd_L_law_4 3 _ _ _ rfl) ?_
  refine r_iadd 512 rfl (dd_L_law_4 4 _ _ _ rfl) ?_
  refine r_scr hA (by omega) (by omega) 513 rfl (dd_L_law_4 5 _ _ _ rfl) ?_
  refine r_aload_0 514 rfl (dd_L_law_4 6 _ _ _ rfl) ?_
  refine r_iload_4 516 rfl (dd_L_law_4 7 _ _ _ rfl) ?_
  refine r_iconst 517 rfl (dd_L_law_4 8 _ _ _ rfl) ?_
  refine r_iadd 518 rfl (dd_L_law_4 9 _ _ _ rfl) ?_
  refine r_scr hA (by omega) (by omega) 519 rfl (dd_L_law_4 10 _ _ _ rfl) ?_
  refine r_aload_0 520 rfl (dd_L_law_4 11 _ _ _ rfl) ?_
  refine r_iload_4 522 rfl (dd_L_law_4 12 _ _ _ rfl) ?_
  refine r_iconst 523 rfl (dd_L_law_4 13 _ _ _ rfl) ?_
  refine r_iadd 524 rfl (dd_L_law_4 14 _ _ _ rfl) ?_
  refine r_scr hA (by omega) (by omega) 525 rfl (dd_L_law_4 15 _ _ _ rfl) ?_
  refine r_aload_0 526 rfl (dd_L_law_4 16 _ _ _ rfl) ?_
  refine r_iload_4 528 rfl (dd_L_law_4 17 _ _ _ rfl) ?_
  refine r_iconst 529 rfl (dd_L_law_4 18 _ _ _ rfl) ?_
  refine r_iadd 530 rfl (dd_L_law_4 19 _ _ _ rfl) ?_
  refine r_scr hA (by omega) (by omega) 531 rfl (dd_L_law_4 20 _ _ _ rfl) ?_
  refine r_aload_3 532 rfl (dd_L_law_4 21 _ _ _ rfl) ?_
  have hw0 : zR (sv (i + 1).toNat) := by exact hz _
  have hw1 : zR (sv (i + 2).toNat) := by exact hz _
  have hw2 : zR (sv (i + 3).toNat) := by exact hz _
  have hw3 : zR (sv (i + 4).toNat) := by exact hz _
  generalize hv0 : (sv (i + 1).toNat) = v0 at *
  generalize hv1 : (sv (i + 2).toNat) = v1 at *
  generalize hv2 : (sv (i + 3).toNat) = v2 at *
  generalize hv3 : (sv (i + 4).toNat) = v3 at *
  have tail : ∀ (kk : Int) (S2 : zS) (h1 : zH) (o1 : Nat → Nat), zLS g x m A out F hB o1 (n + 1) S2 S h1 → MOk (n + 1) S2 → zR kk → (∀ Q2 : zO → zH → Prop, (∀ h2 v, MI h1 m A S2 kk h2 → zR v → (kk = 0 → aj_ h1 out 0 = v) → Q2 (.inl (some (.int (zI v)))) h2) → zC g (.code yX12_tell cX12_tell 9 (Option.some Jvm.ClassFile.FieldType.int)) yX12_tell 13 0 0 [.ref m, .int (zI v0), .int (zI v1), .int (zI v2), .int (zI v3)] h1 Q2) → zX g mL_law mc ms Q 535 [some (.ref a), some (.ref x), some (.ref m), some (.ref out), some (.int (zI i)), none, none, none] [.int (zI kk)] h1 bc2 bs2 := by
    intro kk S2 h1 o1 y1 hS2 hkk hmod
    refine r_istore_5 537 rfl (by decide) rfl (dd_L_law_4 23 _ _ _ rfl) ?_
    refine r_aload_2 538 rfl (dd_L_law_4 24 _ _ _ rfl) ?_
    refine r_aload_0 539 rfl (dd_L_law_4 25 _ _ _ rfl) ?_
    refine r_iload_4 541 rfl (dd_L_law_4 26 _ _ _ rfl) ?_
    refine r_iconst 542 rfl (dd_L_law_4 27 _ _ _ rfl) ?_
    refine r_iadd 543 rfl (dd_L_law_4 28 _ _ _ rfl) ?_
    refine r_scr hA (by omega) (by omega) 544 rfl (dd_L_law_4 29 _ _ _ rfl) ?_
    rw [hv0]
    refine r_aload_0 545 rfl (dd_L_law_4 30 _ _ _ rfl) ?_
    refine r_iload_4 547 rfl (dd_L_law_4 31 _ _ _ rfl) ?_
    refine r_iconst 548 rfl (dd_L_law_4 32 _ _ _ rfl) ?_
    refine r_iadd 549 rfl (dd_L_law_4 33 _ _ _ rfl) ?_
    refine r_scr hA (by omega) (by omega) 550 rfl (dd_L_law_4 34 _ _ _ rfl) ?_
    rw [hv1]
    refine r_aload_0 551 rfl (dd_L_law_4 35 _ _ _ rfl) ?_
    refine r_iload_4 553 rfl (dd_L_law_4 36 _ _ _ rfl) ?_
    refine r_iconst 554 rfl (dd_L_law_4 37 _ _ _ rfl) ?_
    refine r_iadd 555 rfl (dd_L_law_4 38 _ _ _ rfl) ?_
    refine r_scr hA (by omega) (by omega) 556 rfl (dd_L_law_4 39 _ _ _ rfl) ?_
    rw [hv2]
    refine r_aload_0 557 rfl (dd_L_law_4 40 _ _ _ rfl) ?_
    refine r_iload_4 559 rfl (dd_L_law_4 41 _ _ _ rfl) ?_
    refine r_iconst 560 rfl (dd_L_law_4 42 _ _ _ rfl) ?_
    refine r_iadd 561 rfl (dd_L_law_4 43 _ _ _ rfl) ?_
    refine r_scr hA (by omega) (by omega) 562 rfl (dd_L_law_4 44 _ _ _ rfl) ?_
    rw [hv3]
    refine r_callV4 (lvl := 13) (mc1 := 0) (ms1 := 0) bc2 bs2 hg rfl md_X12_tell zc_X12 y1.2.1.1.1 wi_X12_tell wv_X12_tell (tb_6 236 _ rfl) (by decide) (by decide) rfl (Nat.le_of_ble_eq_true rfl) (Nat.le_refl _) (Nat.le_refl _) 565 rfl (dd_L_law_4 45 _ _ _ rfl) ?_
    refine hmod _ (fun h2 v z hv he => ?_)
    obtain ⟨y2, q2⟩ := y1.mod hF z
    dsimp only [zCont, Option.toList, List.cons_append, List.nil_append]
    refine r_istore_6 567 rfl (by decide) rfl (dd_L_law_4 46 _ _ _ rfl) ?_
    refine r_aload_2 568 rfl (dd_L_law_4 47 _ _ _ rfl) ?_
    refine r_callV0 (lvl := 10) (mc1 := 0) (ms1 := 0) bc2 bs2 hg rfl md_X12_thrown zc_X12 y2.2.1.1.1 wi_X12_thrown wv_X12_thrown (tb_6 189 _ rfl) (by decide) (by decide) rfl (Nat.le_of_ble_eq_true rfl) (Nat.le_refl _) (Nat.le_refl _) 571 rfl (dd_L_law_4 48 _ _ _ rfl) ?_
    refine c_X12_thrown hg z ?_
    dsimp only [zCont, Option.toList, List.cons_append, List.nil_append]
    refine r_iload_5 573 rfl (dd_L_law_4 49 _ _ _ rfl) ?_
    refine r_if_icmpeq hkk hkk 576 rfl 578 rfl (dd_L_law_4 50 _ _ _ rfl) (fun _ => ?_) (fun q => absurd rfl q)
    refine r_iload_5 580 rfl (dd_L_law_4 53 _ _ _ rfl) ?_
    have fin : zX g mL_law mc ms Q 595 [some (.ref a), some (.ref x), some (.ref m), some (.ref out), some (.int (zI i)), some (.int (zI kk)), some (.int (zI v)), none] [] h2 bc2 bs2 := by
      refine r_goto 2034 rfl (dd_L_law_5 4 _ _ _ rfl) ?_
      refine r_sub [some (.ref a), some (.ref x), some (.ref m), some (.ref out), some (.int (zI i)), none, none, none] (z_s1 (z_s1 (z_s1 (z_s1 (z_s1 (z_s0 (z_s0 (z_s0 z_sN)))))))) ?_
      exact k o1 S2 h2 y2 hS2
    refine r_ifne hkk 583 rfl 595 rfl (dd_L_law_4 54 _ _ _ rfl) (fun _ => fin) (fun hk => ?_)
    refine r_aload_3 584 rfl (dd_L_law_4 55 _ _ _ rfl) ?_
    refine r_iconst 585 rfl (dd_L_law_4 56 _ _ _ rfl) ?_
    refine r_laload hg y2.2.2.2.2.2.2.1 (by decide) (by decide) (by rw [y2.2.2.2.2.2.2.2.1]; decide) 586 rfl (dd_L_law_4 57 _ _ _ rfl) ?_
    rw [show aj_ h2 out (0 : Int).toNat = v from q2.trans (he hk)]
    refine r_iload_6 588 rfl (dd_L_law_4 58 _ _ _ rfl) ?_
    refine r_i2l hv 589 rfl (dd_L_law_4 59 _ _ _ rfl) ?_
    refine r_lcmpe 590 rfl (dd_L_law_5 0 _ _ _ rfl) ?_
    exact r_ifeq (by decide) 593 rfl 595 rfl (dd_L_law_5 1 _ _ _ rfl) (fun _ => fin) (fun q => absurd rfl q)
  refine r_callSH (lvl := 19) (mc1 := 12) (ms1 := 200) (As := [.ref x, .int (zI v0), .int (zI v1), .int (zI v2), .int (zI v3), .ref out]) bc2 bs2 hg rfl mh_tell ws_L_tell (tb_3 43 _ rfl) (by decide) (by decide) rfl (Nat.le_of_ble_eq_true rfl) (by omega) (by omega) rfl 535 rfl (dd_L_law_4 22 _ _ _ rfl) ?_
  refine w_tell hg hnx y.2.2.2.2.2.2.2.2 (fun Q1 hQ => ?_)
  obtain ⟨⟨Vs, Ps, Ss, Ts, Fs, Tn, A9, G, Rc, yc⟩, yM, -⟩ := id y
  refine c_X11_tell hg hm hS.1 yc hn hw0 hw1 hw2 hw3 ?_ ?_ ?_ ?_
  · intro c0
    refine hQ _ _ (Or.inl ⟨rfl, ?_⟩)
    refine tail 1 S h o y.next (hS.next hn) (by decide) (fun Q2 hQ2 => ?_)
    have yM1 := y.next.2.1
    refine c_X12_tell hg hS.1 (MI.refl yM1) hw0 hw1 hw2 hw3 ?_ ?_ ?_ ?_
    · intro d0 h2 z
      first | exact hQ2 _ _ z (by first | decide | omega | exact (by have := hS.1.events u; have := zpos_le (ar := S.2) (b := 30 * u) (w := v3) (S.2 8 u).toNat; omega)) (fun q => absurd q (by decide)) | (exfalso; first | omega | (simp_all; done) | grind)
    · intro u9 d1 d2 d3 h2 z
      first | exact hQ2 _ _ z (by first | decide | omega | exact (by have := hS.1.events u; have := zpos_le (ar := S.2) (b := 30 * u) (w := v3) (S.2 8 u).toNat; omega)) (fun q => absurd q (by decide)) | (exfalso; first | omega | (simp_all; done) | grind)
    · intro u9 d1 d2 d3 d4 h2 z
      first | exact hQ2 _ _ z (by first | decide | omega | exact (by have := hS.1.events u; have := zpos_le (ar := S.2) (b := 30 * u) (w := v3) (S.2 8 u).toNat; omega)) (fun q => absurd q (by decide)) | (exfalso; first | omega | (simp_all; done) | grind)
    · intro u9 p9 d2 d3 d4 d5 d6 h2 z
      first | exact hQ2 _ _ z (by first | decide | omega | exact (by have := hS.1.events u; have := zpos_le (ar := S.2) (b := 30 * u) (w := v3) (S.2 8 u).toNat; omega)) (fun q => absurd q (by decide)) | (exfalso; first | omega | (simp_all; done) | grind)
  · intro u c1 c2 c3
    refine hQ _ _ (Or.inr (Or.inl ⟨rfl, ?_⟩))
    refine tail 2 S h o y.next (hS.next hn) (by decide) (fun Q2 hQ2 => ?_)
    have yM1 := y.next.2.1
    refine c_X12_tell hg hS.1 (MI.refl yM1) hw0 hw1 hw2 hw3 ?_ ?_ ?_ ?_
    · intro d0 h2 z
      first | exact hQ2 _ _ z (by first | decide | omega | exact (by have := hS.1.events u; have := zpos_le (ar := S.2) (b := 30 * u) (w := v3) (S.2 8 u).toNat; omega)) (fun q => absurd q (by decide)) | (exfalso; first | omega | (simp_all; done) | grind)
    · intro u9 d1 d2 d3 h2 z
      obtain rfl : u = u9 := by omega
      first | exact hQ2 _ _ z (by first | decide | omega | exact (by have := hS.1.events u; have := zpos_le (ar := S.2) (b := 30 * u) (w := v3) (S.2 8 u).toNat; omega)) (fun q => absurd q (by decide)) | (exfalso; first | omega | (simp_all; done) | grind)
    · intro u9 d1 d2 d3 d4 h2 z
      obtain rfl : u = u9 := by omega
      first | exact hQ2 _ _ z (by first | decide | omega | exact (by have := hS.1.events u; have := zpos_le (ar := S.2) (b := 30 * u) (w := v3) (S.2 8 u).toNat; omega)) (fun q => absurd q (by decide)) | (exfalso; first | omega | (simp_all; done) | grind)
    · intro u9 p9 d2 d3 d4 d5 d6 h2 z
      obtain rfl : u = u9 := by omega
      first | exact hQ2 _ _ z (by first | decide | omega | exact (by have := hS.1.events u; have := zpos_le (ar := S.2) (b := 30 * u) (w := v3) (S.2 8 u).toNat; omega)) (fun q => absurd q (by decide)) | (exfalso; first | omega | (simp_all; done) | grind)
  · intro u c1 c2 c3 c4
    refine hQ _ _ (Or.inr (Or.inr (Or.inl ⟨rfl, ?_⟩)))
    refine tail 3 S h o y.next (hS.next hn) (by decide) (fun Q2 hQ2 => ?_)
    have yM1 := y.next.2.1
    refine c_X12_tell hg hS.1 (MI.refl yM1) hw0 hw1 hw2 hw3 ?_ ?_ ?_ ?_
    · intro d0 h2 z
      first | exact hQ2 _ _ z (by first | decide | omega | exact (by have := hS.1.events u; have := zpos_le (ar := S.2) (b := 30 * u) (w := v3) (S.2 8 u).toNat; omega)) (fun q => absurd q (by decide)) | (exfalso; first | omega | (simp_all; done) | grind)
    · intro u9 d1 d2 d3 h2 z
      obtain rfl : u = u9 := by omega
      first | exact hQ2 _ _ z (by first | decide | omega | exact (by have := hS.1.events u; have := zpos_le (ar := S.2) (b := 30 * u) (w := v3) (S.2 8 u).toNat; omega)) (fun q => absurd q (by decide)) | (exfalso; first | omega | (simp_all; done) | grind)
    · intro u9 d1 d2 d3 d4 h2 z
      obtain rfl : u = u9 := by omega
      first | exact hQ2 _ _ z (by first | decide | omega | exact (by have := hS.1.events u; have := zpos_le (ar := S.2) (b := 30 * u) (w := v3) (S.2 8 u).toNat; omega)) (fun q => absurd q (by decide)) | (exfalso; first | omega | (simp_all; done) | grind)
    · intro u9 p9 d2 d3 d4 d5 d6 h2 z
      obtain rfl : u = u9 := by omega
      first | exact hQ2 _ _ z (by first | decide | omega | exact (by have := hS.1.events u; have := zpos_le (ar := S.2) (b := 30 * u) (w := v3) (S.2 8 u).toNat; omega)) (fun q => absurd q (by decide)) | (exfalso; first | omega | (simp_all; done) | grind)
  · intro u p c2 c3 c4 c5 c6 o1 h1 cx st
    have y1 := y.cls hF cx st
    refine hQ _ _ ⟨((S.2 8 u).toNat - (p : Int)), rfl, (by first | decide | omega | exact (by have := hS.1.events u; have := zpos_le (ar := S.2) (b := 30 * u) (w := v3) (S.2 8 u).toNat; omega)), y1.2.2.2.2.2.2.1, y1.2.2.2.2.2.2.2.1, ?_⟩
    refine tail 0 _ _ o1 (y1.put hF _).1 (ok_tell hS hn (by omega) (by omega) (by omega) (by have := hS.1.built u; omega)) (by decide) (fun Q2 hQ2 => ?_)
    have yM1 := (y1.put hF (((S.2 8 u).toNat - (p : Int)))).1.2.1
    refine c_X12_tell hg hS.1 (MI.refl yM1) hw0 hw1 hw2 hw3 ?_ ?_ ?_ ?_
    · intro d0 h2 z
      first | exact hQ2 _ _ z (by first | decide | omega | exact (by have := hS.1.events u; have := zpos_le (ar := S.2) (b := 30 * u) (w := v3) (S.2 8 u).toNat; omega)) (fun _ => (y1.put hF _).2) | (exfalso; first | omega | (simp_all; done) | grind)
    · intro u9 d1 d2 d3 h2 z
      obtain rfl : u = u9 := by omega
      first | exact hQ2 _ _ z (by first | decide | omega | exact (by have := hS.1.events u; have := zpos_le (ar := S.2) (b := 30 * u) (w := v3) (S.2 8 u).toNat; omega)) (fun _ => (y1.put hF _).2) | (exfalso; first | omega | (simp_all; done) | grind)
    · intro u9 d1 d2 d3 d4 h2 z
      obtain rfl : u = u9 := by omega
      first | exact hQ2 _ _ z (by first | decide | omega | exact (by have := hS.1.events u; have := zpos_le (ar := S.2) (b := 30 * u) (w := v3) (S.2 8 u).toNat; omega)) (fun _ => (y1.put hF _).2) | (exfalso; first | omega | (simp_all; done) | grind)
    · intro u9 p9 d2 d3 d4 d5 d6 h2 z
      obtain rfl : u = u9 := by omega
      obtain rfl : p = p9 := by omega
      first | exact hQ2 _ _ z (by first | decide | omega | exact (by have := hS.1.events u; have := zpos_le (ar := S.2) (b := 30 * u) (w := v3) (S.2 8 u).toNat; omega)) (fun _ => (y1.put hF _).2) | (exfalso; first | omega | (simp_all; done) | grind)
theorem it_allot {g : zGT} {Q : zO → zH → Prop} (hg : zG g) (hnx : zNX g) {x m : Nat} {A : Nat → Nat} {out : Nat} {F : Nat → Prop} {hB : zH} {a L : Nat} (hF : zLF m A out F hB) {sv : Nat → Int} (hA : zLA g a sv L) {o : Nat → Nat} {n : Nat} {S : zS} {h : zH} (y : zLS g x m A out F hB o n S S h) (hS : MOk n S) (hn : n < 512) {i : Int} (hi : 0 ≤ i) (hi5 : i + 5 ≤ L) {mc ms bc bs bc2 bs2 : Nat} (hb : bc2 + 20 ≤ bc) (hb2 : bs2 + 4300 ≤ bs) (k : ∀ o2 S2 h2, zLS g x m A out F hB o2 (n + 1) S2 S2 h2 → MOk (n + 1) S2 → zX g mL_law mc ms Q 2034 [some (.ref a), some (.ref x), some (.ref m), some (.ref out), some (.int (zI i)), none, none, none] [] h2 bc2 bs2) : zX g mL_law mc ms Q 865 [some (.ref a), some (.ref x), some (.ref m), some (.ref out), some (.int (zI i)), none, none, none] [] h bc bs := by
  have hL := hA.2.2.1
  have hz := hA.2.2.2
  have e1 := hS.1.today
  have e2 := hS.1.signs
  have e4 := hS.1.vehicles
  have e12 := hS.1.people
  have e18 := hS.1.allotted
  have e20 := hS.1.rates
  have e31 := hS.1.sightings
  have e36 := hS.1.fines
  refine r_aload_1 866 rfl (dd_L_law_8 5 _ _ _ rfl) ?_
  refine r_aload_0 867 rfl (dd_L_law_8 6 _ _ _ rfl) ?_
  refine r_iload_4 869 rfl (dd_L_law_8 7 _ _ _ rfl) ?_
  refine r_iconst 870 rfl (dd_L_law_8 8 _ _ _ rfl) ?_
  refine r_iadd 871 rfl (dd_L_law_8 9 _ _ _ rfl) ?_
  refine r_scr hA (by omega) (by omega) 872 rfl (dd_L_law_8 10 _ _ _ rfl) ?_
  refine r_aload_3 873 rfl (dd_L_law_8 11 _ _ _ rfl) ?_
  have hw0 : zR (sv (i + 1).toNat) := by exact hz _
  generalize hv0 : (sv (i + 1).toNat) = v0 at *
  have tail : ∀ (kk : Int) (S2 : zS) (h1 : zH) (o1 : Nat → Nat), zLS g x m A out F hB o1 (n + 1) S2 S h1 → MOk (n + 1) S2 → zR kk → (∀ Q2 : zO → zH → Prop, (∀ h2 v, MI h1 m A S2 kk h2 → zR v → (kk = 0 → aj_ h1 out 0 = v) → Q2 (.inl (some (.int (zI v)))) h2) → zC g (.code yX12_allot cX12_allot 4 (Option.some Jvm.ClassFile.FieldType.int)) yX12_allot 13 0 0 [.ref m, .int (zI v0)] h1 Q2) → zX g mL_law mc ms Q 876 [some (.ref a), some (.ref x), some (.ref m), some (.ref out), some (.int (zI i)), none, none, none] [.int (zI kk)] h1 bc2 bs2 := by
    intro kk S2 h1 o1 y1 hS2 hkk hmod
    refine r_istore_5 878 rfl (by decide) rfl (dd_L_law_8 13 _ _ _ rfl) ?_
    refine r_aload_2 879 rfl (dd_L_law_8 14 _ _ _ rfl) ?_
    refine r_aload_0 880 rfl (dd_L_law_8 15 _ _ _ rfl) ?_
    refine r_iload_4 882 rfl (dd_L_law_8 16 _ _ _ rfl) ?_
    refine r_iconst 883 rfl (dd_L_law_8 17 _ _ _ rfl) ?_
    refine r_iadd 884 rfl (dd_L_law_8 18 _ _ _ rfl) ?_
    refine r_scr hA (by omega) (by omega) 885 rfl (dd_L_law_8 19 _ _ _ rfl) ?_
    rw [hv0]
    refine r_callV1 (lvl := 13) (mc1 := 0) (ms1 := 0) bc2 bs2 hg rfl md_X12_allot zc_X12 y1.2.1.1.1 wi_X12_allot wv_X12_allot (tb_7 39 _ rfl) (by decide) (by decide) rfl (Nat.le_of_ble_eq_true rfl) (Nat.le_refl _) (Nat.le_refl _) 888 rfl (dd_L_law_8 20 _ _ _ rfl) ?_
    refine hmod _ (fun h2 v z hv he => ?_)
    obtain ⟨y2, q2⟩ := y1.mod hF z
    dsimp only [zCont, Option.toList, List.cons_append, List.nil_append]
    refine r_istore_6 890 rfl (by decide) rfl (dd_L_law_8 21 _ _ _ rfl) ?_
    refine r_aload_2 891 rfl (dd_L_law_8 22 _ _ _ rfl) ?_
    refine r_callV0 (lvl := 10) (mc1 := 0) (ms1 := 0) bc2 bs2 hg rfl md_X12_thrown zc_X12 y2.2.1.1.1 wi_X12_thrown wv_X12_thrown (tb_6 189 _ rfl) (by decide) (by decide) rfl (Nat.le_of_ble_eq_true rfl) (Nat.le_refl _) (Nat.le_refl _) 894 rfl (dd_L_law_8 23 _ _ _ rfl) ?_
    refine c_X12_thrown hg z ?_
    dsimp only [zCont, Option.toList, List.cons_append, List.nil_append]
    refine r_iload_5 896 rfl (dd_L_law_8 24 _ _ _ rfl) ?_
    refine r_if_icmpeq hkk hkk 899 rfl 901 rfl (dd_L_law_8 25 _ _ _ rfl) (fun _ => ?_) (fun q => absurd rfl q)
    refine r_iload_5 903 rfl (dd_L_law_8 28 _ _ _ rfl) ?_
    have fin : zX g mL_law mc ms Q 918 [some (.ref a), some (.ref x), some (.ref m), some (.ref out), some (.int (zI i)), some (.int (zI kk)), some (.int (zI v)), none] [] h2 bc2 bs2 := by
      refine r_goto 2034 rfl (dd_L_law_8 39 _ _ _ rfl) ?_
      refine r_sub [some (.ref a), some (.ref x), some (.ref m), some (.ref out), some (.int (zI i)), none, none, none] (z_s1 (z_s1 (z_s1 (z_s1 (z_s1 (z_s0 (z_s0 (z_s0 z_sN)))))))) ?_
      exact k o1 S2 h2 y2 hS2
    refine r_ifne hkk 906 rfl 918 rfl (dd_L_law_8 29 _ _ _ rfl) (fun _ => fin) (fun hk => ?_)
    refine r_aload_3 907 rfl (dd_L_law_8 30 _ _ _ rfl) ?_
    refine r_iconst 908 rfl (dd_L_law_8 31 _ _ _ rfl) ?_
    refine r_laload hg y2.2.2.2.2.2.2.1 (by decide) (by decide) (by rw [y2.2.2.2.2.2.2.2.1]; decide) 909 rfl (dd_L_law_8 32 _ _ _ rfl) ?_
    rw [show aj_ h2 out (0 : Int).toNat = v from q2.trans (he hk)]
    refine r_iload_6 911 rfl (dd_L_law_8 33 _ _ _ rfl) ?_
    refine r_i2l hv 912 rfl (dd_L_law_8 34 _ _ _ rfl) ?_
    refine r_lcmpe 913 rfl (dd_L_law_8 35 _ _ _ rfl) ?_
    exact r_ifeq (by decide) 916 rfl 918 rfl (dd_L_law_8 36 _ _ _ rfl) (fun _ => fin) (fun q => absurd rfl q)
  refine r_callSH (lvl := 16) (mc1 := 8) (ms1 := 4300) (As := [.ref x, .int (zI v0), .ref out]) bc2 bs2 hg rfl mh_allot ws_L_allot (tb_4 176 _ rfl) (by decide) (by decide) rfl (Nat.le_of_ble_eq_true rfl) (by omega) (by omega) rfl 876 rfl (dd_L_law_8 12 _ _ _ rfl) ?_
  refine w_allot hg hnx y.2.2.2.2.2.2.2.2 (fun Q1 hQ => ?_)
  obtain ⟨⟨Vs, Ps, Ss, Ts, Fs, Tn, A9, G, Rc, yc⟩, yM, -⟩ := id y
  refine c_X11_allot hg hS.1 yc hn hw0 ?_ ?_ ?_
  · intro c0
    refine hQ _ _ (Or.inl ⟨rfl, ?_⟩)
    refine tail 1 S h o y.next (hS.next hn) (by decide) (fun Q2 hQ2 => ?_)
    have yM1 := y.next.2.1
    refine c_X12_allot hg hS.1 (MI.refl yM1) hw0 ?_ ?_ ?_
    · intro d0 h2 z
      first | exact hQ2 _ _ z (by first | decide | omega | exact (by have := znext_range hS.1; omega)) (fun q => absurd q (by decide)) | (exfalso; first | omega | (simp_all; done) | grind)
    · intro u9 d1 d2 d3 h2 z
      first | exact hQ2 _ _ z (by first | decide | omega | exact (by have := znext_range hS.1; omega)) (fun q => absurd q (by decide)) | (exfalso; first | omega | (simp_all; done) | grind)
    · intro u9 d1 d2 d3 d4 h2 z
      first | exact hQ2 _ _ z (by first | decide | omega | exact (by have := znext_range hS.1; omega)) (fun q => absurd q (by decide)) | (exfalso; first | omega | (simp_all; done) | grind)
  · intro u c1 c2 c3
    refine hQ _ _ (Or.inr (Or.inl ⟨rfl, ?_⟩))
    refine tail 2 S h o y.next (hS.next hn) (by decide) (fun Q2 hQ2 => ?_)
    have yM1 := y.next.2.1
    refine c_X12_allot hg hS.1 (MI.refl yM1) hw0 ?_ ?_ ?_
    · intro d0 h2 z
      first | exact hQ2 _ _ z (by first | decide | omega | exact (by have := znext_range hS.1; omega)) (fun q => absurd q (by decide)) | (exfalso; first | omega | (simp_all; done) | grind)
    · intro u9 d1 d2 d3 h2 z
      obtain rfl : u = u9 := by omega
      first | exact hQ2 _ _ z (by first | decide | omega | exact (by have := znext_range hS.1; omega)) (fun q => absurd q (by decide)) | (exfalso; first | omega | (simp_all; done) | grind)
    · intro u9 d1 d2 d3 d4 h2 z
      obtain rfl : u = u9 := by omega
      first | exact hQ2 _ _ z (by first | decide | omega | exact (by have := znext_range hS.1; omega)) (fun q => absurd q (by decide)) | (exfalso; first | omega | (simp_all; done) | grind)
  · intro u c1 c2 c3 c4 o1 h1 cx st
    have y1 := y.cls hF cx st
    refine hQ _ _ ⟨(znext S), rfl, (by first | decide | omega | exact (by have := znext_range hS.1; omega)), y1.2.2.2.2.2.2.1, y1.2.2.2.2.2.2.2.1, ?_⟩
    refine tail 0 _ _ o1 (y1.put hF _).1 (ok_allot hS hn (by omega) (by assumption)) (by decide) (fun Q2 hQ2 => ?_)
    have yM1 := (y1.put hF ((znext S))).1.2.1
    refine c_X12_allot hg hS.1 (MI.refl yM1) hw0 ?_ ?_ ?_
    · intro d0 h2 z
      first | exact hQ2 _ _ z (by first | decide | omega | exact (by have := znext_range hS.1; omega)) (fun _ => (y1.put hF _).2) | (exfalso; first | omega | (simp_all; done) | grind)
    · intro u9 d1 d2 d3 h2 z
      obtain rfl : u = u9 := by omega
      first | exact hQ2 _ _ z (by first | decide | omega | exact (by have := znext_range hS.1; omega)) (fun _ => (y1.put hF _).2) | (exfalso; first | omega | (simp_all; done) | grind)
    · intro u9 d1 d2 d3 d4 h2 z
      obtain rfl : u = u9 := by omega
      first | exact hQ2 _ _ z (by first | decide | omega | exact (by have := znext_range hS.1; omega)) (fun _ => (y1.put hF _).2) | (exfalso; first | omega | (simp_all; done) | grind)
theorem it_wish {g : zGT} {Q : zO → zH → Prop} (hg : zG g) (hnx : zNX g) {x m : Nat} {A : Nat → Nat} {out : Nat} {F : Nat → Prop} {hB : zH} {a L : Nat} (hF : zLF m A out F hB) {sv : Nat → Int} (hA : zLA g a sv L) {o : Nat → Nat} {n : Nat} {S : zS} {h : zH} (y : zLS g x m A out F hB o n S S h) (hS : MOk n S) (hn : n < 512) {i : Int} (hi : 0 ≤ i) (hi5 : i + 5 ≤ L) {mc ms bc bs bc2 bs2 : Nat} (hb : bc2 + 20 ≤ bc) (hb2 : bs2 + 4300 ≤ bs) (k : ∀ o2 S2 h2, zLS g x m A out F hB o2 (n + 1) S2 S2 h2 → MOk (n + 1) S2 → zX g mL_law mc ms Q 2034 [some (.ref a), some (.ref x), some (.ref m), some (.ref out), some (.int (zI i)), none, none, none] [] h2 bc2 bs2) : zX g mL_law mc ms Q 921 [some (.ref a), some (.ref x), some (.ref m), some (.ref out), some (.int (zI i)), none, none, none] [] h bc bs := by
  have hL := hA.2.2.1
  have hz := hA.2.2.2
  have e1 := hS.1.today
  have e2 := hS.1.signs
  have e4 := hS.1.vehicles
  have e12 := hS.1.people
  have e18 := hS.1.allotted
  have e20 := hS.1.rates
  have e31 := hS.1.sightings
  have e36 := hS.1.fines
  refine r_aload_1 922 rfl (dd_L_law_8 40 _ _ _ rfl) ?_
  refine r_aload_0 923 rfl (dd_L_law_8 41 _ _ _ rfl) ?_
  refine r_iload_4 925 rfl (dd_L_law_8 42 _ _ _ rfl) ?_
  refine r_iconst 926 rfl (dd_L_law_8 43 _ _ _ rfl) ?_
  refine r_iadd 927 rfl (dd_L_law_8 44 _ _ _ rfl) ?_
  refine r_scr hA (by omega) (by omega) 928 rfl (dd_L_law_8 45 _ _ _ rfl) ?_
  refine r_aload_3 929 rfl (dd_L_law_8 46 _ _ _ rfl) ?_
  have hw0 : zR (sv (i + 1).toNat) := by exact hz _
  generalize hv0 : (sv (i + 1).toNat) = v0 at *
  have tail : ∀ (kk : Int) (S2 : zS) (h1 : zH) (o1 : Nat → Nat), zLS g x m A out F hB o1 (n + 1) S2 S h1 → MOk (n + 1) S2 → zR kk → (∀ Q2 : zO → zH → Prop, (∀ h2 v, MI h1 m A S2 kk h2 → zR v → (kk = 0 → aj_ h1 out 0 = v) → Q2 (.inl (some (.int (zI v)))) h2) → zC g (.code yX12_wish cX12_wish 4 (Option.some Jvm.ClassFile.FieldType.int)) yX12_wish 13 0 0 [.ref m, .int (zI v0)] h1 Q2) → zX g mL_law mc ms Q 932 [some (.ref a), some (.ref x), some (.ref m), some (.ref out), some (.int (zI i)), none, none, none] [.int (zI kk)] h1 bc2 bs2 := by
    intro kk S2 h1 o1 y1 hS2 hkk hmod
    refine r_istore_5 934 rfl (by decide) rfl (dd_L_law_8 48 _ _ _ rfl) ?_
    refine r_aload_2 935 rfl (dd_L_law_8 49 _ _ _ rfl) ?_
    refine r_aload_0 936 rfl (dd_L_law_8 50 _ _ _ rfl) ?_
    refine r_iload_4 938 rfl (dd_L_law_8 51 _ _ _ rfl) ?_
    refine r_iconst 939 rfl (dd_L_law_8 52 _ _ _ rfl) ?_
    refine r_iadd 940 rfl (dd_L_law_8 53 _ _ _ rfl) ?_
    refine r_scr hA (by omega) (by omega) 941 rfl (dd_L_law_8 54 _ _ _ rfl) ?_
    rw [hv0]
    refine r_callV1 (lvl := 13) (mc1 := 0) (ms1 := 0) bc2 bs2 hg rfl md_X12_wish zc_X12 y1.2.1.1.1 wi_X12_wish wv_X12_wish (tb_7 51 _ rfl) (by decide) (by decide) rfl (Nat.le_of_ble_eq_true rfl) (Nat.le_refl _) (Nat.le_refl _) 944 rfl (dd_L_law_8 55 _ _ _ rfl) ?_
    refine hmod _ (fun h2 v z hv he => ?_)
    obtain ⟨y2, q2⟩ := y1.mod hF z
    dsimp only [zCont, Option.toList, List.cons_append, List.nil_append]
    refine r_istore_6 946 rfl (by decide) rfl (dd_L_law_8 56 _ _ _ rfl) ?_
    refine r_aload_2 947 rfl (dd_L_law_8 57 _ _ _ rfl) ?_
    refine r_callV0 (lvl := 10) (mc1 := 0) (ms1 := 0) bc2 bs2 hg rfl md_X12_thrown zc_X12 y2.2.1.1.1 wi_X12_thrown wv_X12_thrown (tb_6 189 _ rfl) (by decide) (by decide) rfl (Nat.le_of_ble_eq_true rfl) (Nat.le_refl _) (Nat.le_refl _) 950 rfl (dd_L_law_8 58 _ _ _ rfl) ?_
    refine c_X12_thrown hg z ?_
    dsimp only [zCont, Option.toList, List.cons_append, List.nil_append]
    refine r_iload_5 952 rfl (dd_L_law_8 59 _ _ _ rfl) ?_
    refine r_if_icmpeq hkk hkk 955 rfl 957 rfl (dd_L_law_9 0 _ _ _ rfl) (fun _ => ?_) (fun q => absurd rfl q)
    refine r_iload_5 959 rfl (dd_L_law_9 3 _ _ _ rfl) ?_
    have fin : zX g mL_law mc ms Q 974 [some (.ref a), some (.ref x), some (.ref m), some (.ref out), some (.int (zI i)), some (.int (zI kk)), some (.int (zI v)), none] [] h2 bc2 bs2 := by
      refine r_goto 2034 rfl (dd_L_law_9 14 _ _ _ rfl) ?_
      refine r_sub [some (.ref a), some (.ref x), some (.ref m), some (.ref out), some (.int (zI i)), none, none, none] (z_s1 (z_s1 (z_s1 (z_s1 (z_s1 (z_s0 (z_s0 (z_s0 z_sN)))))))) ?_
      exact k o1 S2 h2 y2 hS2
    refine r_ifne hkk 962 rfl 974 rfl (dd_L_law_9 4 _ _ _ rfl) (fun _ => fin) (fun hk => ?_)
    refine r_aload_3 963 rfl (dd_L_law_9 5 _ _ _ rfl) ?_
    refine r_iconst 964 rfl (dd_L_law_9 6 _ _ _ rfl) ?_
    refine r_laload hg y2.2.2.2.2.2.2.1 (by decide) (by decide) (by rw [y2.2.2.2.2.2.2.2.1]; decide) 965 rfl (dd_L_law_9 7 _ _ _ rfl) ?_
    rw [show aj_ h2 out (0 : Int).toNat = v from q2.trans (he hk)]
    refine r_iload_6 967 rfl (dd_L_law_9 8 _ _ _ rfl) ?_
    refine r_i2l hv 968 rfl (dd_L_law_9 9 _ _ _ rfl) ?_
    refine r_lcmpe 969 rfl (dd_L_law_9 10 _ _ _ rfl) ?_
    exact r_ifeq (by decide) 972 rfl 974 rfl (dd_L_law_9 11 _ _ _ rfl) (fun _ => fin) (fun q => absurd rfl q)
  refine r_callSH (lvl := 16) (mc1 := 8) (ms1 := 4300) (As := [.ref x, .int (zI v0), .ref out]) bc2 bs2 hg rfl mh_wish ws_L_wish (tb_4 224 _ rfl) (by decide) (by decide) rfl (Nat.le_of_ble_eq_true rfl) (by omega) (by omega) rfl 932 rfl (dd_L_law_8 47 _ _ _ rfl) ?_
  refine w_wish hg hnx y.2.2.2.2.2.2.2.2 (fun Q1 hQ => ?_)
  obtain ⟨⟨Vs, Ps, Ss, Ts, Fs, Tn, A9, G, Rc, yc⟩, yM, -⟩ := id y
  refine c_X11_wish hg hS.1 yc hn hw0 ?_ ?_ ?_
  · intro c0
    refine hQ _ _ (Or.inl ⟨rfl, ?_⟩)
    refine tail 1 S h o y.next (hS.next hn) (by decide) (fun Q2 hQ2 => ?_)
    have yM1 := y.next.2.1
    refine c_X12_wish hg hS.1 (MI.refl yM1) hw0 ?_ ?_ ?_
    · intro d0 h2 z
      first | exact hQ2 _ _ z (by first | decide | omega | exact zplateV_R (by assumption)) (fun q => absurd q (by decide)) | (exfalso; first | omega | (simp_all; done) | grind)
    · intro u9 d1 d2 d3 h2 z
      first | exact hQ2 _ _ z (by first | decide | omega | exact zplateV_R (by assumption)) (fun q => absurd q (by decide)) | (exfalso; first | omega | (simp_all; done) | grind)
    · intro u9 d1 d2 d3 d4 d5 h2 z
      first | exact hQ2 _ _ z (by first | decide | omega | exact zplateV_R (by assumption)) (fun q => absurd q (by decide)) | (exfalso; first | omega | (simp_all; done) | grind)
  · intro u c1 c2 c3
    refine hQ _ _ (Or.inr (Or.inl ⟨rfl, ?_⟩))
    refine tail 2 S h o y.next (hS.next hn) (by decide) (fun Q2 hQ2 => ?_)
    have yM1 := y.next.2.1
    refine c_X12_wish hg hS.1 (MI.refl yM1) hw0 ?_ ?_ ?_
    · intro d0 h2 z
      first | exact hQ2 _ _ z (by first | decide | omega | exact zplateV_R (by assumption)) (fun q => absurd q (by decide)) | (exfalso; first | omega | (simp_all; done) | grind)
    · intro u9 d1 d2 d3 h2 z
      obtain rfl : u = u9 := by omega
      first | exact hQ2 _ _ z (by first | decide | omega | exact zplateV_R (by assumption)) (fun q => absurd q (by decide)) | (exfalso; first | omega | (simp_all; done) | grind)
    · intro u9 d1 d2 d3 d4 d5 h2 z
      obtain rfl : u = u9 := by omega
      first | exact hQ2 _ _ z (by first | decide | omega | exact zplateV_R (by assumption)) (fun q => absurd q (by decide)) | (exfalso; first | omega | (simp_all; done) | grind)
  · intro u c1 c2 c3 c4 c5 o1 h1 cx st
    have y1 := y.cls hF cx st
    refine hQ _ _ ⟨(zplateV S), rfl, (by first | decide | omega | exact zplateV_R (by assumption)), y1.2.2.2.2.2.2.1, y1.2.2.2.2.2.2.2.1, ?_⟩
    refine tail 0 _ _ o1 (y1.put hF _).1 (ok_wish hS hn (by omega) (by assumption)) (by decide) (fun Q2 hQ2 => ?_)
    have yM1 := (y1.put hF ((zplateV S))).1.2.1
    refine c_X12_wish hg hS.1 (MI.refl yM1) hw0 ?_ ?_ ?_
    · intro d0 h2 z
      first | exact hQ2 _ _ z (by first | decide | omega | exact zplateV_R (by assumption)) (fun _ => (y1.put hF _).2) | (exfalso; first | omega | (simp_all; done) | grind)
    · intro u9 d1 d2 d3 h2 z
      obtain rfl : u = u9 := by omega
      first | exact hQ2 _ _ z (by first | decide | omega | exact zplateV_R (by assumption)) (fun _ => (y1.put hF _).2) | (exfalso; first | omega | (simp_all; done) | grind)
    · intro u9 d1 d2 d3 d4 d5 h2 z
      obtain rfl : u = u9 := by omega
      first | exact hQ2 _ _ z (by first | decide | omega | exact zplateV_R (by assumption)) (fun _ => (y1.put hF _).2) | (exfalso; first | omega | (simp_all; done) | grind)
theorem it_plate {g : zGT} {Q : zO → zH → Prop} (hg : zG g) (hnx : zNX g) {x m : Nat} {A : Nat → Nat} {out : Nat} {F : Nat → Prop} {hB : zH} {a L : Nat} (hF : zLF m A out F hB) {sv : Nat → Int} (hA : zLA g a sv L) {o : Nat → Nat} {n : Nat} {S : zS} {h : zH} (y : zLS g x m A out F hB o n S S h) (hS : MOk n S) (hn : n < 512) {i : Int} (hi : 0 ≤ i) (hi5 : i + 5 ≤ L) {mc ms bc bs bc2 bs2 : Nat} (hb : bc2 + 20 ≤ bc) (hb2 : bs2 + 4300 ≤ bs) (k : ∀ o2 S2 h2, zLS g x m A out F hB o2 (n + 1) S2 S2 h2 → MOk (n + 1) S2 → zX g mL_law mc ms Q 2034 [some (.ref a), some (.ref x), some (.ref m), some (.ref out), some (.int (zI i)), none, none, none] [] h2 bc2 bs2) : zX g mL_law mc ms Q 977 [some (.ref a), some (.ref x), some (.ref m), some (.ref out), some (.int (zI i)), none, none, none] [] h bc bs := by
  have hL := hA.2.2.1
  have hz := hA.2.2.2
  have e1 := hS.1.today
  have e2 := hS.1.signs
  have e4 := hS.1.vehicles
  have e12 := hS.1.people
  have e18 := hS.1.allotted
  have e20 := hS.1.rates
  have e31 := hS.1.sightings
  have e36 := hS.1.fines
  refine r_aload_1 978 rfl (dd_L_law_9 15 _ _ _ rfl) ?_
  refine r_aload_0 979 rfl (dd_L_law_9 16 _ _ _ rfl) ?_
  refine r_iload_4 981 rfl (dd_L_law_9 17 _ _ _ rfl) ?_
  refine r_iconst 982 rfl (dd_L_law_9 18 _ _ _ rfl) ?_
  refine r_iadd 983 rfl (dd_L_law_9 19 _ _ _ rfl) ?_
  refine r_scr hA (by omega) (by omega) 984 rfl (dd_L_law_9 20 _ _ _ rfl) ?_
  refine r_aload_0 985 rfl (dd_L_law_9 21 _ _ _ rfl) ?_
  refine r_iload_4 987 rfl (dd_L_law_9 22 _ _ _ rfl) ?_
  refine r_iconst 988 rfl (dd_L_law_9 23 _ _ _ rfl) ?_
  refine r_iadd 989 rfl (dd_L_law_9 24 _ _ _ rfl) ?_
  refine r_scr hA (by omega) (by omega) 990 rfl (dd_L_law_9 25 _ _ _ rfl) ?_
  refine r_aload_0 991 rfl (dd_L_law_9 26 _ _ _ rfl) ?_
  refine r_iload_4 993 rfl (dd_L_law_9 27 _ _ _ rfl) ?_
  refine r_iconst 994 rfl (dd_L_law_9 28 _ _ _ rfl) ?_
  refine r_iadd 995 rfl (dd_L_law_9 29 _ _ _ rfl) ?_
  refine r_scr hA (by omega) (by omega) 996 rfl (dd_L_law_9 30 _ _ _ rfl) ?_
  refine r_aload_3 997 rfl (dd_L_law_9 31 _ _ _ rfl) ?_
  have hw0 : zR (sv (i + 1).toNat) := by exact hz _
  have hw1 : zR (sv (i + 2).toNat) := by exact hz _
  have hw2 : zR (sv (i + 3).toNat) := by exact hz _
  generalize hv0 : (sv (i + 1).toNat) = v0 at *
  generalize hv1 : (sv (i + 2).toNat) = v1 at *
  generalize hv2 : (sv (i + 3).toNat) = v2 at *
  have tail : ∀ (kk : Int) (S2 : zS) (h1 : zH) (o1 : Nat → Nat), zLS g x m A out F hB o1 (n + 1) S2 S h1 → MOk (n + 1) S2 → zR kk → (∀ Q2 : zO → zH → Prop, (∀ h2 v, MI h1 m A S2 kk h2 → zR v → (kk = 0 → aj_ h1 out 0 = v) → Q2 (.inl (some (.int (zI v)))) h2) → zC g (.code yX12_plate cX12_plate 6 (Option.some Jvm.ClassFile.FieldType.char)) yX12_plate 12 0 0 [.ref m, .int (zI v0), .int (zI v1), .int (zI v2)] h1 Q2) → zX g mL_law mc ms Q 1000 [some (.ref a), some (.ref x), some (.ref m), some (.ref out), some (.int (zI i)), none, none, none] [.int (zI kk)] h1 bc2 bs2 := by
    intro kk S2 h1 o1 y1 hS2 hkk hmod
    refine r_istore_5 1002 rfl (by decide) rfl (dd_L_law_9 33 _ _ _ rfl) ?_
    refine r_aload_2 1003 rfl (dd_L_law_9 34 _ _ _ rfl) ?_
    refine r_aload_0 1004 rfl (dd_L_law_9 35 _ _ _ rfl) ?_
    refine r_iload_4 1006 rfl (dd_L_law_9 36 _ _ _ rfl) ?_
    refine r_iconst 1007 rfl (dd_L_law_9 37 _ _ _ rfl) ?_
    refine r_iadd 1008 rfl (dd_L_law_9 38 _ _ _ rfl) ?_
    refine r_scr hA (by omega) (by omega) 1009 rfl (dd_L_law_9 39 _ _ _ rfl) ?_
    rw [hv0]
    refine r_aload_0 1010 rfl (dd_L_law_9 40 _ _ _ rfl) ?_
    refine r_iload_4 1012 rfl (dd_L_law_9 41 _ _ _ rfl) ?_
    refine r_iconst 1013 rfl (dd_L_law_9 42 _ _ _ rfl) ?_
    refine r_iadd 1014 rfl (dd_L_law_9 43 _ _ _ rfl) ?_
    refine r_scr hA (by omega) (by omega) 1015 rfl (dd_L_law_9 44 _ _ _ rfl) ?_
    rw [hv1]
    refine r_aload_0 1016 rfl (dd_L_law_9 45 _ _ _ rfl) ?_
    refine r_iload_4 1018 rfl (dd_L_law_9 46 _ _ _ rfl) ?_
    refine r_iconst 1019 rfl (dd_L_law_9 47 _ _ _ rfl) ?_
    refine r_iadd 1020 rfl (dd_L_law_9 48 _ _ _ rfl) ?_
    refine r_scr hA (by omega) (by omega) 1021 rfl (dd_L_law_9 49 _ _ _ rfl) ?_
    rw [hv2]
    refine r_callV3 (lvl := 12) (mc1 := 0) (ms1 := 0) bc2 bs2 hg rfl md_X12_plate zc_X12 y1.2.1.1.1 wi_X12_plate wv_X12_plate (tb_7 59 _ rfl) (by decide) (by decide) rfl (Nat.le_of_ble_eq_true rfl) (Nat.le_refl _) (Nat.le_refl _) 1024 rfl (dd_L_law_9 50 _ _ _ rfl) ?_
    refine hmod _ (fun h2 v z hv he => ?_)
    obtain ⟨y2, q2⟩ := y1.mod hF z
    dsimp only [zCont, Option.toList, List.cons_append, List.nil_append]
    refine r_istore_6 1026 rfl (by decide) rfl (dd_L_law_9 51 _ _ _ rfl) ?_
    refine r_aload_2 1027 rfl (dd_L_law_9 52 _ _ _ rfl) ?_
    refine r_callV0 (lvl := 10) (mc1 := 0) (ms1 := 0) bc2 bs2 hg rfl md_X12_thrown zc_X12 y2.2.1.1.1 wi_X12_thrown wv_X12_thrown (tb_6 189 _ rfl) (by decide) (by decide) rfl (Nat.le_of_ble_eq_true rfl) (Nat.le_refl _) (Nat.le_refl _) 1030 rfl (dd_L_law_9 53 _ _ _ rfl) ?_
    refine c_X12_thrown hg z ?_
    dsimp only [zCont, Option.toList, List.cons_append, List.nil_append]
    refine r_iload_5 1032 rfl (dd_L_law_9 54 _ _ _ rfl) ?_
    refine r_if_icmpeq hkk hkk 1035 rfl 1037 rfl (dd_L_law_9 55 _ _ _ rfl) (fun _ => ?_) (fun q => absurd rfl q)
    refine r_iload_5 1039 rfl (dd_L_law_9 58 _ _ _ rfl) ?_
    have fin : zX g mL_law mc ms Q 1054 [some (.ref a), some (.ref x), some (.ref m), some (.ref out), some (.int (zI i)), some (.int (zI kk)), some (.int (zI v)), none] [] h2 bc2 bs2 := by
      refine r_goto 2034 rfl (dd_L_law_10 9 _ _ _ rfl) ?_
      refine r_sub [some (.ref a), some (.ref x), some (.ref m), some (.ref out), some (.int (zI i)), none, none, none] (z_s1 (z_s1 (z_s1 (z_s1 (z_s1 (z_s0 (z_s0 (z_s0 z_sN)))))))) ?_
      exact k o1 S2 h2 y2 hS2
    refine r_ifne hkk 1042 rfl 1054 rfl (dd_L_law_9 59 _ _ _ rfl) (fun _ => fin) (fun hk => ?_)
    refine r_aload_3 1043 rfl (dd_L_law_10 0 _ _ _ rfl) ?_
    refine r_iconst 1044 rfl (dd_L_law_10 1 _ _ _ rfl) ?_
    refine r_laload hg y2.2.2.2.2.2.2.1 (by decide) (by decide) (by rw [y2.2.2.2.2.2.2.2.1]; decide) 1045 rfl (dd_L_law_10 2 _ _ _ rfl) ?_
    rw [show aj_ h2 out (0 : Int).toNat = v from q2.trans (he hk)]
    refine r_iload_6 1047 rfl (dd_L_law_10 3 _ _ _ rfl) ?_
    refine r_i2l hv 1048 rfl (dd_L_law_10 4 _ _ _ rfl) ?_
    refine r_lcmpe 1049 rfl (dd_L_law_10 5 _ _ _ rfl) ?_
    exact r_ifeq (by decide) 1052 rfl 1054 rfl (dd_L_law_10 6 _ _ _ rfl) (fun _ => fin) (fun q => absurd rfl q)
  refine r_callSH (lvl := 16) (mc1 := 4) (ms1 := 40) (As := [.ref x, .int (zI v0), .int (zI v1), .int (zI v2), .ref out]) bc2 bs2 hg rfl mh_plate ws_L_plate (tb_5 6 _ rfl) (by decide) (by decide) rfl (Nat.le_of_ble_eq_true rfl) (by omega) (by omega) rfl 1000 rfl (dd_L_law_9 32 _ _ _ rfl) ?_
  refine w_plate hg hnx y.2.2.2.2.2.2.2.2 (fun Q1 hQ => ?_)
  obtain ⟨⟨Vs, Ps, Ss, Ts, Fs, Tn, A9, G, Rc, yc⟩, yM, -⟩ := id y
  refine c_X11_plate hg hS.1 yc hw0 hw1 hw2 ?_ ?_ ?_
  · intro c0
    refine hQ _ _ (Or.inl ⟨rfl, ?_⟩)
    refine tail 1 S h o y.next (hS.next hn) (by decide) (fun Q2 hQ2 => ?_)
    have yM1 := y.next.2.1
    refine c_X12_plate hg hS.1 (MI.refl yM1) hw0 hw1 hw2 ?_ ?_ ?_
    · intro d0 h2 z
      first | exact hQ2 _ _ z (by first | decide | omega | exact zsign0_R hS.1) (fun q => absurd q (by decide)) | (exfalso; first | omega | (simp_all; done) | grind)
    · intro d0 d1 h2 z
      first | exact hQ2 _ _ z (by first | decide | omega | exact zsign0_R hS.1) (fun q => absurd q (by decide)) | (exfalso; first | omega | (simp_all; done) | grind)
    · intro d0 d1 h2 z
      first | exact hQ2 _ _ z (by first | decide | omega | exact zsign0_R hS.1) (fun q => absurd q (by decide)) | (exfalso; first | omega | (simp_all; done) | grind)
  · intro u c1 c2 c3 c4
    refine hQ _ _ (Or.inr (Or.inl ⟨rfl, ?_⟩))
    refine tail 2 S h o y.next (hS.next hn) (by decide) (fun Q2 hQ2 => ?_)
    have yM1 := y.next.2.1
    refine c_X12_plate hg hS.1 (MI.refl yM1) hw0 hw1 hw2 ?_ ?_ ?_
    · intro d0 h2 z
      first | exact hQ2 _ _ z (by first | decide | omega | exact zsign0_R hS.1) (fun q => absurd q (by decide)) | (exfalso; first | omega | (simp_all; done) | grind)
    · intro d0 d1 h2 z
      first | exact hQ2 _ _ z (by first | decide | omega | exact zsign0_R hS.1) (fun q => absurd q (by decide)) | (exfalso; first | omega | (simp_all; done) | grind)
    · intro d0 d1 h2 z
      first | exact hQ2 _ _ z (by first | decide | omega | exact zsign0_R hS.1) (fun q => absurd q (by decide)) | (exfalso; first | omega | (simp_all; done) | grind)
  · intro u c1 c2 c3 c4
    have y1 := y.next
    subst c1
    refine hQ _ _ ⟨(if zplate S u v1 = -1 then 0 else zsign (zplate S u v1) v2), rfl, (by first | decide | omega | exact zsign0_R hS.1), y1.2.2.2.2.2.2.1, y1.2.2.2.2.2.2.2.1, ?_⟩
    refine tail 0 _ _ o (y1.put hF _).1 (hS.next hn) (by decide) (fun Q2 hQ2 => ?_)
    have yM1 := (y1.put hF ((if zplate S u v1 = -1 then 0 else zsign (zplate S u v1) v2))).1.2.1
    refine c_X12_plate hg hS.1 (MI.refl yM1) hw0 hw1 hw2 ?_ ?_ ?_
    · intro d0 h2 z
      first | exact hQ2 _ _ z (by first | decide | omega | exact zsign0_R hS.1) (fun _ => (y1.put hF _).2) | (exfalso; first | omega | (simp_all; done) | grind)
    · intro d0 d1 h2 z
      first | exact hQ2 _ _ z (by first | decide | omega | exact zsign0_R hS.1) (fun _ => (y1.put hF _).2) | (exfalso; first | omega | (simp_all; done) | grind)
    · intro d0 d1 h2 z
      first | exact hQ2 _ _ z (by first | decide | omega | exact zsign0_R hS.1) (fun _ => (y1.put hF _).2) | (exfalso; first | omega | (simp_all; done) | grind)
theorem it_pay {g : zGT} {Q : zO → zH → Prop} (hg : zG g) (hnx : zNX g) {x m : Nat} {A : Nat → Nat} {out : Nat} {F : Nat → Prop} {hB : zH} {a L : Nat} (hF : zLF m A out F hB) {sv : Nat → Int} (hA : zLA g a sv L) {o : Nat → Nat} {n : Nat} {S : zS} {h : zH} (y : zLS g x m A out F hB o n S S h) (hS : MOk n S) (hn : n < 512) {i : Int} (hi : 0 ≤ i) (hi5 : i + 5 ≤ L) {mc ms bc bs bc2 bs2 : Nat} (hb : bc2 + 20 ≤ bc) (hb2 : bs2 + 4300 ≤ bs) (k : ∀ o2 S2 h2, zLS g x m A out F hB o2 (n + 1) S2 S2 h2 → MOk (n + 1) S2 → zX g mL_law mc ms Q 2034 [some (.ref a), some (.ref x), some (.ref m), some (.ref out), some (.int (zI i)), none, none, none] [] h2 bc2 bs2) : zX g mL_law mc ms Q 1137 [some (.ref a), some (.ref x), some (.ref m), some (.ref out), some (.int (zI i)), none, none, none] [] h bc bs := by
  have hL := hA.2.2.1
  have hz := hA.2.2.2
  have e1 := hS.1.today
  have e2 := hS.1.signs
  have e4 := hS.1.vehicles
  have e12 := hS.1.people
  have e18 := hS.1.allotted
  have e20 := hS.1.rates
  have e31 := hS.1.sightings
  have e36 := hS.1.fines
  refine r_aload_1 1138 rfl (dd_L_law_11 5 _ _ _ rfl) ?_
  refine r_aload_0 1139 rfl (dd_L_law_11 6 _ _ _ rfl) ?_
  refine r_iload_4 1141 rfl (dd_L_law_11 7 _ _ _ rfl) ?_
  refine r_iconst 1142 rfl (dd_L_law_11 8 _ _ _ rfl) ?_
  refine r_iadd 1143 rfl (dd_L_law_11 9 _ _ _ rfl) ?_
  refine r_scr hA (by omega) (by omega) 1144 rfl (dd_L_law_11 10 _ _ _ rfl) ?_
  refine r_aload_0 1145 rfl (dd_L_law_11 11 _ _ _ rfl) ?_
  refine r_iload_4 1147 rfl (dd_L_law_11 12 _ _ _ rfl) ?_
  refine r_iconst 1148 rfl (dd_L_law_11 13 _ _ _ rfl) ?_
  refine r_iadd 1149 rfl (dd_L_law_11 14 _ _ _ rfl) ?_
  refine r_scr hA (by omega) (by omega) 1150 rfl (dd_L_law_11 15 _ _ _ rfl) ?_
  refine r_aload_3 1151 rfl (dd_L_law_11 16 _ _ _ rfl) ?_
  have hw0 : zR (sv (i + 1).toNat) := by exact hz _
  have hw1 : zR (sv (i + 2).toNat) := by exact hz _
  generalize hv0 : (sv (i + 1).toNat) = v0 at *
  generalize hv1 : (sv (i + 2).toNat) = v1 at *
  have tail : ∀ (kk : Int) (S2 : zS) (h1 : zH) (o1 : Nat → Nat), zLS g x m A out F hB o1 (n + 1) S2 S h1 → MOk (n + 1) S2 → zR kk → (∀ Q2 : zO → zH → Prop, (∀ h2 v, MI h1 m A S2 kk h2 → True → (kk = 0 → aj_ h1 out 0 = v) → Q2 (.inl (some (.long (zL v)))) h2) → zC g (.code yX12_pay cX12_pay 4 (Option.some Jvm.ClassFile.FieldType.long)) yX12_pay 13 0 0 [.ref m, .int (zI v0), .int (zI v1)] h1 Q2) → zX g mL_law mc ms Q 1154 [some (.ref a), some (.ref x), some (.ref m), some (.ref out), some (.int (zI i)), none, none, none] [.int (zI kk)] h1 bc2 bs2 := by
    intro kk S2 h1 o1 y1 hS2 hkk hmod
    refine r_istore_5 1156 rfl (by decide) rfl (dd_L_law_11 18 _ _ _ rfl) ?_
    refine r_aload_2 1157 rfl (dd_L_law_11 19 _ _ _ rfl) ?_
    refine r_aload_0 1158 rfl (dd_L_law_11 20 _ _ _ rfl) ?_
    refine r_iload_4 1160 rfl (dd_L_law_11 21 _ _ _ rfl) ?_
    refine r_iconst 1161 rfl (dd_L_law_11 22 _ _ _ rfl) ?_
    refine r_iadd 1162 rfl (dd_L_law_11 23 _ _ _ rfl) ?_
    refine r_scr hA (by omega) (by omega) 1163 rfl (dd_L_law_11 24 _ _ _ rfl) ?_
    rw [hv0]
    refine r_aload_0 1164 rfl (dd_L_law_11 25 _ _ _ rfl) ?_
    refine r_iload_4 1166 rfl (dd_L_law_11 26 _ _ _ rfl) ?_
    refine r_iconst 1167 rfl (dd_L_law_11 27 _ _ _ rfl) ?_
    refine r_iadd 1168 rfl (dd_L_law_11 28 _ _ _ rfl) ?_
    refine r_scr hA (by omega) (by omega) 1169 rfl (dd_L_law_11 29 _ _ _ rfl) ?_
    rw [hv1]
    refine r_callV2 (lvl := 13) (mc1 := 0) (ms1 := 0) bc2 bs2 hg rfl md_X12_pay zc_X12 y1.2.1.1.1 wi_X12_pay wv_X12_pay (tb_7 77 _ rfl) (by decide) (by decide) rfl (Nat.le_of_ble_eq_true rfl) (Nat.le_refl _) (Nat.le_refl _) 1172 rfl (dd_L_law_11 30 _ _ _ rfl) ?_
    refine hmod _ (fun h2 v z hv he => ?_)
    obtain ⟨y2, q2⟩ := y1.mod hF z
    dsimp only [zCont, Option.toList, List.cons_append, List.nil_append]
    refine r_lstore_6 1174 rfl (by decide) rfl (dd_L_law_11 31 _ _ _ rfl) ?_
    refine r_aload_2 1175 rfl (dd_L_law_11 32 _ _ _ rfl) ?_
    refine r_callV0 (lvl := 10) (mc1 := 0) (ms1 := 0) bc2 bs2 hg rfl md_X12_thrown zc_X12 y2.2.1.1.1 wi_X12_thrown wv_X12_thrown (tb_6 189 _ rfl) (by decide) (by decide) rfl (Nat.le_of_ble_eq_true rfl) (Nat.le_refl _) (Nat.le_refl _) 1178 rfl (dd_L_law_11 33 _ _ _ rfl) ?_
    refine c_X12_thrown hg z ?_
    dsimp only [zCont, Option.toList, List.cons_append, List.nil_append]
    refine r_iload_5 1180 rfl (dd_L_law_11 34 _ _ _ rfl) ?_
    refine r_if_icmpeq hkk hkk 1183 rfl 1185 rfl (dd_L_law_11 35 _ _ _ rfl) (fun _ => ?_) (fun q => absurd rfl q)
    refine r_iload_5 1187 rfl (dd_L_law_11 38 _ _ _ rfl) ?_
    have fin : zX g mL_law mc ms Q 1201 [some (.ref a), some (.ref x), some (.ref m), some (.ref out), some (.int (zI i)), some (.int (zI kk)), some (.long (zL v)), none] [] h2 bc2 bs2 := by
      refine r_goto 2034 rfl (dd_L_law_11 48 _ _ _ rfl) ?_
      refine r_sub [some (.ref a), some (.ref x), some (.ref m), some (.ref out), some (.int (zI i)), none, none, none] (z_s1 (z_s1 (z_s1 (z_s1 (z_s1 (z_s0 (z_s0 (z_s0 z_sN)))))))) ?_
      exact k o1 S2 h2 y2 hS2
    refine r_ifne hkk 1190 rfl 1201 rfl (dd_L_law_11 39 _ _ _ rfl) (fun _ => fin) (fun hk => ?_)
    refine r_aload_3 1191 rfl (dd_L_law_11 40 _ _ _ rfl) ?_
    refine r_iconst 1192 rfl (dd_L_law_11 41 _ _ _ rfl) ?_
    refine r_laload hg y2.2.2.2.2.2.2.1 (by decide) (by decide) (by rw [y2.2.2.2.2.2.2.2.1]; decide) 1193 rfl (dd_L_law_11 42 _ _ _ rfl) ?_
    rw [show aj_ h2 out (0 : Int).toNat = v from q2.trans (he hk)]
    refine r_lload_6 1195 rfl (dd_L_law_11 43 _ _ _ rfl) ?_
    refine r_lcmpe 1196 rfl (dd_L_law_11 44 _ _ _ rfl) ?_
    exact r_ifeq (by decide) 1199 rfl 1201 rfl (dd_L_law_11 45 _ _ _ rfl) (fun _ => fin) (fun q => absurd rfl q)
  refine r_callSH (lvl := 18) (mc1 := 4) (ms1 := 40) (As := [.ref x, .int (zI v0), .int (zI v1), .ref out]) bc2 bs2 hg rfl mh_pay ws_L_pay (tb_5 28 _ rfl) (by decide) (by decide) rfl (Nat.le_of_ble_eq_true rfl) (by omega) (by omega) rfl 1154 rfl (dd_L_law_11 17 _ _ _ rfl) ?_
  refine w_pay hg hnx y.2.2.2.2.2.2.2.2 (fun Q1 hQ => ?_)
  obtain ⟨⟨Vs, Ps, Ss, Ts, Fs, Tn, A9, G, Rc, yc⟩, yM, -⟩ := id y
  refine c_X11_pay hg hS.1 yc hn hw0 hw1 ?_ ?_ ?_
  · intro c0
    refine hQ _ _ (Or.inl ⟨rfl, ?_⟩)
    refine tail 1 S h o y.next (hS.next hn) (by decide) (fun Q2 hQ2 => ?_)
    have yM1 := y.next.2.1
    refine c_X12_pay hg hS.1 (MI.refl yM1) hn hw0 hw1 ?_ ?_ ?_
    · intro d0 h2 z
      first | exact hQ2 _ _ z (trivial) (fun q => absurd q (by decide)) | (exfalso; first | omega | (simp_all; done) | grind)
    · intro u9 d1 d2 d3 h2 z
      first | exact hQ2 _ _ z (trivial) (fun q => absurd q (by decide)) | (exfalso; first | omega | (simp_all; done) | grind)
    · intro u9 d1 d2 d3 h2 z
      first | exact hQ2 _ _ z (trivial) (fun q => absurd q (by decide)) | (exfalso; first | omega | (simp_all; done) | grind)
  · intro u c1 c2 c3
    refine hQ _ _ (Or.inr (Or.inl ⟨rfl, ?_⟩))
    refine tail 2 S h o y.next (hS.next hn) (by decide) (fun Q2 hQ2 => ?_)
    have yM1 := y.next.2.1
    refine c_X12_pay hg hS.1 (MI.refl yM1) hn hw0 hw1 ?_ ?_ ?_
    · intro d0 h2 z
      first | exact hQ2 _ _ z (trivial) (fun q => absurd q (by decide)) | (exfalso; first | omega | (simp_all; done) | grind)
    · intro u9 d1 d2 d3 h2 z
      obtain rfl : u = u9 := by omega
      first | exact hQ2 _ _ z (trivial) (fun q => absurd q (by decide)) | (exfalso; first | omega | (simp_all; done) | grind)
    · intro u9 d1 d2 d3 h2 z
      obtain rfl : u = u9 := by omega
      first | exact hQ2 _ _ z (trivial) (fun q => absurd q (by decide)) | (exfalso; first | omega | (simp_all; done) | grind)
  · intro u c1 c2 c3 o1 h1 cx st
    have y1 := y.cls hF cx st
    refine hQ _ _ ⟨(zowed (S.1, zu2 S.2 24 u (S.2 24 u + v1)) u), rfl, y1.2.2.2.2.2.2.1, y1.2.2.2.2.2.2.2.1, ?_⟩
    refine tail 0 _ _ o1 (y1.put hF _).1 (ok_pay hS hn (by omega)) (by decide) (fun Q2 hQ2 => ?_)
    have yM1 := (y1.put hF ((zowed (S.1, zu2 S.2 24 u (S.2 24 u + v1)) u))).1.2.1
    refine c_X12_pay hg hS.1 (MI.refl yM1) hn hw0 hw1 ?_ ?_ ?_
    · intro d0 h2 z
      first | exact hQ2 _ _ z (trivial) (fun _ => (y1.put hF _).2) | (exfalso; first | omega | (simp_all; done) | grind)
    · intro u9 d1 d2 d3 h2 z
      obtain rfl : u = u9 := by omega
      first | exact hQ2 _ _ z (trivial) (fun _ => (y1.put hF _).2) | (exfalso; first | omega | (simp_all; done) | grind)
    · intro u9 d1 d2 d3 h2 z
      obtain rfl : u = u9 := by omega
      first | exact hQ2 _ _ z (trivial) (fun _ => (y1.put hF _).2) | (exfalso; first | omega | (simp_all; done) | grind)
theorem it_owes {g : zGT} {Q : zO → zH → Prop} (hg : zG g) (hnx : zNX g) {x m : Nat} {A : Nat → Nat} {out : Nat} {F : Nat → Prop} {hB : zH} {a L : Nat} (hF : zLF m A out F hB) {sv : Nat → Int} (hA : zLA g a sv L) {o : Nat → Nat} {n : Nat} {S : zS} {h : zH} (y : zLS g x m A out F hB o n S S h) (hS : MOk n S) (hn : n < 512) {i : Int} (hi : 0 ≤ i) (hi5 : i + 5 ≤ L) {mc ms bc bs bc2 bs2 : Nat} (hb : bc2 + 20 ≤ bc) (hb2 : bs2 + 4300 ≤ bs) (k : ∀ o2 S2 h2, zLS g x m A out F hB o2 (n + 1) S2 S2 h2 → MOk (n + 1) S2 → zX g mL_law mc ms Q 2034 [some (.ref a), some (.ref x), some (.ref m), some (.ref out), some (.int (zI i)), none, none, none] [] h2 bc2 bs2) : zX g mL_law mc ms Q 1204 [some (.ref a), some (.ref x), some (.ref m), some (.ref out), some (.int (zI i)), none, none, none] [] h bc bs := by
  have hL := hA.2.2.1
  have hz := hA.2.2.2
  have e1 := hS.1.today
  have e2 := hS.1.signs
  have e4 := hS.1.vehicles
  have e12 := hS.1.people
  have e18 := hS.1.allotted
  have e20 := hS.1.rates
  have e31 := hS.1.sightings
  have e36 := hS.1.fines
  refine r_aload_1 1205 rfl (dd_L_law_11 49 _ _ _ rfl) ?_
  refine r_aload_0 1206 rfl (dd_L_law_11 50 _ _ _ rfl) ?_
  refine r_iload_4 1208 rfl (dd_L_law_11 51 _ _ _ rfl) ?_
  refine r_iconst 1209 rfl (dd_L_law_11 52 _ _ _ rfl) ?_
  refine r_iadd 1210 rfl (dd_L_law_11 53 _ _ _ rfl) ?_
  refine r_scr hA (by omega) (by omega) 1211 rfl (dd_L_law_11 54 _ _ _ rfl) ?_
  refine r_aload_3 1212 rfl (dd_L_law_11 55 _ _ _ rfl) ?_
  have hw0 : zR (sv (i + 1).toNat) := by exact hz _
  generalize hv0 : (sv (i + 1).toNat) = v0 at *
  have tail : ∀ (kk : Int) (S2 : zS) (h1 : zH) (o1 : Nat → Nat), zLS g x m A out F hB o1 (n + 1) S2 S h1 → MOk (n + 1) S2 → zR kk → (∀ Q2 : zO → zH → Prop, (∀ h2 v, MI h1 m A S2 kk h2 → True → (kk = 0 → aj_ h1 out 0 = v) → Q2 (.inl (some (.long (zL v)))) h2) → zC g (.code yX12_owes cX12_owes 2 (Option.some Jvm.ClassFile.FieldType.long)) yX12_owes 13 0 0 [.ref m, .int (zI v0)] h1 Q2) → zX g mL_law mc ms Q 1215 [some (.ref a), some (.ref x), some (.ref m), some (.ref out), some (.int (zI i)), none, none, none] [.int (zI kk)] h1 bc2 bs2 := by
    intro kk S2 h1 o1 y1 hS2 hkk hmod
    refine r_istore_5 1217 rfl (by decide) rfl (dd_L_law_11 57 _ _ _ rfl) ?_
    refine r_aload_2 1218 rfl (dd_L_law_11 58 _ _ _ rfl) ?_
    refine r_aload_0 1219 rfl (dd_L_law_11 59 _ _ _ rfl) ?_
    refine r_iload_4 1221 rfl (dd_L_law_12 0 _ _ _ rfl) ?_
    refine r_iconst 1222 rfl (dd_L_law_12 1 _ _ _ rfl) ?_
    refine r_iadd 1223 rfl (dd_L_law_12 2 _ _ _ rfl) ?_
    refine r_scr hA (by omega) (by omega) 1224 rfl (dd_L_law_12 3 _ _ _ rfl) ?_
    rw [hv0]
    refine r_callV1 (lvl := 13) (mc1 := 0) (ms1 := 0) bc2 bs2 hg rfl md_X12_owes zc_X12 y1.2.1.1.1 wi_X12_owes wv_X12_owes (tb_7 90 _ rfl) (by decide) (by decide) rfl (Nat.le_of_ble_eq_true rfl) (Nat.le_refl _) (Nat.le_refl _) 1227 rfl (dd_L_law_12 4 _ _ _ rfl) ?_
    refine hmod _ (fun h2 v z hv he => ?_)
    obtain ⟨y2, q2⟩ := y1.mod hF z
    dsimp only [zCont, Option.toList, List.cons_append, List.nil_append]
    refine r_lstore_6 1229 rfl (by decide) rfl (dd_L_law_12 5 _ _ _ rfl) ?_
    refine r_aload_2 1230 rfl (dd_L_law_12 6 _ _ _ rfl) ?_
    refine r_callV0 (lvl := 10) (mc1 := 0) (ms1 := 0) bc2 bs2 hg rfl md_X12_thrown zc_X12 y2.2.1.1.1 wi_X12_thrown wv_X12_thrown (tb_6 189 _ rfl) (by decide) (by decide) rfl (Nat.le_of_ble_eq_true rfl) (Nat.le_refl _) (Nat.le_refl _) 1233 rfl (dd_L_law_12 7 _ _ _ rfl) ?_
    refine c_X12_thrown hg z ?_
    dsimp only [zCont, Option.toList, List.cons_append, List.nil_append]
    refine r_iload_5 1235 rfl (dd_L_law_12 8 _ _ _ rfl) ?_
    refine r_if_icmpeq hkk hkk 1238 rfl 1240 rfl (dd_L_law_12 9 _ _ _ rfl) (fun _ => ?_) (fun q => absurd rfl q)
    refine r_iload_5 1242 rfl (dd_L_law_12 12 _ _ _ rfl) ?_
    have fin : zX g mL_law mc ms Q 1256 [some (.ref a), some (.ref x), some (.ref m), some (.ref out), some (.int (zI i)), some (.int (zI kk)), some (.long (zL v)), none] [] h2 bc2 bs2 := by
      refine r_goto 2034 rfl (dd_L_law_12 22 _ _ _ rfl) ?_
      refine r_sub [some (.ref a), some (.ref x), some (.ref m), some (.ref out), some (.int (zI i)), none, none, none] (z_s1 (z_s1 (z_s1 (z_s1 (z_s1 (z_s0 (z_s0 (z_s0 z_sN)))))))) ?_
      exact k o1 S2 h2 y2 hS2
    refine r_ifne hkk 1245 rfl 1256 rfl (dd_L_law_12 13 _ _ _ rfl) (fun _ => fin) (fun hk => ?_)
    refine r_aload_3 1246 rfl (dd_L_law_12 14 _ _ _ rfl) ?_
    refine r_iconst 1247 rfl (dd_L_law_12 15 _ _ _ rfl) ?_
    refine r_laload hg y2.2.2.2.2.2.2.1 (by decide) (by decide) (by rw [y2.2.2.2.2.2.2.2.1]; decide) 1248 rfl (dd_L_law_12 16 _ _ _ rfl) ?_
    rw [show aj_ h2 out (0 : Int).toNat = v from q2.trans (he hk)]
    refine r_lload_6 1250 rfl (dd_L_law_12 17 _ _ _ rfl) ?_
    refine r_lcmpe 1251 rfl (dd_L_law_12 18 _ _ _ rfl) ?_
    exact r_ifeq (by decide) 1254 rfl 1256 rfl (dd_L_law_12 19 _ _ _ rfl) (fun _ => fin) (fun q => absurd rfl q)
  refine r_callSH (lvl := 17) (mc1 := 4) (ms1 := 40) (As := [.ref x, .int (zI v0), .ref out]) bc2 bs2 hg rfl mh_owes ws_L_owes (tb_5 52 _ rfl) (by decide) (by decide) rfl (Nat.le_of_ble_eq_true rfl) (by omega) (by omega) rfl 1215 rfl (dd_L_law_11 56 _ _ _ rfl) ?_
  refine w_owes hg hnx y.2.2.2.2.2.2.2.2 (fun Q1 hQ => ?_)
  obtain ⟨⟨Vs, Ps, Ss, Ts, Fs, Tn, A9, G, Rc, yc⟩, yM, -⟩ := id y
  refine c_X11_owes hg hS.1 yc hw0 ?_ ?_
  · intro c0
    refine hQ _ _ (Or.inl ⟨rfl, ?_⟩)
    refine tail 1 S h o y.next (hS.next hn) (by decide) (fun Q2 hQ2 => ?_)
    have yM1 := y.next.2.1
    refine c_X12_owes hg hS.1 (MI.refl yM1) hw0 ?_ ?_
    · intro d0 h2 z
      first | exact hQ2 _ _ z (trivial) (fun q => absurd q (by decide)) | (exfalso; first | omega | (simp_all; done) | grind)
    · intro u9 d1 d2 h2 z
      first | exact hQ2 _ _ z (trivial) (fun q => absurd q (by decide)) | (exfalso; first | omega | (simp_all; done) | grind)
  · intro u c1 c2
    have y1 := y.next
    refine hQ _ _ ⟨(zowed S u), rfl, y1.2.2.2.2.2.2.1, y1.2.2.2.2.2.2.2.1, ?_⟩
    refine tail 0 _ _ o (y1.put hF _).1 (hS.next hn) (by decide) (fun Q2 hQ2 => ?_)
    have yM1 := (y1.put hF ((zowed S u))).1.2.1
    refine c_X12_owes hg hS.1 (MI.refl yM1) hw0 ?_ ?_
    · intro d0 h2 z
      first | exact hQ2 _ _ z (trivial) (fun _ => (y1.put hF _).2) | (exfalso; first | omega | (simp_all; done) | grind)
    · intro u9 d1 d2 h2 z
      obtain rfl : u = u9 := by omega
      first | exact hQ2 _ _ z (trivial) (fun _ => (y1.put hF _).2) | (exfalso; first | omega | (simp_all; done) | grind)
theorem it_test {g : zGT} {Q : zO → zH → Prop} (hg : zG g) (hnx : zNX g) {x m : Nat} {A : Nat → Nat} {out : Nat} {F : Nat → Prop} {hB : zH} {a L : Nat} (hF : zLF m A out F hB) {sv : Nat → Int} (hA : zLA g a sv L) {o : Nat → Nat} {n : Nat} {S : zS} {h : zH} (y : zLS g x m A out F hB o n S S h) (hS : MOk n S) (hn : n < 512) {i : Int} (hi : 0 ≤ i) (hi5 : i + 5 ≤ L) {mc ms bc bs bc2 bs2 : Nat} (hb : bc2 + 20 ≤ bc) (hb2 : bs2 + 4300 ≤ bs) (k : ∀ o2 S2 h2, zLS g x m A out F hB o2 (n + 1) S2 S2 h2 → MOk (n + 1) S2 → zX g mL_law mc ms Q 2034 [some (.ref a), some (.ref x), some (.ref m), some (.ref out), some (.int (zI i)), none, none, none] [] h2 bc2 bs2) : zX g mL_law mc ms Q 1259 [some (.ref a), some (.ref x), some (.ref m), some (.ref out), some (.int (zI i)), none, none, none] [] h bc bs := by
  have hL := hA.2.2.1
  have hz := hA.2.2.2
  have e1 := hS.1.today
  have e2 := hS.1.signs
  have e4 := hS.1.vehicles
  have e12 := hS.1.people
  have e18 := hS.1.allotted
  have e20 := hS.1.rates
  have e31 := hS.1.sightings
  have e36 := hS.1.fines
  refine r_aload_1 1260 rfl (dd_L_law_12 23 _ _ _ rfl) ?_
  refine r_aload_0 1261 rfl (dd_L_law_12 24 _ _ _ rfl) ?_
  refine r_iload_4 1263 rfl (dd_L_law_12 25 _ _ _ rfl) ?_
  refine r_iconst 1264 rfl (dd_L_law_12 26 _ _ _ rfl) ?_
  refine r_iadd 1265 rfl (dd_L_law_12 27 _ _ _ rfl) ?_
  refine r_scr hA (by omega) (by omega) 1266 rfl (dd_L_law_12 28 _ _ _ rfl) ?_
  refine r_aload_0 1267 rfl (dd_L_law_12 29 _ _ _ rfl) ?_
  refine r_iload_4 1269 rfl (dd_L_law_12 30 _ _ _ rfl) ?_
  refine r_iconst 1270 rfl (dd_L_law_12 31 _ _ _ rfl) ?_
  refine r_iadd 1271 rfl (dd_L_law_12 32 _ _ _ rfl) ?_
  refine r_scr hA (by omega) (by omega) 1272 rfl (dd_L_law_12 33 _ _ _ rfl) ?_
  refine r_aload_0 1273 rfl (dd_L_law_12 34 _ _ _ rfl) ?_
  refine r_iload_4 1275 rfl (dd_L_law_12 35 _ _ _ rfl) ?_
  refine r_iconst 1276 rfl (dd_L_law_12 36 _ _ _ rfl) ?_
  refine r_iadd 1277 rfl (dd_L_law_12 37 _ _ _ rfl) ?_
  refine r_scr hA (by omega) (by omega) 1278 rfl (dd_L_law_12 38 _ _ _ rfl) ?_
  refine r_aload_0 1279 rfl (dd_L_law_12 39 _ _ _ rfl) ?_
  refine r_iload_4 1281 rfl (dd_L_law_12 40 _ _ _ rfl) ?_
  refine r_iconst 1282 rfl (dd_L_law_12 41 _ _ _ rfl) ?_
  refine r_iadd 1283 rfl (dd_L_law_12 42 _ _ _ rfl) ?_
  refine r_scr hA (by omega) (by omega) 1284 rfl (dd_L_law_12 43 _ _ _ rfl) ?_
  refine r_aload_3 1285 rfl (dd_L_law_12 44 _ _ _ rfl) ?_
  have hw0 : zR (sv (i + 1).toNat) := by exact hz _
  have hw1 : zR (sv (i + 2).toNat) := by exact hz _
  have hw2 : zR (sv (i + 3).toNat) := by exact hz _
  have hw3 : zR (sv (i + 4).toNat) := by exact hz _
  generalize hv0 : (sv (i + 1).toNat) = v0 at *
  generalize hv1 : (sv (i + 2).toNat) = v1 at *
  generalize hv2 : (sv (i + 3).toNat) = v2 at *
  generalize hv3 : (sv (i + 4).toNat) = v3 at *
  have tail : ∀ (kk : Int) (S2 : zS) (h1 : zH) (o1 : Nat → Nat), zLS g x m A out F hB o1 (n + 1) S2 S h1 → MOk (n + 1) S2 → zR kk → (∀ Q2 : zO → zH → Prop, (∀ h2 v, MI h1 m A S2 kk h2 → zR v → (kk = 0 → aj_ h1 out 0 = v) → Q2 (.inl (some (.int (zI v)))) h2) → zC g (.code yX12_test cX12_test 8 (Option.some Jvm.ClassFile.FieldType.int)) yX12_test 13 0 0 [.ref m, .int (zI v0), .int (zI v1), .int (zI v2), .int (zI v3)] h1 Q2) → zX g mL_law mc ms Q 1288 [some (.ref a), some (.ref x), some (.ref m), some (.ref out), some (.int (zI i)), none, none, none] [.int (zI kk)] h1 bc2 bs2 := by
    intro kk S2 h1 o1 y1 hS2 hkk hmod
    refine r_istore_5 1290 rfl (by decide) rfl (dd_L_law_12 46 _ _ _ rfl) ?_
    refine r_aload_2 1291 rfl (dd_L_law_12 47 _ _ _ rfl) ?_
    refine r_aload_0 1292 rfl (dd_L_law_12 48 _ _ _ rfl) ?_
    refine r_iload_4 1294 rfl (dd_L_law_12 49 _ _ _ rfl) ?_
    refine r_iconst 1295 rfl (dd_L_law_12 50 _ _ _ rfl) ?_
    refine r_iadd 1296 rfl (dd_L_law_12 51 _ _ _ rfl) ?_
    refine r_scr hA (by omega) (by omega) 1297 rfl (dd_L_law_12 52 _ _ _ rfl) ?_
    rw [hv0]
    refine r_aload_0 1298 rfl (dd_L_law_12 53 _ _ _ rfl) ?_
    refine r_iload_4 1300 rfl (dd_L_law_12 54 _ _ _ rfl) ?_
    refine r_iconst 1301 rfl (dd_L_law_12 55 _ _ _ rfl) ?_
    refine r_iadd 1302 rfl (dd_L_law_12 56 _ _ _ rfl) ?_
    refine r_scr hA (by omega) (by omega) 1303 rfl (dd_L_law_12 57 _ _ _ rfl) ?_
    rw [hv1]
    refine r_aload_0 1304 rfl (dd_L_law_12 58 _ _ _ rfl) ?_
    refine r_iload_4 1306 rfl (dd_L_law_12 59 _ _ _ rfl) ?_
    refine r_iconst 1307 rfl (dd_L_law_13 0 _ _ _ rfl) ?_
    refine r_iadd 1308 rfl (dd_L_law_13 1 _ _ _ rfl) ?_
    refine r_scr hA (by omega) (by omega) 1309 rfl (dd_L_law_13 2 _ _ _ rfl) ?_
    rw [hv2]
    refine r_aload_0 1310 rfl (dd_L_law_13 3 _ _ _ rfl) ?_
    refine r_iload_4 1312 rfl (dd_L_law_13 4 _ _ _ rfl) ?_
    refine r_iconst 1313 rfl (dd_L_law_13 5 _ _ _ rfl) ?_
    refine r_iadd 1314 rfl (dd_L_law_13 6 _ _ _ rfl) ?_
    refine r_scr hA (by omega) (by omega) 1315 rfl (dd_L_law_13 7 _ _ _ rfl) ?_
    rw [hv3]
    refine r_callV4 (lvl := 13) (mc1 := 0) (ms1 := 0) bc2 bs2 hg rfl md_X12_test zc_X12 y1.2.1.1.1 wi_X12_test wv_X12_test (tb_7 94 _ rfl) (by decide) (by decide) rfl (Nat.le_of_ble_eq_true rfl) (Nat.le_refl _) (Nat.le_refl _) 1318 rfl (dd_L_law_13 8 _ _ _ rfl) ?_
    refine hmod _ (fun h2 v z hv he => ?_)
    obtain ⟨y2, q2⟩ := y1.mod hF z
    dsimp only [zCont, Option.toList, List.cons_append, List.nil_append]
    refine r_istore_6 1320 rfl (by decide) rfl (dd_L_law_13 9 _ _ _ rfl) ?_
    refine r_aload_2 1321 rfl (dd_L_law_13 10 _ _ _ rfl) ?_
    refine r_callV0 (lvl := 10) (mc1 := 0) (ms1 := 0) bc2 bs2 hg rfl md_X12_thrown zc_X12 y2.2.1.1.1 wi_X12_thrown wv_X12_thrown (tb_6 189 _ rfl) (by decide) (by decide) rfl (Nat.le_of_ble_eq_true rfl) (Nat.le_refl _) (Nat.le_refl _) 1324 rfl (dd_L_law_13 11 _ _ _ rfl) ?_
    refine c_X12_thrown hg z ?_
    dsimp only [zCont, Option.toList, List.cons_append, List.nil_append]
    refine r_iload_5 1326 rfl (dd_L_law_13 12 _ _ _ rfl) ?_
    refine r_if_icmpeq hkk hkk 1329 rfl 1331 rfl (dd_L_law_13 13 _ _ _ rfl) (fun _ => ?_) (fun q => absurd rfl q)
    refine r_iload_5 1333 rfl (dd_L_law_13 16 _ _ _ rfl) ?_
    have fin : zX g mL_law mc ms Q 1348 [some (.ref a), some (.ref x), some (.ref m), some (.ref out), some (.int (zI i)), some (.int (zI kk)), some (.int (zI v)), none] [] h2 bc2 bs2 := by
      refine r_goto 2034 rfl (dd_L_law_13 27 _ _ _ rfl) ?_
      refine r_sub [some (.ref a), some (.ref x), some (.ref m), some (.ref out), some (.int (zI i)), none, none, none] (z_s1 (z_s1 (z_s1 (z_s1 (z_s1 (z_s0 (z_s0 (z_s0 z_sN)))))))) ?_
      exact k o1 S2 h2 y2 hS2
    refine r_ifne hkk 1336 rfl 1348 rfl (dd_L_law_13 17 _ _ _ rfl) (fun _ => fin) (fun hk => ?_)
    refine r_aload_3 1337 rfl (dd_L_law_13 18 _ _ _ rfl) ?_
    refine r_iconst 1338 rfl (dd_L_law_13 19 _ _ _ rfl) ?_
    refine r_laload hg y2.2.2.2.2.2.2.1 (by decide) (by decide) (by rw [y2.2.2.2.2.2.2.2.1]; decide) 1339 rfl (dd_L_law_13 20 _ _ _ rfl) ?_
    rw [show aj_ h2 out (0 : Int).toNat = v from q2.trans (he hk)]
    refine r_iload_6 1341 rfl (dd_L_law_13 21 _ _ _ rfl) ?_
    refine r_i2l hv 1342 rfl (dd_L_law_13 22 _ _ _ rfl) ?_
    refine r_lcmpe 1343 rfl (dd_L_law_13 23 _ _ _ rfl) ?_
    exact r_ifeq (by decide) 1346 rfl 1348 rfl (dd_L_law_13 24 _ _ _ rfl) (fun _ => fin) (fun q => absurd rfl q)
  refine r_callSH (lvl := 16) (mc1 := 4) (ms1 := 40) (As := [.ref x, .int (zI v0), .int (zI v1), .int (zI v2), .int (zI v3), .ref out]) bc2 bs2 hg rfl mh_test ws_L_test (tb_5 59 _ rfl) (by decide) (by decide) rfl (Nat.le_of_ble_eq_true rfl) (by omega) (by omega) rfl 1288 rfl (dd_L_law_12 45 _ _ _ rfl) ?_
  refine w_test hg hnx y.2.2.2.2.2.2.2.2 (fun Q1 hQ => ?_)
  obtain ⟨⟨Vs, Ps, Ss, Ts, Fs, Tn, A9, G, Rc, yc⟩, yM, -⟩ := id y
  refine c_X11_test hg hS.1 yc hw0 hw1 hw2 hw3 ?_ ?_ ?_ ?_
  · intro c0
    refine hQ _ _ (Or.inl ⟨rfl, ?_⟩)
    refine tail 1 S h o y.next (hS.next hn) (by decide) (fun Q2 hQ2 => ?_)
    have yM1 := y.next.2.1
    refine c_X12_test hg hS.1 (MI.refl yM1) hw0 hw1 hw2 hw3 ?_ ?_ ?_ ?_
    · intro d0 h2 z
      first | exact hQ2 _ _ z (by first | decide | omega | exact zuntil_R hS.1 (by assumption) (by assumption)) (fun q => absurd q (by decide)) | (exfalso; first | omega | (simp_all; done) | grind)
    · intro u9 d1 d2 d3 h2 z
      first | exact hQ2 _ _ z (by first | decide | omega | exact zuntil_R hS.1 (by assumption) (by assumption)) (fun q => absurd q (by decide)) | (exfalso; first | omega | (simp_all; done) | grind)
    · intro u9 d1 d2 d3 d4 h2 z
      first | exact hQ2 _ _ z (by first | decide | omega | exact zuntil_R hS.1 (by assumption) (by assumption)) (fun q => absurd q (by decide)) | (exfalso; first | omega | (simp_all; done) | grind)
    · intro u9 B9 U9 d3 d4 d5 d6 d7 d8 h2 z
      first | exact hQ2 _ _ z (by first | decide | omega | exact zuntil_R hS.1 (by assumption) (by assumption)) (fun q => absurd q (by decide)) | (exfalso; first | omega | (simp_all; done) | grind)
  · intro u c1 c2 c3
    refine hQ _ _ (Or.inr (Or.inl ⟨rfl, ?_⟩))
    refine tail 2 S h o y.next (hS.next hn) (by decide) (fun Q2 hQ2 => ?_)
    have yM1 := y.next.2.1
    refine c_X12_test hg hS.1 (MI.refl yM1) hw0 hw1 hw2 hw3 ?_ ?_ ?_ ?_
    · intro d0 h2 z
      first | exact hQ2 _ _ z (by first | decide | omega | exact zuntil_R hS.1 (by assumption) (by assumption)) (fun q => absurd q (by decide)) | (exfalso; first | omega | (simp_all; done) | grind)
    · intro u9 d1 d2 d3 h2 z
      obtain rfl : u = u9 := by omega
      first | exact hQ2 _ _ z (by first | decide | omega | exact zuntil_R hS.1 (by assumption) (by assumption)) (fun q => absurd q (by decide)) | (exfalso; first | omega | (simp_all; done) | grind)
    · intro u9 d1 d2 d3 d4 h2 z
      obtain rfl : u = u9 := by omega
      first | exact hQ2 _ _ z (by first | decide | omega | exact zuntil_R hS.1 (by assumption) (by assumption)) (fun q => absurd q (by decide)) | (exfalso; first | omega | (simp_all; done) | grind)
    · intro u9 B9 U9 d3 d4 d5 d6 d7 d8 h2 z
      obtain rfl : u = u9 := by omega
      first | exact hQ2 _ _ z (by first | decide | omega | exact zuntil_R hS.1 (by assumption) (by assumption)) (fun q => absurd q (by decide)) | (exfalso; first | omega | (simp_all; done) | grind)
  · intro u c1 c2 c3 c4
    refine hQ _ _ (Or.inr (Or.inr (Or.inl ⟨rfl, ?_⟩)))
    refine tail 3 S h o y.next (hS.next hn) (by decide) (fun Q2 hQ2 => ?_)
    have yM1 := y.next.2.1
    refine c_X12_test hg hS.1 (MI.refl yM1) hw0 hw1 hw2 hw3 ?_ ?_ ?_ ?_
    · intro d0 h2 z
      first | exact hQ2 _ _ z (by first | decide | omega | exact zuntil_R hS.1 (by assumption) (by assumption)) (fun q => absurd q (by decide)) | (exfalso; first | omega | (simp_all; done) | grind)
    · intro u9 d1 d2 d3 h2 z
      obtain rfl : u = u9 := by omega
      first | exact hQ2 _ _ z (by first | decide | omega | exact zuntil_R hS.1 (by assumption) (by assumption)) (fun q => absurd q (by decide)) | (exfalso; first | omega | (simp_all; done) | grind)
    · intro u9 d1 d2 d3 d4 h2 z
      obtain rfl : u = u9 := by omega
      first | exact hQ2 _ _ z (by first | decide | omega | exact zuntil_R hS.1 (by assumption) (by assumption)) (fun q => absurd q (by decide)) | (exfalso; first | omega | (simp_all; done) | grind)
    · intro u9 B9 U9 d3 d4 d5 d6 d7 d8 h2 z
      obtain rfl : u = u9 := by omega
      first | exact hQ2 _ _ z (by first | decide | omega | exact zuntil_R hS.1 (by assumption) (by assumption)) (fun q => absurd q (by decide)) | (exfalso; first | omega | (simp_all; done) | grind)
  · intro u B U c3 c4 c5 c6 c7 c8 o1 h1 cx st
    have y1 := y.cls hF cx st
    refine hQ _ _ ⟨U, rfl, (by first | decide | omega | exact zuntil_R hS.1 (by assumption) (by assumption)), y1.2.2.2.2.2.2.1, y1.2.2.2.2.2.2.2.1, ?_⟩
    refine tail 0 _ _ o1 (y1.put hF _).1 (ok_test hS hn (by assumption) (by omega) (by assumption) (by assumption)) (by decide) (fun Q2 hQ2 => ?_)
    have yM1 := (y1.put hF (U)).1.2.1
    refine c_X12_test hg hS.1 (MI.refl yM1) hw0 hw1 hw2 hw3 ?_ ?_ ?_ ?_
    · intro d0 h2 z
      first | exact hQ2 _ _ z (by first | decide | omega | exact zuntil_R hS.1 (by assumption) (by assumption)) (fun _ => (y1.put hF _).2) | (exfalso; first | omega | (simp_all; done) | grind)
    · intro u9 d1 d2 d3 h2 z
      obtain rfl : u = u9 := by omega
      first | exact hQ2 _ _ z (by first | decide | omega | exact zuntil_R hS.1 (by assumption) (by assumption)) (fun _ => (y1.put hF _).2) | (exfalso; first | omega | (simp_all; done) | grind)
    · intro u9 d1 d2 d3 d4 h2 z
      obtain rfl : u = u9 := by omega
      first | exact hQ2 _ _ z (by first | decide | omega | exact zuntil_R hS.1 (by assumption) (by assumption)) (fun _ => (y1.put hF _).2) | (exfalso; first | omega | (simp_all; done) | grind)
    · intro u9 B9 U9 d3 d4 d5 d6 d7 d8 h2 z
      obtain rfl : u = u9 := by omega
      obtain rfl : B = B9 := by omega
      obtain rfl : U = U9 := by omega
      first | exact hQ2 _ _ z (by first | decide | omega | exact zuntil_R hS.1 (by assumption) (by assumption)) (fun _ => (y1.put hF _).2) | (exfalso; first | omega | (simp_all; done) | grind)
