set_option maxRecDepth 20000
set_option maxHeartbeats 1600000
theorem it_type {g : zGT} {Q : zO → zH → Prop} (hg : zG g) (hnx : zNX g) {x m : Nat} {A : Nat → Nat} {out : Nat} {F : Nat → Prop} {hB : zH} {a L : Nat} (hF : zLF m A out F hB) {sv : Nat → Int} (hA : zLA g a sv L) {o : Nat → Nat} {n : Nat} {S : zS} {h : zH} (y : zLS g x m A out F hB o n S S h) (hS : MOk n S) (hn : n < 512) {i : Int} (hi : 0 ≤ i) (hi5 : i + 5 ≤ L) {mc ms bc bs bc2 bs2 : Nat} (hb : bc2 + 20 ≤ bc) (hb2 : bs2 + 4300 ≤ bs) (k : ∀ o2 S2 h2, zLS g x m A out F hB o2 (n + 1) S2 S2 h2 → MOk (n + 1) S2 → zX g mL_law mc ms Q 2034 [some (.ref a), some (.ref x), some (.ref m), some (.ref out), some (.int (zI i)), none, none, none] [] h2 bc2 bs2) : zX g mL_law mc ms Q 164 [some (.ref a), some (.ref x), some (.ref m), some (.ref out), some (.int (zI i)), none, none, none] [] h bc bs := by
  have hL := hA.2.2.1
  have hz := hA.2.2.2
  have e1 := hS.1.today
  have e2 := hS.1.signs
  have e4 := hS.1.vehicles
  have e12 := hS.1.people
  have e18 := hS.1.allotted
  have e20 := hS.1.rates
  have e31 := hS.1.sightings
  have e36 := hS.1.fines
  refine r_aload_1 165 rfl (dd_L_law_0 25 _ _ _ rfl) ?_
  refine r_aload_0 166 rfl (dd_L_law_0 26 _ _ _ rfl) ?_
  refine r_iload_4 168 rfl (dd_L_law_0 27 _ _ _ rfl) ?_
  refine r_iconst 169 rfl (dd_L_law_0 28 _ _ _ rfl) ?_
  refine r_iadd 170 rfl (dd_L_law_0 29 _ _ _ rfl) ?_
  refine r_scr hA (by omega) (by omega) 171 rfl (dd_L_law_0 30 _ _ _ rfl) ?_
  refine r_i2c_any 172 rfl (dd_L_law_0 31 _ _ _ rfl) ?_
  rw [zI_c (hz _)]
  refine r_aload_3 173 rfl (dd_L_law_0 32 _ _ _ rfl) ?_
  have hw0 : zR ((sv (i + 1).toNat) % 65536) := by omega
  have hr0 : 0 ≤ ((sv (i + 1).toNat) % 65536) ∧ ((sv (i + 1).toNat) % 65536) < 65536 := by omega
  generalize hv0 : ((sv (i + 1).toNat) % 65536) = v0 at *
  have tail : ∀ (kk : Int) (S2 : zS) (h1 : zH) (o1 : Nat → Nat), zLS g x m A out F hB o1 (n + 1) S2 S h1 → MOk (n + 1) S2 → zR kk → (∀ Q2 : zO → zH → Prop, (∀ h2 v, MI h1 m A S2 kk h2 → zR v → (kk = 0 → aj_ h1 out 0 = v) → Q2 (.inl (some (.int (zI v)))) h2) → zC g (.code yX12_type cX12_type 2 (Option.some Jvm.ClassFile.FieldType.int)) yX12_type 12 0 0 [.ref m, .int (zI v0)] h1 Q2) → zX g mL_law mc ms Q 176 [some (.ref a), some (.ref x), some (.ref m), some (.ref out), some (.int (zI i)), none, none, none] [.int (zI kk)] h1 bc2 bs2 := by
    intro kk S2 h1 o1 y1 hS2 hkk hmod
    refine r_istore_5 178 rfl (by decide) rfl (dd_L_law_0 34 _ _ _ rfl) ?_
    refine r_aload_2 179 rfl (dd_L_law_0 35 _ _ _ rfl) ?_
    refine r_aload_0 180 rfl (dd_L_law_0 36 _ _ _ rfl) ?_
    refine r_iload_4 182 rfl (dd_L_law_0 37 _ _ _ rfl) ?_
    refine r_iconst 183 rfl (dd_L_law_0 38 _ _ _ rfl) ?_
    refine r_iadd 184 rfl (dd_L_law_0 39 _ _ _ rfl) ?_
    refine r_scr hA (by omega) (by omega) 185 rfl (dd_L_law_0 40 _ _ _ rfl) ?_
    refine r_i2c_any 186 rfl (dd_L_law_0 41 _ _ _ rfl) ?_
    rw [zI_c (hz _)]
    rw [hv0]
    refine r_callV1 (lvl := 12) (mc1 := 0) (ms1 := 0) bc2 bs2 hg rfl md_X12_type zc_X12 y1.2.1.1.1 wi_X12_type wv_X12_type (tb_6 193 _ rfl) (by decide) (by decide) rfl (Nat.le_of_ble_eq_true rfl) (Nat.le_refl _) (Nat.le_refl _) 189 rfl (dd_L_law_0 42 _ _ _ rfl) ?_
    refine hmod _ (fun h2 v z hv he => ?_)
    obtain ⟨y2, q2⟩ := y1.mod hF z
    dsimp only [zCont, Option.toList, List.cons_append, List.nil_append]
    refine r_istore_6 191 rfl (by decide) rfl (dd_L_law_0 43 _ _ _ rfl) ?_
    refine r_aload_2 192 rfl (dd_L_law_0 44 _ _ _ rfl) ?_
    refine r_callV0 (lvl := 10) (mc1 := 0) (ms1 := 0) bc2 bs2 hg rfl md_X12_thrown zc_X12 y2.2.1.1.1 wi_X12_thrown wv_X12_thrown (tb_6 189 _ rfl) (by decide) (by decide) rfl (Nat.le_of_ble_eq_true rfl) (Nat.le_refl _) (Nat.le_refl _) 195 rfl (dd_L_law_0 45 _ _ _ rfl) ?_
    refine c_X12_thrown hg z ?_
    dsimp only [zCont, Option.toList, List.cons_append, List.nil_append]
    refine r_iload_5 197 rfl (dd_L_law_0 46 _ _ _ rfl) ?_
    refine r_if_icmpeq hkk hkk 200 rfl 202 rfl (dd_L_law_0 47 _ _ _ rfl) (fun _ => ?_) (fun q => absurd rfl q)
    refine r_iload_5 204 rfl (dd_L_law_0 50 _ _ _ rfl) ?_
    have fin : zX g mL_law mc ms Q 219 [some (.ref a), some (.ref x), some (.ref m), some (.ref out), some (.int (zI i)), some (.int (zI kk)), some (.int (zI v)), none] [] h2 bc2 bs2 := by
      refine r_goto 2034 rfl (dd_L_law_1 1 _ _ _ rfl) ?_
      refine r_sub [some (.ref a), some (.ref x), some (.ref m), some (.ref out), some (.int (zI i)), none, none, none] (z_s1 (z_s1 (z_s1 (z_s1 (z_s1 (z_s0 (z_s0 (z_s0 z_sN)))))))) ?_
      exact k o1 S2 h2 y2 hS2
    refine r_ifne hkk 207 rfl 219 rfl (dd_L_law_0 51 _ _ _ rfl) (fun _ => fin) (fun hk => ?_)
    refine r_aload_3 208 rfl (dd_L_law_0 52 _ _ _ rfl) ?_
    refine r_iconst 209 rfl (dd_L_law_0 53 _ _ _ rfl) ?_
    refine r_laload hg y2.2.2.2.2.2.2.1 (by decide) (by decide) (by rw [y2.2.2.2.2.2.2.2.1]; decide) 210 rfl (dd_L_law_0 54 _ _ _ rfl) ?_
    rw [show aj_ h2 out (0 : Int).toNat = v from q2.trans (he hk)]
    refine r_iload_6 212 rfl (dd_L_law_0 55 _ _ _ rfl) ?_
    refine r_i2l hv 213 rfl (dd_L_law_0 56 _ _ _ rfl) ?_
    refine r_lcmpe 214 rfl (dd_L_law_0 57 _ _ _ rfl) ?_
    exact r_ifeq (by decide) 217 rfl 219 rfl (dd_L_law_0 58 _ _ _ rfl) (fun _ => fin) (fun q => absurd rfl q)
  refine r_callSH (lvl := 15) (mc1 := 4) (ms1 := 40) (As := [.ref x, .int (zI v0), .ref out]) bc2 bs2 hg rfl mh_type ws_L_type (tb_1 161 _ rfl) (by decide) (by decide) rfl (Nat.le_of_ble_eq_true rfl) (by omega) (by omega) rfl 176 rfl (dd_L_law_0 33 _ _ _ rfl) ?_
  refine w_type hg hnx y.2.2.2.2.2.2.2.2 (fun Q1 hQ => ?_)
  obtain ⟨⟨Vs, Ps, Ss, Ts, Fs, Tn, A9, G, Rc, yc⟩, yM, -⟩ := id y
  refine c_X11_type hg hS.1 yc (by omega) ?_ ?_
  · intro c0
    refine hQ _ _ (Or.inl ⟨rfl, ?_⟩)
    refine tail 1 S h o y.next (hS.next hn) (by decide) (fun Q2 hQ2 => ?_)
    have yM1 := y.next.2.1
    refine c_X12_type hg hS.1 (MI.refl yM1) (by omega) (by omega) ?_ ?_
    · intro d0 h2 z
      first | exact hQ2 _ _ z (by first | decide | omega) (fun q => absurd q (by decide)) | (exfalso; first | omega | (simp_all; done) | grind)
    · intro d0 h2 z
      first | exact hQ2 _ _ z (by first | decide | omega) (fun q => absurd q (by decide)) | (exfalso; first | omega | (simp_all; done) | grind)
  · intro c0 o1 h1 cx st
    have y1 := y.cls hF cx st
    refine hQ _ _ ⟨(S.1 2 + 1), rfl, (by first | decide | omega), y1.2.2.2.2.2.2.1, y1.2.2.2.2.2.2.2.1, ?_⟩
    refine tail 0 _ _ o1 (y1.put hF _).1 (ok_type hS hn (by omega) (by omega)) (by decide) (fun Q2 hQ2 => ?_)
    have yM1 := (y1.put hF ((S.1 2 + 1))).1.2.1
    refine c_X12_type hg hS.1 (MI.refl yM1) (by omega) (by omega) ?_ ?_
    · intro d0 h2 z
      first | exact hQ2 _ _ z (by first | decide | omega) (fun _ => (y1.put hF _).2) | (exfalso; first | omega | (simp_all; done) | grind)
    · intro d0 h2 z
      first | exact hQ2 _ _ z (by first | decide | omega) (fun _ => (y1.put hF _).2) | (exfalso; first | omega | (simp_all; done) | grind)
theorem it_person {g : zGT} {Q : zO → zH → Prop} (hg : zG g) (hnx : zNX g) {x m : Nat} {A : Nat → Nat} {out : Nat} {F : Nat → Prop} {hB : zH} {a L : Nat} (hF : zLF m A out F hB) {sv : Nat → Int} (hA : zLA g a sv L) {mi : Nat} (hm : zMi g mi) {o : Nat → Nat} {n : Nat} {S : zS} {h : zH} (y : zLS g x m A out F hB o n S S h) (hS : MOk n S) (hn : n < 512) {i : Int} (hi : 0 ≤ i) (hi5 : i + 5 ≤ L) {mc ms bc bs bc2 bs2 : Nat} (hb : bc2 + 20 ≤ bc) (hb2 : bs2 + 4300 ≤ bs) (k : ∀ o2 S2 h2, zLS g x m A out F hB o2 (n + 1) S2 S2 h2 → MOk (n + 1) S2 → zX g mL_law mc ms Q 2034 [some (.ref a), some (.ref x), some (.ref m), some (.ref out), some (.int (zI i)), none, none, none] [] h2 bc2 bs2) : zX g mL_law mc ms Q 371 [some (.ref a), some (.ref x), some (.ref m), some (.ref out), some (.int (zI i)), none, none, none] [] h bc bs := by
  have hL := hA.2.2.1
  have hz := hA.2.2.2
  have e1 := hS.1.today
  have e2 := hS.1.signs
  have e4 := hS.1.vehicles
  have e12 := hS.1.people
  have e18 := hS.1.allotted
  have e20 := hS.1.rates
  have e31 := hS.1.sightings
  have e36 := hS.1.fines
  refine r_aload_1 372 rfl (dd_L_law_2 39 _ _ _ rfl) ?_
  refine r_aload_3 373 rfl (dd_L_law_2 40 _ _ _ rfl) ?_
  have tail : ∀ (kk : Int) (S2 : zS) (h1 : zH) (o1 : Nat → Nat), zLS g x m A out F hB o1 (n + 1) S2 S h1 → MOk (n + 1) S2 → zR kk → (∀ Q2 : zO → zH → Prop, (∀ h2 v, MI h1 m A S2 kk h2 → zR v → (kk = 0 → aj_ h1 out 0 = v) → Q2 (.inl (some (.int (zI v)))) h2) → zC g (.code yX12_person cX12_person 1 (Option.some Jvm.ClassFile.FieldType.int)) yX12_person 12 0 0 [.ref m] h1 Q2) → zX g mL_law mc ms Q 376 [some (.ref a), some (.ref x), some (.ref m), some (.ref out), some (.int (zI i)), none, none, none] [.int (zI kk)] h1 bc2 bs2 := by
    intro kk S2 h1 o1 y1 hS2 hkk hmod
    refine r_istore_5 378 rfl (by decide) rfl (dd_L_law_2 42 _ _ _ rfl) ?_
    refine r_aload_2 379 rfl (dd_L_law_2 43 _ _ _ rfl) ?_
    refine r_callV0 (lvl := 12) (mc1 := 0) (ms1 := 0) bc2 bs2 hg rfl md_X12_person zc_X12 y1.2.1.1.1 wi_X12_person wv_X12_person (tb_6 224 _ rfl) (by decide) (by decide) rfl (Nat.le_of_ble_eq_true rfl) (Nat.le_refl _) (Nat.le_refl _) 382 rfl (dd_L_law_2 44 _ _ _ rfl) ?_
    refine hmod _ (fun h2 v z hv he => ?_)
    obtain ⟨y2, q2⟩ := y1.mod hF z
    dsimp only [zCont, Option.toList, List.cons_append, List.nil_append]
    refine r_istore_6 384 rfl (by decide) rfl (dd_L_law_2 45 _ _ _ rfl) ?_
    refine r_aload_2 385 rfl (dd_L_law_2 46 _ _ _ rfl) ?_
    refine r_callV0 (lvl := 10) (mc1 := 0) (ms1 := 0) bc2 bs2 hg rfl md_X12_thrown zc_X12 y2.2.1.1.1 wi_X12_thrown wv_X12_thrown (tb_6 189 _ rfl) (by decide) (by decide) rfl (Nat.le_of_ble_eq_true rfl) (Nat.le_refl _) (Nat.le_refl _) 388 rfl (dd_L_law_2 47 _ _ _ rfl) ?_
    refine c_X12_thrown hg z ?_
    dsimp only [zCont, Option.toList, List.cons_append, List.nil_append]
    refine r_iload_5 390 rfl (dd_L_law_2 48 _ _ _ rfl) ?_
    refine r_if_icmpeq hkk hkk 393 rfl 395 rfl (dd_L_law_2 49 _ _ _ rfl) (fun _ => ?_) (fun q => absurd rfl q)
    refine r_iload_5 397 rfl (dd_L_law_2 52 _ _ _ rfl) ?_
    have fin : zX g mL_law mc ms Q 412 [some (.ref a), some (.ref x), some (.ref m), some (.ref out), some (.int (zI i)), some (.int (zI kk)), some (.int (zI v)), none] [] h2 bc2 bs2 := by
      refine r_goto 2034 rfl (dd_L_law_3 3 _ _ _ rfl) ?_
      refine r_sub [some (.ref a), some (.ref x), some (.ref m), some (.ref out), some (.int (zI i)), none, none, none] (z_s1 (z_s1 (z_s1 (z_s1 (z_s1 (z_s0 (z_s0 (z_s0 z_sN)))))))) ?_
      exact k o1 S2 h2 y2 hS2
    refine r_ifne hkk 400 rfl 412 rfl (dd_L_law_2 53 _ _ _ rfl) (fun _ => fin) (fun hk => ?_)
    refine r_aload_3 401 rfl (dd_L_law_2 54 _ _ _ rfl) ?_
    refine r_iconst 402 rfl (dd_L_law_2 55 _ _ _ rfl) ?_
    refine r_laload hg y2.2.2.2.2.2.2.1 (by decide) (by decide) (by rw [y2.2.2.2.2.2.2.2.1]; decide) 403 rfl (dd_L_law_2 56 _ _ _ rfl) ?_
    rw [show aj_ h2 out (0 : Int).toNat = v from q2.trans (he hk)]
    refine r_iload_6 405 rfl (dd_L_law_2 57 _ _ _ rfl) ?_
    refine r_i2l hv 406 rfl (dd_L_law_2 58 _ _ _ rfl) ?_
    refine r_lcmpe 407 rfl (dd_L_law_2 59 _ _ _ rfl) ?_
    exact r_ifeq (by decide) 410 rfl 412 rfl (dd_L_law_3 0 _ _ _ rfl) (fun _ => fin) (fun q => absurd rfl q)
  refine r_callSH (lvl := 18) (mc1 := 6) (ms1 := 150) (As := [.ref x, .ref out]) bc2 bs2 hg rfl mh_person ws_L_person (tb_2 234 _ rfl) (by decide) (by decide) rfl (Nat.le_of_ble_eq_true rfl) (by omega) (by omega) rfl 376 rfl (dd_L_law_2 41 _ _ _ rfl) ?_
  refine w_person hg hnx y.2.2.2.2.2.2.2.2 (fun Q1 hQ => ?_)
  obtain ⟨⟨Vs, Ps, Ss, Ts, Fs, Tn, A9, G, Rc, yc⟩, yM, -⟩ := id y
  refine c_X11_person hg hm hS.1 yc ?_ ?_
  · intro c0
    refine hQ _ _ (Or.inl ⟨rfl, ?_⟩)
    refine tail 1 S h o y.next (hS.next hn) (by decide) (fun Q2 hQ2 => ?_)
    have yM1 := y.next.2.1
    refine c_X12_person hg hS.1 (MI.refl yM1) ?_ ?_
    · intro d0 h2 z
      first | exact hQ2 _ _ z (by first | decide | omega) (fun q => absurd q (by decide)) | (exfalso; first | omega | (simp_all; done) | grind)
    · intro d0 h2 z
      first | exact hQ2 _ _ z (by first | decide | omega) (fun q => absurd q (by decide)) | (exfalso; first | omega | (simp_all; done) | grind)
  · intro c0 o1 h1 cx st
    have y1 := y.cls hF cx st
    refine hQ _ _ ⟨(S.1 12), rfl, (by first | decide | omega), y1.2.2.2.2.2.2.1, y1.2.2.2.2.2.2.2.1, ?_⟩
    refine tail 0 _ _ o1 (y1.put hF _).1 (ok_person hS hn (by omega)) (by decide) (fun Q2 hQ2 => ?_)
    have yM1 := (y1.put hF ((S.1 12))).1.2.1
    refine c_X12_person hg hS.1 (MI.refl yM1) ?_ ?_
    · intro d0 h2 z
      first | exact hQ2 _ _ z (by first | decide | omega) (fun _ => (y1.put hF _).2) | (exfalso; first | omega | (simp_all; done) | grind)
    · intro d0 h2 z
      first | exact hQ2 _ _ z (by first | decide | omega) (fun _ => (y1.put hF _).2) | (exfalso; first | omega | (simp_all; done) | grind)
theorem it_pass {g : zGT} {Q : zO → zH → Prop} (hg : zG g) (hnx : zNX g) {x m : Nat} {A : Nat → Nat} {out : Nat} {F : Nat → Prop} {hB : zH} {a L : Nat} (hF : zLF m A out F hB) {sv : Nat → Int} (hA : zLA g a sv L) {o : Nat → Nat} {n : Nat} {S : zS} {h : zH} (y : zLS g x m A out F hB o n S S h) (hS : MOk n S) (hn : n < 512) {i : Int} (hi : 0 ≤ i) (hi5 : i + 5 ≤ L) {mc ms bc bs bc2 bs2 : Nat} (hb : bc2 + 20 ≤ bc) (hb2 : bs2 + 4300 ≤ bs) (k : ∀ o2 S2 h2, zLS g x m A out F hB o2 (n + 1) S2 S2 h2 → MOk (n + 1) S2 → zX g mL_law mc ms Q 2034 [some (.ref a), some (.ref x), some (.ref m), some (.ref out), some (.int (zI i)), none, none, none] [] h2 bc2 bs2) : zX g mL_law mc ms Q 1978 [some (.ref a), some (.ref x), some (.ref m), some (.ref out), some (.int (zI i)), none, none, none] [] h bc bs := by
  have hL := hA.2.2.1
  have hz := hA.2.2.2
  have e1 := hS.1.today
  have e2 := hS.1.signs
  have e4 := hS.1.vehicles
  have e12 := hS.1.people
  have e18 := hS.1.allotted
  have e20 := hS.1.rates
  have e31 := hS.1.sightings
  have e36 := hS.1.fines
  refine r_aload_1 1979 rfl (dd_L_law_20 11 _ _ _ rfl) ?_
  refine r_aload_0 1980 rfl (dd_L_law_20 12 _ _ _ rfl) ?_
  refine r_iload_4 1982 rfl (dd_L_law_20 13 _ _ _ rfl) ?_
  refine r_iconst 1983 rfl (dd_L_law_20 14 _ _ _ rfl) ?_
  refine r_iadd 1984 rfl (dd_L_law_20 15 _ _ _ rfl) ?_
  refine r_scr hA (by omega) (by omega) 1985 rfl (dd_L_law_20 16 _ _ _ rfl) ?_
  refine r_aload_3 1986 rfl (dd_L_law_20 17 _ _ _ rfl) ?_
  have hw0 : zR (sv (i + 1).toNat) := by exact hz _
  generalize hv0 : (sv (i + 1).toNat) = v0 at *
  have tail : ∀ (kk : Int) (S2 : zS) (h1 : zH) (o1 : Nat → Nat), zLS g x m A out F hB o1 (n + 1) S2 S h1 → MOk (n + 1) S2 → zR kk → (∀ Q2 : zO → zH → Prop, (∀ h2 v, MI h1 m A S2 kk h2 → zR v → (kk = 0 → aj_ h1 out 0 = v) → Q2 (.inl (some (.int (zI v)))) h2) → zC g (.code yX12_pass cX12_pass 3 (Option.some Jvm.ClassFile.FieldType.int)) yX12_pass 12 0 0 [.ref m, .int (zI v0)] h1 Q2) → zX g mL_law mc ms Q 1989 [some (.ref a), some (.ref x), some (.ref m), some (.ref out), some (.int (zI i)), none, none, none] [.int (zI kk)] h1 bc2 bs2 := by
    intro kk S2 h1 o1 y1 hS2 hkk hmod
    refine r_istore_5 1991 rfl (by decide) rfl (dd_L_law_20 19 _ _ _ rfl) ?_
    refine r_aload_2 1992 rfl (dd_L_law_20 20 _ _ _ rfl) ?_
    refine r_aload_0 1993 rfl (dd_L_law_20 21 _ _ _ rfl) ?_
    refine r_iload_4 1995 rfl (dd_L_law_20 22 _ _ _ rfl) ?_
    refine r_iconst 1996 rfl (dd_L_law_20 23 _ _ _ rfl) ?_
    refine r_iadd 1997 rfl (dd_L_law_20 24 _ _ _ rfl) ?_
    refine r_scr hA (by omega) (by omega) 1998 rfl (dd_L_law_20 25 _ _ _ rfl) ?_
    rw [hv0]
    refine r_callV1 (lvl := 12) (mc1 := 0) (ms1 := 0) bc2 bs2 hg rfl md_X12_pass zc_X12 y1.2.1.1.1 wi_X12_pass wv_X12_pass (tb_7 192 _ rfl) (by decide) (by decide) rfl (Nat.le_of_ble_eq_true rfl) (Nat.le_refl _) (Nat.le_refl _) 2001 rfl (dd_L_law_20 26 _ _ _ rfl) ?_
    refine hmod _ (fun h2 v z hv he => ?_)
    obtain ⟨y2, q2⟩ := y1.mod hF z
    dsimp only [zCont, Option.toList, List.cons_append, List.nil_append]
    refine r_istore_6 2003 rfl (by decide) rfl (dd_L_law_20 27 _ _ _ rfl) ?_
    refine r_aload_2 2004 rfl (dd_L_law_20 28 _ _ _ rfl) ?_
    refine r_callV0 (lvl := 10) (mc1 := 0) (ms1 := 0) bc2 bs2 hg rfl md_X12_thrown zc_X12 y2.2.1.1.1 wi_X12_thrown wv_X12_thrown (tb_6 189 _ rfl) (by decide) (by decide) rfl (Nat.le_of_ble_eq_true rfl) (Nat.le_refl _) (Nat.le_refl _) 2007 rfl (dd_L_law_20 29 _ _ _ rfl) ?_
    refine c_X12_thrown hg z ?_
    dsimp only [zCont, Option.toList, List.cons_append, List.nil_append]
    refine r_iload_5 2009 rfl (dd_L_law_20 30 _ _ _ rfl) ?_
    refine r_if_icmpeq hkk hkk 2012 rfl 2014 rfl (dd_L_law_20 31 _ _ _ rfl) (fun _ => ?_) (fun q => absurd rfl q)
    refine r_iload_5 2016 rfl (dd_L_law_20 34 _ _ _ rfl) ?_
    have fin : zX g mL_law mc ms Q 2031 [some (.ref a), some (.ref x), some (.ref m), some (.ref out), some (.int (zI i)), some (.int (zI kk)), some (.int (zI v)), none] [] h2 bc2 bs2 := by
      refine r_goto 2034 rfl (dd_L_law_20 45 _ _ _ rfl) ?_
      refine r_sub [some (.ref a), some (.ref x), some (.ref m), some (.ref out), some (.int (zI i)), none, none, none] (z_s1 (z_s1 (z_s1 (z_s1 (z_s1 (z_s0 (z_s0 (z_s0 z_sN)))))))) ?_
      exact k o1 S2 h2 y2 hS2
    refine r_ifne hkk 2019 rfl 2031 rfl (dd_L_law_20 35 _ _ _ rfl) (fun _ => fin) (fun hk => ?_)
    refine r_aload_3 2020 rfl (dd_L_law_20 36 _ _ _ rfl) ?_
    refine r_iconst 2021 rfl (dd_L_law_20 37 _ _ _ rfl) ?_
    refine r_laload hg y2.2.2.2.2.2.2.1 (by decide) (by decide) (by rw [y2.2.2.2.2.2.2.2.1]; decide) 2022 rfl (dd_L_law_20 38 _ _ _ rfl) ?_
    rw [show aj_ h2 out (0 : Int).toNat = v from q2.trans (he hk)]
    refine r_iload_6 2024 rfl (dd_L_law_20 39 _ _ _ rfl) ?_
    refine r_i2l hv 2025 rfl (dd_L_law_20 40 _ _ _ rfl) ?_
    refine r_lcmpe 2026 rfl (dd_L_law_20 41 _ _ _ rfl) ?_
    exact r_ifeq (by decide) 2029 rfl 2031 rfl (dd_L_law_20 42 _ _ _ rfl) (fun _ => fin) (fun q => absurd rfl q)
  refine r_callSH (lvl := 15) (mc1 := 4) (ms1 := 40) (As := [.ref x, .int (zI v0), .ref out]) bc2 bs2 hg rfl mh_pass ws_L_pass (tb_6 42 _ rfl) (by decide) (by decide) rfl (Nat.le_of_ble_eq_true rfl) (by omega) (by omega) rfl 1989 rfl (dd_L_law_20 18 _ _ _ rfl) ?_
  refine w_pass hg hnx y.2.2.2.2.2.2.2.2 (fun Q1 hQ => ?_)
  obtain ⟨⟨Vs, Ps, Ss, Ts, Fs, Tn, A9, G, Rc, yc⟩, yM, -⟩ := id y
  refine c_X11_pass hg hS.1 yc hw0 ?_ ?_ ?_
  · intro c0
    refine hQ _ _ (Or.inl ⟨rfl, ?_⟩)
    refine tail 1 S h o y.next (hS.next hn) (by decide) (fun Q2 hQ2 => ?_)
    have yM1 := y.next.2.1
    refine c_X12_pass hg hS.1 (MI.refl yM1) hw0 ?_ ?_ ?_
    · intro d0 h2 z
      first | exact hQ2 _ _ z (by first | decide | omega) (fun q => absurd q (by decide)) | (exfalso; first | omega | (simp_all; done) | grind)
    · intro d0 d1 h2 z
      first | exact hQ2 _ _ z (by first | decide | omega) (fun q => absurd q (by decide)) | (exfalso; first | omega | (simp_all; done) | grind)
    · intro d0 d1 h2 z
      first | exact hQ2 _ _ z (by first | decide | omega) (fun q => absurd q (by decide)) | (exfalso; first | omega | (simp_all; done) | grind)
  · intro c0 c1
    refine hQ _ _ (Or.inr (Or.inl ⟨rfl, ?_⟩))
    refine tail 2 S h o y.next (hS.next hn) (by decide) (fun Q2 hQ2 => ?_)
    have yM1 := y.next.2.1
    refine c_X12_pass hg hS.1 (MI.refl yM1) hw0 ?_ ?_ ?_
    · intro d0 h2 z
      first | exact hQ2 _ _ z (by first | decide | omega) (fun q => absurd q (by decide)) | (exfalso; first | omega | (simp_all; done) | grind)
    · intro d0 d1 h2 z
      first | exact hQ2 _ _ z (by first | decide | omega) (fun q => absurd q (by decide)) | (exfalso; first | omega | (simp_all; done) | grind)
    · intro d0 d1 h2 z
      first | exact hQ2 _ _ z (by first | decide | omega) (fun q => absurd q (by decide)) | (exfalso; first | omega | (simp_all; done) | grind)
  · intro c0 c1 o1 h1 cx st
    have y1 := y.cls hF cx st
    refine hQ _ _ ⟨(S.1 1 + v0), rfl, (by first | decide | omega), y1.2.2.2.2.2.2.1, y1.2.2.2.2.2.2.2.1, ?_⟩
    refine tail 0 _ _ o1 (y1.put hF _).1 (ok_pass hS hn (by omega) (by omega)) (by decide) (fun Q2 hQ2 => ?_)
    have yM1 := (y1.put hF ((S.1 1 + v0))).1.2.1
    refine c_X12_pass hg hS.1 (MI.refl yM1) hw0 ?_ ?_ ?_
    · intro d0 h2 z
      first | exact hQ2 _ _ z (by first | decide | omega) (fun _ => (y1.put hF _).2) | (exfalso; first | omega | (simp_all; done) | grind)
    · intro d0 d1 h2 z
      first | exact hQ2 _ _ z (by first | decide | omega) (fun _ => (y1.put hF _).2) | (exfalso; first | omega | (simp_all; done) | grind)
    · intro d0 d1 h2 z
      first | exact hQ2 _ _ z (by first | decide | omega) (fun _ => (y1.put hF _).2) | (exfalso; first | omega | (simp_all; done) | grind)
