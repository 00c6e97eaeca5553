set_option maxRecDepth 20000
set_option maxHeartbeats 1600000
theorem zvof_R {n : Nat} {S : zS} (hI : MInv n S) {s : Int} : zR (zvof S s (S.1 4).toNat) := by
  have e := hI.vehicles
  have := zvof_range (S := S) (s := s) (S.1 4).toNat
  omega
theorem zon_R {n : Nat} {S : zS} (hI : MInv n S) {u : Nat} {w q : Int} : zR (if q = 0 then zstate S u w else if q = 1 then zlast S u w 0 (-1) else if q = 2 then zlast S u w 1 (-1) else zlast S u w 7 (S.2 7 u)) := by
  have h1 := zstate_range S u w
  have h2 := zlast_range (v := u) (w := w) (its := 0) (wo := -1) hI (by omega)
  have h3 := zlast_range (v := u) (w := w) (its := 1) (wo := -1) hI (by omega)
  have h5 := hI.ofClass u
  have h4 := zlast_range (v := u) (w := w) (its := 7) (wo := S.2 7 u) hI (by omega)
  split
  · omega
  split
  · omega
  split <;> omega
theorem zseen_R {n : Nat} {S : zS} (hI : MInv n S) {s : Nat} : zR (zseen S s) := by have := zseen_range (s := s) hI; omega
theorem zwhose_R {n : Nat} {S : zS} (hI : MInv n S) {s : Nat} : zR (zwhose S s) := by have := zwhose_range (f := s) hI; omega
theorem zlooked_R {n : Nat} {S : zS} (hI : MInv n S) {s : Nat} : zR (S.2 14 s) := by have := hI.looked s; have := hI.calls; omega
theorem it_vehicle {g : zGT} {Q : zO → zH → Prop} (hg : zG g) (hnx : zNX g) {x m : Nat} {A : Nat → Nat} {out : Nat} {F : Nat → Prop} {hB : zH} {a L : Nat} (hF : zLF m A out F hB) {sv : Nat → Int} (hA : zLA g a sv L) {mi : Nat} (hm : zMi g mi) {o : Nat → Nat} {n : Nat} {S : zS} {h : zH} (y : zLS g x m A out F hB o n S S h) (hS : MOk n S) (hn : n < 512) {i : Int} (hi : 0 ≤ i) (hi5 : i + 5 ≤ L) {mc ms bc bs bc2 bs2 : Nat} (hb : bc2 + 20 ≤ bc) (hb2 : bs2 + 4300 ≤ bs) (k : ∀ o2 S2 h2, zLS g x m A out F hB o2 (n + 1) S2 S2 h2 → MOk (n + 1) S2 → zX g mL_law mc ms Q 2034 [some (.ref a), some (.ref x), some (.ref m), some (.ref out), some (.int (zI i)), none, none, none] [] h2 bc2 bs2) : zX g mL_law mc ms Q 235 [some (.ref a), some (.ref x), some (.ref m), some (.ref out), some (.int (zI i)), none, none, none] [] h bc bs := by
  have hL := hA.2.2.1
  have hz := hA.2.2.2
  have e1 := hS.1.today
  have e2 := hS.1.signs
  have e4 := hS.1.vehicles
  have e12 := hS.1.people
  have e18 := hS.1.allotted
  have e20 := hS.1.rates
  have e31 := hS.1.sightings
  have e36 := hS.1.fines
  refine r_aload_1 236 rfl (dd_L_law_1 9 _ _ _ rfl) ?_
  refine r_aload_0 237 rfl (dd_L_law_1 10 _ _ _ rfl) ?_
  refine r_iload_4 239 rfl (dd_L_law_1 11 _ _ _ rfl) ?_
  refine r_iconst 240 rfl (dd_L_law_1 12 _ _ _ rfl) ?_
  refine r_iadd 241 rfl (dd_L_law_1 13 _ _ _ rfl) ?_
  refine r_scr hA (by omega) (by omega) 242 rfl (dd_L_law_1 14 _ _ _ rfl) ?_
  refine r_aload_0 243 rfl (dd_L_law_1 15 _ _ _ rfl) ?_
  refine r_iload_4 245 rfl (dd_L_law_1 16 _ _ _ rfl) ?_
  refine r_iconst 246 rfl (dd_L_law_1 17 _ _ _ rfl) ?_
  refine r_iadd 247 rfl (dd_L_law_1 18 _ _ _ rfl) ?_
  refine r_scr hA (by omega) (by omega) 248 rfl (dd_L_law_1 19 _ _ _ rfl) ?_
  refine r_aload_0 249 rfl (dd_L_law_1 20 _ _ _ rfl) ?_
  refine r_iload_4 251 rfl (dd_L_law_1 21 _ _ _ rfl) ?_
  refine r_iconst 252 rfl (dd_L_law_1 22 _ _ _ rfl) ?_
  refine r_iadd 253 rfl (dd_L_law_1 23 _ _ _ rfl) ?_
  refine r_scr hA (by omega) (by omega) 254 rfl (dd_L_law_1 24 _ _ _ rfl) ?_
  refine r_aload_3 255 rfl (dd_L_law_1 25 _ _ _ rfl) ?_
  have hw0 : zR (sv (i + 1).toNat) := by exact hz _
  have hw1 : zR (sv (i + 2).toNat) := by exact hz _
  have hw2 : zR (sv (i + 3).toNat) := by exact hz _
  generalize hv0 : (sv (i + 1).toNat) = v0 at *
  generalize hv1 : (sv (i + 2).toNat) = v1 at *
  generalize hv2 : (sv (i + 3).toNat) = v2 at *
  have tail : ∀ (kk : Int) (S2 : zS) (h1 : zH) (o1 : Nat → Nat), zLS g x m A out F hB o1 (n + 1) S2 S h1 → MOk (n + 1) S2 → zR kk → (∀ Q2 : zO → zH → Prop, (∀ h2 v, MI h1 m A S2 kk h2 → zR v → (kk = 0 → aj_ h1 out 0 = v) → Q2 (.inl (some (.int (zI v)))) h2) → zC g (.code yX12_vehicle cX12_vehicle 5 (Option.some Jvm.ClassFile.FieldType.int)) yX12_vehicle 12 0 0 [.ref m, .int (zI v0), .int (zI v1), .int (zI v2)] h1 Q2) → zX g mL_law mc ms Q 258 [some (.ref a), some (.ref x), some (.ref m), some (.ref out), some (.int (zI i)), none, none, none] [.int (zI kk)] h1 bc2 bs2 := by
    intro kk S2 h1 o1 y1 hS2 hkk hmod
    refine r_istore_5 260 rfl (by decide) rfl (dd_L_law_1 27 _ _ _ rfl) ?_
    refine r_aload_2 261 rfl (dd_L_law_1 28 _ _ _ rfl) ?_
    refine r_aload_0 262 rfl (dd_L_law_1 29 _ _ _ rfl) ?_
    refine r_iload_4 264 rfl (dd_L_law_1 30 _ _ _ rfl) ?_
    refine r_iconst 265 rfl (dd_L_law_1 31 _ _ _ rfl) ?_
    refine r_iadd 266 rfl (dd_L_law_1 32 _ _ _ rfl) ?_
    refine r_scr hA (by omega) (by omega) 267 rfl (dd_L_law_1 33 _ _ _ rfl) ?_
    rw [hv0]
    refine r_aload_0 268 rfl (dd_L_law_1 34 _ _ _ rfl) ?_
    refine r_iload_4 270 rfl (dd_L_law_1 35 _ _ _ rfl) ?_
    refine r_iconst 271 rfl (dd_L_law_1 36 _ _ _ rfl) ?_
    refine r_iadd 272 rfl (dd_L_law_1 37 _ _ _ rfl) ?_
    refine r_scr hA (by omega) (by omega) 273 rfl (dd_L_law_1 38 _ _ _ rfl) ?_
    rw [hv1]
    refine r_aload_0 274 rfl (dd_L_law_1 39 _ _ _ rfl) ?_
    refine r_iload_4 276 rfl (dd_L_law_1 40 _ _ _ rfl) ?_
    refine r_iconst 277 rfl (dd_L_law_1 41 _ _ _ rfl) ?_
    refine r_iadd 278 rfl (dd_L_law_1 42 _ _ _ rfl) ?_
    refine r_scr hA (by omega) (by omega) 279 rfl (dd_L_law_1 43 _ _ _ rfl) ?_
    rw [hv2]
    refine r_callV3 (lvl := 12) (mc1 := 0) (ms1 := 0) bc2 bs2 hg rfl md_X12_vehicle zc_X12 y1.2.1.1.1 wi_X12_vehicle wv_X12_vehicle (tb_6 205 _ rfl) (by decide) (by decide) rfl (Nat.le_of_ble_eq_true rfl) (Nat.le_refl _) (Nat.le_refl _) 282 rfl (dd_L_law_1 44 _ _ _ rfl) ?_
    refine hmod _ (fun h2 v z hv he => ?_)
    obtain ⟨y2, q2⟩ := y1.mod hF z
    dsimp only [zCont, Option.toList, List.cons_append, List.nil_append]
    refine r_istore_6 284 rfl (by decide) rfl (dd_L_law_1 45 _ _ _ rfl) ?_
    refine r_aload_2 285 rfl (dd_L_law_1 46 _ _ _ rfl) ?_
    refine r_callV0 (lvl := 10) (mc1 := 0) (ms1 := 0) bc2 bs2 hg rfl md_X12_thrown zc_X12 y2.2.1.1.1 wi_X12_thrown wv_X12_thrown (tb_6 189 _ rfl) (by decide) (by decide) rfl (Nat.le_of_ble_eq_true rfl) (Nat.le_refl _) (Nat.le_refl _) 288 rfl (dd_L_law_1 47 _ _ _ rfl) ?_
    refine c_X12_thrown hg z ?_
    dsimp only [zCont, Option.toList, List.cons_append, List.nil_append]
    refine r_iload_5 290 rfl (dd_L_law_1 48 _ _ _ rfl) ?_
    refine r_if_icmpeq hkk hkk 293 rfl 295 rfl (dd_L_law_1 49 _ _ _ rfl) (fun _ => ?_) (fun q => absurd rfl q)
    refine r_iload_5 297 rfl (dd_L_law_1 52 _ _ _ rfl) ?_
    have fin : zX g mL_law mc ms Q 312 [some (.ref a), some (.ref x), some (.ref m), some (.ref out), some (.int (zI i)), some (.int (zI kk)), some (.int (zI v)), none] [] h2 bc2 bs2 := by
      refine r_goto 2034 rfl (dd_L_law_2 3 _ _ _ rfl) ?_
      refine r_sub [some (.ref a), some (.ref x), some (.ref m), some (.ref out), some (.int (zI i)), none, none, none] (z_s1 (z_s1 (z_s1 (z_s1 (z_s1 (z_s0 (z_s0 (z_s0 z_sN)))))))) ?_
      exact k o1 S2 h2 y2 hS2
    refine r_ifne hkk 300 rfl 312 rfl (dd_L_law_1 53 _ _ _ rfl) (fun _ => fin) (fun hk => ?_)
    refine r_aload_3 301 rfl (dd_L_law_1 54 _ _ _ rfl) ?_
    refine r_iconst 302 rfl (dd_L_law_1 55 _ _ _ rfl) ?_
    refine r_laload hg y2.2.2.2.2.2.2.1 (by decide) (by decide) (by rw [y2.2.2.2.2.2.2.2.1]; decide) 303 rfl (dd_L_law_1 56 _ _ _ rfl) ?_
    rw [show aj_ h2 out (0 : Int).toNat = v from q2.trans (he hk)]
    refine r_iload_6 305 rfl (dd_L_law_1 57 _ _ _ rfl) ?_
    refine r_i2l hv 306 rfl (dd_L_law_1 58 _ _ _ rfl) ?_
    refine r_lcmpe 307 rfl (dd_L_law_1 59 _ _ _ rfl) ?_
    exact r_ifeq (by decide) 310 rfl 312 rfl (dd_L_law_2 0 _ _ _ rfl) (fun _ => fin) (fun q => absurd rfl q)
  refine r_callSH (lvl := 18) (mc1 := 20) (ms1 := 300) (As := [.ref x, .int (zI v0), .int (zI v1), .int (zI v2), .ref out]) bc2 bs2 hg rfl mh_vehicle ws_L_vehicle (tb_1 237 _ rfl) (by decide) (by decide) rfl (Nat.le_of_ble_eq_true rfl) (by omega) (by omega) rfl 258 rfl (dd_L_law_1 26 _ _ _ rfl) ?_
  refine w_vehicle hg hnx y.2.2.2.2.2.2.2.2 (fun Q1 hQ => ?_)
  obtain ⟨⟨Vs, Ps, Ss, Ts, Fs, Tn, A9, G, Rc, yc⟩, yM, -⟩ := id y
  refine c_X11_vehicle hg hm hS.1 yc hw0 hw1 hw2 ?_ ?_ ?_
  · intro c0
    refine hQ _ _ (Or.inl ⟨rfl, ?_⟩)
    refine tail 1 S h o y.next (hS.next hn) (by decide) (fun Q2 hQ2 => ?_)
    have yM1 := y.next.2.1
    refine c_X12_vehicle hg hS.1 (MI.refl yM1) hw0 hw1 hw2 ?_ ?_ ?_
    · intro d0 h2 z
      first | exact hQ2 _ _ z (by first | decide | omega) (fun q => absurd q (by decide)) | (exfalso; first | omega | (simp_all; done) | grind)
    · intro d0 d1 h2 z
      first | exact hQ2 _ _ z (by first | decide | omega) (fun q => absurd q (by decide)) | (exfalso; first | omega | (simp_all; done) | grind)
    · intro d0 d1 h2 z
      first | exact hQ2 _ _ z (by first | decide | omega) (fun q => absurd q (by decide)) | (exfalso; first | omega | (simp_all; done) | grind)
  · intro c0 c1
    refine hQ _ _ (Or.inr (Or.inl ⟨rfl, ?_⟩))
    refine tail 2 S h o y.next (hS.next hn) (by decide) (fun Q2 hQ2 => ?_)
    have yM1 := y.next.2.1
    refine c_X12_vehicle hg hS.1 (MI.refl yM1) hw0 hw1 hw2 ?_ ?_ ?_
    · intro d0 h2 z
      first | exact hQ2 _ _ z (by first | decide | omega) (fun q => absurd q (by decide)) | (exfalso; first | omega | (simp_all; done) | grind)
    · intro d0 d1 h2 z
      first | exact hQ2 _ _ z (by first | decide | omega) (fun q => absurd q (by decide)) | (exfalso; first | omega | (simp_all; done) | grind)
    · intro d0 d1 h2 z
      first | exact hQ2 _ _ z (by first | decide | omega) (fun q => absurd q (by decide)) | (exfalso; first | omega | (simp_all; done) | grind)
  · intro c0 c1 o1 h1 cx st
    have y1 := y.cls hF cx st
    refine hQ _ _ ⟨(S.1 4), rfl, (by first | decide | omega), y1.2.2.2.2.2.2.1, y1.2.2.2.2.2.2.2.1, ?_⟩
    refine tail 0 _ _ o1 (y1.put hF _).1 (ok_vehicle hS hn (by omega) (by omega)) (by decide) (fun Q2 hQ2 => ?_)
    have yM1 := (y1.put hF ((S.1 4))).1.2.1
    refine c_X12_vehicle hg hS.1 (MI.refl yM1) hw0 hw1 hw2 ?_ ?_ ?_
    · intro d0 h2 z
      first | exact hQ2 _ _ z (by first | decide | omega) (fun _ => (y1.put hF _).2) | (exfalso; first | omega | (simp_all; done) | grind)
    · intro d0 d1 h2 z
      first | exact hQ2 _ _ z (by first | decide | omega) (fun _ => (y1.put hF _).2) | (exfalso; first | omega | (simp_all; done) | grind)
    · intro d0 d1 h2 z
      first | exact hQ2 _ _ z (by first | decide | omega) (fun _ => (y1.put hF _).2) | (exfalso; first | omega | (simp_all; done) | grind)
theorem it_stamped {g : zGT} {Q : zO → zH → Prop} (hg : zG g) (hnx : zNX g) {x m : Nat} {A : Nat → Nat} {out : Nat} {F : Nat → Prop} {hB : zH} {a L : Nat} (hF : zLF m A out F hB) {sv : Nat → Int} (hA : zLA g a sv L) {o : Nat → Nat} {n : Nat} {S : zS} {h : zH} (y : zLS g x m A out F hB o n S S h) (hS : MOk n S) (hn : n < 512) {i : Int} (hi : 0 ≤ i) (hi5 : i + 5 ≤ L) {mc ms bc bs bc2 bs2 : Nat} (hb : bc2 + 20 ≤ bc) (hb2 : bs2 + 4300 ≤ bs) (k : ∀ o2 S2 h2, zLS g x m A out F hB o2 (n + 1) S2 S2 h2 → MOk (n + 1) S2 → zX g mL_law mc ms Q 2034 [some (.ref a), some (.ref x), some (.ref m), some (.ref out), some (.int (zI i)), none, none, none] [] h2 bc2 bs2) : zX g mL_law mc ms Q 315 [some (.ref a), some (.ref x), some (.ref m), some (.ref out), some (.int (zI i)), none, none, none] [] h bc bs := by
  have hL := hA.2.2.1
  have hz := hA.2.2.2
  have e1 := hS.1.today
  have e2 := hS.1.signs
  have e4 := hS.1.vehicles
  have e12 := hS.1.people
  have e18 := hS.1.allotted
  have e20 := hS.1.rates
  have e31 := hS.1.sightings
  have e36 := hS.1.fines
  refine r_aload_1 316 rfl (dd_L_law_2 4 _ _ _ rfl) ?_
  refine r_aload_0 317 rfl (dd_L_law_2 5 _ _ _ rfl) ?_
  refine r_iload_4 319 rfl (dd_L_law_2 6 _ _ _ rfl) ?_
  refine r_iconst 320 rfl (dd_L_law_2 7 _ _ _ rfl) ?_
  refine r_iadd 321 rfl (dd_L_law_2 8 _ _ _ rfl) ?_
  refine r_scr hA (by omega) (by omega) 322 rfl (dd_L_law_2 9 _ _ _ rfl) ?_
  refine r_aload_3 323 rfl (dd_L_law_2 10 _ _ _ rfl) ?_
  have hw0 : zR (sv (i + 1).toNat) := by exact hz _
  generalize hv0 : (sv (i + 1).toNat) = v0 at *
  have tail : ∀ (kk : Int) (S2 : zS) (h1 : zH) (o1 : Nat → Nat), zLS g x m A out F hB o1 (n + 1) S2 S h1 → MOk (n + 1) S2 → zR kk → (∀ Q2 : zO → zH → Prop, (∀ h2 v, MI h1 m A S2 kk h2 → zR v → (kk = 0 → aj_ h1 out 0 = v) → Q2 (.inl (some (.int (zI v)))) h2) → zC g (.code yX12_stamped cX12_stamped 3 (Option.some Jvm.ClassFile.FieldType.int)) yX12_stamped 12 0 0 [.ref m, .int (zI v0)] h1 Q2) → zX g mL_law mc ms Q 326 [some (.ref a), some (.ref x), some (.ref m), some (.ref out), some (.int (zI i)), none, none, none] [.int (zI kk)] h1 bc2 bs2 := by
    intro kk S2 h1 o1 y1 hS2 hkk hmod
    refine r_istore_5 328 rfl (by decide) rfl (dd_L_law_2 12 _ _ _ rfl) ?_
    refine r_aload_2 329 rfl (dd_L_law_2 13 _ _ _ rfl) ?_
    refine r_aload_0 330 rfl (dd_L_law_2 14 _ _ _ rfl) ?_
    refine r_iload_4 332 rfl (dd_L_law_2 15 _ _ _ rfl) ?_
    refine r_iconst 333 rfl (dd_L_law_2 16 _ _ _ rfl) ?_
    refine r_iadd 334 rfl (dd_L_law_2 17 _ _ _ rfl) ?_
    refine r_scr hA (by omega) (by omega) 335 rfl (dd_L_law_2 18 _ _ _ rfl) ?_
    rw [hv0]
    refine r_callV1 (lvl := 12) (mc1 := 0) (ms1 := 0) bc2 bs2 hg rfl md_X12_stamped zc_X12 y1.2.1.1.1 wi_X12_stamped wv_X12_stamped (tb_6 219 _ rfl) (by decide) (by decide) rfl (Nat.le_of_ble_eq_true rfl) (Nat.le_refl _) (Nat.le_refl _) 338 rfl (dd_L_law_2 19 _ _ _ rfl) ?_
    refine hmod _ (fun h2 v z hv he => ?_)
    obtain ⟨y2, q2⟩ := y1.mod hF z
    dsimp only [zCont, Option.toList, List.cons_append, List.nil_append]
    refine r_istore_6 340 rfl (by decide) rfl (dd_L_law_2 20 _ _ _ rfl) ?_
    refine r_aload_2 341 rfl (dd_L_law_2 21 _ _ _ rfl) ?_
    refine r_callV0 (lvl := 10) (mc1 := 0) (ms1 := 0) bc2 bs2 hg rfl md_X12_thrown zc_X12 y2.2.1.1.1 wi_X12_thrown wv_X12_thrown (tb_6 189 _ rfl) (by decide) (by decide) rfl (Nat.le_of_ble_eq_true rfl) (Nat.le_refl _) (Nat.le_refl _) 344 rfl (dd_L_law_2 22 _ _ _ rfl) ?_
    refine c_X12_thrown hg z ?_
    dsimp only [zCont, Option.toList, List.cons_append, List.nil_append]
    refine r_iload_5 346 rfl (dd_L_law_2 23 _ _ _ rfl) ?_
    refine r_if_icmpeq hkk hkk 349 rfl 351 rfl (dd_L_law_2 24 _ _ _ rfl) (fun _ => ?_) (fun q => absurd rfl q)
    refine r_iload_5 353 rfl (dd_L_law_2 27 _ _ _ rfl) ?_
    have fin : zX g mL_law mc ms Q 368 [some (.ref a), some (.ref x), some (.ref m), some (.ref out), some (.int (zI i)), some (.int (zI kk)), some (.int (zI v)), none] [] h2 bc2 bs2 := by
      refine r_goto 2034 rfl (dd_L_law_2 38 _ _ _ rfl) ?_
      refine r_sub [some (.ref a), some (.ref x), some (.ref m), some (.ref out), some (.int (zI i)), none, none, none] (z_s1 (z_s1 (z_s1 (z_s1 (z_s1 (z_s0 (z_s0 (z_s0 z_sN)))))))) ?_
      exact k o1 S2 h2 y2 hS2
    refine r_ifne hkk 356 rfl 368 rfl (dd_L_law_2 28 _ _ _ rfl) (fun _ => fin) (fun hk => ?_)
    refine r_aload_3 357 rfl (dd_L_law_2 29 _ _ _ rfl) ?_
    refine r_iconst 358 rfl (dd_L_law_2 30 _ _ _ rfl) ?_
    refine r_laload hg y2.2.2.2.2.2.2.1 (by decide) (by decide) (by rw [y2.2.2.2.2.2.2.2.1]; decide) 359 rfl (dd_L_law_2 31 _ _ _ rfl) ?_
    rw [show aj_ h2 out (0 : Int).toNat = v from q2.trans (he hk)]
    refine r_iload_6 361 rfl (dd_L_law_2 32 _ _ _ rfl) ?_
    refine r_i2l hv 362 rfl (dd_L_law_2 33 _ _ _ rfl) ?_
    refine r_lcmpe 363 rfl (dd_L_law_2 34 _ _ _ rfl) ?_
    exact r_ifeq (by decide) 366 rfl 368 rfl (dd_L_law_2 35 _ _ _ rfl) (fun _ => fin) (fun q => absurd rfl q)
  refine r_callSH (lvl := 15) (mc1 := 4) (ms1 := 40) (As := [.ref x, .int (zI v0), .ref out]) bc2 bs2 hg rfl mh_stamped ws_L_stamped (tb_2 223 _ rfl) (by decide) (by decide) rfl (Nat.le_of_ble_eq_true rfl) (by omega) (by omega) rfl 326 rfl (dd_L_law_2 11 _ _ _ rfl) ?_
  refine w_stamped hg hnx y.2.2.2.2.2.2.2.2 (fun Q1 hQ => ?_)
  obtain ⟨⟨Vs, Ps, Ss, Ts, Fs, Tn, A9, G, Rc, yc⟩, yM, -⟩ := id y
  refine c_X11_stamped hg hS.1 yc hw0 ?_ ?_
  · intro c0
    refine hQ _ _ (Or.inl ⟨rfl, ?_⟩)
    refine tail 1 S h o y.next (hS.next hn) (by decide) (fun Q2 hQ2 => ?_)
    have yM1 := y.next.2.1
    refine c_X12_stamped hg hS.1 (MI.refl yM1) hw0 ?_ ?_
    · intro d0 h2 z
      first | exact hQ2 _ _ z (by first | decide | omega | exact zvof_R hS.1) (fun q => absurd q (by decide)) | (exfalso; first | omega | (simp_all; done) | grind)
    · intro d0 h2 z
      first | exact hQ2 _ _ z (by first | decide | omega | exact zvof_R hS.1) (fun q => absurd q (by decide)) | (exfalso; first | omega | (simp_all; done) | grind)
  · intro c0
    have y1 := y.next
    refine hQ _ _ ⟨(zvof S (v0 / 10) (S.1 4).toNat), rfl, (by first | decide | omega | exact zvof_R hS.1), y1.2.2.2.2.2.2.1, y1.2.2.2.2.2.2.2.1, ?_⟩
    refine tail 0 _ _ o (y1.put hF _).1 (hS.next hn) (by decide) (fun Q2 hQ2 => ?_)
    have yM1 := (y1.put hF ((zvof S (v0 / 10) (S.1 4).toNat))).1.2.1
    refine c_X12_stamped hg hS.1 (MI.refl yM1) hw0 ?_ ?_
    · intro d0 h2 z
      first | exact hQ2 _ _ z (by first | decide | omega | exact zvof_R hS.1) (fun _ => (y1.put hF _).2) | (exfalso; first | omega | (simp_all; done) | grind)
    · intro d0 h2 z
      first | exact hQ2 _ _ z (by first | decide | omega | exact zvof_R hS.1) (fun _ => (y1.put hF _).2) | (exfalso; first | omega | (simp_all; done) | grind)
theorem it_protect {g : zGT} {Q : zO → zH → Prop} (hg : zG g) (hnx : zNX g) {x m : Nat} {A : Nat → Nat} {out : Nat} {F : Nat → Prop} {hB : zH} {a L : Nat} (hF : zLF m A out F hB) {sv : Nat → Int} (hA : zLA g a sv L) {o : Nat → Nat} {n : Nat} {S : zS} {h : zH} (y : zLS g x m A out F hB o n S S h) (hS : MOk n S) (hn : n < 512) {i : Int} (hi : 0 ≤ i) (hi5 : i + 5 ≤ L) {mc ms bc bs bc2 bs2 : Nat} (hb : bc2 + 20 ≤ bc) (hb2 : bs2 + 4300 ≤ bs) (k : ∀ o2 S2 h2, zLS g x m A out F hB o2 (n + 1) S2 S2 h2 → MOk (n + 1) S2 → zX g mL_law mc ms Q 2034 [some (.ref a), some (.ref x), some (.ref m), some (.ref out), some (.int (zI i)), none, none, none] [] h2 bc2 bs2) : zX g mL_law mc ms Q 415 [some (.ref a), some (.ref x), some (.ref m), some (.ref out), some (.int (zI i)), none, none, none] [] h bc bs := by
  have hL := hA.2.2.1
  have hz := hA.2.2.2
  have e1 := hS.1.today
  have e2 := hS.1.signs
  have e4 := hS.1.vehicles
  have e12 := hS.1.people
  have e18 := hS.1.allotted
  have e20 := hS.1.rates
  have e31 := hS.1.sightings
  have e36 := hS.1.fines
  refine r_aload_1 416 rfl (dd_L_law_3 4 _ _ _ rfl) ?_
  refine r_aload_0 417 rfl (dd_L_law_3 5 _ _ _ rfl) ?_
  refine r_iload_4 419 rfl (dd_L_law_3 6 _ _ _ rfl) ?_
  refine r_iconst 420 rfl (dd_L_law_3 7 _ _ _ rfl) ?_
  refine r_iadd 421 rfl (dd_L_law_3 8 _ _ _ rfl) ?_
  refine r_scr hA (by omega) (by omega) 422 rfl (dd_L_law_3 9 _ _ _ rfl) ?_
  refine r_aload_0 423 rfl (dd_L_law_3 10 _ _ _ rfl) ?_
  refine r_iload_4 425 rfl (dd_L_law_3 11 _ _ _ rfl) ?_
  refine r_iconst 426 rfl (dd_L_law_3 12 _ _ _ rfl) ?_
  refine r_iadd 427 rfl (dd_L_law_3 13 _ _ _ rfl) ?_
  refine r_scr hA (by omega) (by omega) 428 rfl (dd_L_law_3 14 _ _ _ rfl) ?_
  refine r_bool (hz _) 436 rfl rfl rfl rfl (dd_L_law_3 15 _ _ _ rfl) (dd_L_law_3 16 _ _ _ rfl) (dd_L_law_3 17 _ _ _ rfl) (dd_L_law_3 18 _ _ _ rfl) ?_
  refine r_aload_3 437 rfl (dd_L_law_3 19 _ _ _ rfl) ?_
  have hw0 : zR (sv (i + 1).toNat) := by exact hz _
  have hw1 : zR (zTrue (sv (i + 2).toNat)) := by rcases zTrue_01 (sv (i + 2).toNat) with q | q <;> (rw [q]; decide)
  have hr1 : (zTrue (sv (i + 2).toNat)) = 0 ∨ (zTrue (sv (i + 2).toNat)) = 1 := zTrue_01 _
  generalize hv0 : (sv (i + 1).toNat) = v0 at *
  generalize hv1 : (zTrue (sv (i + 2).toNat)) = v1 at *
  have tail : ∀ (kk : Int) (S2 : zS) (h1 : zH) (o1 : Nat → Nat), zLS g x m A out F hB o1 (n + 1) S2 S h1 → MOk (n + 1) S2 → zR kk → (∀ Q2 : zO → zH → Prop, (∀ h2 v, MI h1 m A S2 kk h2 → (v = 0 ∨ v = 1) → (kk = 0 → aj_ h1 out 0 = v) → Q2 (.inl (some (.int (zI v)))) h2) → zC g (.code yX12_protect cX12_protect 4 (Option.some Jvm.ClassFile.FieldType.boolean)) yX12_protect 12 0 0 [.ref m, .int (zI v0), .int (zI v1)] h1 Q2) → zX g mL_law mc ms Q 440 [some (.ref a), some (.ref x), some (.ref m), some (.ref out), some (.int (zI i)), none, none, none] [.int (zI kk)] h1 bc2 bs2 := by
    intro kk S2 h1 o1 y1 hS2 hkk hmod
    refine r_istore_5 442 rfl (by decide) rfl (dd_L_law_3 21 _ _ _ rfl) ?_
    refine r_aload_2 443 rfl (dd_L_law_3 22 _ _ _ rfl) ?_
    refine r_aload_0 444 rfl (dd_L_law_3 23 _ _ _ rfl) ?_
    refine r_iload_4 446 rfl (dd_L_law_3 24 _ _ _ rfl) ?_
    refine r_iconst 447 rfl (dd_L_law_3 25 _ _ _ rfl) ?_
    refine r_iadd 448 rfl (dd_L_law_3 26 _ _ _ rfl) ?_
    refine r_scr hA (by omega) (by omega) 449 rfl (dd_L_law_3 27 _ _ _ rfl) ?_
    rw [hv0]
    refine r_aload_0 450 rfl (dd_L_law_3 28 _ _ _ rfl) ?_
    refine r_iload_4 452 rfl (dd_L_law_3 29 _ _ _ rfl) ?_
    refine r_iconst 453 rfl (dd_L_law_3 30 _ _ _ rfl) ?_
    refine r_iadd 454 rfl (dd_L_law_3 31 _ _ _ rfl) ?_
    refine r_scr hA (by omega) (by omega) 455 rfl (dd_L_law_3 32 _ _ _ rfl) ?_
    refine r_bool (hz _) 463 rfl rfl rfl rfl (dd_L_law_3 33 _ _ _ rfl) (dd_L_law_3 34 _ _ _ rfl) (dd_L_law_3 35 _ _ _ rfl) (dd_L_law_3 36 _ _ _ rfl) ?_
    rw [hv1]
    refine r_callV2 (lvl := 12) (mc1 := 0) (ms1 := 0) bc2 bs2 hg rfl md_X12_protect zc_X12 y1.2.1.1.1 wi_X12_protect wv_X12_protect (tb_6 228 _ rfl) (by decide) (by decide) rfl (Nat.le_of_ble_eq_true rfl) (Nat.le_refl _) (Nat.le_refl _) 466 rfl (dd_L_law_3 37 _ _ _ rfl) ?_
    refine hmod _ (fun h2 v z hv he => ?_)
    obtain ⟨y2, q2⟩ := y1.mod hF z
    dsimp only [zCont, Option.toList, List.cons_append, List.nil_append]
    refine r_istore_6 468 rfl (by decide) rfl (dd_L_law_3 38 _ _ _ rfl) ?_
    refine r_aload_2 469 rfl (dd_L_law_3 39 _ _ _ rfl) ?_
    refine r_callV0 (lvl := 10) (mc1 := 0) (ms1 := 0) bc2 bs2 hg rfl md_X12_thrown zc_X12 y2.2.1.1.1 wi_X12_thrown wv_X12_thrown (tb_6 189 _ rfl) (by decide) (by decide) rfl (Nat.le_of_ble_eq_true rfl) (Nat.le_refl _) (Nat.le_refl _) 472 rfl (dd_L_law_3 40 _ _ _ rfl) ?_
    refine c_X12_thrown hg z ?_
    dsimp only [zCont, Option.toList, List.cons_append, List.nil_append]
    refine r_iload_5 474 rfl (dd_L_law_3 41 _ _ _ rfl) ?_
    refine r_if_icmpeq hkk hkk 477 rfl 479 rfl (dd_L_law_3 42 _ _ _ rfl) (fun _ => ?_) (fun q => absurd rfl q)
    refine r_iload_5 481 rfl (dd_L_law_3 45 _ _ _ rfl) ?_
    have fin : zX g mL_law mc ms Q 503 [some (.ref a), some (.ref x), some (.ref m), some (.ref out), some (.int (zI i)), some (.int (zI kk)), some (.int (zI v)), none] [] h2 bc2 bs2 := by
      refine r_goto 2034 rfl (dd_L_law_3 59 _ _ _ rfl) ?_
      refine r_sub [some (.ref a), some (.ref x), some (.ref m), some (.ref out), some (.int (zI i)), none, none, none] (z_s1 (z_s1 (z_s1 (z_s1 (z_s1 (z_s0 (z_s0 (z_s0 z_sN)))))))) ?_
      exact k o1 S2 h2 y2 hS2
    refine r_ifne hkk 484 rfl 503 rfl (dd_L_law_3 46 _ _ _ rfl) (fun _ => fin) (fun hk => ?_)
    refine r_aload_3 485 rfl (dd_L_law_3 47 _ _ _ rfl) ?_
    refine r_iconst 486 rfl (dd_L_law_3 48 _ _ _ rfl) ?_
    refine r_laload hg y2.2.2.2.2.2.2.1 (by decide) (by decide) (by rw [y2.2.2.2.2.2.2.2.1]; decide) 487 rfl (dd_L_law_3 49 _ _ _ rfl) ?_
    rw [show aj_ h2 out (0 : Int).toNat = v from q2.trans (he hk)]
    refine r_iload_6 489 rfl (dd_L_law_3 50 _ _ _ rfl) ?_
    refine r_boolL hv 497 rfl rfl rfl rfl (dd_L_law_3 51 _ _ _ rfl) (dd_L_law_3 52 _ _ _ rfl) (dd_L_law_3 53 _ _ _ rfl) (dd_L_law_3 54 _ _ _ rfl) ?_
    refine r_lcmpe 498 rfl (dd_L_law_3 55 _ _ _ rfl) ?_
    exact r_ifeq (by decide) 501 rfl 503 rfl (dd_L_law_3 56 _ _ _ rfl) (fun _ => fin) (fun q => absurd rfl q)
  refine r_callSH (lvl := 15) (mc1 := 4) (ms1 := 40) (As := [.ref x, .int (zI v0), .int (zI v1), .ref out]) bc2 bs2 hg rfl mh_protect ws_L_protect (tb_3 16 _ rfl) (by decide) (by decide) rfl (Nat.le_of_ble_eq_true rfl) (by omega) (by omega) rfl 440 rfl (dd_L_law_3 20 _ _ _ rfl) ?_
  refine w_protect hg hnx y.2.2.2.2.2.2.2.2 (fun Q1 hQ => ?_)
  obtain ⟨⟨Vs, Ps, Ss, Ts, Fs, Tn, A9, G, Rc, yc⟩, yM, -⟩ := id y
  refine c_X11_protect hg hS.1 yc hw0 (by omega) ?_ ?_
  · intro c0
    refine hQ _ _ (Or.inl ⟨rfl, ?_⟩)
    refine tail 1 S h o y.next (hS.next hn) (by decide) (fun Q2 hQ2 => ?_)
    have yM1 := y.next.2.1
    refine c_X12_protect hg hS.1 (MI.refl yM1) hw0 (by omega) ?_ ?_
    · intro d0 h2 z
      first | exact hQ2 _ _ z (by first | decide | exact Or.inl rfl | exact Or.inr rfl | exact hS.1.prot _ | exact hS.1.barred _ | omega) (fun q => absurd q (by decide)) | (exfalso; first | omega | (simp_all; done) | grind)
    · intro d0 h2 z
      first | exact hQ2 _ _ z (by first | decide | exact Or.inl rfl | exact Or.inr rfl | exact hS.1.prot _ | exact hS.1.barred _ | omega) (fun q => absurd q (by decide)) | (exfalso; first | omega | (simp_all; done) | grind)
  · intro p c1 c2 o1 h1 cx st
    have y1 := y.cls hF cx st
    obtain rfl : p = v0.toNat := by omega
    refine hQ _ _ ⟨(S.2 13 v0.toNat), rfl, (by first | exact Or.inl rfl | exact Or.inr rfl | exact hS.1.prot _ | exact hS.1.barred _ | omega), y1.2.2.2.2.2.2.1, y1.2.2.2.2.2.2.2.1, ?_⟩
    refine tail 0 _ _ o1 (y1.put hF _).1 (ok_protect hS hn hr1) (by decide) (fun Q2 hQ2 => ?_)
    have yM1 := (y1.put hF ((S.2 13 v0.toNat))).1.2.1
    refine c_X12_protect hg hS.1 (MI.refl yM1) hw0 (by omega) ?_ ?_
    · intro d0 h2 z
      first | exact hQ2 _ _ z (by first | decide | exact Or.inl rfl | exact Or.inr rfl | exact hS.1.prot _ | exact hS.1.barred _ | omega) (fun _ => (y1.put hF _).2) | (exfalso; first | omega | (simp_all; done) | grind)
    · intro d0 h2 z
      first | exact hQ2 _ _ z (by first | decide | exact Or.inl rfl | exact Or.inr rfl | exact hS.1.prot _ | exact hS.1.barred _ | omega) (fun _ => (y1.put hF _).2) | (exfalso; first | omega | (simp_all; done) | grind)
theorem it_on {g : zGT} {Q : zO → zH → Prop} (hg : zG g) (hnx : zNX g) {x m : Nat} {A : Nat → Nat} {out : Nat} {F : Nat → Prop} {hB : zH} {a L : Nat} (hF : zLF m A out F hB) {sv : Nat → Int} (hA : zLA g a sv L) {o : Nat → Nat} {n : Nat} {S : zS} {h : zH} (y : zLS g x m A out F hB o n S S h) (hS : MOk n S) (hn : n < 512) {i : Int} (hi : 0 ≤ i) (hi5 : i + 5 ≤ L) {mc ms bc bs bc2 bs2 : Nat} (hb : bc2 + 20 ≤ bc) (hb2 : bs2 + 4300 ≤ bs) (k : ∀ o2 S2 h2, zLS g x m A out F hB o2 (n + 1) S2 S2 h2 → MOk (n + 1) S2 → zX g mL_law mc ms Q 2034 [some (.ref a), some (.ref x), some (.ref m), some (.ref out), some (.int (zI i)), none, none, none] [] h2 bc2 bs2) : zX g mL_law mc ms Q 598 [some (.ref a), some (.ref x), some (.ref m), some (.ref out), some (.int (zI i)), none, none, none] [] h bc bs := by
  have hL := hA.2.2.1
  have hz := hA.2.2.2
  have e1 := hS.1.today
  have e2 := hS.1.signs
  have e4 := hS.1.vehicles
  have e12 := hS.1.people
  have e18 := hS.1.allotted
  have e20 := hS.1.rates
  have e31 := hS.1.sightings
  have e36 := hS.1.fines
  refine r_aload_1 599 rfl (dd_L_law_5 5 _ _ _ rfl) ?_
  refine r_aload_0 600 rfl (dd_L_law_5 6 _ _ _ rfl) ?_
  refine r_iload_4 602 rfl (dd_L_law_5 7 _ _ _ rfl) ?_
  refine r_iconst 603 rfl (dd_L_law_5 8 _ _ _ rfl) ?_
  refine r_iadd 604 rfl (dd_L_law_5 9 _ _ _ rfl) ?_
  refine r_scr hA (by omega) (by omega) 605 rfl (dd_L_law_5 10 _ _ _ rfl) ?_
  refine r_aload_0 606 rfl (dd_L_law_5 11 _ _ _ rfl) ?_
  refine r_iload_4 608 rfl (dd_L_law_5 12 _ _ _ rfl) ?_
  refine r_iconst 609 rfl (dd_L_law_5 13 _ _ _ rfl) ?_
  refine r_iadd 610 rfl (dd_L_law_5 14 _ _ _ rfl) ?_
  refine r_scr hA (by omega) (by omega) 611 rfl (dd_L_law_5 15 _ _ _ rfl) ?_
  refine r_aload_0 612 rfl (dd_L_law_5 16 _ _ _ rfl) ?_
  refine r_iload_4 614 rfl (dd_L_law_5 17 _ _ _ rfl) ?_
  refine r_iconst 615 rfl (dd_L_law_5 18 _ _ _ rfl) ?_
  refine r_iadd 616 rfl (dd_L_law_5 19 _ _ _ rfl) ?_
  refine r_scr hA (by omega) (by omega) 617 rfl (dd_L_law_5 20 _ _ _ rfl) ?_
  refine r_aload_3 618 rfl (dd_L_law_5 21 _ _ _ rfl) ?_
  have hw0 : zR (sv (i + 1).toNat) := by exact hz _
  have hw1 : zR (sv (i + 2).toNat) := by exact hz _
  have hw2 : zR (sv (i + 3).toNat) := by exact hz _
  generalize hv0 : (sv (i + 1).toNat) = v0 at *
  generalize hv1 : (sv (i + 2).toNat) = v1 at *
  generalize hv2 : (sv (i + 3).toNat) = v2 at *
  have tail : ∀ (kk : Int) (S2 : zS) (h1 : zH) (o1 : Nat → Nat), zLS g x m A out F hB o1 (n + 1) S2 S h1 → MOk (n + 1) S2 → zR kk → (∀ Q2 : zO → zH → Prop, (∀ h2 v, MI h1 m A S2 kk h2 → zR v → (kk = 0 → aj_ h1 out 0 = v) → Q2 (.inl (some (.int (zI v)))) h2) → zC g (.code yX12_on cX12_on 4 (Option.some Jvm.ClassFile.FieldType.int)) yX12_on 13 0 0 [.ref m, .int (zI v0), .int (zI v1), .int (zI v2)] h1 Q2) → zX g mL_law mc ms Q 621 [some (.ref a), some (.ref x), some (.ref m), some (.ref out), some (.int (zI i)), none, none, none] [.int (zI kk)] h1 bc2 bs2 := by
    intro kk S2 h1 o1 y1 hS2 hkk hmod
    refine r_istore_5 623 rfl (by decide) rfl (dd_L_law_5 23 _ _ _ rfl) ?_
    refine r_aload_2 624 rfl (dd_L_law_5 24 _ _ _ rfl) ?_
    refine r_aload_0 625 rfl (dd_L_law_5 25 _ _ _ rfl) ?_
    refine r_iload_4 627 rfl (dd_L_law_5 26 _ _ _ rfl) ?_
    refine r_iconst 628 rfl (dd_L_law_5 27 _ _ _ rfl) ?_
    refine r_iadd 629 rfl (dd_L_law_5 28 _ _ _ rfl) ?_
    refine r_scr hA (by omega) (by omega) 630 rfl (dd_L_law_5 29 _ _ _ rfl) ?_
    rw [hv0]
    refine r_aload_0 631 rfl (dd_L_law_5 30 _ _ _ rfl) ?_
    refine r_iload_4 633 rfl (dd_L_law_5 31 _ _ _ rfl) ?_
    refine r_iconst 634 rfl (dd_L_law_5 32 _ _ _ rfl) ?_
    refine r_iadd 635 rfl (dd_L_law_5 33 _ _ _ rfl) ?_
    refine r_scr hA (by omega) (by omega) 636 rfl (dd_L_law_5 34 _ _ _ rfl) ?_
    rw [hv1]
    refine r_aload_0 637 rfl (dd_L_law_5 35 _ _ _ rfl) ?_
    refine r_iload_4 639 rfl (dd_L_law_5 36 _ _ _ rfl) ?_
    refine r_iconst 640 rfl (dd_L_law_5 37 _ _ _ rfl) ?_
    refine r_iadd 641 rfl (dd_L_law_5 38 _ _ _ rfl) ?_
    refine r_scr hA (by omega) (by omega) 642 rfl (dd_L_law_5 39 _ _ _ rfl) ?_
    rw [hv2]
    refine r_callV3 (lvl := 13) (mc1 := 0) (ms1 := 0) bc2 bs2 hg rfl md_X12_on zc_X12 y1.2.1.1.1 wi_X12_on wv_X12_on (tb_7 8 _ rfl) (by decide) (by decide) rfl (Nat.le_of_ble_eq_true rfl) (Nat.le_refl _) (Nat.le_refl _) 645 rfl (dd_L_law_5 40 _ _ _ rfl) ?_
    refine hmod _ (fun h2 v z hv he => ?_)
    obtain ⟨y2, q2⟩ := y1.mod hF z
    dsimp only [zCont, Option.toList, List.cons_append, List.nil_append]
    refine r_istore_6 647 rfl (by decide) rfl (dd_L_law_5 41 _ _ _ rfl) ?_
    refine r_aload_2 648 rfl (dd_L_law_5 42 _ _ _ rfl) ?_
    refine r_callV0 (lvl := 10) (mc1 := 0) (ms1 := 0) bc2 bs2 hg rfl md_X12_thrown zc_X12 y2.2.1.1.1 wi_X12_thrown wv_X12_thrown (tb_6 189 _ rfl) (by decide) (by decide) rfl (Nat.le_of_ble_eq_true rfl) (Nat.le_refl _) (Nat.le_refl _) 651 rfl (dd_L_law_5 43 _ _ _ rfl) ?_
    refine c_X12_thrown hg z ?_
    dsimp only [zCont, Option.toList, List.cons_append, List.nil_append]
    refine r_iload_5 653 rfl (dd_L_law_5 44 _ _ _ rfl) ?_
    refine r_if_icmpeq hkk hkk 656 rfl 658 rfl (dd_L_law_5 45 _ _ _ rfl) (fun _ => ?_) (fun q => absurd rfl q)
    refine r_iload_5 660 rfl (dd_L_law_5 48 _ _ _ rfl) ?_
    have fin : zX g mL_law mc ms Q 675 [some (.ref a), some (.ref x), some (.ref m), some (.ref out), some (.int (zI i)), some (.int (zI kk)), some (.int (zI v)), none] [] h2 bc2 bs2 := by
      refine r_goto 2034 rfl (dd_L_law_5 59 _ _ _ rfl) ?_
      refine r_sub [some (.ref a), some (.ref x), some (.ref m), some (.ref out), some (.int (zI i)), none, none, none] (z_s1 (z_s1 (z_s1 (z_s1 (z_s1 (z_s0 (z_s0 (z_s0 z_sN)))))))) ?_
      exact k o1 S2 h2 y2 hS2
    refine r_ifne hkk 663 rfl 675 rfl (dd_L_law_5 49 _ _ _ rfl) (fun _ => fin) (fun hk => ?_)
    refine r_aload_3 664 rfl (dd_L_law_5 50 _ _ _ rfl) ?_
    refine r_iconst 665 rfl (dd_L_law_5 51 _ _ _ rfl) ?_
    refine r_laload hg y2.2.2.2.2.2.2.1 (by decide) (by decide) (by rw [y2.2.2.2.2.2.2.2.1]; decide) 666 rfl (dd_L_law_5 52 _ _ _ rfl) ?_
    rw [show aj_ h2 out (0 : Int).toNat = v from q2.trans (he hk)]
    refine r_iload_6 668 rfl (dd_L_law_5 53 _ _ _ rfl) ?_
    refine r_i2l hv 669 rfl (dd_L_law_5 54 _ _ _ rfl) ?_
    refine r_lcmpe 670 rfl (dd_L_law_5 55 _ _ _ rfl) ?_
    exact r_ifeq (by decide) 673 rfl 675 rfl (dd_L_law_5 56 _ _ _ rfl) (fun _ => fin) (fun q => absurd rfl q)
  refine r_callSH (lvl := 16) (mc1 := 4) (ms1 := 40) (As := [.ref x, .int (zI v0), .int (zI v1), .int (zI v2), .ref out]) bc2 bs2 hg rfl mh_on ws_L_on (tb_4 132 _ rfl) (by decide) (by decide) rfl (Nat.le_of_ble_eq_true rfl) (by omega) (by omega) rfl 621 rfl (dd_L_law_5 22 _ _ _ rfl) ?_
  refine w_on hg hnx y.2.2.2.2.2.2.2.2 (fun Q1 hQ => ?_)
  obtain ⟨⟨Vs, Ps, Ss, Ts, Fs, Tn, A9, G, Rc, yc⟩, yM, -⟩ := id y
  refine c_X11_on hg hS.1 yc hw0 hw1 hw2 ?_ ?_ ?_
  · intro c0
    refine hQ _ _ (Or.inl ⟨rfl, ?_⟩)
    refine tail 1 S h o y.next (hS.next hn) (by decide) (fun Q2 hQ2 => ?_)
    have yM1 := y.next.2.1
    refine c_X12_on hg hS.1 (MI.refl yM1) hw0 hw1 hw2 ?_ ?_ ?_
    · intro d0 h2 z
      first | exact hQ2 _ _ z (by first | decide | omega | exact zon_R hS.1) (fun q => absurd q (by decide)) | (exfalso; first | omega | (simp_all; done) | grind)
    · intro d0 d1 h2 z
      first | exact hQ2 _ _ z (by first | decide | omega | exact zon_R hS.1) (fun q => absurd q (by decide)) | (exfalso; first | omega | (simp_all; done) | grind)
    · intro u9 d1 d2 d3 d4 h2 z
      first | exact hQ2 _ _ z (by first | decide | omega | exact zon_R hS.1) (fun q => absurd q (by decide)) | (exfalso; first | omega | (simp_all; done) | grind)
  · intro u c1 c2 c3
    refine hQ _ _ (Or.inr (Or.inl ⟨rfl, ?_⟩))
    refine tail 2 S h o y.next (hS.next hn) (by decide) (fun Q2 hQ2 => ?_)
    have yM1 := y.next.2.1
    refine c_X12_on hg hS.1 (MI.refl yM1) hw0 hw1 hw2 ?_ ?_ ?_
    · intro d0 h2 z
      first | exact hQ2 _ _ z (by first | decide | omega | exact zon_R hS.1) (fun q => absurd q (by decide)) | (exfalso; first | omega | (simp_all; done) | grind)
    · intro d0 d1 h2 z
      first | exact hQ2 _ _ z (by first | decide | omega | exact zon_R hS.1) (fun q => absurd q (by decide)) | (exfalso; first | omega | (simp_all; done) | grind)
    · intro u9 d1 d2 d3 d4 h2 z
      obtain rfl : u = u9 := by omega
      first | exact hQ2 _ _ z (by first | decide | omega | exact zon_R hS.1) (fun q => absurd q (by decide)) | (exfalso; first | omega | (simp_all; done) | grind)
  · intro u c1 c2 c3
    have y1 := y.next
    refine hQ _ _ ⟨(if v2 = 0 then zstate S u v1 else if v2 = 1 then zlast S u v1 0 (-1) else if v2 = 2 then zlast S u v1 1 (-1) else zlast S u v1 7 (S.2 7 u)), rfl, (by first | decide | omega | exact zon_R hS.1), y1.2.2.2.2.2.2.1, y1.2.2.2.2.2.2.2.1, ?_⟩
    refine tail 0 _ _ o (y1.put hF _).1 (hS.next hn) (by decide) (fun Q2 hQ2 => ?_)
    have yM1 := (y1.put hF ((if v2 = 0 then zstate S u v1 else if v2 = 1 then zlast S u v1 0 (-1) else if v2 = 2 then zlast S u v1 1 (-1) else zlast S u v1 7 (S.2 7 u)))).1.2.1
    refine c_X12_on hg hS.1 (MI.refl yM1) hw0 hw1 hw2 ?_ ?_ ?_
    · intro d0 h2 z
      first | exact hQ2 _ _ z (by first | decide | omega | exact zon_R hS.1) (fun _ => (y1.put hF _).2) | (exfalso; first | omega | (simp_all; done) | grind)
    · intro d0 d1 h2 z
      first | exact hQ2 _ _ z (by first | decide | omega | exact zon_R hS.1) (fun _ => (y1.put hF _).2) | (exfalso; first | omega | (simp_all; done) | grind)
    · intro u9 d1 d2 d3 d4 h2 z
      obtain rfl : u = u9 := by omega
      first | exact hQ2 _ _ z (by first | decide | omega | exact zon_R hS.1) (fun _ => (y1.put hF _).2) | (exfalso; first | omega | (simp_all; done) | grind)
theorem it_onAnew {g : zGT} {Q : zO → zH → Prop} (hg : zG g) (hnx : zNX g) {x m : Nat} {A : Nat → Nat} {out : Nat} {F : Nat → Prop} {hB : zH} {a L : Nat} (hF : zLF m A out F hB) {sv : Nat → Int} (hA : zLA g a sv L) {o : Nat → Nat} {n : Nat} {S : zS} {h : zH} (y : zLS g x m A out F hB o n S S h) (hS : MOk n S) (hn : n < 512) {i : Int} (hi : 0 ≤ i) (hi5 : i + 5 ≤ L) {mc ms bc bs bc2 bs2 : Nat} (hb : bc2 + 20 ≤ bc) (hb2 : bs2 + 4300 ≤ bs) (k : ∀ o2 S2 h2, zLS g x m A out F hB o2 (n + 1) S2 S2 h2 → MOk (n + 1) S2 → zX g mL_law mc ms Q 2034 [some (.ref a), some (.ref x), some (.ref m), some (.ref out), some (.int (zI i)), none, none, none] [] h2 bc2 bs2) : zX g mL_law mc ms Q 678 [some (.ref a), some (.ref x), some (.ref m), some (.ref out), some (.int (zI i)), none, none, none] [] h bc bs := by
  have hL := hA.2.2.1
  have hz := hA.2.2.2
  have e1 := hS.1.today
  have e2 := hS.1.signs
  have e4 := hS.1.vehicles
  have e12 := hS.1.people
  have e18 := hS.1.allotted
  have e20 := hS.1.rates
  have e31 := hS.1.sightings
  have e36 := hS.1.fines
  refine r_aload_1 679 rfl (dd_L_law_6 0 _ _ _ rfl) ?_
  refine r_aload_0 680 rfl (dd_L_law_6 1 _ _ _ rfl) ?_
  refine r_iload_4 682 rfl (dd_L_law_6 2 _ _ _ rfl) ?_
  refine r_iconst 683 rfl (dd_L_law_6 3 _ _ _ rfl) ?_
  refine r_iadd 684 rfl (dd_L_law_6 4 _ _ _ rfl) ?_
  refine r_scr hA (by omega) (by omega) 685 rfl (dd_L_law_6 5 _ _ _ rfl) ?_
  refine r_aload_0 686 rfl (dd_L_law_6 6 _ _ _ rfl) ?_
  refine r_iload_4 688 rfl (dd_L_law_6 7 _ _ _ rfl) ?_
  refine r_iconst 689 rfl (dd_L_law_6 8 _ _ _ rfl) ?_
  refine r_iadd 690 rfl (dd_L_law_6 9 _ _ _ rfl) ?_
  refine r_scr hA (by omega) (by omega) 691 rfl (dd_L_law_6 10 _ _ _ rfl) ?_
  refine r_aload_0 692 rfl (dd_L_law_6 11 _ _ _ rfl) ?_
  refine r_iload_4 694 rfl (dd_L_law_6 12 _ _ _ rfl) ?_
  refine r_iconst 695 rfl (dd_L_law_6 13 _ _ _ rfl) ?_
  refine r_iadd 696 rfl (dd_L_law_6 14 _ _ _ rfl) ?_
  refine r_scr hA (by omega) (by omega) 697 rfl (dd_L_law_6 15 _ _ _ rfl) ?_
  refine r_aload_3 698 rfl (dd_L_law_6 16 _ _ _ rfl) ?_
  have hw0 : zR (sv (i + 1).toNat) := by exact hz _
  have hw1 : zR (sv (i + 2).toNat) := by exact hz _
  have hw2 : zR (sv (i + 3).toNat) := by exact hz _
  generalize hv0 : (sv (i + 1).toNat) = v0 at *
  generalize hv1 : (sv (i + 2).toNat) = v1 at *
  generalize hv2 : (sv (i + 3).toNat) = v2 at *
  have tail : ∀ (kk : Int) (S2 : zS) (h1 : zH) (o1 : Nat → Nat), zLS g x m A out F hB o1 (n + 1) S2 S h1 → MOk (n + 1) S2 → zR kk → (∀ Q2 : zO → zH → Prop, (∀ h2 v, MI h1 m A S2 kk h2 → zR v → (kk = 0 → aj_ h1 out 0 = v) → Q2 (.inl (some (.int (zI v)))) h2) → zC g (.code yX12_onAnew cX12_onAnew 4 (Option.some Jvm.ClassFile.FieldType.int)) yX12_onAnew 13 0 0 [.ref m, .int (zI v0), .int (zI v1), .int (zI v2)] h1 Q2) → zX g mL_law mc ms Q 701 [some (.ref a), some (.ref x), some (.ref m), some (.ref out), some (.int (zI i)), none, none, none] [.int (zI kk)] h1 bc2 bs2 := by
    intro kk S2 h1 o1 y1 hS2 hkk hmod
    refine r_istore_5 703 rfl (by decide) rfl (dd_L_law_6 18 _ _ _ rfl) ?_
    refine r_aload_2 704 rfl (dd_L_law_6 19 _ _ _ rfl) ?_
    refine r_aload_0 705 rfl (dd_L_law_6 20 _ _ _ rfl) ?_
    refine r_iload_4 707 rfl (dd_L_law_6 21 _ _ _ rfl) ?_
    refine r_iconst 708 rfl (dd_L_law_6 22 _ _ _ rfl) ?_
    refine r_iadd 709 rfl (dd_L_law_6 23 _ _ _ rfl) ?_
    refine r_scr hA (by omega) (by omega) 710 rfl (dd_L_law_6 24 _ _ _ rfl) ?_
    rw [hv0]
    refine r_aload_0 711 rfl (dd_L_law_6 25 _ _ _ rfl) ?_
    refine r_iload_4 713 rfl (dd_L_law_6 26 _ _ _ rfl) ?_
    refine r_iconst 714 rfl (dd_L_law_6 27 _ _ _ rfl) ?_
    refine r_iadd 715 rfl (dd_L_law_6 28 _ _ _ rfl) ?_
    refine r_scr hA (by omega) (by omega) 716 rfl (dd_L_law_6 29 _ _ _ rfl) ?_
    rw [hv1]
    refine r_aload_0 717 rfl (dd_L_law_6 30 _ _ _ rfl) ?_
    refine r_iload_4 719 rfl (dd_L_law_6 31 _ _ _ rfl) ?_
    refine r_iconst 720 rfl (dd_L_law_6 32 _ _ _ rfl) ?_
    refine r_iadd 721 rfl (dd_L_law_6 33 _ _ _ rfl) ?_
    refine r_scr hA (by omega) (by omega) 722 rfl (dd_L_law_6 34 _ _ _ rfl) ?_
    rw [hv2]
    refine r_callV3 (lvl := 13) (mc1 := 0) (ms1 := 0) bc2 bs2 hg rfl md_X12_onAnew zc_X12 y1.2.1.1.1 wi_X12_onAnew wv_X12_onAnew (tb_7 28 _ rfl) (by decide) (by decide) rfl (Nat.le_of_ble_eq_true rfl) (Nat.le_refl _) (Nat.le_refl _) 725 rfl (dd_L_law_6 35 _ _ _ rfl) ?_
    refine hmod _ (fun h2 v z hv he => ?_)
    obtain ⟨y2, q2⟩ := y1.mod hF z
    dsimp only [zCont, Option.toList, List.cons_append, List.nil_append]
    refine r_istore_6 727 rfl (by decide) rfl (dd_L_law_6 36 _ _ _ rfl) ?_
    refine r_aload_2 728 rfl (dd_L_law_6 37 _ _ _ rfl) ?_
    refine r_callV0 (lvl := 10) (mc1 := 0) (ms1 := 0) bc2 bs2 hg rfl md_X12_thrown zc_X12 y2.2.1.1.1 wi_X12_thrown wv_X12_thrown (tb_6 189 _ rfl) (by decide) (by decide) rfl (Nat.le_of_ble_eq_true rfl) (Nat.le_refl _) (Nat.le_refl _) 731 rfl (dd_L_law_6 38 _ _ _ rfl) ?_
    refine c_X12_thrown hg z ?_
    dsimp only [zCont, Option.toList, List.cons_append, List.nil_append]
    refine r_iload_5 733 rfl (dd_L_law_6 39 _ _ _ rfl) ?_
    refine r_if_icmpeq hkk hkk 736 rfl 738 rfl (dd_L_law_6 40 _ _ _ rfl) (fun _ => ?_) (fun q => absurd rfl q)
    refine r_iload_5 740 rfl (dd_L_law_6 43 _ _ _ rfl) ?_
    have fin : zX g mL_law mc ms Q 755 [some (.ref a), some (.ref x), some (.ref m), some (.ref out), some (.int (zI i)), some (.int (zI kk)), some (.int (zI v)), none] [] h2 bc2 bs2 := by
      refine r_goto 2034 rfl (dd_L_law_6 54 _ _ _ rfl) ?_
      refine r_sub [some (.ref a), some (.ref x), some (.ref m), some (.ref out), some (.int (zI i)), none, none, none] (z_s1 (z_s1 (z_s1 (z_s1 (z_s1 (z_s0 (z_s0 (z_s0 z_sN)))))))) ?_
      exact k o1 S2 h2 y2 hS2
    refine r_ifne hkk 743 rfl 755 rfl (dd_L_law_6 44 _ _ _ rfl) (fun _ => fin) (fun hk => ?_)
    refine r_aload_3 744 rfl (dd_L_law_6 45 _ _ _ rfl) ?_
    refine r_iconst 745 rfl (dd_L_law_6 46 _ _ _ rfl) ?_
    refine r_laload hg y2.2.2.2.2.2.2.1 (by decide) (by decide) (by rw [y2.2.2.2.2.2.2.2.1]; decide) 746 rfl (dd_L_law_6 47 _ _ _ rfl) ?_
    rw [show aj_ h2 out (0 : Int).toNat = v from q2.trans (he hk)]
    refine r_iload_6 748 rfl (dd_L_law_6 48 _ _ _ rfl) ?_
    refine r_i2l hv 749 rfl (dd_L_law_6 49 _ _ _ rfl) ?_
    refine r_lcmpe 750 rfl (dd_L_law_6 50 _ _ _ rfl) ?_
    exact r_ifeq (by decide) 753 rfl 755 rfl (dd_L_law_6 51 _ _ _ rfl) (fun _ => fin) (fun q => absurd rfl q)
  refine r_callSH (lvl := 16) (mc1 := 4) (ms1 := 40) (As := [.ref x, .int (zI v0), .int (zI v1), .int (zI v2), .ref out]) bc2 bs2 hg rfl mh_onAnew ws_L_onAnew (tb_4 151 _ rfl) (by decide) (by decide) rfl (Nat.le_of_ble_eq_true rfl) (by omega) (by omega) rfl 701 rfl (dd_L_law_6 17 _ _ _ rfl) ?_
  refine w_onAnew hg hnx y.2.2.2.2.2.2.2.2 (fun Q1 hQ => ?_)
  obtain ⟨⟨Vs, Ps, Ss, Ts, Fs, Tn, A9, G, Rc, yc⟩, yM, -⟩ := id y
  refine c_X11_onAnew hg hS.1 yc hw0 hw1 hw2 ?_ ?_ ?_
  · intro c0
    refine hQ _ _ (Or.inl ⟨rfl, ?_⟩)
    refine tail 1 S h o y.next (hS.next hn) (by decide) (fun Q2 hQ2 => ?_)
    have yM1 := y.next.2.1
    refine c_X12_onAnew hg hS.1 (MI.refl yM1) hw0 hw1 hw2 ?_ ?_ ?_
    · intro d0 h2 z
      first | exact hQ2 _ _ z (by first | decide | omega | exact zon_R hS.1) (fun q => absurd q (by decide)) | (exfalso; first | omega | (simp_all; done) | grind)
    · intro d0 d1 h2 z
      first | exact hQ2 _ _ z (by first | decide | omega | exact zon_R hS.1) (fun q => absurd q (by decide)) | (exfalso; first | omega | (simp_all; done) | grind)
    · intro u9 d1 d2 d3 d4 h2 z
      first | exact hQ2 _ _ z (by first | decide | omega | exact zon_R hS.1) (fun q => absurd q (by decide)) | (exfalso; first | omega | (simp_all; done) | grind)
  · intro u c1 c2 c3
    refine hQ _ _ (Or.inr (Or.inl ⟨rfl, ?_⟩))
    refine tail 2 S h o y.next (hS.next hn) (by decide) (fun Q2 hQ2 => ?_)
    have yM1 := y.next.2.1
    refine c_X12_onAnew hg hS.1 (MI.refl yM1) hw0 hw1 hw2 ?_ ?_ ?_
    · intro d0 h2 z
      first | exact hQ2 _ _ z (by first | decide | omega | exact zon_R hS.1) (fun q => absurd q (by decide)) | (exfalso; first | omega | (simp_all; done) | grind)
    · intro d0 d1 h2 z
      first | exact hQ2 _ _ z (by first | decide | omega | exact zon_R hS.1) (fun q => absurd q (by decide)) | (exfalso; first | omega | (simp_all; done) | grind)
    · intro u9 d1 d2 d3 d4 h2 z
      obtain rfl : u = u9 := by omega
      first | exact hQ2 _ _ z (by first | decide | omega | exact zon_R hS.1) (fun q => absurd q (by decide)) | (exfalso; first | omega | (simp_all; done) | grind)
  · intro u c1 c2 c3 o1 h1 cx st
    have y1 := (y.cls hF cx.ex (st.mono (fun q hq => by show q ≠ 0; rw [show q = 15 from hq]; decide))).next
    refine hQ _ _ ⟨(if v2 = 0 then zstate S u v1 else if v2 = 1 then zlast S u v1 0 (-1) else if v2 = 2 then zlast S u v1 1 (-1) else zlast S u v1 7 (S.2 7 u)), rfl, (by first | decide | omega | exact zon_R hS.1), y1.2.2.2.2.2.2.1, y1.2.2.2.2.2.2.2.1, ?_⟩
    refine tail 0 _ _ o1 (y1.put hF _).1 (hS.next hn) (by decide) (fun Q2 hQ2 => ?_)
    have yM1 := (y1.put hF ((if v2 = 0 then zstate S u v1 else if v2 = 1 then zlast S u v1 0 (-1) else if v2 = 2 then zlast S u v1 1 (-1) else zlast S u v1 7 (S.2 7 u)))).1.2.1
    refine c_X12_onAnew hg hS.1 (MI.refl yM1) hw0 hw1 hw2 ?_ ?_ ?_
    · intro d0 h2 z
      first | exact hQ2 _ _ z (by first | decide | omega | exact zon_R hS.1) (fun _ => (y1.put hF _).2) | (exfalso; first | omega | (simp_all; done) | grind)
    · intro d0 d1 h2 z
      first | exact hQ2 _ _ z (by first | decide | omega | exact zon_R hS.1) (fun _ => (y1.put hF _).2) | (exfalso; first | omega | (simp_all; done) | grind)
    · intro u9 d1 d2 d3 d4 h2 z
      obtain rfl : u = u9 := by omega
      first | exact hQ2 _ _ z (by first | decide | omega | exact zon_R hS.1) (fun _ => (y1.put hF _).2) | (exfalso; first | omega | (simp_all; done) | grind)
theorem it_bar {g : zGT} {Q : zO → zH → Prop} (hg : zG g) (hnx : zNX g) {x m : Nat} {A : Nat → Nat} {out : Nat} {F : Nat → Prop} {hB : zH} {a L : Nat} (hF : zLF m A out F hB) {sv : Nat → Int} (hA : zLA g a sv L) {o : Nat → Nat} {n : Nat} {S : zS} {h : zH} (y : zLS g x m A out F hB o n S S h) (hS : MOk n S) (hn : n < 512) {i : Int} (hi : 0 ≤ i) (hi5 : i + 5 ≤ L) {mc ms bc bs bc2 bs2 : Nat} (hb : bc2 + 20 ≤ bc) (hb2 : bs2 + 4300 ≤ bs) (k : ∀ o2 S2 h2, zLS g x m A out F hB o2 (n + 1) S2 S2 h2 → MOk (n + 1) S2 → zX g mL_law mc ms Q 2034 [some (.ref a), some (.ref x), some (.ref m), some (.ref out), some (.int (zI i)), none, none, none] [] h2 bc2 bs2) : zX g mL_law mc ms Q 758 [some (.ref a), some (.ref x), some (.ref m), some (.ref out), some (.int (zI i)), none, none, none] [] h bc bs := by
  have hL := hA.2.2.1
  have hz := hA.2.2.2
  have e1 := hS.1.today
  have e2 := hS.1.signs
  have e4 := hS.1.vehicles
  have e12 := hS.1.people
  have e18 := hS.1.allotted
  have e20 := hS.1.rates
  have e31 := hS.1.sightings
  have e36 := hS.1.fines
  refine r_aload_1 759 rfl (dd_L_law_6 55 _ _ _ rfl) ?_
  refine r_aload_0 760 rfl (dd_L_law_6 56 _ _ _ rfl) ?_
  refine r_iload_4 762 rfl (dd_L_law_6 57 _ _ _ rfl) ?_
  refine r_iconst 763 rfl (dd_L_law_6 58 _ _ _ rfl) ?_
  refine r_iadd 764 rfl (dd_L_law_6 59 _ _ _ rfl) ?_
  refine r_scr hA (by omega) (by omega) 765 rfl (dd_L_law_7 0 _ _ _ rfl) ?_
  refine r_i2c_any 766 rfl (dd_L_law_7 1 _ _ _ rfl) ?_
  rw [zI_c (hz _)]
  refine r_aload_0 767 rfl (dd_L_law_7 2 _ _ _ rfl) ?_
  refine r_iload_4 769 rfl (dd_L_law_7 3 _ _ _ rfl) ?_
  refine r_iconst 770 rfl (dd_L_law_7 4 _ _ _ rfl) ?_
  refine r_iadd 771 rfl (dd_L_law_7 5 _ _ _ rfl) ?_
  refine r_scr hA (by omega) (by omega) 772 rfl (dd_L_law_7 6 _ _ _ rfl) ?_
  refine r_i2c_any 773 rfl (dd_L_law_7 7 _ _ _ rfl) ?_
  rw [zI_c (hz _)]
  refine r_aload_0 774 rfl (dd_L_law_7 8 _ _ _ rfl) ?_
  refine r_iload_4 776 rfl (dd_L_law_7 9 _ _ _ rfl) ?_
  refine r_iconst 777 rfl (dd_L_law_7 10 _ _ _ rfl) ?_
  refine r_iadd 778 rfl (dd_L_law_7 11 _ _ _ rfl) ?_
  refine r_scr hA (by omega) (by omega) 779 rfl (dd_L_law_7 12 _ _ _ rfl) ?_
  refine r_bool (hz _) 787 rfl rfl rfl rfl (dd_L_law_7 13 _ _ _ rfl) (dd_L_law_7 14 _ _ _ rfl) (dd_L_law_7 15 _ _ _ rfl) (dd_L_law_7 16 _ _ _ rfl) ?_
  refine r_aload_3 788 rfl (dd_L_law_7 17 _ _ _ rfl) ?_
  have hw0 : zR ((sv (i + 1).toNat) % 65536) := by omega
  have hr0 : 0 ≤ ((sv (i + 1).toNat) % 65536) ∧ ((sv (i + 1).toNat) % 65536) < 65536 := by omega
  have hw1 : zR ((sv (i + 2).toNat) % 65536) := by omega
  have hr1 : 0 ≤ ((sv (i + 2).toNat) % 65536) ∧ ((sv (i + 2).toNat) % 65536) < 65536 := by omega
  have hw2 : zR (zTrue (sv (i + 3).toNat)) := by rcases zTrue_01 (sv (i + 3).toNat) with q | q <;> (rw [q]; decide)
  have hr2 : (zTrue (sv (i + 3).toNat)) = 0 ∨ (zTrue (sv (i + 3).toNat)) = 1 := zTrue_01 _
  generalize hv0 : ((sv (i + 1).toNat) % 65536) = v0 at *
  generalize hv1 : ((sv (i + 2).toNat) % 65536) = v1 at *
  generalize hv2 : (zTrue (sv (i + 3).toNat)) = v2 at *
  have tail : ∀ (kk : Int) (S2 : zS) (h1 : zH) (o1 : Nat → Nat), zLS g x m A out F hB o1 (n + 1) S2 S h1 → MOk (n + 1) S2 → zR kk → (∀ Q2 : zO → zH → Prop, (∀ h2 v, MI h1 m A S2 kk h2 → (v = 0 ∨ v = 1) → (kk = 0 → aj_ h1 out 0 = v) → Q2 (.inl (some (.int (zI v)))) h2) → zC g (.code yX12_bar cX12_bar 6 (Option.some Jvm.ClassFile.FieldType.boolean)) yX12_bar 12 0 0 [.ref m, .int (zI v0), .int (zI v1), .int (zI v2)] h1 Q2) → zX g mL_law mc ms Q 791 [some (.ref a), some (.ref x), some (.ref m), some (.ref out), some (.int (zI i)), none, none, none] [.int (zI kk)] h1 bc2 bs2 := by
    intro kk S2 h1 o1 y1 hS2 hkk hmod
    refine r_istore_5 793 rfl (by decide) rfl (dd_L_law_7 19 _ _ _ rfl) ?_
    refine r_aload_2 794 rfl (dd_L_law_7 20 _ _ _ rfl) ?_
    refine r_aload_0 795 rfl (dd_L_law_7 21 _ _ _ rfl) ?_
    refine r_iload_4 797 rfl (dd_L_law_7 22 _ _ _ rfl) ?_
    refine r_iconst 798 rfl (dd_L_law_7 23 _ _ _ rfl) ?_
    refine r_iadd 799 rfl (dd_L_law_7 24 _ _ _ rfl) ?_
    refine r_scr hA (by omega) (by omega) 800 rfl (dd_L_law_7 25 _ _ _ rfl) ?_
    refine r_i2c_any 801 rfl (dd_L_law_7 26 _ _ _ rfl) ?_
    rw [zI_c (hz _)]
    rw [hv0]
    refine r_aload_0 802 rfl (dd_L_law_7 27 _ _ _ rfl) ?_
    refine r_iload_4 804 rfl (dd_L_law_7 28 _ _ _ rfl) ?_
    refine r_iconst 805 rfl (dd_L_law_7 29 _ _ _ rfl) ?_
    refine r_iadd 806 rfl (dd_L_law_7 30 _ _ _ rfl) ?_
    refine r_scr hA (by omega) (by omega) 807 rfl (dd_L_law_7 31 _ _ _ rfl) ?_
    refine r_i2c_any 808 rfl (dd_L_law_7 32 _ _ _ rfl) ?_
    rw [zI_c (hz _)]
    rw [hv1]
    refine r_aload_0 809 rfl (dd_L_law_7 33 _ _ _ rfl) ?_
    refine r_iload_4 811 rfl (dd_L_law_7 34 _ _ _ rfl) ?_
    refine r_iconst 812 rfl (dd_L_law_7 35 _ _ _ rfl) ?_
    refine r_iadd 813 rfl (dd_L_law_7 36 _ _ _ rfl) ?_
    refine r_scr hA (by omega) (by omega) 814 rfl (dd_L_law_7 37 _ _ _ rfl) ?_
    refine r_bool (hz _) 822 rfl rfl rfl rfl (dd_L_law_7 38 _ _ _ rfl) (dd_L_law_7 39 _ _ _ rfl) (dd_L_law_7 40 _ _ _ rfl) (dd_L_law_7 41 _ _ _ rfl) ?_
    rw [hv2]
    refine r_callV3 (lvl := 12) (mc1 := 0) (ms1 := 0) bc2 bs2 hg rfl md_X12_bar zc_X12 y1.2.1.1.1 wi_X12_bar wv_X12_bar (tb_7 32 _ rfl) (by decide) (by decide) rfl (Nat.le_of_ble_eq_true rfl) (Nat.le_refl _) (Nat.le_refl _) 825 rfl (dd_L_law_7 42 _ _ _ rfl) ?_
    refine hmod _ (fun h2 v z hv he => ?_)
    obtain ⟨y2, q2⟩ := y1.mod hF z
    dsimp only [zCont, Option.toList, List.cons_append, List.nil_append]
    refine r_istore_6 827 rfl (by decide) rfl (dd_L_law_7 43 _ _ _ rfl) ?_
    refine r_aload_2 828 rfl (dd_L_law_7 44 _ _ _ rfl) ?_
    refine r_callV0 (lvl := 10) (mc1 := 0) (ms1 := 0) bc2 bs2 hg rfl md_X12_thrown zc_X12 y2.2.1.1.1 wi_X12_thrown wv_X12_thrown (tb_6 189 _ rfl) (by decide) (by decide) rfl (Nat.le_of_ble_eq_true rfl) (Nat.le_refl _) (Nat.le_refl _) 831 rfl (dd_L_law_7 45 _ _ _ rfl) ?_
    refine c_X12_thrown hg z ?_
    dsimp only [zCont, Option.toList, List.cons_append, List.nil_append]
    refine r_iload_5 833 rfl (dd_L_law_7 46 _ _ _ rfl) ?_
    refine r_if_icmpeq hkk hkk 836 rfl 838 rfl (dd_L_law_7 47 _ _ _ rfl) (fun _ => ?_) (fun q => absurd rfl q)
    refine r_iload_5 840 rfl (dd_L_law_7 50 _ _ _ rfl) ?_
    have fin : zX g mL_law mc ms Q 862 [some (.ref a), some (.ref x), some (.ref m), some (.ref out), some (.int (zI i)), some (.int (zI kk)), some (.int (zI v)), none] [] h2 bc2 bs2 := by
      refine r_goto 2034 rfl (dd_L_law_8 4 _ _ _ rfl) ?_
      refine r_sub [some (.ref a), some (.ref x), some (.ref m), some (.ref out), some (.int (zI i)), none, none, none] (z_s1 (z_s1 (z_s1 (z_s1 (z_s1 (z_s0 (z_s0 (z_s0 z_sN)))))))) ?_
      exact k o1 S2 h2 y2 hS2
    refine r_ifne hkk 843 rfl 862 rfl (dd_L_law_7 51 _ _ _ rfl) (fun _ => fin) (fun hk => ?_)
    refine r_aload_3 844 rfl (dd_L_law_7 52 _ _ _ rfl) ?_
    refine r_iconst 845 rfl (dd_L_law_7 53 _ _ _ rfl) ?_
    refine r_laload hg y2.2.2.2.2.2.2.1 (by decide) (by decide) (by rw [y2.2.2.2.2.2.2.2.1]; decide) 846 rfl (dd_L_law_7 54 _ _ _ rfl) ?_
    rw [show aj_ h2 out (0 : Int).toNat = v from q2.trans (he hk)]
    refine r_iload_6 848 rfl (dd_L_law_7 55 _ _ _ rfl) ?_
    refine r_boolL hv 856 rfl rfl rfl rfl (dd_L_law_7 56 _ _ _ rfl) (dd_L_law_7 57 _ _ _ rfl) (dd_L_law_7 58 _ _ _ rfl) (dd_L_law_7 59 _ _ _ rfl) ?_
    refine r_lcmpe 857 rfl (dd_L_law_8 0 _ _ _ rfl) ?_
    exact r_ifeq (by decide) 860 rfl 862 rfl (dd_L_law_8 1 _ _ _ rfl) (fun _ => fin) (fun q => absurd rfl q)
  refine r_callSH (lvl := 15) (mc1 := 4) (ms1 := 40) (As := [.ref x, .int (zI v0), .int (zI v1), .int (zI v2), .ref out]) bc2 bs2 hg rfl mh_bar ws_L_bar (tb_4 162 _ rfl) (by decide) (by decide) rfl (Nat.le_of_ble_eq_true rfl) (by omega) (by omega) rfl 791 rfl (dd_L_law_7 18 _ _ _ rfl) ?_
  refine w_bar hg hnx y.2.2.2.2.2.2.2.2 (fun Q1 hQ => ?_)
  obtain ⟨⟨Vs, Ps, Ss, Ts, Fs, Tn, A9, G, Rc, yc⟩, yM, -⟩ := id y
  refine c_X11_bar hg hS.1 yc hw0 hw1 (by omega) ?_ ?_
  · intro c0
    refine hQ _ _ (Or.inl ⟨rfl, ?_⟩)
    refine tail 1 S h o y.next (hS.next hn) (by decide) (fun Q2 hQ2 => ?_)
    have yM1 := y.next.2.1
    refine c_X12_bar hg hS.1 (MI.refl yM1) hw0 hw1 (by omega) ?_ ?_
    · intro d0 h2 z
      first | exact hQ2 _ _ z (by first | decide | exact Or.inl rfl | exact Or.inr rfl | exact hS.1.prot _ | exact hS.1.barred _ | omega) (fun q => absurd q (by decide)) | (exfalso; first | omega | (simp_all; done) | grind)
    · intro d0 h2 z
      first | exact hQ2 _ _ z (by first | decide | exact Or.inl rfl | exact Or.inr rfl | exact hS.1.prot _ | exact hS.1.barred _ | omega) (fun q => absurd q (by decide)) | (exfalso; first | omega | (simp_all; done) | grind)
  · intro c0 o1 h1 cx st
    have y1 := y.cls hF cx st
    refine hQ _ _ ⟨(S.2 15 (26 * (v0 - 65) + v1 - 65).toNat), rfl, (by first | exact Or.inl rfl | exact Or.inr rfl | exact hS.1.prot _ | exact hS.1.barred _ | omega), y1.2.2.2.2.2.2.1, y1.2.2.2.2.2.2.2.1, ?_⟩
    refine tail 0 _ _ o1 (y1.put hF _).1 (ok_bar hS hn hr2) (by decide) (fun Q2 hQ2 => ?_)
    have yM1 := (y1.put hF ((S.2 15 (26 * (v0 - 65) + v1 - 65).toNat))).1.2.1
    refine c_X12_bar hg hS.1 (MI.refl yM1) hw0 hw1 (by omega) ?_ ?_
    · intro d0 h2 z
      first | exact hQ2 _ _ z (by first | decide | exact Or.inl rfl | exact Or.inr rfl | exact hS.1.prot _ | exact hS.1.barred _ | omega) (fun _ => (y1.put hF _).2) | (exfalso; first | omega | (simp_all; done) | grind)
    · intro d0 h2 z
      first | exact hQ2 _ _ z (by first | decide | exact Or.inl rfl | exact Or.inr rfl | exact hS.1.prot _ | exact hS.1.barred _ | omega) (fun _ => (y1.put hF _).2) | (exfalso; first | omega | (simp_all; done) | grind)
theorem it_rate {g : zGT} {Q : zO → zH → Prop} (hg : zG g) (hnx : zNX g) {x m : Nat} {A : Nat → Nat} {out : Nat} {F : Nat → Prop} {hB : zH} {a L : Nat} (hF : zLF m A out F hB) {sv : Nat → Int} (hA : zLA g a sv L) {o : Nat → Nat} {n : Nat} {S : zS} {h : zH} (y : zLS g x m A out F hB o n S S h) (hS : MOk n S) (hn : n < 512) {i : Int} (hi : 0 ≤ i) (hi5 : i + 5 ≤ L) {mc ms bc bs bc2 bs2 : Nat} (hb : bc2 + 20 ≤ bc) (hb2 : bs2 + 4300 ≤ bs) (k : ∀ o2 S2 h2, zLS g x m A out F hB o2 (n + 1) S2 S2 h2 → MOk (n + 1) S2 → zX g mL_law mc ms Q 2034 [some (.ref a), some (.ref x), some (.ref m), some (.ref out), some (.int (zI i)), none, none, none] [] h2 bc2 bs2) : zX g mL_law mc ms Q 1057 [some (.ref a), some (.ref x), some (.ref m), some (.ref out), some (.int (zI i)), none, none, none] [] h bc bs := by
  have hL := hA.2.2.1
  have hz := hA.2.2.2
  have e1 := hS.1.today
  have e2 := hS.1.signs
  have e4 := hS.1.vehicles
  have e12 := hS.1.people
  have e18 := hS.1.allotted
  have e20 := hS.1.rates
  have e31 := hS.1.sightings
  have e36 := hS.1.fines
  refine r_aload_1 1058 rfl (dd_L_law_10 10 _ _ _ rfl) ?_
  refine r_aload_0 1059 rfl (dd_L_law_10 11 _ _ _ rfl) ?_
  refine r_iload_4 1061 rfl (dd_L_law_10 12 _ _ _ rfl) ?_
  refine r_iconst 1062 rfl (dd_L_law_10 13 _ _ _ rfl) ?_
  refine r_iadd 1063 rfl (dd_L_law_10 14 _ _ _ rfl) ?_
  refine r_scr hA (by omega) (by omega) 1064 rfl (dd_L_law_10 15 _ _ _ rfl) ?_
  refine r_aload_0 1065 rfl (dd_L_law_10 16 _ _ _ rfl) ?_
  refine r_iload_4 1067 rfl (dd_L_law_10 17 _ _ _ rfl) ?_
  refine r_iconst 1068 rfl (dd_L_law_10 18 _ _ _ rfl) ?_
  refine r_iadd 1069 rfl (dd_L_law_10 19 _ _ _ rfl) ?_
  refine r_scr hA (by omega) (by omega) 1070 rfl (dd_L_law_10 20 _ _ _ rfl) ?_
  refine r_aload_0 1071 rfl (dd_L_law_10 21 _ _ _ rfl) ?_
  refine r_iload_4 1073 rfl (dd_L_law_10 22 _ _ _ rfl) ?_
  refine r_iconst 1074 rfl (dd_L_law_10 23 _ _ _ rfl) ?_
  refine r_iadd 1075 rfl (dd_L_law_10 24 _ _ _ rfl) ?_
  refine r_scr hA (by omega) (by omega) 1076 rfl (dd_L_law_10 25 _ _ _ rfl) ?_
  refine r_aload_3 1077 rfl (dd_L_law_10 26 _ _ _ rfl) ?_
  have hw0 : zR (sv (i + 1).toNat) := by exact hz _
  have hw1 : zR (sv (i + 2).toNat) := by exact hz _
  have hw2 : zR (sv (i + 3).toNat) := by exact hz _
  generalize hv0 : (sv (i + 1).toNat) = v0 at *
  generalize hv1 : (sv (i + 2).toNat) = v1 at *
  generalize hv2 : (sv (i + 3).toNat) = v2 at *
  have tail : ∀ (kk : Int) (S2 : zS) (h1 : zH) (o1 : Nat → Nat), zLS g x m A out F hB o1 (n + 1) S2 S h1 → MOk (n + 1) S2 → zR kk → (∀ Q2 : zO → zH → Prop, (∀ h2 v, MI h1 m A S2 kk h2 → zR v → (kk = 0 → aj_ h1 out 0 = v) → Q2 (.inl (some (.int (zI v)))) h2) → zC g (.code yX12_rate cX12_rate 5 (Option.some Jvm.ClassFile.FieldType.int)) yX12_rate 12 0 0 [.ref m, .int (zI v0), .int (zI v1), .int (zI v2)] h1 Q2) → zX g mL_law mc ms Q 1080 [some (.ref a), some (.ref x), some (.ref m), some (.ref out), some (.int (zI i)), none, none, none] [.int (zI kk)] h1 bc2 bs2 := by
    intro kk S2 h1 o1 y1 hS2 hkk hmod
    refine r_istore_5 1082 rfl (by decide) rfl (dd_L_law_10 28 _ _ _ rfl) ?_
    refine r_aload_2 1083 rfl (dd_L_law_10 29 _ _ _ rfl) ?_
    refine r_aload_0 1084 rfl (dd_L_law_10 30 _ _ _ rfl) ?_
    refine r_iload_4 1086 rfl (dd_L_law_10 31 _ _ _ rfl) ?_
    refine r_iconst 1087 rfl (dd_L_law_10 32 _ _ _ rfl) ?_
    refine r_iadd 1088 rfl (dd_L_law_10 33 _ _ _ rfl) ?_
    refine r_scr hA (by omega) (by omega) 1089 rfl (dd_L_law_10 34 _ _ _ rfl) ?_
    rw [hv0]
    refine r_aload_0 1090 rfl (dd_L_law_10 35 _ _ _ rfl) ?_
    refine r_iload_4 1092 rfl (dd_L_law_10 36 _ _ _ rfl) ?_
    refine r_iconst 1093 rfl (dd_L_law_10 37 _ _ _ rfl) ?_
    refine r_iadd 1094 rfl (dd_L_law_10 38 _ _ _ rfl) ?_
    refine r_scr hA (by omega) (by omega) 1095 rfl (dd_L_law_10 39 _ _ _ rfl) ?_
    rw [hv1]
    refine r_aload_0 1096 rfl (dd_L_law_10 40 _ _ _ rfl) ?_
    refine r_iload_4 1098 rfl (dd_L_law_10 41 _ _ _ rfl) ?_
    refine r_iconst 1099 rfl (dd_L_law_10 42 _ _ _ rfl) ?_
    refine r_iadd 1100 rfl (dd_L_law_10 43 _ _ _ rfl) ?_
    refine r_scr hA (by omega) (by omega) 1101 rfl (dd_L_law_10 44 _ _ _ rfl) ?_
    rw [hv2]
    refine r_callV3 (lvl := 12) (mc1 := 0) (ms1 := 0) bc2 bs2 hg rfl md_X12_rate zc_X12 y1.2.1.1.1 wi_X12_rate wv_X12_rate (tb_7 72 _ rfl) (by decide) (by decide) rfl (Nat.le_of_ble_eq_true rfl) (Nat.le_refl _) (Nat.le_refl _) 1104 rfl (dd_L_law_10 45 _ _ _ rfl) ?_
    refine hmod _ (fun h2 v z hv he => ?_)
    obtain ⟨y2, q2⟩ := y1.mod hF z
    dsimp only [zCont, Option.toList, List.cons_append, List.nil_append]
    refine r_istore_6 1106 rfl (by decide) rfl (dd_L_law_10 46 _ _ _ rfl) ?_
    refine r_aload_2 1107 rfl (dd_L_law_10 47 _ _ _ rfl) ?_
    refine r_callV0 (lvl := 10) (mc1 := 0) (ms1 := 0) bc2 bs2 hg rfl md_X12_thrown zc_X12 y2.2.1.1.1 wi_X12_thrown wv_X12_thrown (tb_6 189 _ rfl) (by decide) (by decide) rfl (Nat.le_of_ble_eq_true rfl) (Nat.le_refl _) (Nat.le_refl _) 1110 rfl (dd_L_law_10 48 _ _ _ rfl) ?_
    refine c_X12_thrown hg z ?_
    dsimp only [zCont, Option.toList, List.cons_append, List.nil_append]
    refine r_iload_5 1112 rfl (dd_L_law_10 49 _ _ _ rfl) ?_
    refine r_if_icmpeq hkk hkk 1115 rfl 1117 rfl (dd_L_law_10 50 _ _ _ rfl) (fun _ => ?_) (fun q => absurd rfl q)
    refine r_iload_5 1119 rfl (dd_L_law_10 53 _ _ _ rfl) ?_
    have fin : zX g mL_law mc ms Q 1134 [some (.ref a), some (.ref x), some (.ref m), some (.ref out), some (.int (zI i)), some (.int (zI kk)), some (.int (zI v)), none] [] h2 bc2 bs2 := by
      refine r_goto 2034 rfl (dd_L_law_11 4 _ _ _ rfl) ?_
      refine r_sub [some (.ref a), some (.ref x), some (.ref m), some (.ref out), some (.int (zI i)), none, none, none] (z_s1 (z_s1 (z_s1 (z_s1 (z_s1 (z_s0 (z_s0 (z_s0 z_sN)))))))) ?_
      exact k o1 S2 h2 y2 hS2
    refine r_ifne hkk 1122 rfl 1134 rfl (dd_L_law_10 54 _ _ _ rfl) (fun _ => fin) (fun hk => ?_)
    refine r_aload_3 1123 rfl (dd_L_law_10 55 _ _ _ rfl) ?_
    refine r_iconst 1124 rfl (dd_L_law_10 56 _ _ _ rfl) ?_
    refine r_laload hg y2.2.2.2.2.2.2.1 (by decide) (by decide) (by rw [y2.2.2.2.2.2.2.2.1]; decide) 1125 rfl (dd_L_law_10 57 _ _ _ rfl) ?_
    rw [show aj_ h2 out (0 : Int).toNat = v from q2.trans (he hk)]
    refine r_iload_6 1127 rfl (dd_L_law_10 58 _ _ _ rfl) ?_
    refine r_i2l hv 1128 rfl (dd_L_law_10 59 _ _ _ rfl) ?_
    refine r_lcmpe 1129 rfl (dd_L_law_11 0 _ _ _ rfl) ?_
    exact r_ifeq (by decide) 1132 rfl 1134 rfl (dd_L_law_11 1 _ _ _ rfl) (fun _ => fin) (fun q => absurd rfl q)
  refine r_callSH (lvl := 16) (mc1 := 6) (ms1 := 4300) (As := [.ref x, .int (zI v0), .int (zI v1), .int (zI v2), .ref out]) bc2 bs2 hg rfl mh_rate ws_L_rate (tb_5 20 _ rfl) (by decide) (by decide) rfl (Nat.le_of_ble_eq_true rfl) (by omega) (by omega) rfl 1080 rfl (dd_L_law_10 27 _ _ _ rfl) ?_
  refine w_rate hg hnx y.2.2.2.2.2.2.2.2 (fun Q1 hQ => ?_)
  obtain ⟨⟨Vs, Ps, Ss, Ts, Fs, Tn, A9, G, Rc, yc⟩, yM, -⟩ := id y
  refine c_X11_rate hg hS.1 yc hw0 hw1 hw2 ?_ ?_ ?_
  · intro c0
    refine hQ _ _ (Or.inl ⟨rfl, ?_⟩)
    refine tail 1 S h o y.next (hS.next hn) (by decide) (fun Q2 hQ2 => ?_)
    have yM1 := y.next.2.1
    refine c_X12_rate hg hS.1 (MI.refl yM1) hw0 hw1 hw2 ?_ ?_ ?_
    · intro d0 h2 z
      first | exact hQ2 _ _ z (by first | decide | omega) (fun q => absurd q (by decide)) | (exfalso; first | omega | (simp_all; done) | grind)
    · intro d0 d1 h2 z
      first | exact hQ2 _ _ z (by first | decide | omega) (fun q => absurd q (by decide)) | (exfalso; first | omega | (simp_all; done) | grind)
    · intro d0 d1 h2 z
      first | exact hQ2 _ _ z (by first | decide | omega) (fun q => absurd q (by decide)) | (exfalso; first | omega | (simp_all; done) | grind)
  · intro c0 c1
    refine hQ _ _ (Or.inr (Or.inl ⟨rfl, ?_⟩))
    refine tail 2 S h o y.next (hS.next hn) (by decide) (fun Q2 hQ2 => ?_)
    have yM1 := y.next.2.1
    refine c_X12_rate hg hS.1 (MI.refl yM1) hw0 hw1 hw2 ?_ ?_ ?_
    · intro d0 h2 z
      first | exact hQ2 _ _ z (by first | decide | omega) (fun q => absurd q (by decide)) | (exfalso; first | omega | (simp_all; done) | grind)
    · intro d0 d1 h2 z
      first | exact hQ2 _ _ z (by first | decide | omega) (fun q => absurd q (by decide)) | (exfalso; first | omega | (simp_all; done) | grind)
    · intro d0 d1 h2 z
      first | exact hQ2 _ _ z (by first | decide | omega) (fun q => absurd q (by decide)) | (exfalso; first | omega | (simp_all; done) | grind)
  · intro c0 c1 o1 h1 cx st
    have y1 := y.cls hF cx st
    refine hQ _ _ ⟨(S.1 20 + 1), rfl, (by first | decide | omega), y1.2.2.2.2.2.2.1, y1.2.2.2.2.2.2.2.1, ?_⟩
    refine tail 0 _ _ o1 (y1.put hF _).1 (ok_rate hS hn (by omega) (by omega)) (by decide) (fun Q2 hQ2 => ?_)
    have yM1 := (y1.put hF ((S.1 20 + 1))).1.2.1
    refine c_X12_rate hg hS.1 (MI.refl yM1) hw0 hw1 hw2 ?_ ?_ ?_
    · intro d0 h2 z
      first | exact hQ2 _ _ z (by first | decide | omega) (fun _ => (y1.put hF _).2) | (exfalso; first | omega | (simp_all; done) | grind)
    · intro d0 d1 h2 z
      first | exact hQ2 _ _ z (by first | decide | omega) (fun _ => (y1.put hF _).2) | (exfalso; first | omega | (simp_all; done) | grind)
    · intro d0 d1 h2 z
      first | exact hQ2 _ _ z (by first | decide | omega) (fun _ => (y1.put hF _).2) | (exfalso; first | omega | (simp_all; done) | grind)
theorem it_seen {g : zGT} {Q : zO → zH → Prop} (hg : zG g) (hnx : zNX g) {x m : Nat} {A : Nat → Nat} {out : Nat} {F : Nat → Prop} {hB : zH} {a L : Nat} (hF : zLF m A out F hB) {sv : Nat → Int} (hA : zLA g a sv L) {o : Nat → Nat} {n : Nat} {S : zS} {h : zH} (y : zLS g x m A out F hB o n S S h) (hS : MOk n S) (hn : n < 512) {i : Int} (hi : 0 ≤ i) (hi5 : i + 5 ≤ L) {mc ms bc bs bc2 bs2 : Nat} (hb : bc2 + 20 ≤ bc) (hb2 : bs2 + 4300 ≤ bs) (k : ∀ o2 S2 h2, zLS g x m A out F hB o2 (n + 1) S2 S2 h2 → MOk (n + 1) S2 → zX g mL_law mc ms Q 2034 [some (.ref a), some (.ref x), some (.ref m), some (.ref out), some (.int (zI i)), none, none, none] [] h2 bc2 bs2) : zX g mL_law mc ms Q 1562 [some (.ref a), some (.ref x), some (.ref m), some (.ref out), some (.int (zI i)), none, none, none] [] h bc bs := by
  have hL := hA.2.2.1
  have hz := hA.2.2.2
  have e1 := hS.1.today
  have e2 := hS.1.signs
  have e4 := hS.1.vehicles
  have e12 := hS.1.people
  have e18 := hS.1.allotted
  have e20 := hS.1.rates
  have e31 := hS.1.sightings
  have e36 := hS.1.fines
  refine r_aload_1 1563 rfl (dd_L_law_15 46 _ _ _ rfl) ?_
  refine r_aload_0 1564 rfl (dd_L_law_15 47 _ _ _ rfl) ?_
  refine r_iload_4 1566 rfl (dd_L_law_15 48 _ _ _ rfl) ?_
  refine r_iconst 1567 rfl (dd_L_law_15 49 _ _ _ rfl) ?_
  refine r_iadd 1568 rfl (dd_L_law_15 50 _ _ _ rfl) ?_
  refine r_scr hA (by omega) (by omega) 1569 rfl (dd_L_law_15 51 _ _ _ rfl) ?_
  refine r_aload_3 1570 rfl (dd_L_law_15 52 _ _ _ rfl) ?_
  have hw0 : zR (sv (i + 1).toNat) := by exact hz _
  generalize hv0 : (sv (i + 1).toNat) = v0 at *
  have tail : ∀ (kk : Int) (S2 : zS) (h1 : zH) (o1 : Nat → Nat), zLS g x m A out F hB o1 (n + 1) S2 S h1 → MOk (n + 1) S2 → zR kk → (∀ Q2 : zO → zH → Prop, (∀ h2 v, MI h1 m A S2 kk h2 → zR v → (kk = 0 → aj_ h1 out 0 = v) → Q2 (.inl (some (.int (zI v)))) h2) → zC g (.code yX12_seen cX12_seen 2 (Option.some Jvm.ClassFile.FieldType.int)) yX12_seen 13 0 0 [.ref m, .int (zI v0)] h1 Q2) → zX g mL_law mc ms Q 1573 [some (.ref a), some (.ref x), some (.ref m), some (.ref out), some (.int (zI i)), none, none, none] [.int (zI kk)] h1 bc2 bs2 := by
    intro kk S2 h1 o1 y1 hS2 hkk hmod
    refine r_istore_5 1575 rfl (by decide) rfl (dd_L_law_15 54 _ _ _ rfl) ?_
    refine r_aload_2 1576 rfl (dd_L_law_15 55 _ _ _ rfl) ?_
    refine r_aload_0 1577 rfl (dd_L_law_15 56 _ _ _ rfl) ?_
    refine r_iload_4 1579 rfl (dd_L_law_15 57 _ _ _ rfl) ?_
    refine r_iconst 1580 rfl (dd_L_law_15 58 _ _ _ rfl) ?_
    refine r_iadd 1581 rfl (dd_L_law_15 59 _ _ _ rfl) ?_
    refine r_scr hA (by omega) (by omega) 1582 rfl (dd_L_law_16 0 _ _ _ rfl) ?_
    rw [hv0]
    refine r_callV1 (lvl := 13) (mc1 := 0) (ms1 := 0) bc2 bs2 hg rfl md_X12_seen zc_X12 y1.2.1.1.1 wi_X12_seen wv_X12_seen (tb_7 144 _ rfl) (by decide) (by decide) rfl (Nat.le_of_ble_eq_true rfl) (Nat.le_refl _) (Nat.le_refl _) 1585 rfl (dd_L_law_16 1 _ _ _ rfl) ?_
    refine hmod _ (fun h2 v z hv he => ?_)
    obtain ⟨y2, q2⟩ := y1.mod hF z
    dsimp only [zCont, Option.toList, List.cons_append, List.nil_append]
    refine r_istore_6 1587 rfl (by decide) rfl (dd_L_law_16 2 _ _ _ rfl) ?_
    refine r_aload_2 1588 rfl (dd_L_law_16 3 _ _ _ rfl) ?_
    refine r_callV0 (lvl := 10) (mc1 := 0) (ms1 := 0) bc2 bs2 hg rfl md_X12_thrown zc_X12 y2.2.1.1.1 wi_X12_thrown wv_X12_thrown (tb_6 189 _ rfl) (by decide) (by decide) rfl (Nat.le_of_ble_eq_true rfl) (Nat.le_refl _) (Nat.le_refl _) 1591 rfl (dd_L_law_16 4 _ _ _ rfl) ?_
    refine c_X12_thrown hg z ?_
    dsimp only [zCont, Option.toList, List.cons_append, List.nil_append]
    refine r_iload_5 1593 rfl (dd_L_law_16 5 _ _ _ rfl) ?_
    refine r_if_icmpeq hkk hkk 1596 rfl 1598 rfl (dd_L_law_16 6 _ _ _ rfl) (fun _ => ?_) (fun q => absurd rfl q)
    refine r_iload_5 1600 rfl (dd_L_law_16 9 _ _ _ rfl) ?_
    have fin : zX g mL_law mc ms Q 1615 [some (.ref a), some (.ref x), some (.ref m), some (.ref out), some (.int (zI i)), some (.int (zI kk)), some (.int (zI v)), none] [] h2 bc2 bs2 := by
      refine r_goto 2034 rfl (dd_L_law_16 20 _ _ _ rfl) ?_
      refine r_sub [some (.ref a), some (.ref x), some (.ref m), some (.ref out), some (.int (zI i)), none, none, none] (z_s1 (z_s1 (z_s1 (z_s1 (z_s1 (z_s0 (z_s0 (z_s0 z_sN)))))))) ?_
      exact k o1 S2 h2 y2 hS2
    refine r_ifne hkk 1603 rfl 1615 rfl (dd_L_law_16 10 _ _ _ rfl) (fun _ => fin) (fun hk => ?_)
    refine r_aload_3 1604 rfl (dd_L_law_16 11 _ _ _ rfl) ?_
    refine r_iconst 1605 rfl (dd_L_law_16 12 _ _ _ rfl) ?_
    refine r_laload hg y2.2.2.2.2.2.2.1 (by decide) (by decide) (by rw [y2.2.2.2.2.2.2.2.1]; decide) 1606 rfl (dd_L_law_16 13 _ _ _ rfl) ?_
    rw [show aj_ h2 out (0 : Int).toNat = v from q2.trans (he hk)]
    refine r_iload_6 1608 rfl (dd_L_law_16 14 _ _ _ rfl) ?_
    refine r_i2l hv 1609 rfl (dd_L_law_16 15 _ _ _ rfl) ?_
    refine r_lcmpe 1610 rfl (dd_L_law_16 16 _ _ _ rfl) ?_
    exact r_ifeq (by decide) 1613 rfl 1615 rfl (dd_L_law_16 17 _ _ _ rfl) (fun _ => fin) (fun q => absurd rfl q)
  refine r_callSH (lvl := 17) (mc1 := 4) (ms1 := 40) (As := [.ref x, .int (zI v0), .ref out]) bc2 bs2 hg rfl mh_seen ws_L_seen (tb_5 156 _ rfl) (by decide) (by decide) rfl (Nat.le_of_ble_eq_true rfl) (by omega) (by omega) rfl 1573 rfl (dd_L_law_15 53 _ _ _ rfl) ?_
  refine w_seen hg hnx y.2.2.2.2.2.2.2.2 (fun Q1 hQ => ?_)
  obtain ⟨⟨Vs, Ps, Ss, Ts, Fs, Tn, A9, G, Rc, yc⟩, yM, -⟩ := id y
  refine c_X11_seen hg hS.1 yc hw0 ?_ ?_
  · intro c0
    refine hQ _ _ (Or.inl ⟨rfl, ?_⟩)
    refine tail 1 S h o y.next (hS.next hn) (by decide) (fun Q2 hQ2 => ?_)
    have yM1 := y.next.2.1
    refine c_X12_seen hg hS.1 (MI.refl yM1) hw0 ?_ ?_
    · intro d0 h2 z
      first | exact hQ2 _ _ z (by first | decide | omega | exact zseen_R hS.1) (fun q => absurd q (by decide)) | (exfalso; first | omega | (simp_all; done) | grind)
    · intro s9 d1 d2 h2 z
      first | exact hQ2 _ _ z (by first | decide | omega | exact zseen_R hS.1) (fun q => absurd q (by decide)) | (exfalso; first | omega | (simp_all; done) | grind)
  · intro s c1 c2
    have y1 := y.next
    refine hQ _ _ ⟨(zseen S s), rfl, (by first | decide | omega | exact zseen_R hS.1), y1.2.2.2.2.2.2.1, y1.2.2.2.2.2.2.2.1, ?_⟩
    refine tail 0 _ _ o (y1.put hF _).1 (hS.next hn) (by decide) (fun Q2 hQ2 => ?_)
    have yM1 := (y1.put hF ((zseen S s))).1.2.1
    refine c_X12_seen hg hS.1 (MI.refl yM1) hw0 ?_ ?_
    · intro d0 h2 z
      first | exact hQ2 _ _ z (by first | decide | omega | exact zseen_R hS.1) (fun _ => (y1.put hF _).2) | (exfalso; first | omega | (simp_all; done) | grind)
    · intro s9 d1 d2 h2 z
      obtain rfl : s = s9 := by omega
      first | exact hQ2 _ _ z (by first | decide | omega | exact zseen_R hS.1) (fun _ => (y1.put hF _).2) | (exfalso; first | omega | (simp_all; done) | grind)
theorem it_whose {g : zGT} {Q : zO → zH → Prop} (hg : zG g) (hnx : zNX g) {x m : Nat} {A : Nat → Nat} {out : Nat} {F : Nat → Prop} {hB : zH} {a L : Nat} (hF : zLF m A out F hB) {sv : Nat → Int} (hA : zLA g a sv L) {o : Nat → Nat} {n : Nat} {S : zS} {h : zH} (y : zLS g x m A out F hB o n S S h) (hS : MOk n S) (hn : n < 512) {i : Int} (hi : 0 ≤ i) (hi5 : i + 5 ≤ L) {mc ms bc bs bc2 bs2 : Nat} (hb : bc2 + 20 ≤ bc) (hb2 : bs2 + 4300 ≤ bs) (k : ∀ o2 S2 h2, zLS g x m A out F hB o2 (n + 1) S2 S2 h2 → MOk (n + 1) S2 → zX g mL_law mc ms Q 2034 [some (.ref a), some (.ref x), some (.ref m), some (.ref out), some (.int (zI i)), none, none, none] [] h2 bc2 bs2) : zX g mL_law mc ms Q 1754 [some (.ref a), some (.ref x), some (.ref m), some (.ref out), some (.int (zI i)), none, none, none] [] h bc bs := by
  have hL := hA.2.2.1
  have hz := hA.2.2.2
  have e1 := hS.1.today
  have e2 := hS.1.signs
  have e4 := hS.1.vehicles
  have e12 := hS.1.people
  have e18 := hS.1.allotted
  have e20 := hS.1.rates
  have e31 := hS.1.sightings
  have e36 := hS.1.fines
  refine r_aload_1 1755 rfl (dd_L_law_17 51 _ _ _ rfl) ?_
  refine r_aload_0 1756 rfl (dd_L_law_17 52 _ _ _ rfl) ?_
  refine r_iload_4 1758 rfl (dd_L_law_17 53 _ _ _ rfl) ?_
  refine r_iconst 1759 rfl (dd_L_law_17 54 _ _ _ rfl) ?_
  refine r_iadd 1760 rfl (dd_L_law_17 55 _ _ _ rfl) ?_
  refine r_scr hA (by omega) (by omega) 1761 rfl (dd_L_law_17 56 _ _ _ rfl) ?_
  refine r_aload_3 1762 rfl (dd_L_law_17 57 _ _ _ rfl) ?_
  have hw0 : zR (sv (i + 1).toNat) := by exact hz _
  generalize hv0 : (sv (i + 1).toNat) = v0 at *
  have tail : ∀ (kk : Int) (S2 : zS) (h1 : zH) (o1 : Nat → Nat), zLS g x m A out F hB o1 (n + 1) S2 S h1 → MOk (n + 1) S2 → zR kk → (∀ Q2 : zO → zH → Prop, (∀ h2 v, MI h1 m A S2 kk h2 → zR v → (kk = 0 → aj_ h1 out 0 = v) → Q2 (.inl (some (.int (zI v)))) h2) → zC g (.code yX12_whose cX12_whose 2 (Option.some Jvm.ClassFile.FieldType.int)) yX12_whose 14 0 0 [.ref m, .int (zI v0)] h1 Q2) → zX g mL_law mc ms Q 1765 [some (.ref a), some (.ref x), some (.ref m), some (.ref out), some (.int (zI i)), none, none, none] [.int (zI kk)] h1 bc2 bs2 := by
    intro kk S2 h1 o1 y1 hS2 hkk hmod
    refine r_istore_5 1767 rfl (by decide) rfl (dd_L_law_17 59 _ _ _ rfl) ?_
    refine r_aload_2 1768 rfl (dd_L_law_18 0 _ _ _ rfl) ?_
    refine r_aload_0 1769 rfl (dd_L_law_18 1 _ _ _ rfl) ?_
    refine r_iload_4 1771 rfl (dd_L_law_18 2 _ _ _ rfl) ?_
    refine r_iconst 1772 rfl (dd_L_law_18 3 _ _ _ rfl) ?_
    refine r_iadd 1773 rfl (dd_L_law_18 4 _ _ _ rfl) ?_
    refine r_scr hA (by omega) (by omega) 1774 rfl (dd_L_law_18 5 _ _ _ rfl) ?_
    rw [hv0]
    refine r_callV1 (lvl := 14) (mc1 := 0) (ms1 := 0) bc2 bs2 hg rfl md_X12_whose zc_X12 y1.2.1.1.1 wi_X12_whose wv_X12_whose (tb_7 168 _ rfl) (by decide) (by decide) rfl (Nat.le_of_ble_eq_true rfl) (Nat.le_refl _) (Nat.le_refl _) 1777 rfl (dd_L_law_18 6 _ _ _ rfl) ?_
    refine hmod _ (fun h2 v z hv he => ?_)
    obtain ⟨y2, q2⟩ := y1.mod hF z
    dsimp only [zCont, Option.toList, List.cons_append, List.nil_append]
    refine r_istore_6 1779 rfl (by decide) rfl (dd_L_law_18 7 _ _ _ rfl) ?_
    refine r_aload_2 1780 rfl (dd_L_law_18 8 _ _ _ rfl) ?_
    refine r_callV0 (lvl := 10) (mc1 := 0) (ms1 := 0) bc2 bs2 hg rfl md_X12_thrown zc_X12 y2.2.1.1.1 wi_X12_thrown wv_X12_thrown (tb_6 189 _ rfl) (by decide) (by decide) rfl (Nat.le_of_ble_eq_true rfl) (Nat.le_refl _) (Nat.le_refl _) 1783 rfl (dd_L_law_18 9 _ _ _ rfl) ?_
    refine c_X12_thrown hg z ?_
    dsimp only [zCont, Option.toList, List.cons_append, List.nil_append]
    refine r_iload_5 1785 rfl (dd_L_law_18 10 _ _ _ rfl) ?_
    refine r_if_icmpeq hkk hkk 1788 rfl 1790 rfl (dd_L_law_18 11 _ _ _ rfl) (fun _ => ?_) (fun q => absurd rfl q)
    refine r_iload_5 1792 rfl (dd_L_law_18 14 _ _ _ rfl) ?_
    have fin : zX g mL_law mc ms Q 1807 [some (.ref a), some (.ref x), some (.ref m), some (.ref out), some (.int (zI i)), some (.int (zI kk)), some (.int (zI v)), none] [] h2 bc2 bs2 := by
      refine r_goto 2034 rfl (dd_L_law_18 25 _ _ _ rfl) ?_
      refine r_sub [some (.ref a), some (.ref x), some (.ref m), some (.ref out), some (.int (zI i)), none, none, none] (z_s1 (z_s1 (z_s1 (z_s1 (z_s1 (z_s0 (z_s0 (z_s0 z_sN)))))))) ?_
      exact k o1 S2 h2 y2 hS2
    refine r_ifne hkk 1795 rfl 1807 rfl (dd_L_law_18 15 _ _ _ rfl) (fun _ => fin) (fun hk => ?_)
    refine r_aload_3 1796 rfl (dd_L_law_18 16 _ _ _ rfl) ?_
    refine r_iconst 1797 rfl (dd_L_law_18 17 _ _ _ rfl) ?_
    refine r_laload hg y2.2.2.2.2.2.2.1 (by decide) (by decide) (by rw [y2.2.2.2.2.2.2.2.1]; decide) 1798 rfl (dd_L_law_18 18 _ _ _ rfl) ?_
    rw [show aj_ h2 out (0 : Int).toNat = v from q2.trans (he hk)]
    refine r_iload_6 1800 rfl (dd_L_law_18 19 _ _ _ rfl) ?_
    refine r_i2l hv 1801 rfl (dd_L_law_18 20 _ _ _ rfl) ?_
    refine r_lcmpe 1802 rfl (dd_L_law_18 21 _ _ _ rfl) ?_
    exact r_ifeq (by decide) 1805 rfl 1807 rfl (dd_L_law_18 22 _ _ _ rfl) (fun _ => fin) (fun q => absurd rfl q)
  refine r_callSH (lvl := 18) (mc1 := 4) (ms1 := 40) (As := [.ref x, .int (zI v0), .ref out]) bc2 bs2 hg rfl mh_whose ws_L_whose (tb_5 220 _ rfl) (by decide) (by decide) rfl (Nat.le_of_ble_eq_true rfl) (by omega) (by omega) rfl 1765 rfl (dd_L_law_17 58 _ _ _ rfl) ?_
  refine w_whose hg hnx y.2.2.2.2.2.2.2.2 (fun Q1 hQ => ?_)
  obtain ⟨⟨Vs, Ps, Ss, Ts, Fs, Tn, A9, G, Rc, yc⟩, yM, -⟩ := id y
  refine c_X11_whose hg hS.1 yc hw0 ?_ ?_
  · intro c0
    refine hQ _ _ (Or.inl ⟨rfl, ?_⟩)
    refine tail 1 S h o y.next (hS.next hn) (by decide) (fun Q2 hQ2 => ?_)
    have yM1 := y.next.2.1
    refine c_X12_whose hg hS.1 (MI.refl yM1) hw0 ?_ ?_
    · intro d0 h2 z
      first | exact hQ2 _ _ z (by first | decide | omega | exact zwhose_R hS.1) (fun q => absurd q (by decide)) | (exfalso; first | omega | (simp_all; done) | grind)
    · intro f9 d1 d2 h2 z
      first | exact hQ2 _ _ z (by first | decide | omega | exact zwhose_R hS.1) (fun q => absurd q (by decide)) | (exfalso; first | omega | (simp_all; done) | grind)
  · intro f c1 c2
    have y1 := y.next
    refine hQ _ _ ⟨(zwhose S f), rfl, (by first | decide | omega | exact zwhose_R hS.1), y1.2.2.2.2.2.2.1, y1.2.2.2.2.2.2.2.1, ?_⟩
    refine tail 0 _ _ o (y1.put hF _).1 (hS.next hn) (by decide) (fun Q2 hQ2 => ?_)
    have yM1 := (y1.put hF ((zwhose S f))).1.2.1
    refine c_X12_whose hg hS.1 (MI.refl yM1) hw0 ?_ ?_
    · intro d0 h2 z
      first | exact hQ2 _ _ z (by first | decide | omega | exact zwhose_R hS.1) (fun _ => (y1.put hF _).2) | (exfalso; first | omega | (simp_all; done) | grind)
    · intro f9 d1 d2 h2 z
      obtain rfl : f = f9 := by omega
      first | exact hQ2 _ _ z (by first | decide | omega | exact zwhose_R hS.1) (fun _ => (y1.put hF _).2) | (exfalso; first | omega | (simp_all; done) | grind)
theorem it_looked {g : zGT} {Q : zO → zH → Prop} (hg : zG g) (hnx : zNX g) {x m : Nat} {A : Nat → Nat} {out : Nat} {F : Nat → Prop} {hB : zH} {a L : Nat} (hF : zLF m A out F hB) {sv : Nat → Int} (hA : zLA g a sv L) {o : Nat → Nat} {n : Nat} {S : zS} {h : zH} (y : zLS g x m A out F hB o n S S h) (hS : MOk n S) (hn : n < 512) {i : Int} (hi : 0 ≤ i) (hi5 : i + 5 ≤ L) {mc ms bc bs bc2 bs2 : Nat} (hb : bc2 + 20 ≤ bc) (hb2 : bs2 + 4300 ≤ bs) (k : ∀ o2 S2 h2, zLS g x m A out F hB o2 (n + 1) S2 S2 h2 → MOk (n + 1) S2 → zX g mL_law mc ms Q 2034 [some (.ref a), some (.ref x), some (.ref m), some (.ref out), some (.int (zI i)), none, none, none] [] h2 bc2 bs2) : zX g mL_law mc ms Q 1922 [some (.ref a), some (.ref x), some (.ref m), some (.ref out), some (.int (zI i)), none, none, none] [] h bc bs := by
  have hL := hA.2.2.1
  have hz := hA.2.2.2
  have e1 := hS.1.today
  have e2 := hS.1.signs
  have e4 := hS.1.vehicles
  have e12 := hS.1.people
  have e18 := hS.1.allotted
  have e20 := hS.1.rates
  have e31 := hS.1.sightings
  have e36 := hS.1.fines
  refine r_aload_1 1923 rfl (dd_L_law_19 36 _ _ _ rfl) ?_
  refine r_aload_0 1924 rfl (dd_L_law_19 37 _ _ _ rfl) ?_
  refine r_iload_4 1926 rfl (dd_L_law_19 38 _ _ _ rfl) ?_
  refine r_iconst 1927 rfl (dd_L_law_19 39 _ _ _ rfl) ?_
  refine r_iadd 1928 rfl (dd_L_law_19 40 _ _ _ rfl) ?_
  refine r_scr hA (by omega) (by omega) 1929 rfl (dd_L_law_19 41 _ _ _ rfl) ?_
  refine r_aload_3 1930 rfl (dd_L_law_19 42 _ _ _ rfl) ?_
  have hw0 : zR (sv (i + 1).toNat) := by exact hz _
  generalize hv0 : (sv (i + 1).toNat) = v0 at *
  have tail : ∀ (kk : Int) (S2 : zS) (h1 : zH) (o1 : Nat → Nat), zLS g x m A out F hB o1 (n + 1) S2 S h1 → MOk (n + 1) S2 → zR kk → (∀ Q2 : zO → zH → Prop, (∀ h2 v, MI h1 m A S2 kk h2 → zR v → (kk = 0 → aj_ h1 out 0 = v) → Q2 (.inl (some (.int (zI v)))) h2) → zC g (.code yX12_looked cX12_looked 2 (Option.some Jvm.ClassFile.FieldType.int)) yX12_looked 12 0 0 [.ref m, .int (zI v0)] h1 Q2) → zX g mL_law mc ms Q 1933 [some (.ref a), some (.ref x), some (.ref m), some (.ref out), some (.int (zI i)), none, none, none] [.int (zI kk)] h1 bc2 bs2 := by
    intro kk S2 h1 o1 y1 hS2 hkk hmod
    refine r_istore_5 1935 rfl (by decide) rfl (dd_L_law_19 44 _ _ _ rfl) ?_
    refine r_aload_2 1936 rfl (dd_L_law_19 45 _ _ _ rfl) ?_
    refine r_aload_0 1937 rfl (dd_L_law_19 46 _ _ _ rfl) ?_
    refine r_iload_4 1939 rfl (dd_L_law_19 47 _ _ _ rfl) ?_
    refine r_iconst 1940 rfl (dd_L_law_19 48 _ _ _ rfl) ?_
    refine r_iadd 1941 rfl (dd_L_law_19 49 _ _ _ rfl) ?_
    refine r_scr hA (by omega) (by omega) 1942 rfl (dd_L_law_19 50 _ _ _ rfl) ?_
    rw [hv0]
    refine r_callV1 (lvl := 12) (mc1 := 0) (ms1 := 0) bc2 bs2 hg rfl md_X12_looked zc_X12 y1.2.1.1.1 wi_X12_looked wv_X12_looked (tb_7 188 _ rfl) (by decide) (by decide) rfl (Nat.le_of_ble_eq_true rfl) (Nat.le_refl _) (Nat.le_refl _) 1945 rfl (dd_L_law_19 51 _ _ _ rfl) ?_
    refine hmod _ (fun h2 v z hv he => ?_)
    obtain ⟨y2, q2⟩ := y1.mod hF z
    dsimp only [zCont, Option.toList, List.cons_append, List.nil_append]
    refine r_istore_6 1947 rfl (by decide) rfl (dd_L_law_19 52 _ _ _ rfl) ?_
    refine r_aload_2 1948 rfl (dd_L_law_19 53 _ _ _ rfl) ?_
    refine r_callV0 (lvl := 10) (mc1 := 0) (ms1 := 0) bc2 bs2 hg rfl md_X12_thrown zc_X12 y2.2.1.1.1 wi_X12_thrown wv_X12_thrown (tb_6 189 _ rfl) (by decide) (by decide) rfl (Nat.le_of_ble_eq_true rfl) (Nat.le_refl _) (Nat.le_refl _) 1951 rfl (dd_L_law_19 54 _ _ _ rfl) ?_
    refine c_X12_thrown hg z ?_
    dsimp only [zCont, Option.toList, List.cons_append, List.nil_append]
    refine r_iload_5 1953 rfl (dd_L_law_19 55 _ _ _ rfl) ?_
    refine r_if_icmpeq hkk hkk 1956 rfl 1958 rfl (dd_L_law_19 56 _ _ _ rfl) (fun _ => ?_) (fun q => absurd rfl q)
    refine r_iload_5 1960 rfl (dd_L_law_19 59 _ _ _ rfl) ?_
    have fin : zX g mL_law mc ms Q 1975 [some (.ref a), some (.ref x), some (.ref m), some (.ref out), some (.int (zI i)), some (.int (zI kk)), some (.int (zI v)), none] [] h2 bc2 bs2 := by
      refine r_goto 2034 rfl (dd_L_law_20 10 _ _ _ rfl) ?_
      refine r_sub [some (.ref a), some (.ref x), some (.ref m), some (.ref out), some (.int (zI i)), none, none, none] (z_s1 (z_s1 (z_s1 (z_s1 (z_s1 (z_s0 (z_s0 (z_s0 z_sN)))))))) ?_
      exact k o1 S2 h2 y2 hS2
    refine r_ifne hkk 1963 rfl 1975 rfl (dd_L_law_20 0 _ _ _ rfl) (fun _ => fin) (fun hk => ?_)
    refine r_aload_3 1964 rfl (dd_L_law_20 1 _ _ _ rfl) ?_
    refine r_iconst 1965 rfl (dd_L_law_20 2 _ _ _ rfl) ?_
    refine r_laload hg y2.2.2.2.2.2.2.1 (by decide) (by decide) (by rw [y2.2.2.2.2.2.2.2.1]; decide) 1966 rfl (dd_L_law_20 3 _ _ _ rfl) ?_
    rw [show aj_ h2 out (0 : Int).toNat = v from q2.trans (he hk)]
    refine r_iload_6 1968 rfl (dd_L_law_20 4 _ _ _ rfl) ?_
    refine r_i2l hv 1969 rfl (dd_L_law_20 5 _ _ _ rfl) ?_
    refine r_lcmpe 1970 rfl (dd_L_law_20 6 _ _ _ rfl) ?_
    exact r_ifeq (by decide) 1973 rfl 1975 rfl (dd_L_law_20 7 _ _ _ rfl) (fun _ => fin) (fun q => absurd rfl q)
  refine r_callSH (lvl := 15) (mc1 := 4) (ms1 := 40) (As := [.ref x, .int (zI v0), .ref out]) bc2 bs2 hg rfl mh_looked ws_L_looked (tb_6 35 _ rfl) (by decide) (by decide) rfl (Nat.le_of_ble_eq_true rfl) (by omega) (by omega) rfl 1933 rfl (dd_L_law_19 43 _ _ _ rfl) ?_
  refine w_looked hg hnx y.2.2.2.2.2.2.2.2 (fun Q1 hQ => ?_)
  obtain ⟨⟨Vs, Ps, Ss, Ts, Fs, Tn, A9, G, Rc, yc⟩, yM, -⟩ := id y
  refine c_X11_looked hg hS.1 yc hw0 ?_ ?_
  · intro c0
    refine hQ _ _ (Or.inl ⟨rfl, ?_⟩)
    refine tail 1 S h o y.next (hS.next hn) (by decide) (fun Q2 hQ2 => ?_)
    have yM1 := y.next.2.1
    refine c_X12_looked hg hS.1 (MI.refl yM1) hw0 ?_ ?_
    · intro d0 h2 z
      first | exact hQ2 _ _ z (by first | decide | omega | exact zlooked_R hS.1) (fun q => absurd q (by decide)) | (exfalso; first | omega | (simp_all; done) | grind)
    · intro d0 h2 z
      first | exact hQ2 _ _ z (by first | decide | omega | exact zlooked_R hS.1) (fun q => absurd q (by decide)) | (exfalso; first | omega | (simp_all; done) | grind)
  · intro p c1 c2
    have y1 := y.next
    obtain rfl : p = v0.toNat := by omega
    refine hQ _ _ ⟨(S.2 14 v0.toNat), rfl, (by first | decide | omega | exact zlooked_R hS.1), y1.2.2.2.2.2.2.1, y1.2.2.2.2.2.2.2.1, ?_⟩
    refine tail 0 _ _ o (y1.put hF _).1 (hS.next hn) (by decide) (fun Q2 hQ2 => ?_)
    have yM1 := (y1.put hF ((S.2 14 v0.toNat))).1.2.1
    refine c_X12_looked hg hS.1 (MI.refl yM1) hw0 ?_ ?_
    · intro d0 h2 z
      first | exact hQ2 _ _ z (by first | decide | omega | exact zlooked_R hS.1) (fun _ => (y1.put hF _).2) | (exfalso; first | omega | (simp_all; done) | grind)
    · intro d0 h2 z
      first | exact hQ2 _ _ z (by first | decide | omega | exact zlooked_R hS.1) (fun _ => (y1.put hF _).2) | (exfalso; first | omega | (simp_all; done) | grind)
