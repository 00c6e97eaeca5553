set_option maxRecDepth 10000 in
theorem CRep.toBu {g : zGT} {o : Nat → Nat} {h : zH} {x : Nat} {S : zS} {n : Nat} {Vs Ps Ss Ts Fs Tn : List Nat} {A : Nat → Nat} {G : Nat → Nat → Nat} {Rc : Nat → Nat} {o1 : Nat → Nat} {h1 : zH} {n2 : Nat} (y : CRep g o h x S n Vs Ps Ss Ts Fs Tn A G Rc) (hn2 : n ≤ n2) {S2 : zS} (st : zStep (fun q => q = 2) o h o1 h1) (hr : ∀ k i, ¬ (k = 3) → S2.2 k i = S.2 k i) (hs : ∀ k, ¬ (k = 2) → S2.1 k = S.1 k) (hbu : BuRep o1 2 h1 (A 1) S2) : CRep g o1 h1 x S2 n2 Vs Ps Ss Ts Fs Tn A G Rc := by
  exact ⟨(y.mn.fr (st.fr (r := 1) (by show ¬ (_ = _); omega))).cg (hs 1 (by decide)) (hs 20 (by decide)),
    hbu,
    (y.se.fr (st.fr (r := 3) (by show ¬ (_ = _); omega))).cg (hs 16 (by decide)) (fun i => hr 15 i (by decide)) (fun i => hr 17 i (by decide)),
    y.lv.fr (st.fr (r := 4) (by show ¬ (_ = _); omega)),
    y.nv.trans (hs 4 (by decide)).symm,
    y.lp.fr (st.fr (r := 5) (by show ¬ (_ = _); omega)),
    y.np.trans (hs 12 (by decide)).symm,
    y.ra.fr (st.fr (r := 6) (by show ¬ (_ = _); omega)),
    fun c hc => by have z := ((y.rc c hc).fr (st.fr (r := rg 8 c) (by show ¬ (_ = _); unfold rg; omega))).mono (n2 := n2) hn2; rw [show (fun w => zro S2.2 c w (S2.1 20).toNat) = (fun w => zro S.2 c w (S.1 20).toNat) from funext fun w => by rw [(hs 20 (by decide))]; exact zro_cg (fun i => hr 21 i (by decide)) (fun i => hr 22 i (by decide)) (fun i => hr 23 i (by decide)) _]; exact z,
    y.ls.fr (st.fr (r := 7) (by show ¬ (_ = _); omega)),
    y.ns.trans (hs 31 (by decide)).symm,
    y.lt.fr (st.fr (r := 8) (by show ¬ (_ = _); omega)),
    y.ok.cg (fun i => hr 34 i (by decide)) (fun i => hr 35 i (by decide)),
    y.lf.fr (st.fr (r := 9) (by show ¬ (_ = _); omega)),
    y.nf.trans (hs 36 (by decide)).symm,
    fun u a hu => ((y.vo u a hu).fr (st.fr (r := rg 0 u) (by show ¬ (_ = _); unfold rg; omega))).cg (hr 5 u (by decide)) (hr 6 u (by decide)) (hr 24 u (by decide)),
    fun u hu => ((y.hi u hu).fr (st.fr (r := rg 1 u) (by show ¬ (_ = _); unfold rg; omega))).cg (fun i _ => hr 9 _ (by decide)) (fun i _ => hr 10 _ (by decide)) (fun i _ => hr 11 _ (by decide)) (hr 7 u (by decide)) (hr 8 u (by decide)),
    fun u hu => ((y.te u hu).fr (st.fr (r := rg 2 u) (by show ¬ (_ = _); unfold rg; omega))).cg (hr 6 u (by decide)) (hr 25 u (by decide)) (hr 26 u (by decide)) (hr 27 u (by decide)) (hr 28 u (by decide)) (hr 29 u (by decide)),
    fun u hu => ((y.pl u hu).fr (st.fr (r := rg 3 u) (by show ¬ (_ = _); unfold rg; omega))).cg hn2 (fun i => hr 19 i (by decide)) (hs 18 (by decide)) (by rw [(hs 1 (by decide))]; exact Int.le_refl _),
    fun u hu => ((y.ii u hu).fr (st.fr (r := rg 4 u) (by show ¬ (_ = _); unfold rg; omega))).cg hn2 (fun i _ => hr 30 _ (by decide)) (by rw [(hs 1 (by decide))]; exact Int.le_refl _),
    fun u a hu => ((y.pe u a hu).fr (st.fr (r := rg 5 u) (by show ¬ (_ = _); unfold rg; omega))).cg (hr 13 u (by decide)) (hr 14 u (by decide)),
    fun u a hu => ((y.si u a hu).fr (st.fr (r := rg 6 u) (by show ¬ (_ = _); unfold rg; omega))).cg (fun i _ => hr 32 _ (by decide)) (hr 33 u (by decide)) (hr 34 u (by decide)) (hr 35 u (by decide)),
    fun u a hu => ((y.fi u a hu).fr (st.fr (r := rg 7 u) (by show ¬ (_ = _); unfold rg; omega))).cg (hr 37 u (by decide)) (hr 38 u (by decide)) (hr 39 u (by decide)) (hr 40 u (by decide)) (hr 41 u (by decide)),
    fun v j h1 h2 => by rw [(hs 4 (by decide))] at h1; rw [(hr 8 v (by decide))] at h2; rw [(hr 11 _ (by decide)), (hs 1 (by decide))]; exact y.dy v j h1 h2,
    fun v j h1 h2 h3 => by rw [(hs 4 (by decide))] at h1; rw [(hr 8 v (by decide))] at h2; rw [(hr 9 _ (by decide))] at h3; rw [(hr 10 _ (by decide)), (hs 12 (by decide))]; exact y.kp v j h1 h2 h3,
    fun u h1 h2 => by rw [(hs 4 (by decide))] at h1; obtain ⟨a1, a2, a3, a4, a5, a6⟩ := y.fv u h1 h2; exact ⟨(hr 8 u (by decide)).trans a1, (hr 24 u (by decide)).trans a2, (hr 25 u (by decide)).trans a3, (hr 28 u (by decide)).trans a4, fun w g1 g2 => by unfold zins; rw [(hr 30 _ (by decide))]; exact a5 w g1 g2, fun w => (zplate_cg (fun i => hr 19 i (by decide)) (hs 18 (by decide))).trans (a6 w)⟩,
    fun u v h1 h2 => by rw [(hs 4 (by decide))] at h2; rw [(hr 5 u (by decide)), (hr 5 v (by decide))]; exact y.us u v h1 h2,
    fun p h1 => by rw [(hs 12 (by decide))] at h1; rw [(hr 13 p (by decide)), (hr 14 p (by decide))]; exact y.fp p h1,
    fun f h1 => by rw [(hs 36 (by decide))] at h1; rw [(hr 40 f (by decide))]; exact y.ff f h1⟩
set_option maxRecDepth 10000 in
theorem CRep.toSe {g : zGT} {o : Nat → Nat} {h : zH} {x : Nat} {S : zS} {n : Nat} {Vs Ps Ss Ts Fs Tn : List Nat} {A : Nat → Nat} {G : Nat → Nat → Nat} {Rc : Nat → Nat} {o1 : Nat → Nat} {h1 : zH} {n2 : Nat} (y : CRep g o h x S n Vs Ps Ss Ts Fs Tn A G Rc) (hn2 : n ≤ n2) {S2 : zS} (st : zStep (fun q => q = 3) o h o1 h1) (hr : ∀ k i, ¬ (k = 15 ∨ k = 17) → S2.2 k i = S.2 k i) (hs : ∀ k, ¬ (k = 16) → S2.1 k = S.1 k) (hse : SeRep o1 3 h1 (A 2) S2) : CRep g o1 h1 x S2 n2 Vs Ps Ss Ts Fs Tn A G Rc := by
  exact ⟨(y.mn.fr (st.fr (r := 1) (by show ¬ (_ = _); omega))).cg (hs 1 (by decide)) (hs 20 (by decide)),
    (y.bu.fr (st.fr (r := 2) (by show ¬ (_ = _); omega))).cg (hs 2 (by decide)) (fun i => hr 3 i (by decide)),
    hse,
    y.lv.fr (st.fr (r := 4) (by show ¬ (_ = _); omega)),
    y.nv.trans (hs 4 (by decide)).symm,
    y.lp.fr (st.fr (r := 5) (by show ¬ (_ = _); omega)),
    y.np.trans (hs 12 (by decide)).symm,
    y.ra.fr (st.fr (r := 6) (by show ¬ (_ = _); omega)),
    fun c hc => by have z := ((y.rc c hc).fr (st.fr (r := rg 8 c) (by show ¬ (_ = _); unfold rg; omega))).mono (n2 := n2) hn2; rw [show (fun w => zro S2.2 c w (S2.1 20).toNat) = (fun w => zro S.2 c w (S.1 20).toNat) from funext fun w => by rw [(hs 20 (by decide))]; exact zro_cg (fun i => hr 21 i (by decide)) (fun i => hr 22 i (by decide)) (fun i => hr 23 i (by decide)) _]; exact z,
    y.ls.fr (st.fr (r := 7) (by show ¬ (_ = _); omega)),
    y.ns.trans (hs 31 (by decide)).symm,
    y.lt.fr (st.fr (r := 8) (by show ¬ (_ = _); omega)),
    y.ok.cg (fun i => hr 34 i (by decide)) (fun i => hr 35 i (by decide)),
    y.lf.fr (st.fr (r := 9) (by show ¬ (_ = _); omega)),
    y.nf.trans (hs 36 (by decide)).symm,
    fun u a hu => ((y.vo u a hu).fr (st.fr (r := rg 0 u) (by show ¬ (_ = _); unfold rg; omega))).cg (hr 5 u (by decide)) (hr 6 u (by decide)) (hr 24 u (by decide)),
    fun u hu => ((y.hi u hu).fr (st.fr (r := rg 1 u) (by show ¬ (_ = _); unfold rg; omega))).cg (fun i _ => hr 9 _ (by decide)) (fun i _ => hr 10 _ (by decide)) (fun i _ => hr 11 _ (by decide)) (hr 7 u (by decide)) (hr 8 u (by decide)),
    fun u hu => ((y.te u hu).fr (st.fr (r := rg 2 u) (by show ¬ (_ = _); unfold rg; omega))).cg (hr 6 u (by decide)) (hr 25 u (by decide)) (hr 26 u (by decide)) (hr 27 u (by decide)) (hr 28 u (by decide)) (hr 29 u (by decide)),
    fun u hu => ((y.pl u hu).fr (st.fr (r := rg 3 u) (by show ¬ (_ = _); unfold rg; omega))).cg hn2 (fun i => hr 19 i (by decide)) (hs 18 (by decide)) (by rw [(hs 1 (by decide))]; exact Int.le_refl _),
    fun u hu => ((y.ii u hu).fr (st.fr (r := rg 4 u) (by show ¬ (_ = _); unfold rg; omega))).cg hn2 (fun i _ => hr 30 _ (by decide)) (by rw [(hs 1 (by decide))]; exact Int.le_refl _),
    fun u a hu => ((y.pe u a hu).fr (st.fr (r := rg 5 u) (by show ¬ (_ = _); unfold rg; omega))).cg (hr 13 u (by decide)) (hr 14 u (by decide)),
    fun u a hu => ((y.si u a hu).fr (st.fr (r := rg 6 u) (by show ¬ (_ = _); unfold rg; omega))).cg (fun i _ => hr 32 _ (by decide)) (hr 33 u (by decide)) (hr 34 u (by decide)) (hr 35 u (by decide)),
    fun u a hu => ((y.fi u a hu).fr (st.fr (r := rg 7 u) (by show ¬ (_ = _); unfold rg; omega))).cg (hr 37 u (by decide)) (hr 38 u (by decide)) (hr 39 u (by decide)) (hr 40 u (by decide)) (hr 41 u (by decide)),
    fun v j h1 h2 => by rw [(hs 4 (by decide))] at h1; rw [(hr 8 v (by decide))] at h2; rw [(hr 11 _ (by decide)), (hs 1 (by decide))]; exact y.dy v j h1 h2,
    fun v j h1 h2 h3 => by rw [(hs 4 (by decide))] at h1; rw [(hr 8 v (by decide))] at h2; rw [(hr 9 _ (by decide))] at h3; rw [(hr 10 _ (by decide)), (hs 12 (by decide))]; exact y.kp v j h1 h2 h3,
    fun u h1 h2 => by rw [(hs 4 (by decide))] at h1; obtain ⟨a1, a2, a3, a4, a5, a6⟩ := y.fv u h1 h2; exact ⟨(hr 8 u (by decide)).trans a1, (hr 24 u (by decide)).trans a2, (hr 25 u (by decide)).trans a3, (hr 28 u (by decide)).trans a4, fun w g1 g2 => by unfold zins; rw [(hr 30 _ (by decide))]; exact a5 w g1 g2, fun w => (zplate_cg (fun i => hr 19 i (by decide)) (hs 18 (by decide))).trans (a6 w)⟩,
    fun u v h1 h2 => by rw [(hs 4 (by decide))] at h2; rw [(hr 5 u (by decide)), (hr 5 v (by decide))]; exact y.us u v h1 h2,
    fun p h1 => by rw [(hs 12 (by decide))] at h1; rw [(hr 13 p (by decide)), (hr 14 p (by decide))]; exact y.fp p h1,
    fun f h1 => by rw [(hs 36 (by decide))] at h1; rw [(hr 40 f (by decide))]; exact y.ff f h1⟩
set_option maxRecDepth 10000 in
theorem CRep.toPe {g : zGT} {o : Nat → Nat} {h : zH} {x : Nat} {S : zS} {n : Nat} {Vs Ps Ss Ts Fs Tn : List Nat} {A : Nat → Nat} {G : Nat → Nat → Nat} {Rc : Nat → Nat} {o1 : Nat → Nat} {h1 : zH} {n2 : Nat} (y : CRep g o h x S n Vs Ps Ss Ts Fs Tn A G Rc) (hn2 : n ≤ n2) {S2 : zS} {p : Nat} (st : zStep (fun q => q = rg 5 p) o h o1 h1) (hr : ∀ k i, ¬ (k = 13 ∨ k = 14) → S2.2 k i = S.2 k i) (hs : ∀ k, ¬ (False) → S2.1 k = S.1 k) (hp : (p : Int) < S.1 12) (h13 : ∀ i, i ≠ p → S2.2 13 i = S.2 13 i) (h14 : ∀ i, i ≠ p → S2.2 14 i = S.2 14 i) (hpe : ∀ a, Ps[p]? = some a → PeRep o1 (rg 5 p) h1 a S2 p) : CRep g o1 h1 x S2 n2 Vs Ps Ss Ts Fs Tn A G Rc := by
  exact ⟨(y.mn.fr (st.fr (r := 1) (by show ¬ (_ = _); unfold rg; omega))).cg (hs 1 (by decide)) (hs 20 (by decide)),
    (y.bu.fr (st.fr (r := 2) (by show ¬ (_ = _); unfold rg; omega))).cg (hs 2 (by decide)) (fun i => hr 3 i (by decide)),
    (y.se.fr (st.fr (r := 3) (by show ¬ (_ = _); unfold rg; omega))).cg (hs 16 (by decide)) (fun i => hr 15 i (by decide)) (fun i => hr 17 i (by decide)),
    y.lv.fr (st.fr (r := 4) (by show ¬ (_ = _); unfold rg; omega)),
    y.nv.trans (hs 4 (by decide)).symm,
    y.lp.fr (st.fr (r := 5) (by show ¬ (_ = _); unfold rg; omega)),
    y.np.trans (hs 12 (by decide)).symm,
    y.ra.fr (st.fr (r := 6) (by show ¬ (_ = _); unfold rg; omega)),
    fun c hc => by have z := ((y.rc c hc).fr (st.fr (r := rg 8 c) (by show ¬ (_ = _); unfold rg; omega))).mono (n2 := n2) hn2; rw [show (fun w => zro S2.2 c w (S2.1 20).toNat) = (fun w => zro S.2 c w (S.1 20).toNat) from funext fun w => by rw [(hs 20 (by decide))]; exact zro_cg (fun i => hr 21 i (by decide)) (fun i => hr 22 i (by decide)) (fun i => hr 23 i (by decide)) _]; exact z,
    y.ls.fr (st.fr (r := 7) (by show ¬ (_ = _); unfold rg; omega)),
    y.ns.trans (hs 31 (by decide)).symm,
    y.lt.fr (st.fr (r := 8) (by show ¬ (_ = _); unfold rg; omega)),
    y.ok.cg (fun i => hr 34 i (by decide)) (fun i => hr 35 i (by decide)),
    y.lf.fr (st.fr (r := 9) (by show ¬ (_ = _); unfold rg; omega)),
    y.nf.trans (hs 36 (by decide)).symm,
    fun u a hu => ((y.vo u a hu).fr (st.fr (r := rg 0 u) (by show ¬ (_ = _); unfold rg; omega))).cg (hr 5 u (by decide)) (hr 6 u (by decide)) (hr 24 u (by decide)),
    fun u hu => ((y.hi u hu).fr (st.fr (r := rg 1 u) (by show ¬ (_ = _); unfold rg; omega))).cg (fun i _ => hr 9 _ (by decide)) (fun i _ => hr 10 _ (by decide)) (fun i _ => hr 11 _ (by decide)) (hr 7 u (by decide)) (hr 8 u (by decide)),
    fun u hu => ((y.te u hu).fr (st.fr (r := rg 2 u) (by show ¬ (_ = _); unfold rg; omega))).cg (hr 6 u (by decide)) (hr 25 u (by decide)) (hr 26 u (by decide)) (hr 27 u (by decide)) (hr 28 u (by decide)) (hr 29 u (by decide)),
    fun u hu => ((y.pl u hu).fr (st.fr (r := rg 3 u) (by show ¬ (_ = _); unfold rg; omega))).cg hn2 (fun i => hr 19 i (by decide)) (hs 18 (by decide)) (by rw [(hs 1 (by decide))]; exact Int.le_refl _),
    fun u hu => ((y.ii u hu).fr (st.fr (r := rg 4 u) (by show ¬ (_ = _); unfold rg; omega))).cg hn2 (fun i _ => hr 30 _ (by decide)) (by rw [(hs 1 (by decide))]; exact Int.le_refl _),
    fun u a hu => by
    by_cases hq : u = p
    · subst hq; exact hpe a hu
    · exact ((y.pe u a hu).fr (st.fr (r := rg 5 u) (by show ¬ (_ = _); unfold rg; omega))).cg (h13 u hq) (h14 u hq),
    fun u a hu => ((y.si u a hu).fr (st.fr (r := rg 6 u) (by show ¬ (_ = _); unfold rg; omega))).cg (fun i _ => hr 32 _ (by decide)) (hr 33 u (by decide)) (hr 34 u (by decide)) (hr 35 u (by decide)),
    fun u a hu => ((y.fi u a hu).fr (st.fr (r := rg 7 u) (by show ¬ (_ = _); unfold rg; omega))).cg (hr 37 u (by decide)) (hr 38 u (by decide)) (hr 39 u (by decide)) (hr 40 u (by decide)) (hr 41 u (by decide)),
    fun v j h1 h2 => by rw [(hs 4 (by decide))] at h1; rw [(hr 8 v (by decide))] at h2; rw [(hr 11 _ (by decide)), (hs 1 (by decide))]; exact y.dy v j h1 h2,
    fun v j h1 h2 h3 => by rw [(hs 4 (by decide))] at h1; rw [(hr 8 v (by decide))] at h2; rw [(hr 9 _ (by decide))] at h3; rw [(hr 10 _ (by decide)), (hs 12 (by decide))]; exact y.kp v j h1 h2 h3,
    fun u h1 h2 => by rw [(hs 4 (by decide))] at h1; obtain ⟨a1, a2, a3, a4, a5, a6⟩ := y.fv u h1 h2; exact ⟨(hr 8 u (by decide)).trans a1, (hr 24 u (by decide)).trans a2, (hr 25 u (by decide)).trans a3, (hr 28 u (by decide)).trans a4, fun w g1 g2 => by unfold zins; rw [(hr 30 _ (by decide))]; exact a5 w g1 g2, fun w => (zplate_cg (fun i => hr 19 i (by decide)) (hs 18 (by decide))).trans (a6 w)⟩,
    fun u v h1 h2 => by rw [(hs 4 (by decide))] at h2; rw [(hr 5 u (by decide)), (hr 5 v (by decide))]; exact y.us u v h1 h2,
    fun q h1 => by rw [hs 12 (by decide)] at h1; rw [h13 q (by omega), h14 q (by omega)]; exact y.fp q h1,
    fun f h1 => by rw [(hs 36 (by decide))] at h1; rw [(hr 40 f (by decide))]; exact y.ff f h1⟩
set_option maxRecDepth 10000 in
theorem CRep.toBuPe {g : zGT} {o : Nat → Nat} {h : zH} {x : Nat} {S : zS} {n : Nat} {Vs Ps Ss Ts Fs Tn : List Nat} {A : Nat → Nat} {G : Nat → Nat → Nat} {Rc : Nat → Nat} {o1 : Nat → Nat} {h1 : zH} {n2 : Nat} (y : CRep g o h x S n Vs Ps Ss Ts Fs Tn A G Rc) (hn2 : n ≤ n2) {S2 : zS} {p : Nat} (st : zStep (fun q => q = 2 ∨ q = rg 5 p) o h o1 h1) (hr : ∀ k i, ¬ (k = 3 ∨ k = 13 ∨ k = 14) → S2.2 k i = S.2 k i) (hs : ∀ k, ¬ (k = 2) → S2.1 k = S.1 k) (hp : (p : Int) < S.1 12) (h13 : ∀ i, i ≠ p → S2.2 13 i = S.2 13 i) (h14 : ∀ i, i ≠ p → S2.2 14 i = S.2 14 i) (hbu : BuRep o1 2 h1 (A 1) S2) (hpe : ∀ a, Ps[p]? = some a → PeRep o1 (rg 5 p) h1 a S2 p) : CRep g o1 h1 x S2 n2 Vs Ps Ss Ts Fs Tn A G Rc := by
  exact ⟨(y.mn.fr (st.fr (r := 1) (by show ¬ (_ = _ ∨ _ = _); unfold rg; omega))).cg (hs 1 (by decide)) (hs 20 (by decide)),
    hbu,
    (y.se.fr (st.fr (r := 3) (by show ¬ (_ = _ ∨ _ = _); unfold rg; omega))).cg (hs 16 (by decide)) (fun i => hr 15 i (by decide)) (fun i => hr 17 i (by decide)),
    y.lv.fr (st.fr (r := 4) (by show ¬ (_ = _ ∨ _ = _); unfold rg; omega)),
    y.nv.trans (hs 4 (by decide)).symm,
    y.lp.fr (st.fr (r := 5) (by show ¬ (_ = _ ∨ _ = _); unfold rg; omega)),
    y.np.trans (hs 12 (by decide)).symm,
    y.ra.fr (st.fr (r := 6) (by show ¬ (_ = _ ∨ _ = _); unfold rg; omega)),
    fun c hc => by have z := ((y.rc c hc).fr (st.fr (r := rg 8 c) (by show ¬ (_ = _ ∨ _ = _); unfold rg; omega))).mono (n2 := n2) hn2; rw [show (fun w => zro S2.2 c w (S2.1 20).toNat) = (fun w => zro S.2 c w (S.1 20).toNat) from funext fun w => by rw [(hs 20 (by decide))]; exact zro_cg (fun i => hr 21 i (by decide)) (fun i => hr 22 i (by decide)) (fun i => hr 23 i (by decide)) _]; exact z,
    y.ls.fr (st.fr (r := 7) (by show ¬ (_ = _ ∨ _ = _); unfold rg; omega)),
    y.ns.trans (hs 31 (by decide)).symm,
    y.lt.fr (st.fr (r := 8) (by show ¬ (_ = _ ∨ _ = _); unfold rg; omega)),
    y.ok.cg (fun i => hr 34 i (by decide)) (fun i => hr 35 i (by decide)),
    y.lf.fr (st.fr (r := 9) (by show ¬ (_ = _ ∨ _ = _); unfold rg; omega)),
    y.nf.trans (hs 36 (by decide)).symm,
    fun u a hu => ((y.vo u a hu).fr (st.fr (r := rg 0 u) (by show ¬ (_ = _ ∨ _ = _); unfold rg; omega))).cg (hr 5 u (by decide)) (hr 6 u (by decide)) (hr 24 u (by decide)),
    fun u hu => ((y.hi u hu).fr (st.fr (r := rg 1 u) (by show ¬ (_ = _ ∨ _ = _); unfold rg; omega))).cg (fun i _ => hr 9 _ (by decide)) (fun i _ => hr 10 _ (by decide)) (fun i _ => hr 11 _ (by decide)) (hr 7 u (by decide)) (hr 8 u (by decide)),
    fun u hu => ((y.te u hu).fr (st.fr (r := rg 2 u) (by show ¬ (_ = _ ∨ _ = _); unfold rg; omega))).cg (hr 6 u (by decide)) (hr 25 u (by decide)) (hr 26 u (by decide)) (hr 27 u (by decide)) (hr 28 u (by decide)) (hr 29 u (by decide)),
    fun u hu => ((y.pl u hu).fr (st.fr (r := rg 3 u) (by show ¬ (_ = _ ∨ _ = _); unfold rg; omega))).cg hn2 (fun i => hr 19 i (by decide)) (hs 18 (by decide)) (by rw [(hs 1 (by decide))]; exact Int.le_refl _),
    fun u hu => ((y.ii u hu).fr (st.fr (r := rg 4 u) (by show ¬ (_ = _ ∨ _ = _); unfold rg; omega))).cg hn2 (fun i _ => hr 30 _ (by decide)) (by rw [(hs 1 (by decide))]; exact Int.le_refl _),
    fun u a hu => by
    by_cases hq : u = p
    · subst hq; exact hpe a hu
    · exact ((y.pe u a hu).fr (st.fr (r := rg 5 u) (by show ¬ (_ = _ ∨ _ = _); unfold rg; omega))).cg (h13 u hq) (h14 u hq),
    fun u a hu => ((y.si u a hu).fr (st.fr (r := rg 6 u) (by show ¬ (_ = _ ∨ _ = _); unfold rg; omega))).cg (fun i _ => hr 32 _ (by decide)) (hr 33 u (by decide)) (hr 34 u (by decide)) (hr 35 u (by decide)),
    fun u a hu => ((y.fi u a hu).fr (st.fr (r := rg 7 u) (by show ¬ (_ = _ ∨ _ = _); unfold rg; omega))).cg (hr 37 u (by decide)) (hr 38 u (by decide)) (hr 39 u (by decide)) (hr 40 u (by decide)) (hr 41 u (by decide)),
    fun v j h1 h2 => by rw [(hs 4 (by decide))] at h1; rw [(hr 8 v (by decide))] at h2; rw [(hr 11 _ (by decide)), (hs 1 (by decide))]; exact y.dy v j h1 h2,
    fun v j h1 h2 h3 => by rw [(hs 4 (by decide))] at h1; rw [(hr 8 v (by decide))] at h2; rw [(hr 9 _ (by decide))] at h3; rw [(hr 10 _ (by decide)), (hs 12 (by decide))]; exact y.kp v j h1 h2 h3,
    fun u h1 h2 => by rw [(hs 4 (by decide))] at h1; obtain ⟨a1, a2, a3, a4, a5, a6⟩ := y.fv u h1 h2; exact ⟨(hr 8 u (by decide)).trans a1, (hr 24 u (by decide)).trans a2, (hr 25 u (by decide)).trans a3, (hr 28 u (by decide)).trans a4, fun w g1 g2 => by unfold zins; rw [(hr 30 _ (by decide))]; exact a5 w g1 g2, fun w => (zplate_cg (fun i => hr 19 i (by decide)) (hs 18 (by decide))).trans (a6 w)⟩,
    fun u v h1 h2 => by rw [(hs 4 (by decide))] at h2; rw [(hr 5 u (by decide)), (hr 5 v (by decide))]; exact y.us u v h1 h2,
    fun q h1 => by rw [hs 12 (by decide)] at h1; rw [h13 q (by omega), h14 q (by omega)]; exact y.fp q h1,
    fun f h1 => by rw [(hs 36 (by decide))] at h1; rw [(hr 40 f (by decide))]; exact y.ff f h1⟩
set_option maxRecDepth 10000 in
theorem CRep.toVo {g : zGT} {o : Nat → Nat} {h : zH} {x : Nat} {S : zS} {n : Nat} {Vs Ps Ss Ts Fs Tn : List Nat} {A : Nat → Nat} {G : Nat → Nat → Nat} {Rc : Nat → Nat} {o1 : Nat → Nat} {h1 : zH} {n2 : Nat} (y : CRep g o h x S n Vs Ps Ss Ts Fs Tn A G Rc) (hn2 : n ≤ n2) {S2 : zS} {v : Nat} (st : zStep (fun q => q = rg 0 v) o h o1 h1) (hr : ∀ k i, ¬ (k = 24) → S2.2 k i = S.2 k i) (hs : ∀ k, ¬ (False) → S2.1 k = S.1 k) (hv : (v : Int) < S.1 4) (h24 : ∀ i, i ≠ v → S2.2 24 i = S.2 24 i) (hvo : ∀ a, Vs[v]? = some a → VoRep o1 (rg 0 v) h1 a S2 v G) : CRep g o1 h1 x S2 n2 Vs Ps Ss Ts Fs Tn A G Rc := by
  exact ⟨(y.mn.fr (st.fr (r := 1) (by show ¬ (_ = _); unfold rg; omega))).cg (hs 1 (by decide)) (hs 20 (by decide)),
    (y.bu.fr (st.fr (r := 2) (by show ¬ (_ = _); unfold rg; omega))).cg (hs 2 (by decide)) (fun i => hr 3 i (by decide)),
    (y.se.fr (st.fr (r := 3) (by show ¬ (_ = _); unfold rg; omega))).cg (hs 16 (by decide)) (fun i => hr 15 i (by decide)) (fun i => hr 17 i (by decide)),
    y.lv.fr (st.fr (r := 4) (by show ¬ (_ = _); unfold rg; omega)),
    y.nv.trans (hs 4 (by decide)).symm,
    y.lp.fr (st.fr (r := 5) (by show ¬ (_ = _); unfold rg; omega)),
    y.np.trans (hs 12 (by decide)).symm,
    y.ra.fr (st.fr (r := 6) (by show ¬ (_ = _); unfold rg; omega)),
    fun c hc => by have z := ((y.rc c hc).fr (st.fr (r := rg 8 c) (by show ¬ (_ = _); unfold rg; omega))).mono (n2 := n2) hn2; rw [show (fun w => zro S2.2 c w (S2.1 20).toNat) = (fun w => zro S.2 c w (S.1 20).toNat) from funext fun w => by rw [(hs 20 (by decide))]; exact zro_cg (fun i => hr 21 i (by decide)) (fun i => hr 22 i (by decide)) (fun i => hr 23 i (by decide)) _]; exact z,
    y.ls.fr (st.fr (r := 7) (by show ¬ (_ = _); unfold rg; omega)),
    y.ns.trans (hs 31 (by decide)).symm,
    y.lt.fr (st.fr (r := 8) (by show ¬ (_ = _); unfold rg; omega)),
    y.ok.cg (fun i => hr 34 i (by decide)) (fun i => hr 35 i (by decide)),
    y.lf.fr (st.fr (r := 9) (by show ¬ (_ = _); unfold rg; omega)),
    y.nf.trans (hs 36 (by decide)).symm,
    fun u a hu => by
    by_cases hq : u = v
    · subst hq; exact hvo a hu
    · exact ((y.vo u a hu).fr (st.fr (r := rg 0 u) (by show ¬ (_ = _); unfold rg; omega))).cg (hr 5 u (by decide)) (hr 6 u (by decide)) (h24 u hq),
    fun u hu => ((y.hi u hu).fr (st.fr (r := rg 1 u) (by show ¬ (_ = _); unfold rg; omega))).cg (fun i _ => hr 9 _ (by decide)) (fun i _ => hr 10 _ (by decide)) (fun i _ => hr 11 _ (by decide)) (hr 7 u (by decide)) (hr 8 u (by decide)),
    fun u hu => ((y.te u hu).fr (st.fr (r := rg 2 u) (by show ¬ (_ = _); unfold rg; omega))).cg (hr 6 u (by decide)) (hr 25 u (by decide)) (hr 26 u (by decide)) (hr 27 u (by decide)) (hr 28 u (by decide)) (hr 29 u (by decide)),
    fun u hu => ((y.pl u hu).fr (st.fr (r := rg 3 u) (by show ¬ (_ = _); unfold rg; omega))).cg hn2 (fun i => hr 19 i (by decide)) (hs 18 (by decide)) (by rw [(hs 1 (by decide))]; exact Int.le_refl _),
    fun u hu => ((y.ii u hu).fr (st.fr (r := rg 4 u) (by show ¬ (_ = _); unfold rg; omega))).cg hn2 (fun i _ => hr 30 _ (by decide)) (by rw [(hs 1 (by decide))]; exact Int.le_refl _),
    fun u a hu => ((y.pe u a hu).fr (st.fr (r := rg 5 u) (by show ¬ (_ = _); unfold rg; omega))).cg (hr 13 u (by decide)) (hr 14 u (by decide)),
    fun u a hu => ((y.si u a hu).fr (st.fr (r := rg 6 u) (by show ¬ (_ = _); unfold rg; omega))).cg (fun i _ => hr 32 _ (by decide)) (hr 33 u (by decide)) (hr 34 u (by decide)) (hr 35 u (by decide)),
    fun u a hu => ((y.fi u a hu).fr (st.fr (r := rg 7 u) (by show ¬ (_ = _); unfold rg; omega))).cg (hr 37 u (by decide)) (hr 38 u (by decide)) (hr 39 u (by decide)) (hr 40 u (by decide)) (hr 41 u (by decide)),
    fun v j h1 h2 => by rw [(hs 4 (by decide))] at h1; rw [(hr 8 v (by decide))] at h2; rw [(hr 11 _ (by decide)), (hs 1 (by decide))]; exact y.dy v j h1 h2,
    fun v j h1 h2 h3 => by rw [(hs 4 (by decide))] at h1; rw [(hr 8 v (by decide))] at h2; rw [(hr 9 _ (by decide))] at h3; rw [(hr 10 _ (by decide)), (hs 12 (by decide))]; exact y.kp v j h1 h2 h3,
    fun u h1 h2 => by rw [hs 4 (by decide)] at h1; obtain ⟨a1, a2, a3, a4, a5, a6⟩ := y.fv u h1 h2; exact ⟨(hr 8 u (by decide)).trans a1, (h24 u (by omega)).trans a2, (hr 25 u (by decide)).trans a3, (hr 28 u (by decide)).trans a4, fun w g1 g2 => by unfold zins; rw [hr 30 _ (by decide)]; exact a5 w g1 g2, fun w => (zplate_cg (fun i => hr 19 i (by decide)) (hs 18 (by decide))).trans (a6 w)⟩,
    fun u v h1 h2 => by rw [(hs 4 (by decide))] at h2; rw [(hr 5 u (by decide)), (hr 5 v (by decide))]; exact y.us u v h1 h2,
    fun p h1 => by rw [(hs 12 (by decide))] at h1; rw [(hr 13 p (by decide)), (hr 14 p (by decide))]; exact y.fp p h1,
    fun f h1 => by rw [(hs 36 (by decide))] at h1; rw [(hr 40 f (by decide))]; exact y.ff f h1⟩
set_option maxRecDepth 10000 in
theorem CRep.toTe {g : zGT} {o : Nat → Nat} {h : zH} {x : Nat} {S : zS} {n : Nat} {Vs Ps Ss Ts Fs Tn : List Nat} {A : Nat → Nat} {G : Nat → Nat → Nat} {Rc : Nat → Nat} {o1 : Nat → Nat} {h1 : zH} {n2 : Nat} (y : CRep g o h x S n Vs Ps Ss Ts Fs Tn A G Rc) (hn2 : n ≤ n2) {S2 : zS} {v : Nat} (st : zStep (fun q => q = rg 2 v) o h o1 h1) (hr : ∀ k i, ¬ (k = 25 ∨ k = 26 ∨ k = 27 ∨ k = 28 ∨ k = 29) → S2.2 k i = S.2 k i) (hs : ∀ k, ¬ (False) → S2.1 k = S.1 k) (hv : (v : Int) < S.1 4) (hat : ∀ k i, i ≠ v → S2.2 k i = S.2 k i) (hte : TeRep o1 (rg 2 v) h1 (G 3 v) S2 v) : CRep g o1 h1 x S2 n2 Vs Ps Ss Ts Fs Tn A G Rc := by
  exact ⟨(y.mn.fr (st.fr (r := 1) (by show ¬ (_ = _); unfold rg; omega))).cg (hs 1 (by decide)) (hs 20 (by decide)),
    (y.bu.fr (st.fr (r := 2) (by show ¬ (_ = _); unfold rg; omega))).cg (hs 2 (by decide)) (fun i => hr 3 i (by decide)),
    (y.se.fr (st.fr (r := 3) (by show ¬ (_ = _); unfold rg; omega))).cg (hs 16 (by decide)) (fun i => hr 15 i (by decide)) (fun i => hr 17 i (by decide)),
    y.lv.fr (st.fr (r := 4) (by show ¬ (_ = _); unfold rg; omega)),
    y.nv.trans (hs 4 (by decide)).symm,
    y.lp.fr (st.fr (r := 5) (by show ¬ (_ = _); unfold rg; omega)),
    y.np.trans (hs 12 (by decide)).symm,
    y.ra.fr (st.fr (r := 6) (by show ¬ (_ = _); unfold rg; omega)),
    fun c hc => by have z := ((y.rc c hc).fr (st.fr (r := rg 8 c) (by show ¬ (_ = _); unfold rg; omega))).mono (n2 := n2) hn2; rw [show (fun w => zro S2.2 c w (S2.1 20).toNat) = (fun w => zro S.2 c w (S.1 20).toNat) from funext fun w => by rw [(hs 20 (by decide))]; exact zro_cg (fun i => hr 21 i (by decide)) (fun i => hr 22 i (by decide)) (fun i => hr 23 i (by decide)) _]; exact z,
    y.ls.fr (st.fr (r := 7) (by show ¬ (_ = _); unfold rg; omega)),
    y.ns.trans (hs 31 (by decide)).symm,
    y.lt.fr (st.fr (r := 8) (by show ¬ (_ = _); unfold rg; omega)),
    y.ok.cg (fun i => hr 34 i (by decide)) (fun i => hr 35 i (by decide)),
    y.lf.fr (st.fr (r := 9) (by show ¬ (_ = _); unfold rg; omega)),
    y.nf.trans (hs 36 (by decide)).symm,
    fun u a hu => ((y.vo u a hu).fr (st.fr (r := rg 0 u) (by show ¬ (_ = _); unfold rg; omega))).cg (hr 5 u (by decide)) (hr 6 u (by decide)) (hr 24 u (by decide)),
    fun u hu => ((y.hi u hu).fr (st.fr (r := rg 1 u) (by show ¬ (_ = _); unfold rg; omega))).cg (fun i _ => hr 9 _ (by decide)) (fun i _ => hr 10 _ (by decide)) (fun i _ => hr 11 _ (by decide)) (hr 7 u (by decide)) (hr 8 u (by decide)),
    fun u hu => by
    by_cases hq : u = v
    · subst hq; exact hte
    · exact ((y.te u hu).fr (st.fr (r := rg 2 u) (by show ¬ (_ = _); unfold rg; omega))).cg (hat 6 u hq) (hat 25 u hq) (hat 26 u hq) (hat 27 u hq) (hat 28 u hq) (hat 29 u hq),
    fun u hu => ((y.pl u hu).fr (st.fr (r := rg 3 u) (by show ¬ (_ = _); unfold rg; omega))).cg hn2 (fun i => hr 19 i (by decide)) (hs 18 (by decide)) (by rw [(hs 1 (by decide))]; exact Int.le_refl _),
    fun u hu => ((y.ii u hu).fr (st.fr (r := rg 4 u) (by show ¬ (_ = _); unfold rg; omega))).cg hn2 (fun i _ => hr 30 _ (by decide)) (by rw [(hs 1 (by decide))]; exact Int.le_refl _),
    fun u a hu => ((y.pe u a hu).fr (st.fr (r := rg 5 u) (by show ¬ (_ = _); unfold rg; omega))).cg (hr 13 u (by decide)) (hr 14 u (by decide)),
    fun u a hu => ((y.si u a hu).fr (st.fr (r := rg 6 u) (by show ¬ (_ = _); unfold rg; omega))).cg (fun i _ => hr 32 _ (by decide)) (hr 33 u (by decide)) (hr 34 u (by decide)) (hr 35 u (by decide)),
    fun u a hu => ((y.fi u a hu).fr (st.fr (r := rg 7 u) (by show ¬ (_ = _); unfold rg; omega))).cg (hr 37 u (by decide)) (hr 38 u (by decide)) (hr 39 u (by decide)) (hr 40 u (by decide)) (hr 41 u (by decide)),
    fun v j h1 h2 => by rw [(hs 4 (by decide))] at h1; rw [(hr 8 v (by decide))] at h2; rw [(hr 11 _ (by decide)), (hs 1 (by decide))]; exact y.dy v j h1 h2,
    fun v j h1 h2 h3 => by rw [(hs 4 (by decide))] at h1; rw [(hr 8 v (by decide))] at h2; rw [(hr 9 _ (by decide))] at h3; rw [(hr 10 _ (by decide)), (hs 12 (by decide))]; exact y.kp v j h1 h2 h3,
    fun u h1 h2 => by rw [hs 4 (by decide)] at h1; obtain ⟨a1, a2, a3, a4, a5, a6⟩ := y.fv u h1 h2; exact ⟨(hr 8 u (by decide)).trans a1, (hr 24 u (by decide)).trans a2, (hat 25 u (by omega)).trans a3, (hat 28 u (by omega)).trans a4, fun w g1 g2 => by unfold zins; rw [hr 30 _ (by decide)]; exact a5 w g1 g2, fun w => (zplate_cg (fun i => hr 19 i (by decide)) (hs 18 (by decide))).trans (a6 w)⟩,
    fun u v h1 h2 => by rw [(hs 4 (by decide))] at h2; rw [(hr 5 u (by decide)), (hr 5 v (by decide))]; exact y.us u v h1 h2,
    fun p h1 => by rw [(hs 12 (by decide))] at h1; rw [(hr 13 p (by decide)), (hr 14 p (by decide))]; exact y.fp p h1,
    fun f h1 => by rw [(hs 36 (by decide))] at h1; rw [(hr 40 f (by decide))]; exact y.ff f h1⟩
set_option maxRecDepth 10000 in
theorem CRep.toIi {g : zGT} {o : Nat → Nat} {h : zH} {x : Nat} {S : zS} {n : Nat} {Vs Ps Ss Ts Fs Tn : List Nat} {A : Nat → Nat} {G : Nat → Nat → Nat} {Rc : Nat → Nat} {o1 : Nat → Nat} {h1 : zH} {n2 : Nat} (y : CRep g o h x S n Vs Ps Ss Ts Fs Tn A G Rc) (hn2 : n ≤ n2) {S2 : zS} {v : Nat} (st : zStep (fun q => q = rg 4 v) o h o1 h1) (hr : ∀ k i, ¬ (k = 30) → S2.2 k i = S.2 k i) (hs : ∀ k, ¬ (False) → S2.1 k = S.1 k) (hv : (v : Int) < S.1 4) (hat : ∀ u i, u ≠ v → i < 313 → S2.2 30 (313 * u + i) = S.2 30 (313 * u + i)) (hii : IiRep o1 (rg 4 v) h1 (G 5 v) S2 v n2) (hfv : ∀ u w, u ≠ v → 0 ≤ w → w ≤ 20000 → zins S2.2 u w = zins S.2 u w) : CRep g o1 h1 x S2 n2 Vs Ps Ss Ts Fs Tn A G Rc := by
  exact ⟨(y.mn.fr (st.fr (r := 1) (by show ¬ (_ = _); unfold rg; omega))).cg (hs 1 (by decide)) (hs 20 (by decide)),
    (y.bu.fr (st.fr (r := 2) (by show ¬ (_ = _); unfold rg; omega))).cg (hs 2 (by decide)) (fun i => hr 3 i (by decide)),
    (y.se.fr (st.fr (r := 3) (by show ¬ (_ = _); unfold rg; omega))).cg (hs 16 (by decide)) (fun i => hr 15 i (by decide)) (fun i => hr 17 i (by decide)),
    y.lv.fr (st.fr (r := 4) (by show ¬ (_ = _); unfold rg; omega)),
    y.nv.trans (hs 4 (by decide)).symm,
    y.lp.fr (st.fr (r := 5) (by show ¬ (_ = _); unfold rg; omega)),
    y.np.trans (hs 12 (by decide)).symm,
    y.ra.fr (st.fr (r := 6) (by show ¬ (_ = _); unfold rg; omega)),
    fun c hc => by have z := ((y.rc c hc).fr (st.fr (r := rg 8 c) (by show ¬ (_ = _); unfold rg; omega))).mono (n2 := n2) hn2; rw [show (fun w => zro S2.2 c w (S2.1 20).toNat) = (fun w => zro S.2 c w (S.1 20).toNat) from funext fun w => by rw [(hs 20 (by decide))]; exact zro_cg (fun i => hr 21 i (by decide)) (fun i => hr 22 i (by decide)) (fun i => hr 23 i (by decide)) _]; exact z,
    y.ls.fr (st.fr (r := 7) (by show ¬ (_ = _); unfold rg; omega)),
    y.ns.trans (hs 31 (by decide)).symm,
    y.lt.fr (st.fr (r := 8) (by show ¬ (_ = _); unfold rg; omega)),
    y.ok.cg (fun i => hr 34 i (by decide)) (fun i => hr 35 i (by decide)),
    y.lf.fr (st.fr (r := 9) (by show ¬ (_ = _); unfold rg; omega)),
    y.nf.trans (hs 36 (by decide)).symm,
    fun u a hu => ((y.vo u a hu).fr (st.fr (r := rg 0 u) (by show ¬ (_ = _); unfold rg; omega))).cg (hr 5 u (by decide)) (hr 6 u (by decide)) (hr 24 u (by decide)),
    fun u hu => ((y.hi u hu).fr (st.fr (r := rg 1 u) (by show ¬ (_ = _); unfold rg; omega))).cg (fun i _ => hr 9 _ (by decide)) (fun i _ => hr 10 _ (by decide)) (fun i _ => hr 11 _ (by decide)) (hr 7 u (by decide)) (hr 8 u (by decide)),
    fun u hu => ((y.te u hu).fr (st.fr (r := rg 2 u) (by show ¬ (_ = _); unfold rg; omega))).cg (hr 6 u (by decide)) (hr 25 u (by decide)) (hr 26 u (by decide)) (hr 27 u (by decide)) (hr 28 u (by decide)) (hr 29 u (by decide)),
    fun u hu => ((y.pl u hu).fr (st.fr (r := rg 3 u) (by show ¬ (_ = _); unfold rg; omega))).cg hn2 (fun i => hr 19 i (by decide)) (hs 18 (by decide)) (by rw [(hs 1 (by decide))]; exact Int.le_refl _),
    fun u hu => by
    by_cases hq : u = v
    · subst hq; exact hii
    · exact ((y.ii u hu).fr (st.fr (r := rg 4 u) (by show ¬ (_ = _); unfold rg; omega))).cg hn2 (fun i hi => hat u i hq hi) (by rw [hs 1 (by decide)]; exact Int.le_refl _),
    fun u a hu => ((y.pe u a hu).fr (st.fr (r := rg 5 u) (by show ¬ (_ = _); unfold rg; omega))).cg (hr 13 u (by decide)) (hr 14 u (by decide)),
    fun u a hu => ((y.si u a hu).fr (st.fr (r := rg 6 u) (by show ¬ (_ = _); unfold rg; omega))).cg (fun i _ => hr 32 _ (by decide)) (hr 33 u (by decide)) (hr 34 u (by decide)) (hr 35 u (by decide)),
    fun u a hu => ((y.fi u a hu).fr (st.fr (r := rg 7 u) (by show ¬ (_ = _); unfold rg; omega))).cg (hr 37 u (by decide)) (hr 38 u (by decide)) (hr 39 u (by decide)) (hr 40 u (by decide)) (hr 41 u (by decide)),
    fun v j h1 h2 => by rw [(hs 4 (by decide))] at h1; rw [(hr 8 v (by decide))] at h2; rw [(hr 11 _ (by decide)), (hs 1 (by decide))]; exact y.dy v j h1 h2,
    fun v j h1 h2 h3 => by rw [(hs 4 (by decide))] at h1; rw [(hr 8 v (by decide))] at h2; rw [(hr 9 _ (by decide))] at h3; rw [(hr 10 _ (by decide)), (hs 12 (by decide))]; exact y.kp v j h1 h2 h3,
    fun u h1 h2 => by rw [hs 4 (by decide)] at h1; obtain ⟨a1, a2, a3, a4, a5, a6⟩ := y.fv u h1 h2; exact ⟨(hr 8 u (by decide)).trans a1, (hr 24 u (by decide)).trans a2, (hr 25 u (by decide)).trans a3, (hr 28 u (by decide)).trans a4, fun w g1 g2 => (hfv u w (by omega) g1 g2).trans (a5 w g1 g2), fun w => (zplate_cg (fun i => hr 19 i (by decide)) (hs 18 (by decide))).trans (a6 w)⟩,
    fun u v h1 h2 => by rw [(hs 4 (by decide))] at h2; rw [(hr 5 u (by decide)), (hr 5 v (by decide))]; exact y.us u v h1 h2,
    fun p h1 => by rw [(hs 12 (by decide))] at h1; rw [(hr 13 p (by decide)), (hr 14 p (by decide))]; exact y.fp p h1,
    fun f h1 => by rw [(hs 36 (by decide))] at h1; rw [(hr 40 f (by decide))]; exact y.ff f h1⟩
set_option maxRecDepth 10000 in
theorem CRep.toHi {g : zGT} {o : Nat → Nat} {h : zH} {x : Nat} {S : zS} {n : Nat} {Vs Ps Ss Ts Fs Tn : List Nat} {A : Nat → Nat} {G : Nat → Nat → Nat} {Rc : Nat → Nat} {o1 : Nat → Nat} {h1 : zH} {n2 : Nat} (y : CRep g o h x S n Vs Ps Ss Ts Fs Tn A G Rc) (hn2 : n ≤ n2) {S2 : zS} {v : Nat} (st : zStep (fun q => q = rg 1 v) o h o1 h1) (hr : ∀ k i, ¬ (k = 8 ∨ k = 9 ∨ k = 10 ∨ k = 11) → S2.2 k i = S.2 k i) (hs : ∀ k, ¬ (False) → S2.1 k = S.1 k) (hv : (v : Int) < S.1 4) (h8 : ∀ u, u ≠ v → S2.2 8 u = S.2 8 u) (hat : ∀ k u i, u ≠ v → i < 30 → k ≠ 8 → S2.2 k (30 * u + i) = S.2 k (30 * u + i)) (hhi : HiRep g o1 (rg 1 v) h1 (G 2 v) S2 v) (hdy : ∀ j : Nat, (j : Int) < S2.2 8 v → S2.2 11 (30 * v + j) ≤ S.1 1) (hkp : ∀ j : Nat, (j : Int) < S2.2 8 v → S2.2 9 (30 * v + j) = 0 → S2.2 10 (30 * v + j) < S.1 12) (hev : ∀ u, S.2 8 u ≤ 30) : CRep g o1 h1 x S2 n2 Vs Ps Ss Ts Fs Tn A G Rc := by
  exact ⟨(y.mn.fr (st.fr (r := 1) (by show ¬ (_ = _); unfold rg; omega))).cg (hs 1 (by decide)) (hs 20 (by decide)),
    (y.bu.fr (st.fr (r := 2) (by show ¬ (_ = _); unfold rg; omega))).cg (hs 2 (by decide)) (fun i => hr 3 i (by decide)),
    (y.se.fr (st.fr (r := 3) (by show ¬ (_ = _); unfold rg; omega))).cg (hs 16 (by decide)) (fun i => hr 15 i (by decide)) (fun i => hr 17 i (by decide)),
    y.lv.fr (st.fr (r := 4) (by show ¬ (_ = _); unfold rg; omega)),
    y.nv.trans (hs 4 (by decide)).symm,
    y.lp.fr (st.fr (r := 5) (by show ¬ (_ = _); unfold rg; omega)),
    y.np.trans (hs 12 (by decide)).symm,
    y.ra.fr (st.fr (r := 6) (by show ¬ (_ = _); unfold rg; omega)),
    fun c hc => by have z := ((y.rc c hc).fr (st.fr (r := rg 8 c) (by show ¬ (_ = _); unfold rg; omega))).mono (n2 := n2) hn2; rw [show (fun w => zro S2.2 c w (S2.1 20).toNat) = (fun w => zro S.2 c w (S.1 20).toNat) from funext fun w => by rw [(hs 20 (by decide))]; exact zro_cg (fun i => hr 21 i (by decide)) (fun i => hr 22 i (by decide)) (fun i => hr 23 i (by decide)) _]; exact z,
    y.ls.fr (st.fr (r := 7) (by show ¬ (_ = _); unfold rg; omega)),
    y.ns.trans (hs 31 (by decide)).symm,
    y.lt.fr (st.fr (r := 8) (by show ¬ (_ = _); unfold rg; omega)),
    y.ok.cg (fun i => hr 34 i (by decide)) (fun i => hr 35 i (by decide)),
    y.lf.fr (st.fr (r := 9) (by show ¬ (_ = _); unfold rg; omega)),
    y.nf.trans (hs 36 (by decide)).symm,
    fun u a hu => ((y.vo u a hu).fr (st.fr (r := rg 0 u) (by show ¬ (_ = _); unfold rg; omega))).cg (hr 5 u (by decide)) (hr 6 u (by decide)) (hr 24 u (by decide)),
    fun u hu => by
    by_cases hq : u = v
    · subst hq; exact hhi
    · exact ((y.hi u hu).fr (st.fr (r := rg 1 u) (by show ¬ (_ = _); unfold rg; omega))).cg (fun i hi => hat 9 u i hq hi (by decide)) (fun i hi => hat 10 u i hq hi (by decide)) (fun i hi => hat 11 u i hq hi (by decide)) (hr 7 u (by decide)) (h8 u hq),
    fun u hu => ((y.te u hu).fr (st.fr (r := rg 2 u) (by show ¬ (_ = _); unfold rg; omega))).cg (hr 6 u (by decide)) (hr 25 u (by decide)) (hr 26 u (by decide)) (hr 27 u (by decide)) (hr 28 u (by decide)) (hr 29 u (by decide)),
    fun u hu => ((y.pl u hu).fr (st.fr (r := rg 3 u) (by show ¬ (_ = _); unfold rg; omega))).cg hn2 (fun i => hr 19 i (by decide)) (hs 18 (by decide)) (by rw [(hs 1 (by decide))]; exact Int.le_refl _),
    fun u hu => ((y.ii u hu).fr (st.fr (r := rg 4 u) (by show ¬ (_ = _); unfold rg; omega))).cg hn2 (fun i _ => hr 30 _ (by decide)) (by rw [(hs 1 (by decide))]; exact Int.le_refl _),
    fun u a hu => ((y.pe u a hu).fr (st.fr (r := rg 5 u) (by show ¬ (_ = _); unfold rg; omega))).cg (hr 13 u (by decide)) (hr 14 u (by decide)),
    fun u a hu => ((y.si u a hu).fr (st.fr (r := rg 6 u) (by show ¬ (_ = _); unfold rg; omega))).cg (fun i _ => hr 32 _ (by decide)) (hr 33 u (by decide)) (hr 34 u (by decide)) (hr 35 u (by decide)),
    fun u a hu => ((y.fi u a hu).fr (st.fr (r := rg 7 u) (by show ¬ (_ = _); unfold rg; omega))).cg (hr 37 u (by decide)) (hr 38 u (by decide)) (hr 39 u (by decide)) (hr 40 u (by decide)) (hr 41 u (by decide)),
    fun u j h1 h2 => by
    rw [hs 4 (by decide)] at h1
    rw [hs 1 (by decide)]
    by_cases hq : u = v
    · subst hq; exact hdy j h2
    · rw [h8 u hq] at h2; rw [hat 11 u j hq (by have := hev u; omega) (by decide)]; exact y.dy u j h1 h2,
    fun u j h1 h2 h3 => by
    rw [hs 4 (by decide)] at h1
    rw [hs 12 (by decide)]
    by_cases hq : u = v
    · subst hq; exact hkp j h2 h3
    · rw [h8 u hq] at h2; have hj : j < 30 := by have := hev u; omega
      rw [hat 9 u j hq hj (by decide)] at h3; rw [hat 10 u j hq hj (by decide)]; exact y.kp u j h1 h2 h3,
    fun u h1 h2 => by rw [hs 4 (by decide)] at h1; obtain ⟨a1, a2, a3, a4, a5, a6⟩ := y.fv u h1 h2; exact ⟨(h8 u (by omega)).trans a1, (hr 24 u (by decide)).trans a2, (hr 25 u (by decide)).trans a3, (hr 28 u (by decide)).trans a4, fun w g1 g2 => by unfold zins; rw [hr 30 _ (by decide)]; exact a5 w g1 g2, fun w => (zplate_cg (fun i => hr 19 i (by decide)) (hs 18 (by decide))).trans (a6 w)⟩,
    fun u v h1 h2 => by rw [(hs 4 (by decide))] at h2; rw [(hr 5 u (by decide)), (hr 5 v (by decide))]; exact y.us u v h1 h2,
    fun p h1 => by rw [(hs 12 (by decide))] at h1; rw [(hr 13 p (by decide)), (hr 14 p (by decide))]; exact y.fp p h1,
    fun f h1 => by rw [(hs 36 (by decide))] at h1; rw [(hr 40 f (by decide))]; exact y.ff f h1⟩
set_option maxRecDepth 10000 in
theorem CRep.toFi {g : zGT} {o : Nat → Nat} {h : zH} {x : Nat} {S : zS} {n : Nat} {Vs Ps Ss Ts Fs Tn : List Nat} {A : Nat → Nat} {G : Nat → Nat → Nat} {Rc : Nat → Nat} {o1 : Nat → Nat} {h1 : zH} {n2 : Nat} (y : CRep g o h x S n Vs Ps Ss Ts Fs Tn A G Rc) (hn2 : n ≤ n2) {S2 : zS} {f : Nat} (st : zStep (fun q => q = rg 7 f) o h o1 h1) (hr : ∀ k i, ¬ (k = 39 ∨ k = 40 ∨ k = 41) → S2.2 k i = S.2 k i) (hs : ∀ k, ¬ (False) → S2.1 k = S.1 k) (hf : (f : Int) < S.1 36) (hat : ∀ k i, i ≠ f → S2.2 k i = S.2 k i) (hfi : ∀ a, Fs[f]? = some a → FiRep o1 (rg 7 f) h1 a S2 f Ss) : CRep g o1 h1 x S2 n2 Vs Ps Ss Ts Fs Tn A G Rc := by
  exact ⟨(y.mn.fr (st.fr (r := 1) (by show ¬ (_ = _); unfold rg; omega))).cg (hs 1 (by decide)) (hs 20 (by decide)),
    (y.bu.fr (st.fr (r := 2) (by show ¬ (_ = _); unfold rg; omega))).cg (hs 2 (by decide)) (fun i => hr 3 i (by decide)),
    (y.se.fr (st.fr (r := 3) (by show ¬ (_ = _); unfold rg; omega))).cg (hs 16 (by decide)) (fun i => hr 15 i (by decide)) (fun i => hr 17 i (by decide)),
    y.lv.fr (st.fr (r := 4) (by show ¬ (_ = _); unfold rg; omega)),
    y.nv.trans (hs 4 (by decide)).symm,
    y.lp.fr (st.fr (r := 5) (by show ¬ (_ = _); unfold rg; omega)),
    y.np.trans (hs 12 (by decide)).symm,
    y.ra.fr (st.fr (r := 6) (by show ¬ (_ = _); unfold rg; omega)),
    fun c hc => by have z := ((y.rc c hc).fr (st.fr (r := rg 8 c) (by show ¬ (_ = _); unfold rg; omega))).mono (n2 := n2) hn2; rw [show (fun w => zro S2.2 c w (S2.1 20).toNat) = (fun w => zro S.2 c w (S.1 20).toNat) from funext fun w => by rw [(hs 20 (by decide))]; exact zro_cg (fun i => hr 21 i (by decide)) (fun i => hr 22 i (by decide)) (fun i => hr 23 i (by decide)) _]; exact z,
    y.ls.fr (st.fr (r := 7) (by show ¬ (_ = _); unfold rg; omega)),
    y.ns.trans (hs 31 (by decide)).symm,
    y.lt.fr (st.fr (r := 8) (by show ¬ (_ = _); unfold rg; omega)),
    y.ok.cg (fun i => hr 34 i (by decide)) (fun i => hr 35 i (by decide)),
    y.lf.fr (st.fr (r := 9) (by show ¬ (_ = _); unfold rg; omega)),
    y.nf.trans (hs 36 (by decide)).symm,
    fun u a hu => ((y.vo u a hu).fr (st.fr (r := rg 0 u) (by show ¬ (_ = _); unfold rg; omega))).cg (hr 5 u (by decide)) (hr 6 u (by decide)) (hr 24 u (by decide)),
    fun u hu => ((y.hi u hu).fr (st.fr (r := rg 1 u) (by show ¬ (_ = _); unfold rg; omega))).cg (fun i _ => hr 9 _ (by decide)) (fun i _ => hr 10 _ (by decide)) (fun i _ => hr 11 _ (by decide)) (hr 7 u (by decide)) (hr 8 u (by decide)),
    fun u hu => ((y.te u hu).fr (st.fr (r := rg 2 u) (by show ¬ (_ = _); unfold rg; omega))).cg (hr 6 u (by decide)) (hr 25 u (by decide)) (hr 26 u (by decide)) (hr 27 u (by decide)) (hr 28 u (by decide)) (hr 29 u (by decide)),
    fun u hu => ((y.pl u hu).fr (st.fr (r := rg 3 u) (by show ¬ (_ = _); unfold rg; omega))).cg hn2 (fun i => hr 19 i (by decide)) (hs 18 (by decide)) (by rw [(hs 1 (by decide))]; exact Int.le_refl _),
    fun u hu => ((y.ii u hu).fr (st.fr (r := rg 4 u) (by show ¬ (_ = _); unfold rg; omega))).cg hn2 (fun i _ => hr 30 _ (by decide)) (by rw [(hs 1 (by decide))]; exact Int.le_refl _),
    fun u a hu => ((y.pe u a hu).fr (st.fr (r := rg 5 u) (by show ¬ (_ = _); unfold rg; omega))).cg (hr 13 u (by decide)) (hr 14 u (by decide)),
    fun u a hu => ((y.si u a hu).fr (st.fr (r := rg 6 u) (by show ¬ (_ = _); unfold rg; omega))).cg (fun i _ => hr 32 _ (by decide)) (hr 33 u (by decide)) (hr 34 u (by decide)) (hr 35 u (by decide)),
    fun u a hu => by
    by_cases hq : u = f
    · subst hq; exact hfi a hu
    · exact ((y.fi u a hu).fr (st.fr (r := rg 7 u) (by show ¬ (_ = _); unfold rg; omega))).cg (hat 37 u hq) (hat 38 u hq) (hat 39 u hq) (hat 40 u hq) (hat 41 u hq),
    fun v j h1 h2 => by rw [(hs 4 (by decide))] at h1; rw [(hr 8 v (by decide))] at h2; rw [(hr 11 _ (by decide)), (hs 1 (by decide))]; exact y.dy v j h1 h2,
    fun v j h1 h2 h3 => by rw [(hs 4 (by decide))] at h1; rw [(hr 8 v (by decide))] at h2; rw [(hr 9 _ (by decide))] at h3; rw [(hr 10 _ (by decide)), (hs 12 (by decide))]; exact y.kp v j h1 h2 h3,
    fun u h1 h2 => by rw [(hs 4 (by decide))] at h1; obtain ⟨a1, a2, a3, a4, a5, a6⟩ := y.fv u h1 h2; exact ⟨(hr 8 u (by decide)).trans a1, (hr 24 u (by decide)).trans a2, (hr 25 u (by decide)).trans a3, (hr 28 u (by decide)).trans a4, fun w g1 g2 => by unfold zins; rw [(hr 30 _ (by decide))]; exact a5 w g1 g2, fun w => (zplate_cg (fun i => hr 19 i (by decide)) (hs 18 (by decide))).trans (a6 w)⟩,
    fun u v h1 h2 => by rw [(hs 4 (by decide))] at h2; rw [(hr 5 u (by decide)), (hr 5 v (by decide))]; exact y.us u v h1 h2,
    fun p h1 => by rw [(hs 12 (by decide))] at h1; rw [(hr 13 p (by decide)), (hr 14 p (by decide))]; exact y.fp p h1,
    fun q h1 => by rw [hs 36 (by decide)] at h1; rw [hat 40 q (by omega)]; exact y.ff q h1⟩
set_option maxRecDepth 10000 in
theorem CRep.addFi {g : zGT} {o : Nat → Nat} {h : zH} {x : Nat} {S : zS} {n : Nat} {Vs Ps Ss Ts Fs Tn : List Nat} {A : Nat → Nat} {G : Nat → Nat → Nat} {Rc : Nat → Nat} {o1 : Nat → Nat} {h1 : zH} {n2 : Nat} (y : CRep g o h x S n Vs Ps Ss Ts Fs Tn A G Rc) (hn2 : n ≤ n2) {S2 : zS} {a : Nat} (st : zStep (fun q => q = 9 ∨ q = rg 7 Fs.length) o h o1 h1) (hr : ∀ k i, ¬ (k = 37 ∨ k = 38 ∨ k = 39) → S2.2 k i = S.2 k i) (hs : ∀ k, ¬ (k = 36) → S2.1 k = S.1 k) (hlf : LRep g o1 9 h1 (A 9) (Fs ++ [a])) (h36 : S2.1 36 = S.1 36 + 1) (hat : ∀ k i, i ≠ Fs.length → S2.2 k i = S.2 k i) (hfi : FiRep o1 (rg 7 Fs.length) h1 a S2 Fs.length Ss) : CRep g o1 h1 x S2 n2 Vs Ps Ss Ts (Fs ++ [a]) Tn A G Rc := by
  exact ⟨(y.mn.fr (st.fr (r := 1) (by show ¬ (_ = _ ∨ _ = _); unfold rg; omega))).cg (hs 1 (by decide)) (hs 20 (by decide)),
    (y.bu.fr (st.fr (r := 2) (by show ¬ (_ = _ ∨ _ = _); unfold rg; omega))).cg (hs 2 (by decide)) (fun i => hr 3 i (by decide)),
    (y.se.fr (st.fr (r := 3) (by show ¬ (_ = _ ∨ _ = _); unfold rg; omega))).cg (hs 16 (by decide)) (fun i => hr 15 i (by decide)) (fun i => hr 17 i (by decide)),
    y.lv.fr (st.fr (r := 4) (by show ¬ (_ = _ ∨ _ = _); unfold rg; omega)),
    y.nv.trans (hs 4 (by decide)).symm,
    y.lp.fr (st.fr (r := 5) (by show ¬ (_ = _ ∨ _ = _); unfold rg; omega)),
    y.np.trans (hs 12 (by decide)).symm,
    y.ra.fr (st.fr (r := 6) (by show ¬ (_ = _ ∨ _ = _); unfold rg; omega)),
    fun c hc => by have z := ((y.rc c hc).fr (st.fr (r := rg 8 c) (by show ¬ (_ = _ ∨ _ = _); unfold rg; omega))).mono (n2 := n2) hn2; rw [show (fun w => zro S2.2 c w (S2.1 20).toNat) = (fun w => zro S.2 c w (S.1 20).toNat) from funext fun w => by rw [(hs 20 (by decide))]; exact zro_cg (fun i => hr 21 i (by decide)) (fun i => hr 22 i (by decide)) (fun i => hr 23 i (by decide)) _]; exact z,
    y.ls.fr (st.fr (r := 7) (by show ¬ (_ = _ ∨ _ = _); unfold rg; omega)),
    y.ns.trans (hs 31 (by decide)).symm,
    y.lt.fr (st.fr (r := 8) (by show ¬ (_ = _ ∨ _ = _); unfold rg; omega)),
    y.ok.cg (fun i => hr 34 i (by decide)) (fun i => hr 35 i (by decide)),
    hlf,
    by rw [h36]; simp; have := y.nf; omega,
    fun u a hu => ((y.vo u a hu).fr (st.fr (r := rg 0 u) (by show ¬ (_ = _ ∨ _ = _); unfold rg; omega))).cg (hr 5 u (by decide)) (hr 6 u (by decide)) (hr 24 u (by decide)),
    fun u hu => ((y.hi u hu).fr (st.fr (r := rg 1 u) (by show ¬ (_ = _ ∨ _ = _); unfold rg; omega))).cg (fun i _ => hr 9 _ (by decide)) (fun i _ => hr 10 _ (by decide)) (fun i _ => hr 11 _ (by decide)) (hr 7 u (by decide)) (hr 8 u (by decide)),
    fun u hu => ((y.te u hu).fr (st.fr (r := rg 2 u) (by show ¬ (_ = _ ∨ _ = _); unfold rg; omega))).cg (hr 6 u (by decide)) (hr 25 u (by decide)) (hr 26 u (by decide)) (hr 27 u (by decide)) (hr 28 u (by decide)) (hr 29 u (by decide)),
    fun u hu => ((y.pl u hu).fr (st.fr (r := rg 3 u) (by show ¬ (_ = _ ∨ _ = _); unfold rg; omega))).cg hn2 (fun i => hr 19 i (by decide)) (hs 18 (by decide)) (by rw [(hs 1 (by decide))]; exact Int.le_refl _),
    fun u hu => ((y.ii u hu).fr (st.fr (r := rg 4 u) (by show ¬ (_ = _ ∨ _ = _); unfold rg; omega))).cg hn2 (fun i _ => hr 30 _ (by decide)) (by rw [(hs 1 (by decide))]; exact Int.le_refl _),
    fun u a hu => ((y.pe u a hu).fr (st.fr (r := rg 5 u) (by show ¬ (_ = _ ∨ _ = _); unfold rg; omega))).cg (hr 13 u (by decide)) (hr 14 u (by decide)),
    fun u a hu => ((y.si u a hu).fr (st.fr (r := rg 6 u) (by show ¬ (_ = _ ∨ _ = _); unfold rg; omega))).cg (fun i _ => hr 32 _ (by decide)) (hr 33 u (by decide)) (hr 34 u (by decide)) (hr 35 u (by decide)),
    fun u a hu => by
    by_cases hq : u < Fs.length
    · rw [List.getElem?_append_left hq] at hu; have hq := Nat.ne_of_lt hq; exact ((y.fi u a hu).fr (st.fr (r := rg 7 u) (by show ¬ (_ = _ ∨ _ = _); unfold rg; omega))).cg (hat 37 u hq) (hat 38 u hq) (hat 39 u hq) (hat 40 u hq) (hat 41 u hq)
    · have hq2 := (List.getElem?_eq_some_iff.mp hu).1; rw [List.length_append] at hq2; have hq3 : u = Fs.length := by simp at hq2; omega
      subst hq3; rw [List.getElem?_append_right (Nat.le_refl _)] at hu; simp at hu; subst hu; exact hfi,
    fun v j h1 h2 => by rw [(hs 4 (by decide))] at h1; rw [(hr 8 v (by decide))] at h2; rw [(hr 11 _ (by decide)), (hs 1 (by decide))]; exact y.dy v j h1 h2,
    fun v j h1 h2 h3 => by rw [(hs 4 (by decide))] at h1; rw [(hr 8 v (by decide))] at h2; rw [(hr 9 _ (by decide))] at h3; rw [(hr 10 _ (by decide)), (hs 12 (by decide))]; exact y.kp v j h1 h2 h3,
    fun u h1 h2 => by rw [(hs 4 (by decide))] at h1; obtain ⟨a1, a2, a3, a4, a5, a6⟩ := y.fv u h1 h2; exact ⟨(hr 8 u (by decide)).trans a1, (hr 24 u (by decide)).trans a2, (hr 25 u (by decide)).trans a3, (hr 28 u (by decide)).trans a4, fun w g1 g2 => by unfold zins; rw [(hr 30 _ (by decide))]; exact a5 w g1 g2, fun w => (zplate_cg (fun i => hr 19 i (by decide)) (hs 18 (by decide))).trans (a6 w)⟩,
    fun u v h1 h2 => by rw [(hs 4 (by decide))] at h2; rw [(hr 5 u (by decide)), (hr 5 v (by decide))]; exact y.us u v h1 h2,
    fun p h1 => by rw [(hs 12 (by decide))] at h1; rw [(hr 13 p (by decide)), (hr 14 p (by decide))]; exact y.fp p h1,
    fun q h1 => by rw [h36] at h1; rw [hr 40 q (by decide)]; exact y.ff q (by omega)⟩
set_option maxRecDepth 10000 in
theorem CRep.addPe {g : zGT} {o : Nat → Nat} {h : zH} {x : Nat} {S : zS} {n : Nat} {Vs Ps Ss Ts Fs Tn : List Nat} {A : Nat → Nat} {G : Nat → Nat → Nat} {Rc : Nat → Nat} {o1 : Nat → Nat} {h1 : zH} {n2 : Nat} (y : CRep g o h x S n Vs Ps Ss Ts Fs Tn A G Rc) (hn2 : n ≤ n2) {S2 : zS} {a : Nat} (st : zStep (fun q => q = 5 ∨ q = rg 5 Ps.length) o h o1 h1) (hr : ∀ k i, ¬ (False) → S2.2 k i = S.2 k i) (hs : ∀ k, ¬ (k = 12) → S2.1 k = S.1 k) (hlp : LRep g o1 5 h1 (A 4) (Ps ++ [a])) (h12 : S2.1 12 = S.1 12 + 1) (hpe : PeRep o1 (rg 5 Ps.length) h1 a S2 Ps.length) : CRep g o1 h1 x S2 n2 Vs (Ps ++ [a]) Ss Ts Fs Tn A G Rc := by
  exact ⟨(y.mn.fr (st.fr (r := 1) (by show ¬ (_ = _ ∨ _ = _); unfold rg; omega))).cg (hs 1 (by decide)) (hs 20 (by decide)),
    (y.bu.fr (st.fr (r := 2) (by show ¬ (_ = _ ∨ _ = _); unfold rg; omega))).cg (hs 2 (by decide)) (fun i => hr 3 i (by decide)),
    (y.se.fr (st.fr (r := 3) (by show ¬ (_ = _ ∨ _ = _); unfold rg; omega))).cg (hs 16 (by decide)) (fun i => hr 15 i (by decide)) (fun i => hr 17 i (by decide)),
    y.lv.fr (st.fr (r := 4) (by show ¬ (_ = _ ∨ _ = _); unfold rg; omega)),
    y.nv.trans (hs 4 (by decide)).symm,
    hlp,
    by rw [h12]; simp; have := y.np; omega,
    y.ra.fr (st.fr (r := 6) (by show ¬ (_ = _ ∨ _ = _); unfold rg; omega)),
    fun c hc => by have z := ((y.rc c hc).fr (st.fr (r := rg 8 c) (by show ¬ (_ = _ ∨ _ = _); unfold rg; omega))).mono (n2 := n2) hn2; rw [show (fun w => zro S2.2 c w (S2.1 20).toNat) = (fun w => zro S.2 c w (S.1 20).toNat) from funext fun w => by rw [(hs 20 (by decide))]; exact zro_cg (fun i => hr 21 i (by decide)) (fun i => hr 22 i (by decide)) (fun i => hr 23 i (by decide)) _]; exact z,
    y.ls.fr (st.fr (r := 7) (by show ¬ (_ = _ ∨ _ = _); unfold rg; omega)),
    y.ns.trans (hs 31 (by decide)).symm,
    y.lt.fr (st.fr (r := 8) (by show ¬ (_ = _ ∨ _ = _); unfold rg; omega)),
    y.ok.cg (fun i => hr 34 i (by decide)) (fun i => hr 35 i (by decide)),
    y.lf.fr (st.fr (r := 9) (by show ¬ (_ = _ ∨ _ = _); unfold rg; omega)),
    y.nf.trans (hs 36 (by decide)).symm,
    fun u a hu => ((y.vo u a hu).fr (st.fr (r := rg 0 u) (by show ¬ (_ = _ ∨ _ = _); unfold rg; omega))).cg (hr 5 u (by decide)) (hr 6 u (by decide)) (hr 24 u (by decide)),
    fun u hu => ((y.hi u hu).fr (st.fr (r := rg 1 u) (by show ¬ (_ = _ ∨ _ = _); unfold rg; omega))).cg (fun i _ => hr 9 _ (by decide)) (fun i _ => hr 10 _ (by decide)) (fun i _ => hr 11 _ (by decide)) (hr 7 u (by decide)) (hr 8 u (by decide)),
    fun u hu => ((y.te u hu).fr (st.fr (r := rg 2 u) (by show ¬ (_ = _ ∨ _ = _); unfold rg; omega))).cg (hr 6 u (by decide)) (hr 25 u (by decide)) (hr 26 u (by decide)) (hr 27 u (by decide)) (hr 28 u (by decide)) (hr 29 u (by decide)),
    fun u hu => ((y.pl u hu).fr (st.fr (r := rg 3 u) (by show ¬ (_ = _ ∨ _ = _); unfold rg; omega))).cg hn2 (fun i => hr 19 i (by decide)) (hs 18 (by decide)) (by rw [(hs 1 (by decide))]; exact Int.le_refl _),
    fun u hu => ((y.ii u hu).fr (st.fr (r := rg 4 u) (by show ¬ (_ = _ ∨ _ = _); unfold rg; omega))).cg hn2 (fun i _ => hr 30 _ (by decide)) (by rw [(hs 1 (by decide))]; exact Int.le_refl _),
    fun u a hu => by
    by_cases hq : u < Ps.length
    · rw [List.getElem?_append_left hq] at hu; have hq := Nat.ne_of_lt hq; exact ((y.pe u a hu).fr (st.fr (r := rg 5 u) (by show ¬ (_ = _ ∨ _ = _); unfold rg; omega))).cg (hr 13 u (by decide)) (hr 14 u (by decide))
    · have hq2 := (List.getElem?_eq_some_iff.mp hu).1; rw [List.length_append] at hq2; have hq3 : u = Ps.length := by simp at hq2; omega
      subst hq3; rw [List.getElem?_append_right (Nat.le_refl _)] at hu; simp at hu; subst hu; exact hpe,
    fun u a hu => ((y.si u a hu).fr (st.fr (r := rg 6 u) (by show ¬ (_ = _ ∨ _ = _); unfold rg; omega))).cg (fun i _ => hr 32 _ (by decide)) (hr 33 u (by decide)) (hr 34 u (by decide)) (hr 35 u (by decide)),
    fun u a hu => ((y.fi u a hu).fr (st.fr (r := rg 7 u) (by show ¬ (_ = _ ∨ _ = _); unfold rg; omega))).cg (hr 37 u (by decide)) (hr 38 u (by decide)) (hr 39 u (by decide)) (hr 40 u (by decide)) (hr 41 u (by decide)),
    fun v j h1 h2 => by rw [(hs 4 (by decide))] at h1; rw [(hr 8 v (by decide))] at h2; rw [(hr 11 _ (by decide)), (hs 1 (by decide))]; exact y.dy v j h1 h2,
    fun v j h1 h2 h3 => by rw [hs 4 (by decide)] at h1; rw [hr 8 v (by decide)] at h2; rw [hr 9 _ (by decide)] at h3; rw [hr 10 _ (by decide), h12]; have := y.kp v j h1 h2 h3; omega,
    fun u h1 h2 => by rw [(hs 4 (by decide))] at h1; obtain ⟨a1, a2, a3, a4, a5, a6⟩ := y.fv u h1 h2; exact ⟨(hr 8 u (by decide)).trans a1, (hr 24 u (by decide)).trans a2, (hr 25 u (by decide)).trans a3, (hr 28 u (by decide)).trans a4, fun w g1 g2 => by unfold zins; rw [(hr 30 _ (by decide))]; exact a5 w g1 g2, fun w => (zplate_cg (fun i => hr 19 i (by decide)) (hs 18 (by decide))).trans (a6 w)⟩,
    fun u v h1 h2 => by rw [(hs 4 (by decide))] at h2; rw [(hr 5 u (by decide)), (hr 5 v (by decide))]; exact y.us u v h1 h2,
    fun q h1 => by rw [h12] at h1; rw [hr 13 q (by decide), hr 14 q (by decide)]; exact y.fp q (by omega),
    fun f h1 => by rw [(hs 36 (by decide))] at h1; rw [(hr 40 f (by decide))]; exact y.ff f h1⟩
set_option maxRecDepth 10000 in
theorem CRep.toRc {g : zGT} {o : Nat → Nat} {h : zH} {x : Nat} {S : zS} {n : Nat} {Vs Ps Ss Ts Fs Tn : List Nat} {A : Nat → Nat} {G : Nat → Nat → Nat} {Rc : Nat → Nat} {o1 : Nat → Nat} {h1 : zH} {n2 : Nat} (y : CRep g o h x S n Vs Ps Ss Ts Fs Tn A G Rc) (hn2 : n ≤ n2) {S2 : zS} {c0 : Nat} (st : zStep (fun q => q = 1 ∨ q = rg 8 c0) o h o1 h1) (hr : ∀ k i, ¬ (k = 21 ∨ k = 22 ∨ k = 23) → S2.2 k i = S.2 k i) (hs : ∀ k, ¬ (k = 20) → S2.1 k = S.1 k) (hmn : MnRep o1 h1 x S2 A) (hrc : CoSem o1 (rg 8 c0) h1 (Rc c0) n2 0 (fun w => zro S2.2 c0 w (S2.1 20).toNat)) (hot : ∀ c : Nat, c ≠ c0 → ∀ w, zro S2.2 c w (S2.1 20).toNat = zro S.2 c w (S.1 20).toNat) : CRep g o1 h1 x S2 n2 Vs Ps Ss Ts Fs Tn A G Rc := by
  exact ⟨hmn,
    (y.bu.fr (st.fr (r := 2) (by show ¬ (_ = _ ∨ _ = _); unfold rg; omega))).cg (hs 2 (by decide)) (fun i => hr 3 i (by decide)),
    (y.se.fr (st.fr (r := 3) (by show ¬ (_ = _ ∨ _ = _); unfold rg; omega))).cg (hs 16 (by decide)) (fun i => hr 15 i (by decide)) (fun i => hr 17 i (by decide)),
    y.lv.fr (st.fr (r := 4) (by show ¬ (_ = _ ∨ _ = _); unfold rg; omega)),
    y.nv.trans (hs 4 (by decide)).symm,
    y.lp.fr (st.fr (r := 5) (by show ¬ (_ = _ ∨ _ = _); unfold rg; omega)),
    y.np.trans (hs 12 (by decide)).symm,
    y.ra.fr (st.fr (r := 6) (by show ¬ (_ = _ ∨ _ = _); unfold rg; omega)),
    fun c hc => by
    by_cases hq : c = c0
    · subst hq; exact hrc
    · have z := ((y.rc c hc).fr (st.fr (r := rg 8 c) (by show ¬ (_ = _ ∨ _ = _); unfold rg; omega))).mono (n2 := n2) hn2; rw [show (fun w => zro S2.2 c w (S2.1 20).toNat) = (fun w => zro S.2 c w (S.1 20).toNat) from funext fun w => hot c hq w]; exact z,
    y.ls.fr (st.fr (r := 7) (by show ¬ (_ = _ ∨ _ = _); unfold rg; omega)),
    y.ns.trans (hs 31 (by decide)).symm,
    y.lt.fr (st.fr (r := 8) (by show ¬ (_ = _ ∨ _ = _); unfold rg; omega)),
    y.ok.cg (fun i => hr 34 i (by decide)) (fun i => hr 35 i (by decide)),
    y.lf.fr (st.fr (r := 9) (by show ¬ (_ = _ ∨ _ = _); unfold rg; omega)),
    y.nf.trans (hs 36 (by decide)).symm,
    fun u a hu => ((y.vo u a hu).fr (st.fr (r := rg 0 u) (by show ¬ (_ = _ ∨ _ = _); unfold rg; omega))).cg (hr 5 u (by decide)) (hr 6 u (by decide)) (hr 24 u (by decide)),
    fun u hu => ((y.hi u hu).fr (st.fr (r := rg 1 u) (by show ¬ (_ = _ ∨ _ = _); unfold rg; omega))).cg (fun i _ => hr 9 _ (by decide)) (fun i _ => hr 10 _ (by decide)) (fun i _ => hr 11 _ (by decide)) (hr 7 u (by decide)) (hr 8 u (by decide)),
    fun u hu => ((y.te u hu).fr (st.fr (r := rg 2 u) (by show ¬ (_ = _ ∨ _ = _); unfold rg; omega))).cg (hr 6 u (by decide)) (hr 25 u (by decide)) (hr 26 u (by decide)) (hr 27 u (by decide)) (hr 28 u (by decide)) (hr 29 u (by decide)),
    fun u hu => ((y.pl u hu).fr (st.fr (r := rg 3 u) (by show ¬ (_ = _ ∨ _ = _); unfold rg; omega))).cg hn2 (fun i => hr 19 i (by decide)) (hs 18 (by decide)) (by rw [(hs 1 (by decide))]; exact Int.le_refl _),
    fun u hu => ((y.ii u hu).fr (st.fr (r := rg 4 u) (by show ¬ (_ = _ ∨ _ = _); unfold rg; omega))).cg hn2 (fun i _ => hr 30 _ (by decide)) (by rw [(hs 1 (by decide))]; exact Int.le_refl _),
    fun u a hu => ((y.pe u a hu).fr (st.fr (r := rg 5 u) (by show ¬ (_ = _ ∨ _ = _); unfold rg; omega))).cg (hr 13 u (by decide)) (hr 14 u (by decide)),
    fun u a hu => ((y.si u a hu).fr (st.fr (r := rg 6 u) (by show ¬ (_ = _ ∨ _ = _); unfold rg; omega))).cg (fun i _ => hr 32 _ (by decide)) (hr 33 u (by decide)) (hr 34 u (by decide)) (hr 35 u (by decide)),
    fun u a hu => ((y.fi u a hu).fr (st.fr (r := rg 7 u) (by show ¬ (_ = _ ∨ _ = _); unfold rg; omega))).cg (hr 37 u (by decide)) (hr 38 u (by decide)) (hr 39 u (by decide)) (hr 40 u (by decide)) (hr 41 u (by decide)),
    fun v j h1 h2 => by rw [(hs 4 (by decide))] at h1; rw [(hr 8 v (by decide))] at h2; rw [(hr 11 _ (by decide)), (hs 1 (by decide))]; exact y.dy v j h1 h2,
    fun v j h1 h2 h3 => by rw [(hs 4 (by decide))] at h1; rw [(hr 8 v (by decide))] at h2; rw [(hr 9 _ (by decide))] at h3; rw [(hr 10 _ (by decide)), (hs 12 (by decide))]; exact y.kp v j h1 h2 h3,
    fun u h1 h2 => by rw [(hs 4 (by decide))] at h1; obtain ⟨a1, a2, a3, a4, a5, a6⟩ := y.fv u h1 h2; exact ⟨(hr 8 u (by decide)).trans a1, (hr 24 u (by decide)).trans a2, (hr 25 u (by decide)).trans a3, (hr 28 u (by decide)).trans a4, fun w g1 g2 => by unfold zins; rw [(hr 30 _ (by decide))]; exact a5 w g1 g2, fun w => (zplate_cg (fun i => hr 19 i (by decide)) (hs 18 (by decide))).trans (a6 w)⟩,
    fun u v h1 h2 => by rw [(hs 4 (by decide))] at h2; rw [(hr 5 u (by decide)), (hr 5 v (by decide))]; exact y.us u v h1 h2,
    fun p h1 => by rw [(hs 12 (by decide))] at h1; rw [(hr 13 p (by decide)), (hr 14 p (by decide))]; exact y.fp p h1,
    fun f h1 => by rw [(hs 36 (by decide))] at h1; rw [(hr 40 f (by decide))]; exact y.ff f h1⟩
set_option maxRecDepth 10000 in
theorem CRep.toMn {g : zGT} {o : Nat → Nat} {h : zH} {x : Nat} {S : zS} {n : Nat} {Vs Ps Ss Ts Fs Tn : List Nat} {A : Nat → Nat} {G : Nat → Nat → Nat} {Rc : Nat → Nat} {o1 : Nat → Nat} {h1 : zH} {n2 : Nat} (y : CRep g o h x S n Vs Ps Ss Ts Fs Tn A G Rc) (hn2 : n ≤ n2) {S2 : zS} (st : zStep (fun q => q = 1) o h o1 h1) (hr : ∀ k i, ¬ (False) → S2.2 k i = S.2 k i) (hs : ∀ k, ¬ (k = 1) → S2.1 k = S.1 k) (hmn : MnRep o1 h1 x S2 A) (ht1 : S.1 1 ≤ S2.1 1) : CRep g o1 h1 x S2 n2 Vs Ps Ss Ts Fs Tn A G Rc := by
  exact ⟨hmn,
    (y.bu.fr (st.fr (r := 2) (by show ¬ (_ = _); omega))).cg (hs 2 (by decide)) (fun i => hr 3 i (by decide)),
    (y.se.fr (st.fr (r := 3) (by show ¬ (_ = _); omega))).cg (hs 16 (by decide)) (fun i => hr 15 i (by decide)) (fun i => hr 17 i (by decide)),
    y.lv.fr (st.fr (r := 4) (by show ¬ (_ = _); omega)),
    y.nv.trans (hs 4 (by decide)).symm,
    y.lp.fr (st.fr (r := 5) (by show ¬ (_ = _); omega)),
    y.np.trans (hs 12 (by decide)).symm,
    y.ra.fr (st.fr (r := 6) (by show ¬ (_ = _); omega)),
    fun c hc => by have z := ((y.rc c hc).fr (st.fr (r := rg 8 c) (by show ¬ (_ = _); unfold rg; omega))).mono (n2 := n2) hn2; rw [show (fun w => zro S2.2 c w (S2.1 20).toNat) = (fun w => zro S.2 c w (S.1 20).toNat) from funext fun w => by rw [(hs 20 (by decide))]; exact zro_cg (fun i => hr 21 i (by decide)) (fun i => hr 22 i (by decide)) (fun i => hr 23 i (by decide)) _]; exact z,
    y.ls.fr (st.fr (r := 7) (by show ¬ (_ = _); omega)),
    y.ns.trans (hs 31 (by decide)).symm,
    y.lt.fr (st.fr (r := 8) (by show ¬ (_ = _); omega)),
    y.ok.cg (fun i => hr 34 i (by decide)) (fun i => hr 35 i (by decide)),
    y.lf.fr (st.fr (r := 9) (by show ¬ (_ = _); omega)),
    y.nf.trans (hs 36 (by decide)).symm,
    fun u a hu => ((y.vo u a hu).fr (st.fr (r := rg 0 u) (by show ¬ (_ = _); unfold rg; omega))).cg (hr 5 u (by decide)) (hr 6 u (by decide)) (hr 24 u (by decide)),
    fun u hu => ((y.hi u hu).fr (st.fr (r := rg 1 u) (by show ¬ (_ = _); unfold rg; omega))).cg (fun i _ => hr 9 _ (by decide)) (fun i _ => hr 10 _ (by decide)) (fun i _ => hr 11 _ (by decide)) (hr 7 u (by decide)) (hr 8 u (by decide)),
    fun u hu => ((y.te u hu).fr (st.fr (r := rg 2 u) (by show ¬ (_ = _); unfold rg; omega))).cg (hr 6 u (by decide)) (hr 25 u (by decide)) (hr 26 u (by decide)) (hr 27 u (by decide)) (hr 28 u (by decide)) (hr 29 u (by decide)),
    fun u hu => ((y.pl u hu).fr (st.fr (r := rg 3 u) (by show ¬ (_ = _); unfold rg; omega))).cg hn2 (fun i => hr 19 i (by decide)) (hs 18 (by decide)) ht1,
    fun u hu => ((y.ii u hu).fr (st.fr (r := rg 4 u) (by show ¬ (_ = _); unfold rg; omega))).cg hn2 (fun i _ => hr 30 _ (by decide)) ht1,
    fun u a hu => ((y.pe u a hu).fr (st.fr (r := rg 5 u) (by show ¬ (_ = _); unfold rg; omega))).cg (hr 13 u (by decide)) (hr 14 u (by decide)),
    fun u a hu => ((y.si u a hu).fr (st.fr (r := rg 6 u) (by show ¬ (_ = _); unfold rg; omega))).cg (fun i _ => hr 32 _ (by decide)) (hr 33 u (by decide)) (hr 34 u (by decide)) (hr 35 u (by decide)),
    fun u a hu => ((y.fi u a hu).fr (st.fr (r := rg 7 u) (by show ¬ (_ = _); unfold rg; omega))).cg (hr 37 u (by decide)) (hr 38 u (by decide)) (hr 39 u (by decide)) (hr 40 u (by decide)) (hr 41 u (by decide)),
    fun v j h1 h2 => by rw [hs 4 (by decide)] at h1; rw [hr 8 v (by decide)] at h2; rw [hr 11 _ (by decide)]; have := y.dy v j h1 h2; omega,
    fun v j h1 h2 h3 => by rw [(hs 4 (by decide))] at h1; rw [(hr 8 v (by decide))] at h2; rw [(hr 9 _ (by decide))] at h3; rw [(hr 10 _ (by decide)), (hs 12 (by decide))]; exact y.kp v j h1 h2 h3,
    fun u h1 h2 => by rw [(hs 4 (by decide))] at h1; obtain ⟨a1, a2, a3, a4, a5, a6⟩ := y.fv u h1 h2; exact ⟨(hr 8 u (by decide)).trans a1, (hr 24 u (by decide)).trans a2, (hr 25 u (by decide)).trans a3, (hr 28 u (by decide)).trans a4, fun w g1 g2 => by unfold zins; rw [(hr 30 _ (by decide))]; exact a5 w g1 g2, fun w => (zplate_cg (fun i => hr 19 i (by decide)) (hs 18 (by decide))).trans (a6 w)⟩,
    fun u v h1 h2 => by rw [(hs 4 (by decide))] at h2; rw [(hr 5 u (by decide)), (hr 5 v (by decide))]; exact y.us u v h1 h2,
    fun p h1 => by rw [(hs 12 (by decide))] at h1; rw [(hr 13 p (by decide)), (hr 14 p (by decide))]; exact y.fp p h1,
    fun f h1 => by rw [(hs 36 (by decide))] at h1; rw [(hr 40 f (by decide))]; exact y.ff f h1⟩
theorem PlRep.cg2 {o : Nat → Nat} {r : Nat} {h : zH} {a : Nat} {S S2 : zS} {v n n2 : Nat} (x : PlRep o r h a S v n) (hn : n ≤ n2) (c : ∀ w, zplate S2 v w = zplate S v w) (c1 : S.1 1 ≤ S2.1 1) : PlRep o r h a S2 v n2 := by
  obtain ⟨R, y, z1, z2⟩ := x
  exact ⟨R, y.mono hn, fun w => (z1 w).trans (c w).symm, fun w => Int.le_trans (z2 w) c1⟩
set_option maxRecDepth 10000 in
theorem CRep.toPl {g : zGT} {o : Nat → Nat} {h : zH} {x : Nat} {S : zS} {n : Nat} {Vs Ps Ss Ts Fs Tn : List Nat} {A : Nat → Nat} {G : Nat → Nat → Nat} {Rc : Nat → Nat} {o1 : Nat → Nat} {h1 : zH} {n2 : Nat} (y : CRep g o h x S n Vs Ps Ss Ts Fs Tn A G Rc) (hn2 : n ≤ n2) {S2 : zS} {v : Nat} (st : zStep (fun q => q = 2 ∨ q = 3 ∨ q = rg 3 v) o h o1 h1) (hr : ∀ k i, ¬ (k = 3 ∨ k = 17 ∨ k = 19) → S2.2 k i = S.2 k i) (hs : ∀ k, ¬ (k = 2 ∨ k = 16 ∨ k = 18) → S2.1 k = S.1 k) (hv : (v : Int) < S.1 4) (hbu : BuRep o1 2 h1 (A 1) S2) (hse : SeRep o1 3 h1 (A 2) S2) (hpl : PlRep o1 (rg 3 v) h1 (G 4 v) S2 v n2) (hzp : ∀ u : Nat, u ≠ v → ∀ w, zplate S2 u w = zplate S u w) : CRep g o1 h1 x S2 n2 Vs Ps Ss Ts Fs Tn A G Rc := by
  exact ⟨(y.mn.fr (st.fr (r := 1) (by show ¬ (_ = _ ∨ _ = _ ∨ _ = _); unfold rg; omega))).cg (hs 1 (by decide)) (hs 20 (by decide)),
    hbu,
    hse,
    y.lv.fr (st.fr (r := 4) (by show ¬ (_ = _ ∨ _ = _ ∨ _ = _); unfold rg; omega)),
    y.nv.trans (hs 4 (by decide)).symm,
    y.lp.fr (st.fr (r := 5) (by show ¬ (_ = _ ∨ _ = _ ∨ _ = _); unfold rg; omega)),
    y.np.trans (hs 12 (by decide)).symm,
    y.ra.fr (st.fr (r := 6) (by show ¬ (_ = _ ∨ _ = _ ∨ _ = _); unfold rg; omega)),
    fun c hc => by have z := ((y.rc c hc).fr (st.fr (r := rg 8 c) (by show ¬ (_ = _ ∨ _ = _ ∨ _ = _); unfold rg; omega))).mono (n2 := n2) hn2; rw [show (fun w => zro S2.2 c w (S2.1 20).toNat) = (fun w => zro S.2 c w (S.1 20).toNat) from funext fun w => by rw [(hs 20 (by decide))]; exact zro_cg (fun i => hr 21 i (by decide)) (fun i => hr 22 i (by decide)) (fun i => hr 23 i (by decide)) _]; exact z,
    y.ls.fr (st.fr (r := 7) (by show ¬ (_ = _ ∨ _ = _ ∨ _ = _); unfold rg; omega)),
    y.ns.trans (hs 31 (by decide)).symm,
    y.lt.fr (st.fr (r := 8) (by show ¬ (_ = _ ∨ _ = _ ∨ _ = _); unfold rg; omega)),
    y.ok.cg (fun i => hr 34 i (by decide)) (fun i => hr 35 i (by decide)),
    y.lf.fr (st.fr (r := 9) (by show ¬ (_ = _ ∨ _ = _ ∨ _ = _); unfold rg; omega)),
    y.nf.trans (hs 36 (by decide)).symm,
    fun u a hu => ((y.vo u a hu).fr (st.fr (r := rg 0 u) (by show ¬ (_ = _ ∨ _ = _ ∨ _ = _); unfold rg; omega))).cg (hr 5 u (by decide)) (hr 6 u (by decide)) (hr 24 u (by decide)),
    fun u hu => ((y.hi u hu).fr (st.fr (r := rg 1 u) (by show ¬ (_ = _ ∨ _ = _ ∨ _ = _); unfold rg; omega))).cg (fun i _ => hr 9 _ (by decide)) (fun i _ => hr 10 _ (by decide)) (fun i _ => hr 11 _ (by decide)) (hr 7 u (by decide)) (hr 8 u (by decide)),
    fun u hu => ((y.te u hu).fr (st.fr (r := rg 2 u) (by show ¬ (_ = _ ∨ _ = _ ∨ _ = _); unfold rg; omega))).cg (hr 6 u (by decide)) (hr 25 u (by decide)) (hr 26 u (by decide)) (hr 27 u (by decide)) (hr 28 u (by decide)) (hr 29 u (by decide)),
    fun u hu => by
    by_cases hq : u = v
    · subst hq; exact hpl
    · exact ((y.pl u hu).fr (st.fr (r := rg 3 u) (by show ¬ (_ = _ ∨ _ = _ ∨ _ = _); unfold rg; omega))).cg2 hn2 (hzp u hq) (by rw [hs 1 (by decide)]; exact Int.le_refl _),
    fun u hu => ((y.ii u hu).fr (st.fr (r := rg 4 u) (by show ¬ (_ = _ ∨ _ = _ ∨ _ = _); unfold rg; omega))).cg hn2 (fun i _ => hr 30 _ (by decide)) (by rw [(hs 1 (by decide))]; exact Int.le_refl _),
    fun u a hu => ((y.pe u a hu).fr (st.fr (r := rg 5 u) (by show ¬ (_ = _ ∨ _ = _ ∨ _ = _); unfold rg; omega))).cg (hr 13 u (by decide)) (hr 14 u (by decide)),
    fun u a hu => ((y.si u a hu).fr (st.fr (r := rg 6 u) (by show ¬ (_ = _ ∨ _ = _ ∨ _ = _); unfold rg; omega))).cg (fun i _ => hr 32 _ (by decide)) (hr 33 u (by decide)) (hr 34 u (by decide)) (hr 35 u (by decide)),
    fun u a hu => ((y.fi u a hu).fr (st.fr (r := rg 7 u) (by show ¬ (_ = _ ∨ _ = _ ∨ _ = _); unfold rg; omega))).cg (hr 37 u (by decide)) (hr 38 u (by decide)) (hr 39 u (by decide)) (hr 40 u (by decide)) (hr 41 u (by decide)),
    fun v j h1 h2 => by rw [(hs 4 (by decide))] at h1; rw [(hr 8 v (by decide))] at h2; rw [(hr 11 _ (by decide)), (hs 1 (by decide))]; exact y.dy v j h1 h2,
    fun v j h1 h2 h3 => by rw [(hs 4 (by decide))] at h1; rw [(hr 8 v (by decide))] at h2; rw [(hr 9 _ (by decide))] at h3; rw [(hr 10 _ (by decide)), (hs 12 (by decide))]; exact y.kp v j h1 h2 h3,
    fun u h1 h2 => by rw [hs 4 (by decide)] at h1; obtain ⟨a1, a2, a3, a4, a5, a6⟩ := y.fv u h1 h2; exact ⟨(hr 8 u (by decide)).trans a1, (hr 24 u (by decide)).trans a2, (hr 25 u (by decide)).trans a3, (hr 28 u (by decide)).trans a4, fun w g1 g2 => by unfold zins; rw [hr 30 _ (by decide)]; exact a5 w g1 g2, fun w => (hzp u (by omega) w).trans (a6 w)⟩,
    fun u v h1 h2 => by rw [(hs 4 (by decide))] at h2; rw [(hr 5 u (by decide)), (hr 5 v (by decide))]; exact y.us u v h1 h2,
    fun p h1 => by rw [(hs 12 (by decide))] at h1; rw [(hr 13 p (by decide)), (hr 14 p (by decide))]; exact y.fp p h1,
    fun f h1 => by rw [(hs 36 (by decide))] at h1; rw [(hr 40 f (by decide))]; exact y.ff f h1⟩
set_option maxRecDepth 10000 in
theorem CRep.addSi {g : zGT} {o : Nat → Nat} {h : zH} {x : Nat} {S : zS} {n : Nat} {Vs Ps Ss Ts Fs Tn : List Nat} {A : Nat → Nat} {G : Nat → Nat → Nat} {Rc : Nat → Nat} {o1 : Nat → Nat} {h1 : zH} {n2 : Nat} (y : CRep g o h x S n Vs Ps Ss Ts Fs Tn A G Rc) (hn2 : n ≤ n2) {S2 : zS} {a : Nat} {Ts2 Tn2 : List Nat} (st : zStep (fun q => q = 2 ∨ q = 7 ∨ q = 8 ∨ q = rg 6 Ss.length) o h o1 h1) (hr : ∀ k i, ¬ (k = 32 ∨ k = 33 ∨ k = 34 ∨ k = 35) → S2.2 k i = S.2 k i) (hs : ∀ k, ¬ (k = 2 ∨ k = 31) → S2.1 k = S.1 k) (hbu : BuRep o1 2 h1 (A 1) S2) (hls : LRep g o1 7 h1 (A 7) (Ss ++ [a])) (h31 : S2.1 31 = S.1 31 + 1) (hlt : LRep g o1 8 h1 (A 8) Ts2) (hok : TsOK S2 (Ss ++ [a]) Ts2 Tn2) (hat : ∀ k i, i ≠ Ss.length → k ≠ 32 → S2.2 k i = S.2 k i) (h32 : ∀ u i, u ≠ Ss.length → i < 4 → S2.2 32 (4 * u + i) = S.2 32 (4 * u + i)) (hsi : SiRep o1 (rg 6 Ss.length) h1 a S2 Ss.length) : CRep g o1 h1 x S2 n2 Vs Ps (Ss ++ [a]) Ts2 Fs Tn2 A G Rc := by
  exact ⟨(y.mn.fr (st.fr (r := 1) (by show ¬ (_ = _ ∨ _ = _ ∨ _ = _ ∨ _ = _); unfold rg; omega))).cg (hs 1 (by decide)) (hs 20 (by decide)),
    hbu,
    (y.se.fr (st.fr (r := 3) (by show ¬ (_ = _ ∨ _ = _ ∨ _ = _ ∨ _ = _); unfold rg; omega))).cg (hs 16 (by decide)) (fun i => hr 15 i (by decide)) (fun i => hr 17 i (by decide)),
    y.lv.fr (st.fr (r := 4) (by show ¬ (_ = _ ∨ _ = _ ∨ _ = _ ∨ _ = _); unfold rg; omega)),
    y.nv.trans (hs 4 (by decide)).symm,
    y.lp.fr (st.fr (r := 5) (by show ¬ (_ = _ ∨ _ = _ ∨ _ = _ ∨ _ = _); unfold rg; omega)),
    y.np.trans (hs 12 (by decide)).symm,
    y.ra.fr (st.fr (r := 6) (by show ¬ (_ = _ ∨ _ = _ ∨ _ = _ ∨ _ = _); unfold rg; omega)),
    fun c hc => by have z := ((y.rc c hc).fr (st.fr (r := rg 8 c) (by show ¬ (_ = _ ∨ _ = _ ∨ _ = _ ∨ _ = _); unfold rg; omega))).mono (n2 := n2) hn2; rw [show (fun w => zro S2.2 c w (S2.1 20).toNat) = (fun w => zro S.2 c w (S.1 20).toNat) from funext fun w => by rw [(hs 20 (by decide))]; exact zro_cg (fun i => hr 21 i (by decide)) (fun i => hr 22 i (by decide)) (fun i => hr 23 i (by decide)) _]; exact z,
    hls,
    by rw [h31]; simp; have := y.ns; omega,
    hlt,
    hok,
    y.lf.fr (st.fr (r := 9) (by show ¬ (_ = _ ∨ _ = _ ∨ _ = _ ∨ _ = _); unfold rg; omega)),
    y.nf.trans (hs 36 (by decide)).symm,
    fun u a hu => ((y.vo u a hu).fr (st.fr (r := rg 0 u) (by show ¬ (_ = _ ∨ _ = _ ∨ _ = _ ∨ _ = _); unfold rg; omega))).cg (hr 5 u (by decide)) (hr 6 u (by decide)) (hr 24 u (by decide)),
    fun u hu => ((y.hi u hu).fr (st.fr (r := rg 1 u) (by show ¬ (_ = _ ∨ _ = _ ∨ _ = _ ∨ _ = _); unfold rg; omega))).cg (fun i _ => hr 9 _ (by decide)) (fun i _ => hr 10 _ (by decide)) (fun i _ => hr 11 _ (by decide)) (hr 7 u (by decide)) (hr 8 u (by decide)),
    fun u hu => ((y.te u hu).fr (st.fr (r := rg 2 u) (by show ¬ (_ = _ ∨ _ = _ ∨ _ = _ ∨ _ = _); unfold rg; omega))).cg (hr 6 u (by decide)) (hr 25 u (by decide)) (hr 26 u (by decide)) (hr 27 u (by decide)) (hr 28 u (by decide)) (hr 29 u (by decide)),
    fun u hu => ((y.pl u hu).fr (st.fr (r := rg 3 u) (by show ¬ (_ = _ ∨ _ = _ ∨ _ = _ ∨ _ = _); unfold rg; omega))).cg hn2 (fun i => hr 19 i (by decide)) (hs 18 (by decide)) (by rw [(hs 1 (by decide))]; exact Int.le_refl _),
    fun u hu => ((y.ii u hu).fr (st.fr (r := rg 4 u) (by show ¬ (_ = _ ∨ _ = _ ∨ _ = _ ∨ _ = _); unfold rg; omega))).cg hn2 (fun i _ => hr 30 _ (by decide)) (by rw [(hs 1 (by decide))]; exact Int.le_refl _),
    fun u a hu => ((y.pe u a hu).fr (st.fr (r := rg 5 u) (by show ¬ (_ = _ ∨ _ = _ ∨ _ = _ ∨ _ = _); unfold rg; omega))).cg (hr 13 u (by decide)) (hr 14 u (by decide)),
    fun u a hu => by
    by_cases hq : u < Ss.length
    · rw [List.getElem?_append_left hq] at hu; have hq := Nat.ne_of_lt hq; exact ((y.si u a hu).fr (st.fr (r := rg 6 u) (by show ¬ (_ = _ ∨ _ = _ ∨ _ = _ ∨ _ = _); unfold rg; omega))).cg (fun i hi => h32 u i hq hi) (hat 33 u hq (by decide)) (hat 34 u hq (by decide)) (hat 35 u hq (by decide))
    · have hq2 := (List.getElem?_eq_some_iff.mp hu).1; rw [List.length_append] at hq2; have hq3 : u = Ss.length := by simp at hq2; omega
      subst hq3; rw [List.getElem?_append_right (Nat.le_refl _)] at hu; simp at hu; subst hu; exact hsi,
    fun u b hu => (((y.fi u b hu).fr (st.fr (r := rg 7 u) (by show ¬ (_ = _ ∨ _ = _ ∨ _ = _ ∨ _ = _); unfold rg; omega))).cg (hr 37 u (by decide)) (hr 38 u (by decide)) (hr 39 u (by decide)) (hr 40 u (by decide)) (hr 41 u (by decide))).app a,
    fun v j h1 h2 => by rw [(hs 4 (by decide))] at h1; rw [(hr 8 v (by decide))] at h2; rw [(hr 11 _ (by decide)), (hs 1 (by decide))]; exact y.dy v j h1 h2,
    fun v j h1 h2 h3 => by rw [(hs 4 (by decide))] at h1; rw [(hr 8 v (by decide))] at h2; rw [(hr 9 _ (by decide))] at h3; rw [(hr 10 _ (by decide)), (hs 12 (by decide))]; exact y.kp v j h1 h2 h3,
    fun u h1 h2 => by rw [(hs 4 (by decide))] at h1; obtain ⟨a1, a2, a3, a4, a5, a6⟩ := y.fv u h1 h2; exact ⟨(hr 8 u (by decide)).trans a1, (hr 24 u (by decide)).trans a2, (hr 25 u (by decide)).trans a3, (hr 28 u (by decide)).trans a4, fun w g1 g2 => by unfold zins; rw [(hr 30 _ (by decide))]; exact a5 w g1 g2, fun w => (zplate_cg (fun i => hr 19 i (by decide)) (hs 18 (by decide))).trans (a6 w)⟩,
    fun u v h1 h2 => by rw [(hs 4 (by decide))] at h2; rw [(hr 5 u (by decide)), (hr 5 v (by decide))]; exact y.us u v h1 h2,
    fun p h1 => by rw [(hs 12 (by decide))] at h1; rw [(hr 13 p (by decide)), (hr 14 p (by decide))]; exact y.fp p h1,
    fun f h1 => by rw [(hs 36 (by decide))] at h1; rw [(hr 40 f (by decide))]; exact y.ff f h1⟩
theorem VoRep.gc {o : Nat → Nat} {r : Nat} {h : zH} {a : Nat} {S : zS} {v : Nat} {G G2 : Nat → Nat → Nat} (x : VoRep o r h a S v G) (hG : ∀ k, G2 k v = G k v) : VoRep o r h a S v G2 := by
  unfold VoRep at *
  rw [hG, hG, hG, hG]
  exact x
set_option maxRecDepth 10000 in
theorem CRep.addVe {g : zGT} {o : Nat → Nat} {h : zH} {x : Nat} {S : zS} {n : Nat} {Vs Ps Ss Ts Fs Tn : List Nat} {A : Nat → Nat} {G : Nat → Nat → Nat} {Rc : Nat → Nat} {o1 : Nat → Nat} {h1 : zH} {n2 : Nat} (y : CRep g o h x S n Vs Ps Ss Ts Fs Tn A G Rc) (hn2 : n ≤ n2) {S2 : zS} {a : Nat} {G2 : Nat → Nat → Nat} (st : zStep (fun q => q = 4 ∨ q = rg 0 Vs.length ∨ q = rg 1 Vs.length ∨ q = rg 2 Vs.length ∨ q = rg 3 Vs.length ∨ q = rg 4 Vs.length) o h o1 h1) (hr : ∀ k i, ¬ (k = 5 ∨ k = 6 ∨ k = 7 ∨ k = 29) → S2.2 k i = S.2 k i) (hs : ∀ k, ¬ (k = 4) → S2.1 k = S.1 k) (hv12 : S.1 4 < 12) (hlv : LRep g o1 4 h1 (A 3) (Vs ++ [a])) (h4 : S2.1 4 = S.1 4 + 1) (hat : ∀ k i, i ≠ Vs.length → S2.2 k i = S.2 k i) (hG : ∀ k u, u ≠ Vs.length → G2 k u = G k u) (hvo : VoRep o1 (rg 0 Vs.length) h1 a S2 Vs.length G2) (hhi : HiRep g o1 (rg 1 Vs.length) h1 (G2 2 Vs.length) S2 Vs.length) (hte : TeRep o1 (rg 2 Vs.length) h1 (G2 3 Vs.length) S2 Vs.length) (hpl : PlRep o1 (rg 3 Vs.length) h1 (G2 4 Vs.length) S2 Vs.length n2) (hii : IiRep o1 (rg 4 Vs.length) h1 (G2 5 Vs.length) S2 Vs.length n2) (hus : ∀ u : Nat, (u : Int) < S.1 4 → S2.2 5 Vs.length ≠ S.2 5 u) : CRep g o1 h1 x S2 n2 (Vs ++ [a]) Ps Ss Ts Fs Tn A G2 Rc := by
  exact ⟨(y.mn.fr (st.fr (r := 1) (by show ¬ (_ = _ ∨ _ = _ ∨ _ = _ ∨ _ = _ ∨ _ = _ ∨ _ = _); unfold rg; omega))).cg (hs 1 (by decide)) (hs 20 (by decide)),
    (y.bu.fr (st.fr (r := 2) (by show ¬ (_ = _ ∨ _ = _ ∨ _ = _ ∨ _ = _ ∨ _ = _ ∨ _ = _); unfold rg; omega))).cg (hs 2 (by decide)) (fun i => hr 3 i (by decide)),
    (y.se.fr (st.fr (r := 3) (by show ¬ (_ = _ ∨ _ = _ ∨ _ = _ ∨ _ = _ ∨ _ = _ ∨ _ = _); unfold rg; omega))).cg (hs 16 (by decide)) (fun i => hr 15 i (by decide)) (fun i => hr 17 i (by decide)),
    hlv,
    by rw [h4]; simp; have := y.nv; omega,
    y.lp.fr (st.fr (r := 5) (by show ¬ (_ = _ ∨ _ = _ ∨ _ = _ ∨ _ = _ ∨ _ = _ ∨ _ = _); unfold rg; omega)),
    y.np.trans (hs 12 (by decide)).symm,
    y.ra.fr (st.fr (r := 6) (by show ¬ (_ = _ ∨ _ = _ ∨ _ = _ ∨ _ = _ ∨ _ = _ ∨ _ = _); unfold rg; omega)),
    fun c hc => by have z := ((y.rc c hc).fr (st.fr (r := rg 8 c) (by show ¬ (_ = _ ∨ _ = _ ∨ _ = _ ∨ _ = _ ∨ _ = _ ∨ _ = _); unfold rg; omega))).mono (n2 := n2) hn2; rw [show (fun w => zro S2.2 c w (S2.1 20).toNat) = (fun w => zro S.2 c w (S.1 20).toNat) from funext fun w => by rw [(hs 20 (by decide))]; exact zro_cg (fun i => hr 21 i (by decide)) (fun i => hr 22 i (by decide)) (fun i => hr 23 i (by decide)) _]; exact z,
    y.ls.fr (st.fr (r := 7) (by show ¬ (_ = _ ∨ _ = _ ∨ _ = _ ∨ _ = _ ∨ _ = _ ∨ _ = _); unfold rg; omega)),
    y.ns.trans (hs 31 (by decide)).symm,
    y.lt.fr (st.fr (r := 8) (by show ¬ (_ = _ ∨ _ = _ ∨ _ = _ ∨ _ = _ ∨ _ = _ ∨ _ = _); unfold rg; omega)),
    y.ok.cg (fun i => hr 34 i (by decide)) (fun i => hr 35 i (by decide)),
    y.lf.fr (st.fr (r := 9) (by show ¬ (_ = _ ∨ _ = _ ∨ _ = _ ∨ _ = _ ∨ _ = _ ∨ _ = _); unfold rg; omega)),
    y.nf.trans (hs 36 (by decide)).symm,
    fun u a hu => by
    by_cases hq : u < Vs.length
    · rw [List.getElem?_append_left hq] at hu; have hq := Nat.ne_of_lt hq; exact (((y.vo u a hu).fr (st.fr (r := rg 0 u) (by show ¬ (_ = _ ∨ _ = _ ∨ _ = _ ∨ _ = _ ∨ _ = _ ∨ _ = _); unfold rg; omega))).cg (hat 5 u hq) (hat 6 u hq) (hat 24 u hq)).gc (fun k => hG k u hq)
    · have hq2 := (List.getElem?_eq_some_iff.mp hu).1; rw [List.length_append] at hq2; have hq3 : u = Vs.length := by simp at hq2; omega
      subst hq3; rw [List.getElem?_append_right (Nat.le_refl _)] at hu; simp at hu; subst hu; exact hvo,
    fun u hu => by
    by_cases hq : u = Vs.length
    · subst hq; exact hhi
    · have hul : u < Vs.length := by simp at hu; omega
      rw [hG _ u hq]; exact ((y.hi u hul).fr (st.fr (r := rg 1 u) (by show ¬ (_ = _ ∨ _ = _ ∨ _ = _ ∨ _ = _ ∨ _ = _ ∨ _ = _); unfold rg; omega))).cg (fun i _ => hr 9 _ (by decide)) (fun i _ => hr 10 _ (by decide)) (fun i _ => hr 11 _ (by decide)) (hat 7 u hq) (hr 8 u (by decide)),
    fun u hu => by
    by_cases hq : u = Vs.length
    · subst hq; exact hte
    · have hul : u < Vs.length := by simp at hu; omega
      rw [hG _ u hq]; exact ((y.te u hul).fr (st.fr (r := rg 2 u) (by show ¬ (_ = _ ∨ _ = _ ∨ _ = _ ∨ _ = _ ∨ _ = _ ∨ _ = _); unfold rg; omega))).cg (hat 6 u hq) (hat 25 u hq) (hat 26 u hq) (hat 27 u hq) (hat 28 u hq) (hat 29 u hq),
    fun u hu => by
    by_cases hq : u = Vs.length
    · subst hq; exact hpl
    · have hul : u < Vs.length := by simp at hu; omega
      rw [hG _ u hq]; exact ((y.pl u hul).fr (st.fr (r := rg 3 u) (by show ¬ (_ = _ ∨ _ = _ ∨ _ = _ ∨ _ = _ ∨ _ = _ ∨ _ = _); unfold rg; omega))).cg hn2 (fun i => hr 19 i (by decide)) (hs 18 (by decide)) (by rw [hs 1 (by decide)]; exact Int.le_refl _),
    fun u hu => by
    by_cases hq : u = Vs.length
    · subst hq; exact hii
    · have hul : u < Vs.length := by simp at hu; omega
      rw [hG _ u hq]; exact ((y.ii u hul).fr (st.fr (r := rg 4 u) (by show ¬ (_ = _ ∨ _ = _ ∨ _ = _ ∨ _ = _ ∨ _ = _ ∨ _ = _); unfold rg; omega))).cg hn2 (fun i _ => hr 30 _ (by decide)) (by rw [hs 1 (by decide)]; exact Int.le_refl _),
    fun u a hu => ((y.pe u a hu).fr (st.fr (r := rg 5 u) (by show ¬ (_ = _ ∨ _ = _ ∨ _ = _ ∨ _ = _ ∨ _ = _ ∨ _ = _); unfold rg; omega))).cg (hr 13 u (by decide)) (hr 14 u (by decide)),
    fun u a hu => ((y.si u a hu).fr (st.fr (r := rg 6 u) (by show ¬ (_ = _ ∨ _ = _ ∨ _ = _ ∨ _ = _ ∨ _ = _ ∨ _ = _); unfold rg; omega))).cg (fun i _ => hr 32 _ (by decide)) (hr 33 u (by decide)) (hr 34 u (by decide)) (hr 35 u (by decide)),
    fun u a hu => ((y.fi u a hu).fr (st.fr (r := rg 7 u) (by show ¬ (_ = _ ∨ _ = _ ∨ _ = _ ∨ _ = _ ∨ _ = _ ∨ _ = _); unfold rg; omega))).cg (hr 37 u (by decide)) (hr 38 u (by decide)) (hr 39 u (by decide)) (hr 40 u (by decide)) (hr 41 u (by decide)),
    fun u j h1 h2 => by
    rw [h4] at h1
    rw [hr 8 u (by decide)] at h2
    rw [hr 11 _ (by decide), hs 1 (by decide)]
    by_cases hq : u = Vs.length
    · have hz := (y.fv u (by have := y.nv; omega) (by have := y.nv; omega)).1; omega
    · exact y.dy u j (by have := y.nv; omega) h2,
    fun u j h1 h2 h3 => by
    rw [h4] at h1
    rw [hr 8 u (by decide)] at h2
    rw [hr 9 _ (by decide)] at h3
    rw [hr 10 _ (by decide), hs 12 (by decide)]
    by_cases hq : u = Vs.length
    · have hz := (y.fv u (by have := y.nv; omega) (by have := y.nv; omega)).1; omega
    · exact y.kp u j (by have := y.nv; omega) h2 h3,
    fun u h1 h2 => by rw [h4] at h1; obtain ⟨a1, a2, a3, a4, a5, a6⟩ := y.fv u (by omega) h2; exact ⟨(hr 8 u (by decide)).trans a1, (hr 24 u (by decide)).trans a2, (hr 25 u (by decide)).trans a3, (hr 28 u (by decide)).trans a4, fun w g1 g2 => by unfold zins; rw [hr 30 _ (by decide)]; exact a5 w g1 g2, fun w => (zplate_cg (fun i => hr 19 i (by decide)) (hs 18 (by decide))).trans (a6 w)⟩,
    fun u v h1 h2 => by
    rw [h4] at h2
    have hnv := y.nv
    by_cases hq : v = Vs.length
    · subst hq; rw [hat 5 u (by omega)]; exact fun q => hus u (by omega) q.symm
    · rw [hat 5 u (by omega), hat 5 v hq]; exact y.us u v h1 (by omega),
    fun p h1 => by rw [(hs 12 (by decide))] at h1; rw [(hr 13 p (by decide)), (hr 14 p (by decide))]; exact y.fp p h1,
    fun f h1 => by rw [(hs 36 (by decide))] at h1; rw [(hr 40 f (by decide))]; exact y.ff f h1⟩