def PlRep (o : Nat → Nat) (r : Nat) (h : zH) (a : Nat) (S : zS) (v n : Nat) : Prop := ∃ R, CoSem o r h a n (-1) R ∧ (∀ w, (R w).2 = zplate S v w) ∧ ∀ w, (R w).1 ≤ S.1 1
def IiRep (o : Nat → Nat) (r : Nat) (h : zH) (a : Nat) (S : zS) (v n : Nat) : Prop := ∃ R, CoSem o r h a n (-1) R ∧ (∀ w, 0 ≤ w → w ≤ 20000 → (zins S.2 v w = true ↔ w ≤ (R w).2)) ∧ ∀ w, (R w).1 ≤ S.1 1
theorem zpo_cg {ar ar2 : Nat → Nat → Int} {v w : Int} (c : ∀ i, ar2 19 i = ar 19 i) : ∀ k, zpo ar2 v w k = zpo ar v w k
  | 0 => rfl
  | k + 1 => by unfold zpo; rw [zpo_cg c k, c k]
theorem zplate_cg {S S2 : zS} {v w : Int} (c : ∀ i, S2.2 19 i = S.2 19 i) (c18 : S2.1 18 = S.1 18) : zplate S2 v w = zplate S v w := by unfold zplate; rw [c18, zpo_cg c]
theorem zro_cg {ar ar2 : Nat → Nat → Int} {v w : Int} (c1 : ∀ i, ar2 21 i = ar 21 i) (c2 : ∀ i, ar2 22 i = ar 22 i) (c3 : ∀ i, ar2 23 i = ar 23 i) : ∀ k, zro ar2 v w k = zro ar v w k
  | 0 => rfl
  | k + 1 => by unfold zro; rw [zro_cg c1 c2 c3 k, c1 k, c2 k, c3 k]
theorem PlRep.fr {o o1 : Nat → Nat} {r : Nat} {h h1 : zH} {a : Nat} {S : zS} {v n : Nat} (x : PlRep o r h a S v n) (f : zFr r o h o1 h1) : PlRep o1 r h1 a S v n := by
  obtain ⟨R, y, z⟩ := x
  exact ⟨R, y.fr f, z⟩
theorem PlRep.cg {o : Nat → Nat} {r : Nat} {h : zH} {a : Nat} {S S2 : zS} {v n n2 : Nat} (x : PlRep o r h a S v n) (hn : n ≤ n2) (c : ∀ i, S2.2 19 i = S.2 19 i) (c18 : S2.1 18 = S.1 18) (c1 : S.1 1 ≤ S2.1 1) : PlRep o r h a S2 v n2 := by
  obtain ⟨R, y, z1, z2⟩ := x
  exact ⟨R, y.mono hn, fun w => (z1 w).trans (zplate_cg c c18).symm, fun w => Int.le_trans (z2 w) c1⟩
theorem IiRep.fr {o o1 : Nat → Nat} {r : Nat} {h h1 : zH} {a : Nat} {S : zS} {v n : Nat} (x : IiRep o r h a S v n) (f : zFr r o h o1 h1) : IiRep o1 r h1 a S v n := by
  obtain ⟨R, y, z⟩ := x
  exact ⟨R, y.fr f, z⟩
theorem IiRep.cg {o : Nat → Nat} {r : Nat} {h : zH} {a : Nat} {S S2 : zS} {v n n2 : Nat} (x : IiRep o r h a S v n) (hn : n ≤ n2) (c : ∀ i, i < 313 → S2.2 30 (313 * v + i) = S.2 30 (313 * v + i)) (c1 : S.1 1 ≤ S2.1 1) : IiRep o r h a S2 v n2 := by
  obtain ⟨R, y, z1, z2⟩ := x
  refine ⟨R, y.mono hn, fun w h0 h2 => ?_, fun w => Int.le_trans (z2 w) c1⟩
  rw [← z1 w h0 h2]
  unfold zins
  rw [c _ (by omega)]
/-- the sightings by time: their numbers in Tn -/
def TsOK (S : zS) (Ss Ts Tn : List Nat) : Prop := Tn.length = Ss.length ∧ Ts.length = Ss.length ∧ (∀ i s : Nat, Tn[i]? = some s → s < Ss.length ∧ Ts[i]? = Ss[s]?) ∧ (∀ i j s t : Nat, i < j → Tn[i]? = some s → Tn[j]? = some t → zbeh S t s) ∧ (∀ s : Nat, s < Ss.length → ∃ i : Nat, Tn[i]? = some s)
theorem TsOK.cg {S S2 : zS} {Ss Ts Tn : List Nat} (x : TsOK S Ss Ts Tn) (c34 : ∀ i, S2.2 34 i = S.2 34 i) (c35 : ∀ i, S2.2 35 i = S.2 35 i) : TsOK S2 Ss Ts Tn := by
  have e : ∀ s, zmin S2 s = zmin S s := fun s => by unfold zmin; rw [c34, c35]
  obtain ⟨x1, x2, x3, x4, x5⟩ := x
  exact ⟨x1, x2, x3, fun i j s t hij hs ht => by have := x4 i j s t hij hs ht; unfold zbeh at *; rw [e, e]; exact this, x5⟩
def CRep (g : zGT) (o : Nat → Nat) (h : zH) (x : Nat) (S : zS) (n : Nat) (Vs Ps Ss Ts Fs Tn : List Nat) (A : Nat → Nat) (G : Nat → Nat → Nat) (Rc : Nat → Nat) : Prop := (MnRep o h x S A) ∧ (BuRep o 2 h (A 1) S) ∧ (SeRep o 3 h (A 2) S) ∧ (LRep g o 4 h (A 3) Vs) ∧ ((Vs.length : Int) = S.1 4) ∧ (LRep g o 5 h (A 4) Ps) ∧ ((Ps.length : Int) = S.1 12) ∧ (RaRep o h (A 5) Rc) ∧ (∀ c : Nat, c < 4 → CoSem o (rg 8 c) h (Rc c) n 0 (fun w => zro S.2 c w (S.1 20).toNat)) ∧ (LRep g o 7 h (A 7) Ss) ∧ ((Ss.length : Int) = S.1 31) ∧ (LRep g o 8 h (A 8) Ts) ∧ (TsOK S Ss Ts Tn) ∧ (LRep g o 9 h (A 9) Fs) ∧ ((Fs.length : Int) = S.1 36) ∧ (∀ v a : Nat, Vs[v]? = some a → VoRep o (rg 0 v) h a S v G) ∧ (∀ v : Nat, v < Vs.length → HiRep g o (rg 1 v) h (G 2 v) S v) ∧ (∀ v : Nat, v < Vs.length → TeRep o (rg 2 v) h (G 3 v) S v) ∧ (∀ v : Nat, v < Vs.length → PlRep o (rg 3 v) h (G 4 v) S v n) ∧ (∀ v : Nat, v < Vs.length → IiRep o (rg 4 v) h (G 5 v) S v n) ∧ (∀ p a : Nat, Ps[p]? = some a → PeRep o (rg 5 p) h a S p) ∧ (∀ s a : Nat, Ss[s]? = some a → SiRep o (rg 6 s) h a S s) ∧ (∀ f a : Nat, Fs[f]? = some a → FiRep o (rg 7 f) h a S f Ss) ∧ (∀ v j : Nat, (v : Int) < S.1 4 → (j : Int) < S.2 8 v → S.2 11 (30 * v + j) ≤ S.1 1) ∧ (∀ v j : Nat, (v : Int) < S.1 4 → (j : Int) < S.2 8 v → S.2 9 (30 * v + j) = 0 → S.2 10 (30 * v + j) < S.1 12) ∧ (∀ v : Nat, S.1 4 ≤ (v : Int) → v < 12 → S.2 8 v = 0 ∧ S.2 24 v = 0 ∧ S.2 25 v = 0 ∧ S.2 28 v = 0 ∧ (∀ w, 0 ≤ w → w ≤ 20000 → zins S.2 v w = false) ∧ ∀ w, zplate S v w = -1) ∧ (∀ u v : Nat, u < v → (v : Int) < S.1 4 → S.2 5 u ≠ S.2 5 v) ∧ (∀ p : Nat, S.1 12 ≤ (p : Int) → S.2 13 p = 0 ∧ S.2 14 p = 0) ∧ (∀ f : Nat, S.1 36 ≤ (f : Int) → S.2 40 f = 0)
theorem CRep.mn {g : zGT} {o : Nat → Nat} {h : zH} {x : Nat} {S : zS} {n : Nat} {Vs Ps Ss Ts Fs Tn : List Nat} {A : Nat → Nat} {G : Nat → Nat → Nat} {Rc : Nat → Nat} (y : CRep g o h x S n Vs Ps Ss Ts Fs Tn A G Rc) : MnRep o h x S A := y.1
theorem CRep.bu {g : zGT} {o : Nat → Nat} {h : zH} {x : Nat} {S : zS} {n : Nat} {Vs Ps Ss Ts Fs Tn : List Nat} {A : Nat → Nat} {G : Nat → Nat → Nat} {Rc : Nat → Nat} (y : CRep g o h x S n Vs Ps Ss Ts Fs Tn A G Rc) : BuRep o 2 h (A 1) S := y.2.1
theorem CRep.se {g : zGT} {o : Nat → Nat} {h : zH} {x : Nat} {S : zS} {n : Nat} {Vs Ps Ss Ts Fs Tn : List Nat} {A : Nat → Nat} {G : Nat → Nat → Nat} {Rc : Nat → Nat} (y : CRep g o h x S n Vs Ps Ss Ts Fs Tn A G Rc) : SeRep o 3 h (A 2) S := y.2.2.1
theorem CRep.lv {g : zGT} {o : Nat → Nat} {h : zH} {x : Nat} {S : zS} {n : Nat} {Vs Ps Ss Ts Fs Tn : List Nat} {A : Nat → Nat} {G : Nat → Nat → Nat} {Rc : Nat → Nat} (y : CRep g o h x S n Vs Ps Ss Ts Fs Tn A G Rc) : LRep g o 4 h (A 3) Vs := y.2.2.2.1
theorem CRep.nv {g : zGT} {o : Nat → Nat} {h : zH} {x : Nat} {S : zS} {n : Nat} {Vs Ps Ss Ts Fs Tn : List Nat} {A : Nat → Nat} {G : Nat → Nat → Nat} {Rc : Nat → Nat} (y : CRep g o h x S n Vs Ps Ss Ts Fs Tn A G Rc) : (Vs.length : Int) = S.1 4 := y.2.2.2.2.1
theorem CRep.lp {g : zGT} {o : Nat → Nat} {h : zH} {x : Nat} {S : zS} {n : Nat} {Vs Ps Ss Ts Fs Tn : List Nat} {A : Nat → Nat} {G : Nat → Nat → Nat} {Rc : Nat → Nat} (y : CRep g o h x S n Vs Ps Ss Ts Fs Tn A G Rc) : LRep g o 5 h (A 4) Ps := y.2.2.2.2.2.1
theorem CRep.np {g : zGT} {o : Nat → Nat} {h : zH} {x : Nat} {S : zS} {n : Nat} {Vs Ps Ss Ts Fs Tn : List Nat} {A : Nat → Nat} {G : Nat → Nat → Nat} {Rc : Nat → Nat} (y : CRep g o h x S n Vs Ps Ss Ts Fs Tn A G Rc) : (Ps.length : Int) = S.1 12 := y.2.2.2.2.2.2.1
theorem CRep.ra {g : zGT} {o : Nat → Nat} {h : zH} {x : Nat} {S : zS} {n : Nat} {Vs Ps Ss Ts Fs Tn : List Nat} {A : Nat → Nat} {G : Nat → Nat → Nat} {Rc : Nat → Nat} (y : CRep g o h x S n Vs Ps Ss Ts Fs Tn A G Rc) : RaRep o h (A 5) Rc := y.2.2.2.2.2.2.2.1
theorem CRep.rc {g : zGT} {o : Nat → Nat} {h : zH} {x : Nat} {S : zS} {n : Nat} {Vs Ps Ss Ts Fs Tn : List Nat} {A : Nat → Nat} {G : Nat → Nat → Nat} {Rc : Nat → Nat} (y : CRep g o h x S n Vs Ps Ss Ts Fs Tn A G Rc) : ∀ c : Nat, c < 4 → CoSem o (rg 8 c) h (Rc c) n 0 (fun w => zro S.2 c w (S.1 20).toNat) := y.2.2.2.2.2.2.2.2.1
theorem CRep.ls {g : zGT} {o : Nat → Nat} {h : zH} {x : Nat} {S : zS} {n : Nat} {Vs Ps Ss Ts Fs Tn : List Nat} {A : Nat → Nat} {G : Nat → Nat → Nat} {Rc : Nat → Nat} (y : CRep g o h x S n Vs Ps Ss Ts Fs Tn A G Rc) : LRep g o 7 h (A 7) Ss := y.2.2.2.2.2.2.2.2.2.1
theorem CRep.ns {g : zGT} {o : Nat → Nat} {h : zH} {x : Nat} {S : zS} {n : Nat} {Vs Ps Ss Ts Fs Tn : List Nat} {A : Nat → Nat} {G : Nat → Nat → Nat} {Rc : Nat → Nat} (y : CRep g o h x S n Vs Ps Ss Ts Fs Tn A G Rc) : (Ss.length : Int) = S.1 31 := y.2.2.2.2.2.2.2.2.2.2.1
theorem CRep.lt {g : zGT} {o : Nat → Nat} {h : zH} {x : Nat} {S : zS} {n : Nat} {Vs Ps Ss Ts Fs Tn : List Nat} {A : Nat → Nat} {G : Nat → Nat → Nat} {Rc : Nat → Nat} (y : CRep g o h x S n Vs Ps Ss Ts Fs Tn A G Rc) : LRep g o 8 h (A 8) Ts := y.2.2.2.2.2.2.2.2.2.2.2.1
theorem CRep.ok {g : zGT} {o : Nat → Nat} {h : zH} {x : Nat} {S : zS} {n : Nat} {Vs Ps Ss Ts Fs Tn : List Nat} {A : Nat → Nat} {G : Nat → Nat → Nat} {Rc : Nat → Nat} (y : CRep g o h x S n Vs Ps Ss Ts Fs Tn A G Rc) : TsOK S Ss Ts Tn := y.2.2.2.2.2.2.2.2.2.2.2.2.1
theorem CRep.lf {g : zGT} {o : Nat → Nat} {h : zH} {x : Nat} {S : zS} {n : Nat} {Vs Ps Ss Ts Fs Tn : List Nat} {A : Nat → Nat} {G : Nat → Nat → Nat} {Rc : Nat → Nat} (y : CRep g o h x S n Vs Ps Ss Ts Fs Tn A G Rc) : LRep g o 9 h (A 9) Fs := y.2.2.2.2.2.2.2.2.2.2.2.2.2.1
theorem CRep.nf {g : zGT} {o : Nat → Nat} {h : zH} {x : Nat} {S : zS} {n : Nat} {Vs Ps Ss Ts Fs Tn : List Nat} {A : Nat → Nat} {G : Nat → Nat → Nat} {Rc : Nat → Nat} (y : CRep g o h x S n Vs Ps Ss Ts Fs Tn A G Rc) : (Fs.length : Int) = S.1 36 := y.2.2.2.2.2.2.2.2.2.2.2.2.2.2.1
theorem CRep.vo {g : zGT} {o : Nat → Nat} {h : zH} {x : Nat} {S : zS} {n : Nat} {Vs Ps Ss Ts Fs Tn : List Nat} {A : Nat → Nat} {G : Nat → Nat → Nat} {Rc : Nat → Nat} (y : CRep g o h x S n Vs Ps Ss Ts Fs Tn A G Rc) : ∀ v a : Nat, Vs[v]? = some a → VoRep o (rg 0 v) h a S v G := y.2.2.2.2.2.2.2.2.2.2.2.2.2.2.2.1
theorem CRep.hi {g : zGT} {o : Nat → Nat} {h : zH} {x : Nat} {S : zS} {n : Nat} {Vs Ps Ss Ts Fs Tn : List Nat} {A : Nat → Nat} {G : Nat → Nat → Nat} {Rc : Nat → Nat} (y : CRep g o h x S n Vs Ps Ss Ts Fs Tn A G Rc) : ∀ v : Nat, v < Vs.length → HiRep g o (rg 1 v) h (G 2 v) S v := y.2.2.2.2.2.2.2.2.2.2.2.2.2.2.2.2.1
theorem CRep.te {g : zGT} {o : Nat → Nat} {h : zH} {x : Nat} {S : zS} {n : Nat} {Vs Ps Ss Ts Fs Tn : List Nat} {A : Nat → Nat} {G : Nat → Nat → Nat} {Rc : Nat → Nat} (y : CRep g o h x S n Vs Ps Ss Ts Fs Tn A G Rc) : ∀ v : Nat, v < Vs.length → TeRep o (rg 2 v) h (G 3 v) S v := y.2.2.2.2.2.2.2.2.2.2.2.2.2.2.2.2.2.1
theorem CRep.pl {g : zGT} {o : Nat → Nat} {h : zH} {x : Nat} {S : zS} {n : Nat} {Vs Ps Ss Ts Fs Tn : List Nat} {A : Nat → Nat} {G : Nat → Nat → Nat} {Rc : Nat → Nat} (y : CRep g o h x S n Vs Ps Ss Ts Fs Tn A G Rc) : ∀ v : Nat, v < Vs.length → PlRep o (rg 3 v) h (G 4 v) S v n := y.2.2.2.2.2.2.2.2.2.2.2.2.2.2.2.2.2.2.1
theorem CRep.ii {g : zGT} {o : Nat → Nat} {h : zH} {x : Nat} {S : zS} {n : Nat} {Vs Ps Ss Ts Fs Tn : List Nat} {A : Nat → Nat} {G : Nat → Nat → Nat} {Rc : Nat → Nat} (y : CRep g o h x S n Vs Ps Ss Ts Fs Tn A G Rc) : ∀ v : Nat, v < Vs.length → IiRep o (rg 4 v) h (G 5 v) S v n := y.2.2.2.2.2.2.2.2.2.2.2.2.2.2.2.2.2.2.2.1
theorem CRep.pe {g : zGT} {o : Nat → Nat} {h : zH} {x : Nat} {S : zS} {n : Nat} {Vs Ps Ss Ts Fs Tn : List Nat} {A : Nat → Nat} {G : Nat → Nat → Nat} {Rc : Nat → Nat} (y : CRep g o h x S n Vs Ps Ss Ts Fs Tn A G Rc) : ∀ p a : Nat, Ps[p]? = some a → PeRep o (rg 5 p) h a S p := y.2.2.2.2.2.2.2.2.2.2.2.2.2.2.2.2.2.2.2.2.1
theorem CRep.si {g : zGT} {o : Nat → Nat} {h : zH} {x : Nat} {S : zS} {n : Nat} {Vs Ps Ss Ts Fs Tn : List Nat} {A : Nat → Nat} {G : Nat → Nat → Nat} {Rc : Nat → Nat} (y : CRep g o h x S n Vs Ps Ss Ts Fs Tn A G Rc) : ∀ s a : Nat, Ss[s]? = some a → SiRep o (rg 6 s) h a S s := y.2.2.2.2.2.2.2.2.2.2.2.2.2.2.2.2.2.2.2.2.2.1
theorem CRep.fi {g : zGT} {o : Nat → Nat} {h : zH} {x : Nat} {S : zS} {n : Nat} {Vs Ps Ss Ts Fs Tn : List Nat} {A : Nat → Nat} {G : Nat → Nat → Nat} {Rc : Nat → Nat} (y : CRep g o h x S n Vs Ps Ss Ts Fs Tn A G Rc) : ∀ f a : Nat, Fs[f]? = some a → FiRep o (rg 7 f) h a S f Ss := y.2.2.2.2.2.2.2.2.2.2.2.2.2.2.2.2.2.2.2.2.2.2.1
theorem CRep.dy {g : zGT} {o : Nat → Nat} {h : zH} {x : Nat} {S : zS} {n : Nat} {Vs Ps Ss Ts Fs Tn : List Nat} {A : Nat → Nat} {G : Nat → Nat → Nat} {Rc : Nat → Nat} (y : CRep g o h x S n Vs Ps Ss Ts Fs Tn A G Rc) : ∀ v j : Nat, (v : Int) < S.1 4 → (j : Int) < S.2 8 v → S.2 11 (30 * v + j) ≤ S.1 1 := y.2.2.2.2.2.2.2.2.2.2.2.2.2.2.2.2.2.2.2.2.2.2.2.1
theorem CRep.kp {g : zGT} {o : Nat → Nat} {h : zH} {x : Nat} {S : zS} {n : Nat} {Vs Ps Ss Ts Fs Tn : List Nat} {A : Nat → Nat} {G : Nat → Nat → Nat} {Rc : Nat → Nat} (y : CRep g o h x S n Vs Ps Ss Ts Fs Tn A G Rc) : ∀ v j : Nat, (v : Int) < S.1 4 → (j : Int) < S.2 8 v → S.2 9 (30 * v + j) = 0 → S.2 10 (30 * v + j) < S.1 12 := y.2.2.2.2.2.2.2.2.2.2.2.2.2.2.2.2.2.2.2.2.2.2.2.2.1
theorem CRep.fv {g : zGT} {o : Nat → Nat} {h : zH} {x : Nat} {S : zS} {n : Nat} {Vs Ps Ss Ts Fs Tn : List Nat} {A : Nat → Nat} {G : Nat → Nat → Nat} {Rc : Nat → Nat} (y : CRep g o h x S n Vs Ps Ss Ts Fs Tn A G Rc) : ∀ v : Nat, S.1 4 ≤ (v : Int) → v < 12 → S.2 8 v = 0 ∧ S.2 24 v = 0 ∧ S.2 25 v = 0 ∧ S.2 28 v = 0 ∧ (∀ w, 0 ≤ w → w ≤ 20000 → zins S.2 v w = false) ∧ ∀ w, zplate S v w = -1 := y.2.2.2.2.2.2.2.2.2.2.2.2.2.2.2.2.2.2.2.2.2.2.2.2.2.1
theorem CRep.us {g : zGT} {o : Nat → Nat} {h : zH} {x : Nat} {S : zS} {n : Nat} {Vs Ps Ss Ts Fs Tn : List Nat} {A : Nat → Nat} {G : Nat → Nat → Nat} {Rc : Nat → Nat} (y : CRep g o h x S n Vs Ps Ss Ts Fs Tn A G Rc) : ∀ u v : Nat, u < v → (v : Int) < S.1 4 → S.2 5 u ≠ S.2 5 v := y.2.2.2.2.2.2.2.2.2.2.2.2.2.2.2.2.2.2.2.2.2.2.2.2.2.2.1
theorem CRep.fp {g : zGT} {o : Nat → Nat} {h : zH} {x : Nat} {S : zS} {n : Nat} {Vs Ps Ss Ts Fs Tn : List Nat} {A : Nat → Nat} {G : Nat → Nat → Nat} {Rc : Nat → Nat} (y : CRep g o h x S n Vs Ps Ss Ts Fs Tn A G Rc) : ∀ p : Nat, S.1 12 ≤ (p : Int) → S.2 13 p = 0 ∧ S.2 14 p = 0 := y.2.2.2.2.2.2.2.2.2.2.2.2.2.2.2.2.2.2.2.2.2.2.2.2.2.2.2.1
theorem CRep.ff {g : zGT} {o : Nat → Nat} {h : zH} {x : Nat} {S : zS} {n : Nat} {Vs Ps Ss Ts Fs Tn : List Nat} {A : Nat → Nat} {G : Nat → Nat → Nat} {Rc : Nat → Nat} (y : CRep g o h x S n Vs Ps Ss Ts Fs Tn A G Rc) : ∀ f : Nat, S.1 36 ≤ (f : Int) → S.2 40 f = 0 := y.2.2.2.2.2.2.2.2.2.2.2.2.2.2.2.2.2.2.2.2.2.2.2.2.2.2.2.2
theorem CRep.fr {g : zGT} {o : Nat → Nat} {h : zH} {x : Nat} {S : zS} {n : Nat} {Vs Ps Ss Ts Fs Tn : List Nat} {A : Nat → Nat} {G : Nat → Nat → Nat} {Rc : Nat → Nat} {o1 : Nat → Nat} {h1 : zH} (y : CRep g o h x S n Vs Ps Ss Ts Fs Tn A G Rc) (f : ∀ r, r ≠ 0 → r ≠ 15 → zFr r o h o1 h1) : CRep g o1 h1 x S n Vs Ps Ss Ts Fs Tn A G Rc := ⟨y.mn.fr (f 1 (by decide) (by decide)), y.bu.fr (f 2 (by decide) (by decide)), y.se.fr (f 3 (by decide) (by decide)), y.lv.fr (f 4 (by decide) (by decide)), y.nv, y.lp.fr (f 5 (by decide) (by decide)), y.np, y.ra.fr (f 6 (by decide) (by decide)), fun c hc => (y.rc c hc).fr (f _ (by unfold rg; omega) (by unfold rg; omega)), y.ls.fr (f 7 (by decide) (by decide)), y.ns, y.lt.fr (f 8 (by decide) (by decide)), y.ok, y.lf.fr (f 9 (by decide) (by decide)), y.nf, fun v a h => (y.vo v a h).fr (f _ (by unfold rg; omega) (by unfold rg; omega)), fun v h => (y.hi v h).fr (f _ (by unfold rg; omega) (by unfold rg; omega)), fun v h => (y.te v h).fr (f _ (by unfold rg; omega) (by unfold rg; omega)), fun v h => (y.pl v h).fr (f _ (by unfold rg; omega) (by unfold rg; omega)), fun v h => (y.ii v h).fr (f _ (by unfold rg; omega) (by unfold rg; omega)), fun v a h => (y.pe v a h).fr (f _ (by unfold rg; omega) (by unfold rg; omega)), fun v a h => (y.si v a h).fr (f _ (by unfold rg; omega) (by unfold rg; omega)), fun v a h => (y.fi v a h).fr (f _ (by unfold rg; omega) (by unfold rg; omega)), y.dy, y.kp, y.fv, y.us, y.fp, y.ff⟩
set_option maxRecDepth 10000 in
theorem CRep.to_bu {g : zGT} {o : Nat → Nat} {h : zH} {x : Nat} {S : zS} {n : Nat} {Vs Ps Ss Ts Fs Tn : List Nat} {A : Nat → Nat} {G : Nat → Nat → Nat} {Rc : Nat → Nat} {o1 : Nat → Nat} {h1 : zH} {n2 : Nat} (y : CRep g o h x S n Vs Ps Ss Ts Fs Tn A G Rc) (hn2 : n ≤ n2) (st : zStep (fun q => q = 2) o h o1 h1) {l : Int} {ar : Nat → Int} (hbu : BuRep o1 2 h1 (A 1) (zu1 S.1 2 l, fun k i => if k = 3 then ar i else S.2 k i)) : CRep g o1 h1 x ((zu1 S.1 2 l, fun k i => if k = 3 then ar i else S.2 k i)) n2 Vs Ps Ss Ts Fs Tn A G Rc := by
  have main : ∀ S2 : zS, S2 = (zu1 S.1 2 l, fun k i => if k = 3 then ar i else S.2 k i) → CRep g o1 h1 x S2 n2 Vs Ps Ss Ts Fs Tn A G Rc := fun S2 hS2 => by
    subst hS2
    exact ⟨(y.mn.fr (st.fr (r := 1) (by show ¬ (_ = _); omega))).cg rfl rfl,
    hbu,
    (y.se.fr (st.fr (r := 3) (by show ¬ (_ = _); omega))).cg rfl (fun _ => rfl) (fun _ => rfl),
    y.lv.fr (st.fr (r := 4) (by show ¬ (_ = _); omega)),
    y.nv,
    y.lp.fr (st.fr (r := 5) (by show ¬ (_ = _); omega)),
    y.np,
    y.ra.fr (st.fr (r := 6) (by show ¬ (_ = _); omega)),
    fun c hc => by have z := ((y.rc c hc).fr (st.fr (r := rg 8 c) (by show ¬ (_ = _); unfold rg; omega))).mono (n2 := n2) hn2; rw [show (fun w => zro ((zu1 S.1 2 l, fun k i => if k = 3 then ar i else S.2 k i)).2 c w (((zu1 S.1 2 l, fun k i => if k = 3 then ar i else S.2 k i)).1 20).toNat) = (fun w => zro S.2 c w (S.1 20).toNat) from funext fun w => zro_cg (ar := S.2) (ar2 := ((zu1 S.1 2 l, fun k i => if k = 3 then ar i else S.2 k i)).2) (fun _ => rfl) (fun _ => rfl) (fun _ => rfl) _]; exact z,
    y.ls.fr (st.fr (r := 7) (by show ¬ (_ = _); omega)),
    y.ns,
    y.lt.fr (st.fr (r := 8) (by show ¬ (_ = _); omega)),
    y.ok.cg (fun _ => rfl) (fun _ => rfl),
    y.lf.fr (st.fr (r := 9) (by show ¬ (_ = _); omega)),
    y.nf,
    fun u a hu => ((y.vo u a hu).fr (st.fr (r := rg 0 u) (by show ¬ (_ = _); unfold rg; omega))).cg rfl rfl rfl,
    fun u hu => ((y.hi u hu).fr (st.fr (r := rg 1 u) (by show ¬ (_ = _); unfold rg; omega))).cg (fun _ _ => rfl) (fun _ _ => rfl) (fun _ _ => rfl) rfl rfl,
    fun u hu => ((y.te u hu).fr (st.fr (r := rg 2 u) (by show ¬ (_ = _); unfold rg; omega))).cg rfl rfl rfl rfl rfl rfl,
    fun u hu => ((y.pl u hu).fr (st.fr (r := rg 3 u) (by show ¬ (_ = _); unfold rg; omega))).cg hn2 (fun _ => rfl) rfl (Int.le_refl _),
    fun u hu => ((y.ii u hu).fr (st.fr (r := rg 4 u) (by show ¬ (_ = _); unfold rg; omega))).cg hn2 (fun _ _ => rfl) (Int.le_refl _),
    fun u a hu => ((y.pe u a hu).fr (st.fr (r := rg 5 u) (by show ¬ (_ = _); unfold rg; omega))).cg rfl rfl,
    fun u a hu => ((y.si u a hu).fr (st.fr (r := rg 6 u) (by show ¬ (_ = _); unfold rg; omega))).cg (fun _ _ => rfl) rfl rfl rfl,
    fun u a hu => ((y.fi u a hu).fr (st.fr (r := rg 7 u) (by show ¬ (_ = _); unfold rg; omega))).cg rfl rfl rfl rfl rfl,
    y.dy,
    y.kp,
    fun u h1 h2 => ⟨(y.fv u h1 h2).1, (y.fv u h1 h2).2.1, (y.fv u h1 h2).2.2.1, (y.fv u h1 h2).2.2.2.1, (y.fv u h1 h2).2.2.2.2.1, fun w => (zplate_cg (S := S) (S2 := ((zu1 S.1 2 l, fun k i => if k = 3 then ar i else S.2 k i))) (fun _ => rfl) rfl).trans ((y.fv u h1 h2).2.2.2.2.2 w)⟩,
    y.us,
    y.fp,
    y.ff⟩
  exact main _ rfl
set_option maxRecDepth 10000 in
theorem CRep.to_se {g : zGT} {o : Nat → Nat} {h : zH} {x : Nat} {S : zS} {n : Nat} {Vs Ps Ss Ts Fs Tn : List Nat} {A : Nat → Nat} {G : Nat → Nat → Nat} {Rc : Nat → Nat} {o1 : Nat → Nat} {h1 : zH} {n2 : Nat} (y : CRep g o h x S n Vs Ps Ss Ts Fs Tn A G Rc) (hn2 : n ≤ n2) (st : zStep (fun q => q = 3) o h o1 h1) {ar : Nat → Int} (hse : SeRep o1 3 h1 (A 2) (S.1, fun k i => if k = 15 then ar i else S.2 k i)) : CRep g o1 h1 x ((S.1, fun k i => if k = 15 then ar i else S.2 k i)) n2 Vs Ps Ss Ts Fs Tn A G Rc := by
  have main : ∀ S2 : zS, S2 = (S.1, fun k i => if k = 15 then ar i else S.2 k i) → CRep g o1 h1 x S2 n2 Vs Ps Ss Ts Fs Tn A G Rc := fun S2 hS2 => by
    subst hS2
    exact ⟨(y.mn.fr (st.fr (r := 1) (by show ¬ (_ = _); omega))).cg rfl rfl,
    (y.bu.fr (st.fr (r := 2) (by show ¬ (_ = _); omega))).cg rfl (fun _ => rfl),
    hse,
    y.lv.fr (st.fr (r := 4) (by show ¬ (_ = _); omega)),
    y.nv,
    y.lp.fr (st.fr (r := 5) (by show ¬ (_ = _); omega)),
    y.np,
    y.ra.fr (st.fr (r := 6) (by show ¬ (_ = _); omega)),
    fun c hc => by have z := ((y.rc c hc).fr (st.fr (r := rg 8 c) (by show ¬ (_ = _); unfold rg; omega))).mono (n2 := n2) hn2; rw [show (fun w => zro ((S.1, fun k i => if k = 15 then ar i else S.2 k i)).2 c w (((S.1, fun k i => if k = 15 then ar i else S.2 k i)).1 20).toNat) = (fun w => zro S.2 c w (S.1 20).toNat) from funext fun w => zro_cg (ar := S.2) (ar2 := ((S.1, fun k i => if k = 15 then ar i else S.2 k i)).2) (fun _ => rfl) (fun _ => rfl) (fun _ => rfl) _]; exact z,
    y.ls.fr (st.fr (r := 7) (by show ¬ (_ = _); omega)),
    y.ns,
    y.lt.fr (st.fr (r := 8) (by show ¬ (_ = _); omega)),
    y.ok.cg (fun _ => rfl) (fun _ => rfl),
    y.lf.fr (st.fr (r := 9) (by show ¬ (_ = _); omega)),
    y.nf,
    fun u a hu => ((y.vo u a hu).fr (st.fr (r := rg 0 u) (by show ¬ (_ = _); unfold rg; omega))).cg rfl rfl rfl,
    fun u hu => ((y.hi u hu).fr (st.fr (r := rg 1 u) (by show ¬ (_ = _); unfold rg; omega))).cg (fun _ _ => rfl) (fun _ _ => rfl) (fun _ _ => rfl) rfl rfl,
    fun u hu => ((y.te u hu).fr (st.fr (r := rg 2 u) (by show ¬ (_ = _); unfold rg; omega))).cg rfl rfl rfl rfl rfl rfl,
    fun u hu => ((y.pl u hu).fr (st.fr (r := rg 3 u) (by show ¬ (_ = _); unfold rg; omega))).cg hn2 (fun _ => rfl) rfl (Int.le_refl _),
    fun u hu => ((y.ii u hu).fr (st.fr (r := rg 4 u) (by show ¬ (_ = _); unfold rg; omega))).cg hn2 (fun _ _ => rfl) (Int.le_refl _),
    fun u a hu => ((y.pe u a hu).fr (st.fr (r := rg 5 u) (by show ¬ (_ = _); unfold rg; omega))).cg rfl rfl,
    fun u a hu => ((y.si u a hu).fr (st.fr (r := rg 6 u) (by show ¬ (_ = _); unfold rg; omega))).cg (fun _ _ => rfl) rfl rfl rfl,
    fun u a hu => ((y.fi u a hu).fr (st.fr (r := rg 7 u) (by show ¬ (_ = _); unfold rg; omega))).cg rfl rfl rfl rfl rfl,
    y.dy,
    y.kp,
    fun u h1 h2 => ⟨(y.fv u h1 h2).1, (y.fv u h1 h2).2.1, (y.fv u h1 h2).2.2.1, (y.fv u h1 h2).2.2.2.1, (y.fv u h1 h2).2.2.2.2.1, fun w => (zplate_cg (S := S) (S2 := ((S.1, fun k i => if k = 15 then ar i else S.2 k i))) (fun _ => rfl) rfl).trans ((y.fv u h1 h2).2.2.2.2.2 w)⟩,
    y.us,
    y.fp,
    y.ff⟩
  exact main _ rfl