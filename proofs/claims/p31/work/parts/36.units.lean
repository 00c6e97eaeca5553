abbrev rg (k i : Nat) : Nat := 16 * i + 16 + k
/-- a standing b behind j events of the vehicle v -/
def StRep (o : Nat → Nat) (r : Nat) (h : zH) (b : Nat) (S : zS) (v j : Nat) : Prop := kd_ h b = 12 ∧ o b = r ∧ fi_ h b 0 = (zst S v j).1 ∧ fi_ h b 1 = (zst S v j).2 ∧ fi_ h b 2 = zlat S v 0 (-1) j ∧ fi_ h b 3 = zlat S v 1 (-1) j ∧ fi_ h b 4 = zlat S v 7 (S.2 7 v) j
theorem StRep.fr {o o1 : Nat → Nat} {r : Nat} {h h1 : zH} {b : Nat} {S : zS} {v j : Nat} (x : StRep o r h b S v j) (f : zFr r o h o1 h1) : StRep o1 r h1 b S v j := by
  obtain ⟨x1, x2, x3, x4, x5, x6, x7⟩ := x
  obtain ⟨f1, f2, -, f4, -⟩ := f b x2 (by omega)
  exact ⟨f2.trans x1, f1, (f4 0).trans x3, (f4 1).trans x4, (f4 2).trans x5, (f4 3).trans x6, (f4 4).trans x7⟩
theorem zst_cg {S S2 : zS} {v : Nat} (c9 : ∀ i, i < 30 → S2.2 9 (30 * v + i) = S.2 9 (30 * v + i)) : ∀ j, j ≤ 30 → zst S2 v j = zst S v j
  | 0, _ => rfl
  | j + 1, h => by unfold zst; rw [zst_cg c9 j (by omega), c9 j (by omega)]
theorem zlat_cg {S S2 : zS} {v : Nat} {its wo : Int} (c9 : ∀ i, i < 30 → S2.2 9 (30 * v + i) = S.2 9 (30 * v + i)) (c10 : ∀ i, i < 30 → S2.2 10 (30 * v + i) = S.2 10 (30 * v + i)) : ∀ j, j ≤ 30 → zlat S2 v its wo j = zlat S v its wo j
  | 0, _ => rfl
  | j + 1, h => by unfold zlat; rw [zlat_cg c9 c10 j (by omega), c9 j (by omega), c10 j (by omega)]
theorem StRep.cg {o : Nat → Nat} {r : Nat} {h : zH} {b : Nat} {S S2 : zS} {v j : Nat} (x : StRep o r h b S v j) (hj : j ≤ 30) (c9 : ∀ i, i < 30 → S2.2 9 (30 * v + i) = S.2 9 (30 * v + i)) (c10 : ∀ i, i < 30 → S2.2 10 (30 * v + i) = S.2 10 (30 * v + i)) (c7 : S2.2 7 v = S.2 7 v) : StRep o r h b S2 v j := by
  obtain ⟨x1, x2, x3, x4, x5, x6, x7⟩ := x
  refine ⟨x1, x2, ?_, ?_, ?_, ?_, ?_⟩
  · rw [x3, zst_cg c9 j hj]
  · rw [x4, zst_cg c9 j hj]
  · rw [x5, zlat_cg c9 c10 j hj]
  · rw [x6, zlat_cg c9 c10 j hj]
  · rw [x7, c7, zlat_cg c9 c10 j hj]
/-- the event e, the one with number j of the vehicle v -/
def EvRep (o : Nat → Nat) (r : Nat) (h : zH) (e : Nat) (S : zS) (v j : Nat) : Prop := kd_ h e = 6 ∧ o e = r ∧ fi_ h e 0 = S.2 9 (30 * v + j) ∧ fi_ h e 1 = S.2 10 (30 * v + j) ∧ fi_ h e 2 = S.2 11 (30 * v + j)
theorem EvRep.fr {o o1 : Nat → Nat} {r : Nat} {h h1 : zH} {b : Nat} {S : zS} {v j : Nat} (x : EvRep o r h b S v j) (f : zFr r o h o1 h1) : EvRep o1 r h1 b S v j := by
  obtain ⟨x1, x2, x3, x4, x5⟩ := x
  obtain ⟨f1, f2, -, f4, -⟩ := f b x2 (by omega)
  exact ⟨f2.trans x1, f1, (f4 0).trans x3, (f4 1).trans x4, (f4 2).trans x5⟩
/-- a history: its events as S tells them, the standings of the first m of them right -/
def HPart (g : zGT) (o : Nat → Nat) (r : Nat) (h : zH) (a t l : Nat) (S : zS) (v : Nat) (L : List Nat) (B : Nat → Nat) (m : Nat) : Prop := kd_ h a = 8 ∧ o a = r ∧ fi_ h a 0 = S.2 7 v ∧ fr_ h a 1 = some t ∧ StRep o r h t S v 0 ∧ fr_ h a 2 = some l ∧ LRep g o r h l L ∧ (L.length : Int) = S.2 8 v ∧ L.length ≤ 30 ∧ (∀ j e, L[j]? = some e → EvRep o r h e S v j ∧ fr_ h e 3 = some (B e) ∧ kd_ h (B e) = 12 ∧ o (B e) = r ∧ B e ≠ t ∧ (j < m → StRep o r h (B e) S v (j + 1))) ∧ (∀ e e2, e ∈ L → e2 ∈ L → B e = B e2 → e = e2) ∧ L.Nodup
theorem HPart.fr {g : zGT} {o o1 : Nat → Nat} {r : Nat} {h h1 : zH} {a t l : Nat} {S : zS} {v : Nat} {L : List Nat} {B : Nat → Nat} {m : Nat} (x : HPart g o r h a t l S v L B m) (f : zFr r o h o1 h1) : HPart g o1 r h1 a t l S v L B m := by
  obtain ⟨x1, x2, x3, x4, x5, x6, x7, x8, x9, x10, x11, x12⟩ := x
  obtain ⟨f1, f2, -, f4, -, f6, -⟩ := f a x2 (by omega)
  refine ⟨f2.trans x1, f1, (f4 0).trans x3, (f6 1).trans x4, x5.fr f, (f6 2).trans x6, x7.fr f, x8, x9, fun j e he => ?_, x11, x12⟩
  obtain ⟨y1, y2, y3, y4, y5, y6⟩ := x10 j e he
  obtain ⟨g1, g2, -, -, -, g6, -⟩ := f e y1.2.1 (by have := y1.1; omega)
  obtain ⟨k1, k2, -⟩ := f (B e) y4 (by omega)
  exact ⟨y1.fr f, (g6 3).trans y2, k2.trans y3, k1, y5, fun hj => (y6 hj).fr f⟩
theorem HPart.cg {g : zGT} {o : Nat → Nat} {r : Nat} {h : zH} {a t l : Nat} {S S2 : zS} {v : Nat} {L : List Nat} {B : Nat → Nat} {m : Nat} (x : HPart g o r h a t l S v L B m) (c9 : ∀ i, i < 30 → S2.2 9 (30 * v + i) = S.2 9 (30 * v + i)) (c10 : ∀ i, i < 30 → S2.2 10 (30 * v + i) = S.2 10 (30 * v + i)) (c11 : ∀ i, i < 30 → S2.2 11 (30 * v + i) = S.2 11 (30 * v + i)) (c7 : S2.2 7 v = S.2 7 v) (c8 : S2.2 8 v = S.2 8 v) : HPart g o r h a t l S2 v L B m := by
  obtain ⟨x1, x2, x3, x4, x5, x6, x7, x8, x9, x10, x11, x12⟩ := x
  refine ⟨x1, x2, x3.trans c7.symm, x4, x5.cg (by omega) c9 c10 c7, x6, x7, x8.trans c8.symm, x9, fun j e he => ?_, x11, x12⟩
  obtain ⟨⟨z1, z2, z3, z4, z5⟩, y2, y3, y4, y5, y6⟩ := x10 j e he
  have hj : j < L.length := (List.getElem?_eq_some_iff.mp he).1
  exact ⟨⟨z1, z2, z3.trans (c9 j (by omega)).symm, z4.trans (c10 j (by omega)).symm, z5.trans (c11 j (by omega)).symm⟩, y2, y3, y4, y5, fun q => (y6 q).cg (by omega) c9 c10 c7⟩
abbrev SDay (S : zS) (v : Nat) : Prop := ∀ i j : Nat, i ≤ j → (j : Int) < S.2 8 v → S.2 11 (30 * v + i) ≤ S.2 11 (30 * v + j)
def HiRep (g : zGT) (o : Nat → Nat) (r : Nat) (h : zH) (a : Nat) (S : zS) (v : Nat) : Prop := (∃ t l L B, HPart g o r h a t l S v L B L.length) ∧ SDay S v
theorem HiRep.fr {g : zGT} {o o1 : Nat → Nat} {r : Nat} {h h1 : zH} {a : Nat} {S : zS} {v : Nat} (x : HiRep g o r h a S v) (f : zFr r o h o1 h1) : HiRep g o1 r h1 a S v := by
  obtain ⟨⟨t, l, L, B, x⟩, y⟩ := x
  exact ⟨⟨t, l, L, B, x.fr f⟩, y⟩
theorem HiRep.cg {g : zGT} {o : Nat → Nat} {r : Nat} {h : zH} {a : Nat} {S S2 : zS} {v : Nat} (x : HiRep g o r h a S v) (c9 : ∀ i, i < 30 → S2.2 9 (30 * v + i) = S.2 9 (30 * v + i)) (c10 : ∀ i, i < 30 → S2.2 10 (30 * v + i) = S.2 10 (30 * v + i)) (c11 : ∀ i, i < 30 → S2.2 11 (30 * v + i) = S.2 11 (30 * v + i)) (c7 : S2.2 7 v = S.2 7 v) (c8 : S2.2 8 v = S.2 8 v) : HiRep g o r h a S2 v := by
  obtain ⟨⟨t, l, L, B, x⟩, y⟩ := x
  have h8 : S.2 8 v ≤ 30 := by have := x.2.2.2.2.2.2.2.1; have := x.2.2.2.2.2.2.2.2.1; omega
  exact ⟨⟨t, l, L, B, x.cg c9 c10 c11 c7 c8⟩, fun i j hij hj => by rw [c8] at hj; rw [c11 i (by omega), c11 j (by omega)]; exact y i j hij hj⟩
def TeRep (o : Nat → Nat) (r : Nat) (h : zH) (a : Nat) (S : zS) (v : Nat) : Prop := kd_ h a = 13 ∧ o a = r ∧ fi_ h a 0 = S.2 25 v ∧ fi_ h a 1 = (if S.2 25 v = 0 then S.2 6 v else S.2 26 v) ∧ fi_ h a 2 = (if S.2 25 v = 0 then 0 else S.2 27 v) ∧ fi_ h a 3 = S.2 29 v ∧ fi_ h a 4 = S.2 28 v
theorem TeRep.fr {o o1 : Nat → Nat} {r : Nat} {h h1 : zH} {a : Nat} {S : zS} {v : Nat} (x : TeRep o r h a S v) (f : zFr r o h o1 h1) : TeRep o1 r h1 a S v := by
  obtain ⟨x1, x2, x3, x4, x5, x6, x7⟩ := x
  obtain ⟨f1, f2, -, f4, -⟩ := f a x2 (by omega)
  exact ⟨f2.trans x1, f1, (f4 0).trans x3, (f4 1).trans x4, (f4 2).trans x5, (f4 3).trans x6, (f4 4).trans x7⟩
theorem TeRep.cg {o : Nat → Nat} {r : Nat} {h : zH} {a : Nat} {S S2 : zS} {v : Nat} (x : TeRep o r h a S v) (c6 : S2.2 6 v = S.2 6 v) (c25 : S2.2 25 v = S.2 25 v) (c26 : S2.2 26 v = S.2 26 v) (c27 : S2.2 27 v = S.2 27 v) (c28 : S2.2 28 v = S.2 28 v) (c29 : S2.2 29 v = S.2 29 v) : TeRep o r h a S2 v := by
  unfold TeRep at *
  rw [c6, c25, c26, c27, c28, c29]
  exact x
/-- which row of the first c holds on a day: its from and its value -/
def zcp1 (F V : Nat → Int) (d w : Int) : Nat → Int × Int
  | 0 => (-1, d)
  | i + 1 => if F i ≤ w then (F i, V i) else zcp1 F V d w i
def CoRep (o : Nat → Nat) (r : Nat) (h : zH) (a ef ev : Nat) (F V : Nat → Int) (c : Nat) : Prop := kd_ h a = 5 ∧ o a = r ∧ fr_ h a 0 = some ef ∧ fr_ h a 1 = some ev ∧ fi_ h a 2 = (c : Int) ∧ kd_ h ef = 20 ∧ kd_ h ev = 20 ∧ o ef = r ∧ o ev = r ∧ ef ≠ ev ∧ c ≤ ln_ h ef ∧ ln_ h ev = ln_ h ef ∧ 4 ≤ ln_ h ef ∧ ln_ h ef ≤ 4 + 2 * c ∧ (∀ i, i < c → ai_ h ef i = F i) ∧ (∀ i, i < c → ai_ h ev i = V i)
theorem CoRep.fr {o o1 : Nat → Nat} {r : Nat} {h h1 : zH} {a ef ev : Nat} {F V : Nat → Int} {c : Nat} (x : CoRep o r h a ef ev F V c) (f : zFr r o h o1 h1) : CoRep o1 r h1 a ef ev F V c := by
  obtain ⟨x1, x2, x3, x4, x5, x6, x7, x8, x9, x10, x11, x12, x13, x14, x15, x16⟩ := x
  obtain ⟨f1, f2, -, f4, -, f6, -⟩ := f a x2 (by omega)
  obtain ⟨g1, g2, g3, -, -, -, g7, -⟩ := f ef x8 (by omega)
  obtain ⟨k1, k2, k3, -, -, -, k7, -⟩ := f ev x9 (by omega)
  exact ⟨f2.trans x1, f1, (f6 0).trans x3, (f6 1).trans x4, (f4 2).trans x5, g2.trans x6, k2.trans x7, g1, k1, x10, by omega, by omega, by omega, by omega, fun i hi => (g7 i).trans (x15 i hi), fun i hi => (k7 i).trans (x16 i hi)⟩
def CoOK (F V : Nat → Int) (c n : Nat) : Prop := (∀ i j, i < j → j < c → F i < F j) ∧ (∀ i, i < c → 0 ≤ F i ∧ F i ≤ 20000 ∧ -1 ≤ V i ∧ V i ≤ 100000) ∧ c ≤ n
/-- a course of at most n rows that tells R of each day, d ahead of the first -/
def CoSem (o : Nat → Nat) (r : Nat) (h : zH) (a n : Nat) (d : Int) (R : Int → Int × Int) : Prop := ∃ ef ev F V c, CoRep o r h a ef ev F V c ∧ CoOK F V c n ∧ ∀ w, zcp1 F V d w c = R w
theorem CoSem.fr {o o1 : Nat → Nat} {r : Nat} {h h1 : zH} {a n : Nat} {d : Int} {R : Int → Int × Int} (x : CoSem o r h a n d R) (f : zFr r o h o1 h1) : CoSem o1 r h1 a n d R := by
  obtain ⟨ef, ev, F, V, c, x, y, z⟩ := x
  exact ⟨ef, ev, F, V, c, x.fr f, y, z⟩
theorem CoSem.mono {o : Nat → Nat} {r : Nat} {h : zH} {a n n2 : Nat} {d : Int} {R : Int → Int × Int} (x : CoSem o r h a n d R) (hn : n ≤ n2) : CoSem o r h a n2 d R := by
  obtain ⟨ef, ev, F, V, c, x, ⟨y1, y2, y3⟩, z⟩ := x
  exact ⟨ef, ev, F, V, c, x, ⟨y1, y2, by omega⟩, z⟩
theorem CoSem.own {o : Nat → Nat} {r : Nat} {h : zH} {a n : Nat} {d : Int} {R : Int → Int × Int} (x : CoSem o r h a n d R) : kd_ h a = 5 ∧ o a = r := by
  obtain ⟨ef, ev, F, V, c, x, -⟩ := x
  exact ⟨x.1, x.2.1⟩
def SiRep (o : Nat → Nat) (r : Nat) (h : zH) (a : Nat) (S : zS) (s : Nat) : Prop := ∃ sg, kd_ h a = 11 ∧ o a = r ∧ fr_ h a 0 = some sg ∧ fi_ h a 1 = S.2 33 s ∧ fi_ h a 2 = S.2 34 s ∧ fi_ h a 3 = zmin S s ∧ kd_ h sg = 21 ∧ o sg = r ∧ ln_ h sg = 4 ∧ ∀ k, k < 4 → ai_ h sg k = S.2 32 (4 * s + k)
theorem SiRep.fr {o o1 : Nat → Nat} {r : Nat} {h h1 : zH} {a : Nat} {S : zS} {s : Nat} (x : SiRep o r h a S s) (f : zFr r o h o1 h1) : SiRep o1 r h1 a S s := by
  obtain ⟨sg, x1, x2, x3, x4, x5, x6, x7, x8, x9, x10⟩ := x
  obtain ⟨f1, f2, -, f4, -, f6, -⟩ := f a x2 (by omega)
  obtain ⟨g1, g2, g3, -, -, -, g7, -⟩ := f sg x8 (by omega)
  exact ⟨sg, f2.trans x1, f1, (f6 0).trans x3, (f4 1).trans x4, (f4 2).trans x5, (f4 3).trans x6, g2.trans x7, g1, g3.trans x9, fun k hk => (g7 k).trans (x10 k hk)⟩
theorem SiRep.cg {o : Nat → Nat} {r : Nat} {h : zH} {a : Nat} {S S2 : zS} {s : Nat} (x : SiRep o r h a S s) (c32 : ∀ k, k < 4 → S2.2 32 (4 * s + k) = S.2 32 (4 * s + k)) (c33 : S2.2 33 s = S.2 33 s) (c34 : S2.2 34 s = S.2 34 s) (c35 : S2.2 35 s = S.2 35 s) : SiRep o r h a S2 s := by
  obtain ⟨sg, x1, x2, x3, x4, x5, x6, x7, x8, x9, x10⟩ := x
  exact ⟨sg, x1, x2, x3, x4.trans c33.symm, x5.trans c34.symm, by unfold zmin; rw [c34, c35]; exact x6, x7, x8, x9, fun k hk => (x10 k hk).trans (c32 k hk).symm⟩
def FiRep (o : Nat → Nat) (r : Nat) (h : zH) (a : Nat) (S : zS) (f : Nat) (Ss : List Nat) : Prop := kd_ h a = 7 ∧ o a = r ∧ fi_ h a 1 = S.2 38 f ∧ fi_ h a 3 = S.2 40 f ∧ fi_ h a 4 = S.2 39 f ∧ (0 < S.2 40 f → fi_ h a 2 = S.2 41 f) ∧ ∃ si, fr_ h a 0 = some si ∧ Ss[(S.2 37 f).toNat]? = some si
theorem FiRep.fr {o o1 : Nat → Nat} {r : Nat} {h h1 : zH} {a : Nat} {S : zS} {s : Nat} {Ss : List Nat} (x : FiRep o r h a S s Ss) (f : zFr r o h o1 h1) : FiRep o1 r h1 a S s Ss := by
  obtain ⟨x1, x2, x3, x4, x5, x6, si, x7, x8⟩ := x
  obtain ⟨f1, f2, -, f4, -, f6, -⟩ := f a x2 (by omega)
  exact ⟨f2.trans x1, f1, (f4 1).trans x3, (f4 3).trans x4, (f4 4).trans x5, fun q => (f4 2).trans (x6 q), si, (f6 0).trans x7, x8⟩
theorem FiRep.cg {o : Nat → Nat} {r : Nat} {h : zH} {a : Nat} {S S2 : zS} {f : Nat} {Ss : List Nat} (x : FiRep o r h a S f Ss) (c37 : S2.2 37 f = S.2 37 f) (c38 : S2.2 38 f = S.2 38 f) (c39 : S2.2 39 f = S.2 39 f) (c40 : S2.2 40 f = S.2 40 f) (c41 : S2.2 41 f = S.2 41 f) : FiRep o r h a S2 f Ss := by
  unfold FiRep at *
  rw [c37, c38, c39, c40, c41]
  exact x
theorem FiRep.app {o : Nat → Nat} {r : Nat} {h : zH} {a : Nat} {S : zS} {f : Nat} {Ss : List Nat} (x : FiRep o r h a S f Ss) (y : Nat) : FiRep o r h a S f (Ss ++ [y]) := by
  obtain ⟨x1, x2, x3, x4, x5, x6, si, x7, x8⟩ := x
  exact ⟨x1, x2, x3, x4, x5, x6, si, x7, by rw [List.getElem?_append_left (List.getElem?_eq_some_iff.mp x8).1]; exact x8⟩
def PeRep (o : Nat → Nat) (r : Nat) (h : zH) (a : Nat) (S : zS) (p : Nat) : Prop := kd_ h a = 9 ∧ o a = r ∧ fi_ h a 0 = S.2 13 p ∧ fi_ h a 1 = S.2 14 p
theorem PeRep.fr {o o1 : Nat → Nat} {r : Nat} {h h1 : zH} {a : Nat} {S : zS} {s : Nat} (x : PeRep o r h a S s) (f : zFr r o h o1 h1) : PeRep o1 r h1 a S s := by
  obtain ⟨x1, x2, x3, x4⟩ := x
  obtain ⟨f1, f2, -, f4, -⟩ := f a x2 (by omega)
  exact ⟨f2.trans x1, f1, (f4 0).trans x3, (f4 1).trans x4⟩
theorem PeRep.cg {o : Nat → Nat} {r : Nat} {h : zH} {a : Nat} {S S2 : zS} {p : Nat} (x : PeRep o r h a S p) (c13 : S2.2 13 p = S.2 13 p) (c14 : S2.2 14 p = S.2 14 p) : PeRep o r h a S2 p := by
  unfold PeRep at *
  rw [c13, c14]
  exact x
def BuRep (o : Nat → Nat) (r : Nat) (h : zH) (a : Nat) (S : zS) : Prop := ∃ sg, kd_ h a = 4 ∧ o a = r ∧ fr_ h a 0 = some sg ∧ fi_ h a 1 = S.1 2 ∧ kd_ h sg = 21 ∧ o sg = r ∧ ln_ h sg = 8 ∧ ∀ k, k < 8 → ai_ h sg k = S.2 3 k
theorem BuRep.fr {o o1 : Nat → Nat} {r : Nat} {h h1 : zH} {a : Nat} {S : zS} (x : BuRep o r h a S) (f : zFr r o h o1 h1) : BuRep o1 r h1 a S := by
  obtain ⟨sg, x1, x2, x3, x4, x7, x8, x9, x10⟩ := x
  obtain ⟨f1, f2, -, f4, -, f6, -⟩ := f a x2 (by omega)
  obtain ⟨g1, g2, g3, -, -, -, g7, -⟩ := f sg x8 (by omega)
  exact ⟨sg, f2.trans x1, f1, (f6 0).trans x3, (f4 1).trans x4, g2.trans x7, g1, g3.trans x9, fun k hk => (g7 k).trans (x10 k hk)⟩
theorem BuRep.cg {o : Nat → Nat} {r : Nat} {h : zH} {a : Nat} {S S2 : zS} (x : BuRep o r h a S) (c2 : S2.1 2 = S.1 2) (c3 : ∀ i, S2.2 3 i = S.2 3 i) : BuRep o r h a S2 := by
  obtain ⟨sg, x1, x2, x3, x4, x7, x8, x9, x10⟩ := x
  exact ⟨sg, x1, x2, x3, x4.trans c2.symm, x7, x8, x9, fun k hk => (x10 k hk).trans (c3 k).symm⟩
def SeRep (o : Nat → Nat) (r : Nat) (h : zH) (a : Nat) (S : zS) : Prop := ∃ b gv, kd_ h a = 10 ∧ o a = r ∧ fr_ h a 0 = some b ∧ fr_ h a 1 = some gv ∧ fi_ h a 2 = S.1 16 ∧ kd_ h b = 22 ∧ o b = r ∧ ln_ h b = 676 ∧ (∀ k, k < 676 → ai_ h b k = S.2 15 k) ∧ kd_ h gv = 23 ∧ o gv = r ∧ ln_ h gv = 1057 ∧ ∀ k, k < 1057 → aj_ h gv k = S.2 17 k
theorem SeRep.fr {o o1 : Nat → Nat} {r : Nat} {h h1 : zH} {a : Nat} {S : zS} (x : SeRep o r h a S) (f : zFr r o h o1 h1) : SeRep o1 r h1 a S := by
  obtain ⟨b, gv, x1, x2, x3, x4, x5, x6, x7, x8, x9, x10, x11, x12, x13⟩ := x
  obtain ⟨f1, f2, -, f4, -, f6, -⟩ := f a x2 (by omega)
  obtain ⟨g1, g2, g3, -, -, -, g7, -⟩ := f b x7 (by omega)
  obtain ⟨k1, k2, k3, -, -, -, -, k8, -⟩ := f gv x11 (by omega)
  exact ⟨b, gv, f2.trans x1, f1, (f6 0).trans x3, (f6 1).trans x4, (f4 2).trans x5, g2.trans x6, g1, g3.trans x8, fun k hk => (g7 k).trans (x9 k hk), k2.trans x10, k1, k3.trans x12, fun k hk => (k8 k).trans (x13 k hk)⟩
theorem SeRep.cg {o : Nat → Nat} {r : Nat} {h : zH} {a : Nat} {S S2 : zS} (x : SeRep o r h a S) (c16 : S2.1 16 = S.1 16) (c15 : ∀ i, S2.2 15 i = S.2 15 i) (c17 : ∀ i, S2.2 17 i = S.2 17 i) : SeRep o r h a S2 := by
  obtain ⟨b, gv, x1, x2, x3, x4, x5, x6, x7, x8, x9, x10, x11, x12, x13⟩ := x
  exact ⟨b, gv, x1, x2, x3, x4, x5.trans c16.symm, x6, x7, x8, fun k hk => (x9 k hk).trans (c15 k).symm, x10, x11, x12, fun k hk => (x13 k hk).trans (c17 k).symm⟩
/-- a vehicle's own object; its parts are G 2 .. G 5 -/
def VoRep (o : Nat → Nat) (r : Nat) (h : zH) (a : Nat) (S : zS) (v : Nat) (G : Nat → Nat → Nat) : Prop := kd_ h a = 14 ∧ o a = r ∧ fi_ h a 0 = S.2 5 v ∧ fi_ h a 1 = S.2 6 v ∧ fr_ h a 2 = some (G 2 v) ∧ fr_ h a 3 = some (G 3 v) ∧ fr_ h a 4 = some (G 4 v) ∧ fr_ h a 5 = some (G 5 v) ∧ fj_ h a 6 = S.2 24 v
theorem VoRep.fr {o o1 : Nat → Nat} {r : Nat} {h h1 : zH} {a : Nat} {S : zS} {v : Nat} {G : Nat → Nat → Nat} (x : VoRep o r h a S v G) (f : zFr r o h o1 h1) : VoRep o1 r h1 a S v G := by
  obtain ⟨x1, x2, x3, x4, x5, x6, x7, x8, x9⟩ := x
  obtain ⟨f1, f2, -, f4, f5, f6, -⟩ := f a x2 (by omega)
  exact ⟨f2.trans x1, f1, (f4 0).trans x3, (f4 1).trans x4, (f6 2).trans x5, (f6 3).trans x6, (f6 4).trans x7, (f6 5).trans x8, (f5 6).trans x9⟩
theorem VoRep.cg {o : Nat → Nat} {r : Nat} {h : zH} {a : Nat} {S S2 : zS} {v : Nat} {G : Nat → Nat → Nat} (x : VoRep o r h a S v G) (c5 : S2.2 5 v = S.2 5 v) (c6 : S2.2 6 v = S.2 6 v) (c24 : S2.2 24 v = S.2 24 v) : VoRep o r h a S2 v G := by
  unfold VoRep at *
  rw [c5, c6, c24]
  exact x
/-- the class's own object; A 1 .. A 9 its fields' objects -/
def MnRep (o : Nat → Nat) (h : zH) (x : Nat) (S : zS) (A : Nat → Nat) : Prop := kd_ h x = 15 ∧ o x = 1 ∧ fi_ h x 0 = S.1 1 ∧ fi_ h x 6 = S.1 20 ∧ fr_ h x 1 = some (A 1) ∧ fr_ h x 2 = some (A 2) ∧ fr_ h x 3 = some (A 3) ∧ fr_ h x 4 = some (A 4) ∧ fr_ h x 5 = some (A 5) ∧ fr_ h x 7 = some (A 7) ∧ fr_ h x 8 = some (A 8) ∧ fr_ h x 9 = some (A 9)
theorem MnRep.fr {o o1 : Nat → Nat} {h h1 : zH} {x : Nat} {S : zS} {A : Nat → Nat} (y : MnRep o h x S A) (f : zFr 1 o h o1 h1) : MnRep o1 h1 x S A := by
  obtain ⟨x1, x2, x3, x4, x5, x6, x7, x8, x9, x10, x11, x12⟩ := y
  obtain ⟨f1, f2, -, f4, f5, f6, -⟩ := f x x2 (by omega)
  exact ⟨f2.trans x1, f1, (f4 0).trans x3, (f4 6).trans x4, (f6 1).trans x5, (f6 2).trans x6, (f6 3).trans x7, (f6 4).trans x8, (f6 5).trans x9, (f6 7).trans x10, (f6 8).trans x11, (f6 9).trans x12⟩
theorem MnRep.cg {o : Nat → Nat} {h : zH} {x : Nat} {S S2 : zS} {A : Nat → Nat} (y : MnRep o h x S A) (c1 : S2.1 1 = S.1 1) (c20 : S2.1 20 = S.1 20) : MnRep o h x S2 A := by
  unfold MnRep at *
  rw [c1, c20]
  exact y
/-- the row of the rates' courses -/
def RaRep (o : Nat → Nat) (h : zH) (a : Nat) (Rc : Nat → Nat) : Prop := kd_ h a = 26 ∧ o a = 6 ∧ ln_ h a = 4 ∧ ∀ i, i < 4 → ar_ h a i = some (Rc i)
theorem RaRep.fr {o o1 : Nat → Nat} {h h1 : zH} {a : Nat} {Rc : Nat → Nat} (x : RaRep o h a Rc) (f : zFr 6 o h o1 h1) : RaRep o1 h1 a Rc := by
  obtain ⟨x1, x2, x3, x4⟩ := x
  obtain ⟨f1, f2, f3, -, -, -, -, -, f9⟩ := f a x2 (by omega)
  exact ⟨f2.trans x1, f1, f3.trans x3, fun i hi => (f9 i).trans (x4 i hi)⟩
