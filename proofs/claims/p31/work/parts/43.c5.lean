/-- x is as it was -/
def zSm (h h1 : zH) (x : Nat) : Prop := kd_ h1 x = kd_ h x ∧ ln_ h1 x = ln_ h x ∧ (∀ j, fi_ h1 x j = fi_ h x j) ∧ (∀ j, fj_ h1 x j = fj_ h x j) ∧ (∀ j, fr_ h1 x j = fr_ h x j) ∧ (∀ j, ai_ h1 x j = ai_ h x j) ∧ (∀ j, aj_ h1 x j = aj_ h x j) ∧ (∀ j, ar_ h1 x j = ar_ h x j)
/-- only b has changed -/
def zOnly (b : Nat) (h h1 : zH) : Prop := (∀ x, x ≠ b → kd_ h x ≠ 0 → zSm h h1 x) ∧ kd_ h1 b = kd_ h b
abbrev zo1 (b : Nat) : Nat → Nat := fun x => if x = b then 1 else 0
theorem zOnly.of {b : Nat} {h h1 : zH} (x : zStep (fun q => q = 1) (zo1 b) h (zo1 b) h1) (hb : kd_ h b ≠ 0) : zOnly b h h1 := ⟨fun y hy h0 => x.1 y (by show ¬ (if y = b then 1 else 0) = 1; rw [if_neg hy]; decide) h0, (x.2 b hb).2⟩
theorem zOnly.trans {b : Nat} {h h1 h2 : zH} (x : zOnly b h h1) (y : zOnly b h1 h2) : zOnly b h h2 := by
  refine ⟨fun z hz h0 => ?_, y.2.trans x.2⟩
  obtain ⟨a1, a2, a3, a4, a5, a6, a7, a8⟩ := x.1 z hz h0
  obtain ⟨b1, b2, b3, b4, b5, b6, b7, b8⟩ := y.1 z hz (by rw [a1]; exact h0)
  exact ⟨b1.trans a1, b2.trans a2, fun j => (b3 j).trans (a3 j), fun j => (b4 j).trans (a4 j), fun j => (b5 j).trans (a5 j), fun j => (b6 j).trans (a6 j), fun j => (b7 j).trans (a7 j), fun j => (b8 j).trans (a8 j)⟩
theorem zOnly.step {b r : Nat} {o : Nat → Nat} {h h1 : zH} (x : zOnly b h h1) (hb : o b = r) : zStep (fun q => q = r) o h o h1 := by
  refine ⟨fun y hy h0 => x.1 y (fun q => hy (by show o y = r; rw [q]; exact hb)) h0, fun y h0 => ⟨rfl, ?_⟩⟩
  by_cases hq : y = b
  · subst hq; exact x.2
  · exact (x.1 y hq h0).1
theorem LRep.sm {g : zGT} {o : Nat → Nat} {r : Nat} {h h1 : zH} {a : Nat} {L : List Nat} (x : LRep g o r h a L) (f : ∀ y, kd_ h y = 3 ∨ kd_ h y = 25 → zSm h h1 y) : LRep g o r h1 a L := by
  obtain ⟨x1, x2, x3, x4, x5⟩ := x
  obtain ⟨f2, f3, f4, f5, f6, -⟩ := f a (Or.inl x1)
  refine ⟨f2.trans x1, x2, (f4 2).trans x3, x4, ?_⟩
  rcases x5 with ⟨y1, y2⟩ | ⟨e, y1, y2, y3, y4, y5, y6, y7⟩
  · exact Or.inl ⟨y1, (f6 1).trans y2⟩
  · obtain ⟨g2, g3, -, -, -, -, -, g9⟩ := f e (Or.inr y2)
    exact Or.inr ⟨e, (f6 1).trans y1, g2.trans y2, y3, by omega, by omega, by omega, fun i hi => (g9 i).trans (y7 i hi)⟩
theorem StRep.sm {o : Nat → Nat} {r : Nat} {h h1 : zH} {b : Nat} {S : zS} {v j : Nat} (x : StRep o r h b S v j) (f : zSm h h1 b) : StRep o r h1 b S v j := by
  obtain ⟨x1, x2, x3, x4, x5, x6, x7⟩ := x
  obtain ⟨f2, -, f4, -⟩ := f
  exact ⟨f2.trans x1, x2, (f4 0).trans x3, (f4 1).trans x4, (f4 2).trans x5, (f4 3).trans x6, (f4 4).trans x7⟩
theorem EvRep.sm {o : Nat → Nat} {r : Nat} {h h1 : zH} {b : Nat} {S : zS} {v j : Nat} (x : EvRep o r h b S v j) (f : zSm h h1 b) : EvRep o r h1 b S v j := by
  obtain ⟨x1, x2, x3, x4, x5⟩ := x
  obtain ⟨f2, -, f4, -⟩ := f
  exact ⟨f2.trans x1, x2, (f4 0).trans x3, (f4 1).trans x4, (f4 2).trans x5⟩
theorem znd_inj : ∀ (L : List Nat) (i j e : Nat), L.Nodup → L[i]? = some e → L[j]? = some e → i = j
  | [], i, j, e, _, h1, _ => by simp at h1
  | x :: L, 0, 0, e, _, _, _ => rfl
  | x :: L, 0, j + 1, e, hn, h1, h2 => by
    simp at h1 h2
    subst h1
    exact absurd (List.mem_of_getElem? h2) (List.nodup_cons.mp hn).1
  | x :: L, i + 1, 0, e, hn, h1, h2 => by
    simp at h1 h2
    subst h2
    exact absurd (List.mem_of_getElem? h1) (List.nodup_cons.mp hn).1
  | x :: L, i + 1, j + 1, e, hn, h1, h2 => by
    simp at h1 h2
    rw [znd_inj L i j e (List.nodup_cons.mp hn).2 h1 h2]
/-- one standing more is right -/
theorem HPart.next {g : zGT} {o : Nat → Nat} {r : Nat} {h h1 : zH} {a t l e j : Nat} {S : zS} {v : Nat} {L : List Nat} {B : Nat → Nat} (x : HPart g o r h a t l S v L B j) (he : L[j]? = some e) (f : zOnly (B e) h h1) (hs : StRep o r h1 (B e) S v (j + 1)) : HPart g o r h1 a t l S v L B (j + 1) := by
  obtain ⟨x1, x2, x3, x4, x5, x6, x7, x8, x9, x10, x11, x12⟩ := x
  obtain ⟨z1, z2, z3, z4, z5, z6⟩ := x10 j e he
  have hne : ∀ y, kd_ h y ≠ 0 → kd_ h y ≠ 12 → zSm h h1 y := fun y h0 h9 => f.1 y (fun q => h9 (by rw [q]; exact z3)) h0
  obtain ⟨f2, f3, f4, f5, f6, -⟩ := hne a (by omega) (by omega)
  refine ⟨f2.trans x1, x2, (f4 0).trans x3, (f6 1).trans x4, x5.sm (f.1 t (fun q => z5 q.symm) (by have := x5.1; omega)), (f6 2).trans x6, x7.sm (fun y hy => hne y (by omega) (by omega)), x8, x9, fun i d hd => ?_, x11, x12⟩
  obtain ⟨y1, y2, y3, y4, y5, y6⟩ := x10 i d hd
  have hd2 := hne d (by have := y1.1; omega) (by have := y1.1; omega)
  by_cases hde : d = e
  · have hij : i = j := znd_inj L i j e x12 (by rw [hd, hde]) he
    subst hde
    exact ⟨y1.sm hd2, (hd2.2.2.2.2.1 3).trans y2, hs.1, y4, y5, fun _ => by rw [hij]; exact hs⟩
  · have hB : B d ≠ B e := fun q => hde (x11 d e (List.mem_of_getElem? hd) (List.mem_of_getElem? he) q)
    have hBs := f.1 (B d) hB (by omega)
    refine ⟨y1.sm hd2, (hd2.2.2.2.2.1 3).trans y2, hBs.1.trans y3, y4, y5, fun hi => ?_⟩
    by_cases hij : i = j
    · subst hij; exact absurd (Option.some.inj (hd.symm.trans he)) hde
    · exact (y6 (by omega)).sm hBs
theorem zst_cgm {S S2 : zS} {v m : Nat} (c9 : ∀ i, i < m → S2.2 9 (30 * v + i) = S.2 9 (30 * v + i)) : ∀ j, j ≤ m → zst S2 v j = zst S v j
  | 0, _ => rfl
  | j + 1, h => by unfold zst; rw [zst_cgm c9 j (by omega), c9 j (by omega)]
theorem zlat_cgm {S S2 : zS} {v m : Nat} {its wo : Int} (c9 : ∀ i, i < m → S2.2 9 (30 * v + i) = S.2 9 (30 * v + i)) (c10 : ∀ i, i < m → S2.2 10 (30 * v + i) = S.2 10 (30 * v + i)) : ∀ j, j ≤ m → zlat S2 v its wo j = zlat S v its wo j
  | 0, _ => rfl
  | j + 1, h => by unfold zlat; rw [zlat_cgm c9 c10 j (by omega), c9 j (by omega), c10 j (by omega)]
theorem StRep.cgm {o : Nat → Nat} {r m : Nat} {h : zH} {b : Nat} {S S2 : zS} {v j : Nat} (x : StRep o r h b S v j) (hj : j ≤ m) (c9 : ∀ i, i < m → S2.2 9 (30 * v + i) = S.2 9 (30 * v + i)) (c10 : ∀ i, i < m → S2.2 10 (30 * v + i) = S.2 10 (30 * v + i)) (c7 : S2.2 7 v = S.2 7 v) : StRep o r h b S2 v j := by
  obtain ⟨x1, x2, x3, x4, x5, x6, x7⟩ := x
  refine ⟨x1, x2, ?_, ?_, ?_, ?_, ?_⟩
  · rw [x3, zst_cgm c9 j hj]
  · rw [x4, zst_cgm c9 j hj]
  · rw [x5, zlat_cgm c9 c10 j hj]
  · rw [x6, zlat_cgm c9 c10 j hj]
  · rw [x7, c7, zlat_cgm c9 c10 j hj]
/-- an event is put in at p -/
theorem HPart.ins {g : zGT} {o o1 : Nat → Nat} {r : Nat} {h h1 : zH} {a t l e b p : Nat} {S S2 : zS} {v : Nat} {L : List Nat} {B : Nat → Nat} (x : HPart g o r h a t l S v L B L.length) (hp : p ≤ L.length) (hl30 : L.length < 30) (hL : LRep g o1 r h1 l (L.take p ++ e :: L.drop p)) (ho : ∀ y, kd_ h y ≠ 0 → o1 y = o y) (f : ∀ y, kd_ h y ≠ 0 → y ≠ l → kd_ h y ≠ 25 → zSm h h1 y) (ek : kd_ h e = 6) (eo : o e = r) (hb : fr_ h e 3 = some b) (bk : kd_ h b = 12) (bo : o b = r) (hn : ∀ d, d ∈ L → B d ≠ b) (ht : b ≠ t) (hen : e ∉ L) (e0 : fi_ h e 0 = S2.2 9 (30 * v + p)) (e1 : fi_ h e 1 = S2.2 10 (30 * v + p)) (e2 : fi_ h e 2 = S2.2 11 (30 * v + p)) (c8 : S2.2 8 v = S.2 8 v + 1) (c7 : S2.2 7 v = S.2 7 v) (clo : ∀ k i, (k = 9 ∨ k = 10 ∨ k = 11) → i < p → S2.2 k (30 * v + i) = S.2 k (30 * v + i)) (chi : ∀ k i, (k = 9 ∨ k = 10 ∨ k = 11) → p ≤ i → i < L.length → S2.2 k (30 * v + (i + 1)) = S.2 k (30 * v + i)) : HPart g o1 r h1 a t l S2 v (L.take p ++ e :: L.drop p) (zu1 B e b) p := by
  obtain ⟨x1, x2, x3, x4, x5, x6, x7, x8, x9, x10, x11, x12⟩ := x
  have hlen : (L.take p ++ e :: L.drop p).length = L.length + 1 := by simp; omega
  have htl : (L.take p).length = p := by simp; omega
  have hne : ∀ y, kd_ h y ≠ 0 → kd_ h y ≠ 3 → kd_ h y ≠ 25 → zSm h h1 y := fun y h0 h3 h9 => f y h0 (fun q => h3 (by rw [q]; exact x7.1)) h9
  obtain ⟨f2, f3, f4, f5, f6, -⟩ := hne a (by omega) (by omega) (by omega)
  have q1 : ∀ i, i < p → S2.2 9 (30 * v + i) = S.2 9 (30 * v + i) := fun i hi => clo 9 i (by omega) hi
  have q2 : ∀ i, i < p → S2.2 10 (30 * v + i) = S.2 10 (30 * v + i) := fun i hi => clo 10 i (by omega) hi
  have hmem : ∀ d, d ∈ L → zu1 B e b d = B d := fun d hd => zu1_ne (fun q => hen (by rw [← q]; exact hd))
  have st : ∀ d j, StRep o r h d S v j → j ≤ p → StRep o1 r h1 d S2 v j := fun d j hd hj => by
    have z := (hd.sm (hne d (by have := hd.1; omega) (by have := hd.1; omega) (by have := hd.1; omega))).cgm hj q1 q2 c7
    exact ⟨z.1, (ho d (by have := hd.1; omega)).trans hd.2.1, z.2.2⟩
  refine ⟨f2.trans x1, (ho a (by omega)).trans x2, ((f4 0).trans x3).trans c7.symm, (f6 1).trans x4, st t 0 x5 (by omega), (f6 2).trans x6, hL, by rw [hlen, c8]; omega, by omega, fun j d hd => ?_, fun d d2 hd hd2 hq => ?_, ?_⟩
  · rcases Nat.lt_trichotomy j p with hj | hj | hj
    · rw [List.getElem?_append_left (by omega), List.getElem?_take_of_lt hj] at hd
      obtain ⟨⟨y1, y2, y3, y4, y5⟩, z2, z3, z4, z5, z6⟩ := x10 j d hd
      have hm := List.mem_of_getElem? hd
      have hs := hne d (by omega) (by omega) (by omega)
      rw [hmem d hm]
      exact ⟨⟨hs.1.trans y1, (ho d (by omega)).trans y2, ((hs.2.2.1 0).trans y3).trans (clo 9 j (by omega) hj).symm, ((hs.2.2.1 1).trans y4).trans (clo 10 j (by omega) hj).symm, ((hs.2.2.1 2).trans y5).trans (clo 11 j (by omega) hj).symm⟩, (hs.2.2.2.2.1 3).trans z2, (hne (B d) (by omega) (by omega) (by omega)).1.trans z3, (ho (B d) (by omega)).trans z4, z5, fun _ => st (B d) (j + 1) (z6 (by omega)) (by omega)⟩
    · subst hj
      rw [List.getElem?_append_right (by omega), htl] at hd
      simp at hd
      subst hd
      have hs := hne e (by omega) (by omega) (by omega)
      rw [show zu1 B e b e = b from zu1_at]
      exact ⟨⟨hs.1.trans ek, (ho e (by omega)).trans eo, (hs.2.2.1 0).trans e0, (hs.2.2.1 1).trans e1, (hs.2.2.1 2).trans e2⟩, (hs.2.2.2.2.1 3).trans hb, (hne b (by omega) (by omega) (by omega)).1.trans bk, (ho b (by omega)).trans bo, ht, fun q => absurd q (by omega)⟩
    · obtain ⟨i, rfl⟩ : ∃ i, j = i + 1 := ⟨j - 1, by omega⟩
      rw [List.getElem?_append_right (by omega), htl, show i + 1 - p = (i - p) + 1 by omega, List.getElem?_cons_succ, List.getElem?_drop, show p + (i - p) = i by omega] at hd
      have hi : i < L.length := (List.getElem?_eq_some_iff.mp hd).1
      obtain ⟨⟨y1, y2, y3, y4, y5⟩, z2, z3, z4, z5, z6⟩ := x10 i d hd
      have hm := List.mem_of_getElem? hd
      have hs := hne d (by omega) (by omega) (by omega)
      rw [hmem d hm]
      exact ⟨⟨hs.1.trans y1, (ho d (by omega)).trans y2, ((hs.2.2.1 0).trans y3).trans (chi 9 i (by omega) (by omega) hi).symm, ((hs.2.2.1 1).trans y4).trans (chi 10 i (by omega) (by omega) hi).symm, ((hs.2.2.1 2).trans y5).trans (chi 11 i (by omega) (by omega) hi).symm⟩, (hs.2.2.2.2.1 3).trans z2, (hne (B d) (by omega) (by omega) (by omega)).1.trans z3, (ho (B d) (by omega)).trans z4, z5, fun q => absurd q (by omega)⟩
  · have hcl : ∀ d, d ∈ L.take p ++ e :: L.drop p → d = e ∨ d ∈ L := fun d hd => by
      rcases List.mem_append.mp hd with q | q
      · exact Or.inr (List.mem_of_mem_take q)
      · rcases List.mem_cons.mp q with q | q
        · exact Or.inl q
        · exact Or.inr (List.mem_of_mem_drop q)
    rcases hcl d hd with rfl | h3 <;> rcases hcl d2 hd2 with rfl | h4
    · rfl
    · rw [zu1_at, hmem d2 h4] at hq; exact absurd hq.symm (hn d2 h4)
    · rw [hmem d h3, zu1_at] at hq; exact absurd hq (hn d h3)
    · rw [hmem d h3, hmem d2 h4] at hq; exact x11 d d2 h3 h4 hq
  · have h6 : (L.take p ++ L.drop p).Nodup := by rw [List.take_append_drop]; exact x12
    rw [List.nodup_append] at h6 ⊢
    refine ⟨h6.1, List.nodup_cons.mpr ⟨fun q => hen (List.mem_of_mem_drop q), h6.2.1⟩, fun y hy z hz => ?_⟩
    rcases List.mem_cons.mp hz with rfl | q
    · exact fun q => hen (by rw [← q]; exact List.mem_of_mem_take hy)
    · exact h6.2.2 y hy z q
