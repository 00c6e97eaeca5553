theorem zhs : (∀ (h : zH) (a k b j : Nat) (v : Int), fi_ (sfi h a k v) b j = if b = a ∧ j = k then v else fi_ h b j) ∧ (∀ (h : zH) (a k b j : Nat) (v : Int), fj_ (sfi h a k v) b j = fj_ h b j) ∧ (∀ (h : zH) (a k b j : Nat) (v : Int), fr_ (sfi h a k v) b j = fr_ h b j) ∧ (∀ (h : zH) (a k b j : Nat) (v : Int), ai_ (sfi h a k v) b j = ai_ h b j) ∧ (∀ (h : zH) (a k b j : Nat) (v : Int), aj_ (sfi h a k v) b j = aj_ h b j) ∧ (∀ (h : zH) (a k b j : Nat) (v : Int), ar_ (sfi h a k v) b j = ar_ h b j) ∧ (∀ (h : zH) (a k b : Nat) (v : Int), kd_ (sfi h a k v) b = kd_ h b) ∧ (∀ (h : zH) (a k b : Nat) (v : Int), ln_ (sfi h a k v) b = ln_ h b) ∧ (∀ (h : zH) (a k b j : Nat) (v : Int), fi_ (sfj h a k v) b j = fi_ h b j) ∧ (∀ (h : zH) (a k b j : Nat) (v : Int), fj_ (sfj h a k v) b j = if b = a ∧ j = k then v else fj_ h b j) ∧ (∀ (h : zH) (a k b j : Nat) (v : Int), fr_ (sfj h a k v) b j = fr_ h b j) ∧ (∀ (h : zH) (a k b j : Nat) (v : Int), ai_ (sfj h a k v) b j = ai_ h b j) ∧ (∀ (h : zH) (a k b j : Nat) (v : Int), aj_ (sfj h a k v) b j = aj_ h b j) ∧ (∀ (h : zH) (a k b j : Nat) (v : Int), ar_ (sfj h a k v) b j = ar_ h b j) ∧ (∀ (h : zH) (a k b : Nat) (v : Int), kd_ (sfj h a k v) b = kd_ h b) ∧ (∀ (h : zH) (a k b : Nat) (v : Int), ln_ (sfj h a k v) b = ln_ h b) ∧ (∀ (h : zH) (a k b j : Nat) (v : (Option Nat)), fi_ (sfr h a k v) b j = fi_ h b j) ∧ (∀ (h : zH) (a k b j : Nat) (v : (Option Nat)), fj_ (sfr h a k v) b j = fj_ h b j) ∧ (∀ (h : zH) (a k b j : Nat) (v : (Option Nat)), fr_ (sfr h a k v) b j = if b = a ∧ j = k then v else fr_ h b j) ∧ (∀ (h : zH) (a k b j : Nat) (v : (Option Nat)), ai_ (sfr h a k v) b j = ai_ h b j) ∧ (∀ (h : zH) (a k b j : Nat) (v : (Option Nat)), aj_ (sfr h a k v) b j = aj_ h b j) ∧ (∀ (h : zH) (a k b j : Nat) (v : (Option Nat)), ar_ (sfr h a k v) b j = ar_ h b j) ∧ (∀ (h : zH) (a k b : Nat) (v : (Option Nat)), kd_ (sfr h a k v) b = kd_ h b) ∧ (∀ (h : zH) (a k b : Nat) (v : (Option Nat)), ln_ (sfr h a k v) b = ln_ h b) ∧ (∀ (h : zH) (a k b j : Nat) (v : Int), fi_ (sai h a k v) b j = fi_ h b j) ∧ (∀ (h : zH) (a k b j : Nat) (v : Int), fj_ (sai h a k v) b j = fj_ h b j) ∧ (∀ (h : zH) (a k b j : Nat) (v : Int), fr_ (sai h a k v) b j = fr_ h b j) ∧ (∀ (h : zH) (a k b j : Nat) (v : Int), ai_ (sai h a k v) b j = if b = a ∧ j = k then v else ai_ h b j) ∧ (∀ (h : zH) (a k b j : Nat) (v : Int), aj_ (sai h a k v) b j = aj_ h b j) ∧ (∀ (h : zH) (a k b j : Nat) (v : Int), ar_ (sai h a k v) b j = ar_ h b j) ∧ (∀ (h : zH) (a k b : Nat) (v : Int), kd_ (sai h a k v) b = kd_ h b) ∧ (∀ (h : zH) (a k b : Nat) (v : Int), ln_ (sai h a k v) b = ln_ h b) ∧ (∀ (h : zH) (a k b j : Nat) (v : Int), fi_ (saj h a k v) b j = fi_ h b j) ∧ (∀ (h : zH) (a k b j : Nat) (v : Int), fj_ (saj h a k v) b j = fj_ h b j) ∧ (∀ (h : zH) (a k b j : Nat) (v : Int), fr_ (saj h a k v) b j = fr_ h b j) ∧ (∀ (h : zH) (a k b j : Nat) (v : Int), ai_ (saj h a k v) b j = ai_ h b j) ∧ (∀ (h : zH) (a k b j : Nat) (v : Int), aj_ (saj h a k v) b j = if b = a ∧ j = k then v else aj_ h b j) ∧ (∀ (h : zH) (a k b j : Nat) (v : Int), ar_ (saj h a k v) b j = ar_ h b j) ∧ (∀ (h : zH) (a k b : Nat) (v : Int), kd_ (saj h a k v) b = kd_ h b) ∧ (∀ (h : zH) (a k b : Nat) (v : Int), ln_ (saj h a k v) b = ln_ h b) ∧ (∀ (h : zH) (a k b j : Nat) (v : (Option Nat)), fi_ (sar h a k v) b j = fi_ h b j) ∧ (∀ (h : zH) (a k b j : Nat) (v : (Option Nat)), fj_ (sar h a k v) b j = fj_ h b j) ∧ (∀ (h : zH) (a k b j : Nat) (v : (Option Nat)), fr_ (sar h a k v) b j = fr_ h b j) ∧ (∀ (h : zH) (a k b j : Nat) (v : (Option Nat)), ai_ (sar h a k v) b j = ai_ h b j) ∧ (∀ (h : zH) (a k b j : Nat) (v : (Option Nat)), aj_ (sar h a k v) b j = aj_ h b j) ∧ (∀ (h : zH) (a k b j : Nat) (v : (Option Nat)), ar_ (sar h a k v) b j = if b = a ∧ j = k then v else ar_ h b j) ∧ (∀ (h : zH) (a k b : Nat) (v : (Option Nat)), kd_ (sar h a k v) b = kd_ h b) ∧ (∀ (h : zH) (a k b : Nat) (v : (Option Nat)), ln_ (sar h a k v) b = ln_ h b) ∧ (∀ (h : zH) (a b j : Nat) (v : (Nat → Int)), fi_ (sca h a v) b j = fi_ h b j) ∧ (∀ (h : zH) (a b j : Nat) (v : (Nat → Int)), fj_ (sca h a v) b j = fj_ h b j) ∧ (∀ (h : zH) (a b j : Nat) (v : (Nat → Int)), fr_ (sca h a v) b j = fr_ h b j) ∧ (∀ (h : zH) (a b j : Nat) (v : (Nat → Int)), ai_ (sca h a v) b j = if b = a then v j else ai_ h b j) ∧ (∀ (h : zH) (a b j : Nat) (v : (Nat → Int)), aj_ (sca h a v) b j = aj_ h b j) ∧ (∀ (h : zH) (a b j : Nat) (v : (Nat → Int)), ar_ (sca h a v) b j = ar_ h b j) ∧ (∀ (h : zH) (a b : Nat) (v : (Nat → Int)), kd_ (sca h a v) b = kd_ h b) ∧ (∀ (h : zH) (a b : Nat) (v : (Nat → Int)), ln_ (sca h a v) b = ln_ h b) ∧ (∀ (h : zH) (a b j : Nat) (v : (Nat → Option Nat)), fi_ (scr h a v) b j = fi_ h b j) ∧ (∀ (h : zH) (a b j : Nat) (v : (Nat → Option Nat)), fj_ (scr h a v) b j = fj_ h b j) ∧ (∀ (h : zH) (a b j : Nat) (v : (Nat → Option Nat)), fr_ (scr h a v) b j = fr_ h b j) ∧ (∀ (h : zH) (a b j : Nat) (v : (Nat → Option Nat)), ai_ (scr h a v) b j = ai_ h b j) ∧ (∀ (h : zH) (a b j : Nat) (v : (Nat → Option Nat)), aj_ (scr h a v) b j = aj_ h b j) ∧ (∀ (h : zH) (a b j : Nat) (v : (Nat → Option Nat)), ar_ (scr h a v) b j = if b = a then v j else ar_ h b j) ∧ (∀ (h : zH) (a b : Nat) (v : (Nat → Option Nat)), kd_ (scr h a v) b = kd_ h b) ∧ (∀ (h : zH) (a b : Nat) (v : (Nat → Option Nat)), ln_ (scr h a v) b = ln_ h b) ∧ (∀ (h : zH) (a c b j : Nat), fi_ (nob h a c) b j = if b = a then 0 else fi_ h b j) ∧ (∀ (h : zH) (a c n b j : Nat), fi_ (nar h a c n) b j = fi_ h b j) ∧ (∀ (h : zH) (a c b j : Nat), fj_ (nob h a c) b j = if b = a then 0 else fj_ h b j) ∧ (∀ (h : zH) (a c n b j : Nat), fj_ (nar h a c n) b j = fj_ h b j) ∧ (∀ (h : zH) (a c b j : Nat), fr_ (nob h a c) b j = if b = a then none else fr_ h b j) ∧ (∀ (h : zH) (a c n b j : Nat), fr_ (nar h a c n) b j = fr_ h b j) ∧ (∀ (h : zH) (a c b j : Nat), ai_ (nob h a c) b j = ai_ h b j) ∧ (∀ (h : zH) (a c n b j : Nat), ai_ (nar h a c n) b j = if b = a then 0 else ai_ h b j) ∧ (∀ (h : zH) (a c b j : Nat), aj_ (nob h a c) b j = aj_ h b j) ∧ (∀ (h : zH) (a c n b j : Nat), aj_ (nar h a c n) b j = if b = a then 0 else aj_ h b j) ∧ (∀ (h : zH) (a c b j : Nat), ar_ (nob h a c) b j = ar_ h b j) ∧ (∀ (h : zH) (a c n b j : Nat), ar_ (nar h a c n) b j = if b = a then none else ar_ h b j) ∧ (∀ (h : zH) (a c b : Nat), kd_ (nob h a c) b = if b = a then c + 1 else kd_ h b) ∧ (∀ (h : zH) (a c b : Nat), ln_ (nob h a c) b = ln_ h b) ∧ (∀ (h : zH) (a c n b : Nat), kd_ (nar h a c n) b = if b = a then c else kd_ h b) ∧ (∀ (h : zH) (a c n b : Nat), ln_ (nar h a c n) b = if b = a then n else ln_ h b) :=
  ⟨by intros; rfl, by intros; rfl, by intros; rfl, by intros; rfl, by intros; rfl, by intros; rfl, by intros; rfl, by intros; rfl, by intros; rfl, by intros; rfl, by intros; rfl, by intros; rfl, by intros; rfl, by intros; rfl, by intros; rfl, by intros; rfl, by intros; rfl, by intros; rfl, by intros; rfl, by intros; rfl, by intros; rfl, by intros; rfl, by intros; rfl, by intros; rfl, by intros; rfl, by intros; rfl, by intros; rfl, by intros; rfl, by intros; rfl, by intros; rfl, by intros; rfl, by intros; rfl, by intros; rfl, by intros; rfl, by intros; rfl, by intros; rfl, by intros; rfl, by intros; rfl, by intros; rfl, by intros; rfl, by intros; rfl, by intros; rfl, by intros; rfl, by intros; rfl, by intros; rfl, by intros; rfl, by intros; rfl, by intros; rfl, by intros; rfl, by intros; rfl, by intros; rfl, by intros; rfl, by intros; rfl, by intros; rfl, by intros; rfl, by intros; rfl, by intros; rfl, by intros; rfl, by intros; rfl, by intros; rfl, by intros; rfl, by intros; rfl, by intros; rfl, by intros; rfl, by intros; rfl, by intros; rfl, by intros; rfl, by intros; rfl, by intros; rfl, by intros; rfl, by intros; rfl, by intros; rfl, by intros; rfl, by intros; rfl, by intros; rfl, by intros; rfl, by intros; rfl, by intros; rfl, by intros; rfl, by intros; rfl⟩
section Step
variable {R : Nat → Prop} {o o1 o2 : Nat → Nat} {h h1 h2 : zH} {r a k : Nat}
/-- from h to h1, with the owners o and o1: only what R owns has changed -/
def zStep (R : Nat → Prop) (o : Nat → Nat) (h : zH) (o1 : Nat → Nat) (h1 : zH) : Prop := z_agree (fun b => R (o b)) h h1 ∧ ∀ b, kd_ h b ≠ 0 → o1 b = o b ∧ kd_ h1 b = kd_ h b
theorem zStep.refl : zStep R o h o h := ⟨.refl, fun b _ => ⟨rfl, rfl⟩⟩
theorem zStep.trans (x : zStep R o h o1 h1) (y : zStep R o1 h1 o2 h2) : zStep R o h o2 h2 := by
  refine ⟨fun b hb h0 => ?_, fun b h0 => ?_⟩
  · obtain ⟨e1, e2⟩ := x.2 b h0
    obtain ⟨a1, a2, a3, a4, a5, a6, a7, a8⟩ := x.1 b hb h0
    obtain ⟨b1, b2, b3, b4, b5, b6, b7, b8⟩ := y.1 b (by show ¬ R (o1 b); rw [e1]; exact hb) (by rw [e2]; exact h0)
    exact ⟨b1.trans a1, b2.trans a2, fun j => (b3 j).trans (a3 j), fun j => (b4 j).trans (a4 j), fun j => (b5 j).trans (a5 j), fun j => (b6 j).trans (a6 j), fun j => (b7 j).trans (a7 j), fun j => (b8 j).trans (a8 j)⟩
  · obtain ⟨e1, e2⟩ := x.2 b h0
    obtain ⟨f1, f2⟩ := y.2 b (by rw [e2]; exact h0)
    exact ⟨f1.trans e1, f2.trans e2⟩
theorem zStep.mono {R2 : Nat → Prop} (x : zStep R o h o1 h1) (hr : ∀ r, R r → R2 r) : zStep R2 o h o1 h1 := ⟨x.1.mono fun b hb => hr _ hb, x.2⟩
theorem step_sfi {v : Int} (ha : R (o a)) : zStep R o h o (sfi h a k v) := ⟨agree_sfi (P := fun b => R (o b)) ha, fun b _ => ⟨rfl, rfl⟩⟩
theorem step_sfj {v : Int} (ha : R (o a)) : zStep R o h o (sfj h a k v) := ⟨agree_sfj (P := fun b => R (o b)) ha, fun b _ => ⟨rfl, rfl⟩⟩
theorem step_sfr {v : Option Nat} (ha : R (o a)) : zStep R o h o (sfr h a k v) := ⟨agree_sfr (P := fun b => R (o b)) ha, fun b _ => ⟨rfl, rfl⟩⟩
theorem step_sai {v : Int} (ha : R (o a)) : zStep R o h o (sai h a k v) := ⟨agree_sai (P := fun b => R (o b)) ha, fun b _ => ⟨rfl, rfl⟩⟩
theorem step_saj {v : Int} (ha : R (o a)) : zStep R o h o (saj h a k v) := ⟨agree_saj (P := fun b => R (o b)) ha, fun b _ => ⟨rfl, rfl⟩⟩
theorem step_sar {v : Option Nat} (ha : R (o a)) : zStep R o h o (sar h a k v) := ⟨agree_sar (P := fun b => R (o b)) ha, fun b _ => ⟨rfl, rfl⟩⟩
theorem step_sca {v : Nat → Int} (ha : R (o a)) : zStep R o h o (sca h a v) := ⟨agree_sca (P := fun b => R (o b)) ha, fun b _ => ⟨rfl, rfl⟩⟩
theorem step_scr {v : Nat → Option Nat} (ha : R (o a)) : zStep R o h o (scr h a v) := ⟨agree_scr (P := fun b => R (o b)) ha, fun b _ => ⟨rfl, rfl⟩⟩
theorem step_nob (ha : kd_ h a = 0) : zStep R o h (zu1 o a r) (nob h a k) := ⟨agree_nob ha, fun b hb => ⟨zu1_ne (fun q => hb (by rw [q]; exact ha)), zu1_ne (fun q => hb (by rw [q]; exact ha))⟩⟩
theorem step_nar {n : Nat} (ha : kd_ h a = 0) : zStep R o h (zu1 o a r) (nar h a k n) := ⟨agree_nar ha, fun b hb => ⟨zu1_ne (fun q => hb (by rw [q]; exact ha)), zu1_ne (fun q => hb (by rw [q]; exact ha))⟩⟩
/-- what r owns is as it was -/
def zFr (r : Nat) (o : Nat → Nat) (h : zH) (o1 : Nat → Nat) (h1 : zH) : Prop := ∀ b, o b = r → kd_ h b ≠ 0 → o1 b = r ∧ kd_ h1 b = kd_ h b ∧ ln_ h1 b = ln_ h b ∧ (∀ j, fi_ h1 b j = fi_ h b j) ∧ (∀ j, fj_ h1 b j = fj_ h b j) ∧ (∀ j, fr_ h1 b j = fr_ h b j) ∧ (∀ j, ai_ h1 b j = ai_ h b j) ∧ (∀ j, aj_ h1 b j = aj_ h b j) ∧ (∀ j, ar_ h1 b j = ar_ h b j)
theorem zStep.fr (x : zStep R o h o1 h1) (hr : ¬ R r) : zFr r o h o1 h1 := fun b hb h0 => ⟨((x.2 b h0).1).trans hb, x.1 b (by show ¬ R (o b); rw [hb]; exact hr) h0⟩
theorem zStep.ne (x : zStep R o h o1 h1) (hk : kd_ h a ≠ 0) : kd_ h1 a ≠ 0 := by rw [(x.2 a hk).2]; exact hk
theorem zStep.own (x : zStep R o h o1 h1) (hk : kd_ h a ≠ 0) (ho : o a = r) : o1 a = r := ((x.2 a hk).1).trans ho
theorem zStep.kd (x : zStep R o h o1 h1) (hk : kd_ h a = k) (h0 : k ≠ 0) : kd_ h1 a = k := by
  have := (x.2 a (by rw [hk]; exact h0)).2
  rw [this]; exact hk
end Step
/-- the list a of what r owns, with its row e -/
def LArr (g : zGT) (o : Nat → Nat) (r : Nat) (h : zH) (a e : Nat) (L : List Nat) : Prop := kd_ h a = 3 ∧ fr_ h a 1 = some e ∧ fi_ h a 2 = (L.length : Int) ∧ (kd_ h e = 25 ∨ kd_ h e = 27) ∧ L.length ≤ ln_ h e ∧ ln_ h e ≤ 60 ∧ (∀ i, i < L.length → ar_ h e i = L[i]?) ∧ (kd_ h e = 27 → ln_ h e = 0 ∧ e = ge_ g) ∧ (kd_ h e = 25 → o e = r ∧ 0 < ln_ h e) ∧ o a = r ∧ L.length ≤ 40
def LRep (g : zGT) (o : Nat → Nat) (r : Nat) (h : zH) (a : Nat) (L : List Nat) : Prop := kd_ h a = 3 ∧ o a = r ∧ fi_ h a 2 = (L.length : Int) ∧ L.length ≤ 40 ∧ ((L = [] ∧ fr_ h a 1 = some (ge_ g)) ∨ ∃ e, fr_ h a 1 = some e ∧ kd_ h e = 25 ∧ o e = r ∧ 0 < ln_ h e ∧ L.length ≤ ln_ h e ∧ ln_ h e ≤ 60 ∧ ∀ i, i < L.length → ar_ h e i = L[i]?)
theorem LRep.arr {g : zGT} {o : Nat → Nat} {r : Nat} {h : zH} {a : Nat} {L : List Nat} (x : LRep g o r h a L) (h1 : kd_ h (ge_ g) = 27) (h2 : ln_ h (ge_ g) = 0) : ∃ e, LArr g o r h a e L := by
  obtain ⟨x1, x2, x3, x4, x5⟩ := x
  rcases x5 with ⟨rfl, y2⟩ | ⟨e, y1, y2, y3, y4, y5, y6, y7⟩
  · exact ⟨_, x1, y2, x3, Or.inr h1, by simp, by omega, fun i hi => absurd hi (by simp), fun _ => ⟨h2, rfl⟩, fun q => by omega, x2, x4⟩
  · exact ⟨e, x1, y1, x3, Or.inl y2, y5, y6, y7, fun q => by omega, fun _ => ⟨y3, y4⟩, x2, x4⟩
theorem LArr.rep {g : zGT} {o : Nat → Nat} {r : Nat} {h : zH} {a e : Nat} {L : List Nat} (x : LArr g o r h a e L) (hk : kd_ h e = 25) : LRep g o r h a L := by
  obtain ⟨x1, x2, x3, x4, x5, x6, x7, x8, x9, x10, x11⟩ := x
  exact ⟨x1, x10, x3, x11, Or.inr ⟨e, x2, hk, (x9 hk).1, (x9 hk).2, x5, x6, x7⟩⟩
theorem LRep.fr {g : zGT} {o o1 : Nat → Nat} {r : Nat} {h h1 : zH} {a : Nat} {L : List Nat} (x : LRep g o r h a L) (f : zFr r o h o1 h1) : LRep g o1 r h1 a L := by
  obtain ⟨x1, x2, x3, x4, x5⟩ := x
  obtain ⟨f1, f2, f3, f4, f5, f6, -, -, f9⟩ := f a x2 (by omega)
  refine ⟨f2.trans x1, f1, (f4 2).trans x3, x4, ?_⟩
  rcases x5 with ⟨y1, y2⟩ | ⟨e, y1, y2, y3, y4, y5, y6, y7⟩
  · exact Or.inl ⟨y1, (f6 1).trans y2⟩
  · obtain ⟨g1, g2, g3, -, -, -, -, -, g9⟩ := f e y3 (by omega)
    exact Or.inr ⟨e, (f6 1).trans y1, g2.trans y2, g1, by omega, by omega, by omega, fun i hi => (g9 i).trans (y7 i hi)⟩
theorem LRep.own {g : zGT} {o : Nat → Nat} {r : Nat} {h : zH} {a : Nat} {L : List Nat} (x : LRep g o r h a L) : o a = r ∧ kd_ h a = 3 := ⟨x.2.1, x.1⟩
theorem r_ge {g : zGT} {M : zM} {mc ms : Nat} {Q : zO → zH → Prop} {pc : Nat} {lv : List (Option Value)} {st : List Value} {h : zH} {bc bs : Nat} (k : kd_ h (ge_ g) = 27 → ln_ h (ge_ g) = 0 → zX g M mc ms Q pc lv st h bc bs) : zX g M mc ms Q pc lv st h bc bs := by
  intro p e s m args below meth c F H locs cells slots ls hP hs hL hc hsl hl
  exact k hP.2.2.2.2.2.1 hP.2.2.2.2.2.2 p e s m args below meth c F H locs cells slots ls hP hs hL hc hsl hl
theorem zd_X0 : ∀ j, j < 2 → defaultValue (tyX0 j) = z_val (tyX0 j) 0 0 none := fun j hj => match j, hj with
  | 0, _ => rfl
  | 1, _ => rfl
  | n + 2, hj => absurd hj (by omega)
theorem zd_X1 : ∀ j, j < 3 → defaultValue (tyX1 j) = z_val (tyX1 j) 0 0 none := fun j hj => match j, hj with
  | 0, _ => rfl
  | 1, _ => rfl
  | 2, _ => rfl
  | n + 3, hj => absurd hj (by omega)
theorem zd_X2 : ∀ j, j < 4 → defaultValue (tyX2 j) = z_val (tyX2 j) 0 0 none := fun j hj => match j, hj with
  | 0, _ => rfl
  | 1, _ => rfl
  | 2, _ => rfl
  | 3, _ => rfl
  | n + 4, hj => absurd hj (by omega)
theorem zd_X3 : ∀ j, j < 5 → defaultValue (tyX3 j) = z_val (tyX3 j) 0 0 none := fun j hj => match j, hj with
  | 0, _ => rfl
  | 1, _ => rfl
  | 2, _ => rfl
  | 3, _ => rfl
  | 4, _ => rfl
  | n + 5, hj => absurd hj (by omega)
theorem zd_X4 : ∀ j, j < 3 → defaultValue (tyX4 j) = z_val (tyX4 j) 0 0 none := fun j hj => match j, hj with
  | 0, _ => rfl
  | 1, _ => rfl
  | 2, _ => rfl
  | n + 3, hj => absurd hj (by omega)
theorem zd_X5 : ∀ j, j < 2 → defaultValue (tyX5 j) = z_val (tyX5 j) 0 0 none := fun j hj => match j, hj with
  | 0, _ => rfl
  | 1, _ => rfl
  | n + 2, hj => absurd hj (by omega)
theorem zd_X6 : ∀ j, j < 3 → defaultValue (tyX6 j) = z_val (tyX6 j) 0 0 none := fun j hj => match j, hj with
  | 0, _ => rfl
  | 1, _ => rfl
  | 2, _ => rfl
  | n + 3, hj => absurd hj (by omega)
theorem zd_X7 : ∀ j, j < 4 → defaultValue (tyX7 j) = z_val (tyX7 j) 0 0 none := fun j hj => match j, hj with
  | 0, _ => rfl
  | 1, _ => rfl
  | 2, _ => rfl
  | 3, _ => rfl
  | n + 4, hj => absurd hj (by omega)
theorem zd_X8 : ∀ j, j < 5 → defaultValue (tyX8 j) = z_val (tyX8 j) 0 0 none := fun j hj => match j, hj with
  | 0, _ => rfl
  | 1, _ => rfl
  | 2, _ => rfl
  | 3, _ => rfl
  | 4, _ => rfl
  | n + 5, hj => absurd hj (by omega)
theorem zd_X9 : ∀ j, j < 5 → defaultValue (tyX9 j) = z_val (tyX9 j) 0 0 none := fun j hj => match j, hj with
  | 0, _ => rfl
  | 1, _ => rfl
  | 2, _ => rfl
  | 3, _ => rfl
  | 4, _ => rfl
  | n + 5, hj => absurd hj (by omega)
theorem zd_X10 : ∀ j, j < 7 → defaultValue (tyX10 j) = z_val (tyX10 j) 0 0 none := fun j hj => match j, hj with
  | 0, _ => rfl
  | 1, _ => rfl
  | 2, _ => rfl
  | 3, _ => rfl
  | 4, _ => rfl
  | 5, _ => rfl
  | 6, _ => rfl
  | n + 7, hj => absurd hj (by omega)
theorem zd_X11 : ∀ j, j < 10 → defaultValue (tyX11 j) = z_val (tyX11 j) 0 0 none := fun j hj => match j, hj with
  | 0, _ => rfl
  | 1, _ => rfl
  | 2, _ => rfl
  | 3, _ => rfl
  | 4, _ => rfl
  | 5, _ => rfl
  | 6, _ => rfl
  | 7, _ => rfl
  | 8, _ => rfl
  | 9, _ => rfl
  | n + 10, hj => absurd hj (by omega)
theorem zd_Jx4a65c : ∀ j, j < 3 → defaultValue (tyJx4a65c j) = z_val (tyJx4a65c j) 0 0 none := fun j hj => match j, hj with
  | 0, _ => rfl
  | 1, _ => rfl
  | 2, _ => rfl
  | n + 3, hj => absurd hj (by omega)
theorem r_mmax {g : zGT} {M : zM} {mc ms : Nat} {Q : zO → zH → Prop} {pc : Nat} {lv : List (Option Value)} {st : List Value} {h : zH} {bc bs : Nat} {x y : Int} (hx : zR x) (hy : zR y) {idx : Nat} (hg : zG g) (hlv : 1 ≤ M.2.2.2.2.2.2) (hcat : (st.map fun v => v.category).sum + 13 ≤ 200) (hlink : Cond.methodLink M.1 idx Lib.Math.max.name ∈ lw_tbl) (pc' : Nat) (hp : pc + 3 = pc') (d : decode M.2.1 pc = .ok (.invokestatic idx, 3)) (k : zX g M mc ms Q pc' lv (.int (zI (if x < y then y else x)) :: st) h bc bs) : zX g M mc ms Q pc lv (.int (zI y) :: .int (zI x) :: st) h bc bs := by
  subst hp
  intro p e s m args below meth c F H locs cells slots ls hP hs hL hc hsl hl
  have hst : Cond.static Lib.Math.max.name ∈ lw_tbl := (tb_2 167 _ rfl)
  have hin : Cond.initialized "java/lang/Math" ∈ lw_tbl := (tb_1 20 _ rfl)
  have hco : Cond.code Lib.Math.max.name Lib.Math.max.code 2 (some .int) ∈ lw_tbl := (tb_2 168 _ rfl)
  refine va_mmax F.1 F.2.1 (hl.1.trans F.2.2.1.symm).symm F.2.2.2.2.1 (zw hg F hlink rfl) (zw hg F hst rfl) (zw hg F hin rfl) (zw hg F hco rfl) (by show 1 ≤ M.2.2.2.2.2.2; omega) (by show _ ≤ 200 * M.2.2.2.2.2.2; omega) (by show cells ≤ mc; omega) (by show slots ≤ ms; omega) d ?_
  have e9 : (if zI x < zI y then zI y else zI x : Int32) = zI (if x < y then y else x) := by
    by_cases q : x < y
    · rw [if_pos q, if_pos ((zI_lt hx hy).mpr q)]
    · rw [if_neg q, if_neg (fun e => q ((zI_lt hx hy).mp e))]
  rw [e9]
  exact k p e s m args below meth c F H locs cells slots ls hP hs hL hc hsl hl

theorem r_mmin {g : zGT} {M : zM} {mc ms : Nat} {Q : zO → zH → Prop} {pc : Nat} {lv : List (Option Value)} {st : List Value} {h : zH} {bc bs : Nat} {x y : Int} (hx : zR x) (hy : zR y) {idx : Nat} (hg : zG g) (hlv : 1 ≤ M.2.2.2.2.2.2) (hcat : (st.map fun v => v.category).sum + 13 ≤ 200) (hlink : Cond.methodLink M.1 idx Lib.Math.min.name ∈ lw_tbl) (pc' : Nat) (hp : pc + 3 = pc') (d : decode M.2.1 pc = .ok (.invokestatic idx, 3)) (k : zX g M mc ms Q pc' lv (.int (zI (if y < x then y else x)) :: st) h bc bs) : zX g M mc ms Q pc lv (.int (zI y) :: .int (zI x) :: st) h bc bs := by
  subst hp
  intro p e s m args below meth c F H locs cells slots ls hP hs hL hc hsl hl
  have hst : Cond.static Lib.Math.min.name ∈ lw_tbl := (tb_2 205 _ rfl)
  have hin : Cond.initialized "java/lang/Math" ∈ lw_tbl := (tb_1 20 _ rfl)
  have hco : Cond.code Lib.Math.min.name Lib.Math.min.code 2 (some .int) ∈ lw_tbl := (tb_2 206 _ rfl)
  refine va_mmin F.1 F.2.1 (hl.1.trans F.2.2.1.symm).symm F.2.2.2.2.1 (zw hg F hlink rfl) (zw hg F hst rfl) (zw hg F hin rfl) (zw hg F hco rfl) (by show 1 ≤ M.2.2.2.2.2.2; omega) (by show _ ≤ 200 * M.2.2.2.2.2.2; omega) (by show cells ≤ mc; omega) (by show slots ≤ ms; omega) d ?_
  have e9 : (if zI y < zI x then zI y else zI x : Int32) = zI (if y < x then y else x) := by
    by_cases q : y < x
    · rw [if_pos q, if_pos ((zI_lt hy hx).mpr q)]
    · rw [if_neg q, if_neg (fun e => q ((zI_lt hy hx).mp e))]
  rw [e9]
  exact k p e s m args below meth c F H locs cells slots ls hP hs hL hc hsl hl

theorem r_mabs {g : zGT} {M : zM} {mc ms : Nat} {Q : zO → zH → Prop} {pc : Nat} {lv : List (Option Value)} {st : List Value} {h : zH} {bc bs : Nat} {x : Int} (hx : zR x) {idx : Nat} (hg : zG g) (hlv : 1 ≤ M.2.2.2.2.2.2) (hcat : (st.map fun v => v.category).sum + 13 ≤ 200) (hlink : Cond.methodLink M.1 idx Lib.Math.abs.name ∈ lw_tbl) (pc' : Nat) (hp : pc + 3 = pc') (d : decode M.2.1 pc = .ok (.invokestatic idx, 3)) (k : zX g M mc ms Q pc' lv (.int (zI (if 0 ≤ x then x else 0 - x)) :: st) h bc bs) : zX g M mc ms Q pc lv (.int (zI x) :: st) h bc bs := by
  subst hp
  intro p e s m args below meth c F H locs cells slots ls hP hs hL hc hsl hl
  have hst : Cond.static Lib.Math.abs.name ∈ lw_tbl := (tb_5 102 _ rfl)
  have hin : Cond.initialized "java/lang/Math" ∈ lw_tbl := (tb_1 20 _ rfl)
  have hco : Cond.code Lib.Math.abs.name Lib.Math.abs.code 1 (some .int) ∈ lw_tbl := (tb_5 103 _ rfl)
  refine va_mabs F.1 F.2.1 (hl.1.trans F.2.2.1.symm).symm F.2.2.2.2.1 (zw hg F hlink rfl) (zw hg F hst rfl) (zw hg F hin rfl) (zw hg F hco rfl) (by show 1 ≤ M.2.2.2.2.2.2; omega) (by show _ ≤ 200 * M.2.2.2.2.2.2; omega) (by show cells ≤ mc; omega) (by show slots ≤ ms; omega) d ?_
  have e9 : (if 0 ≤ zI x then zI x else 0 - zI x : Int32) = zI (if 0 ≤ x then x else 0 - x) := by
    rw [zI_0, zI_sub]
    by_cases q : 0 ≤ x
    · rw [if_pos q, if_pos ((zI_le (by omega) hx).mpr q)]
    · rw [if_neg q, if_neg (fun e => q ((zI_le (by omega) hx).mp e))]
  rw [e9]
  exact k p e s m args below meth c F H locs cells slots ls hP hs hL hc hsl hl

abbrev mJ3_checkIndex_8e157 : zM := (RJ3, cJ3_checkIndex_8e157, 3, (Option.some Jvm.ClassFile.FieldType.int), [], "checkIndex", 10)
set_option maxRecDepth 20000 in
theorem c_J3_checkIndex_8e157 {g : zGT} {Q : zO → zH → Prop} {h : zH} (hg : zG g) {i n : Int} (hi : 0 ≤ i ∧ i < n) (hn : n ≤ 2147483647) (k : Q (.inl (some (.int (zI i)))) h) : zC g (.code yJ3_checkIndex_8e157 cJ3_checkIndex_8e157 3 (Option.some Jvm.ClassFile.FieldType.int)) yJ3_checkIndex_8e157 10 0 0 [.int (zI i), .int (zI n), .null] h Q := by
  refine zC_of (M := mJ3_checkIndex_8e157) (lv := [some (.int (zI i)), some (.int (zI n)), some (.null)]) (by decide) rfl rfl (Nat.le_of_ble_eq_true rfl) rfl rfl ?_
  refine r_iload_0 1 rfl (dd_J3_checkIndex_8e157 0 _ _ _ rfl) ?_
  refine r_iflt (by omega) 4 rfl 9 rfl (dd_J3_checkIndex_8e157 1 _ _ _ rfl) (fun hc1 => ?_) (fun hc1 => ?_)
  · exfalso; omega
  · refine r_iload_0 5 rfl (dd_J3_checkIndex_8e157 2 _ _ _ rfl) ?_
    refine r_iload_1 6 rfl (dd_J3_checkIndex_8e157 3 _ _ _ rfl) ?_
    refine r_if_icmplt (by omega) (by omega) 9 rfl 16 rfl (dd_J3_checkIndex_8e157 4 _ _ _ rfl) (fun hc2 => ?_) (fun hc2 => ?_)
    · refine r_iload_0 17 rfl (dd_J3_checkIndex_8e157 10 _ _ _ rfl) ?_
      refine r_ireturn rfl rfl (dd_J3_checkIndex_8e157 11 _ _ _ rfl) ?_
      exact k
    · exfalso; omega

abbrev mJ15_checkIndex_7cf53 : zM := (RJ15, cJ15_checkIndex_7cf53, 2, (Option.some Jvm.ClassFile.FieldType.int), [], "checkIndex", 11)
set_option maxRecDepth 20000 in
theorem c_J15_checkIndex_7cf53 {g : zGT} {Q : zO → zH → Prop} {h : zH} (hg : zG g) {i n : Int} (hi : 0 ≤ i ∧ i < n) (hn : n ≤ 2147483647) (k : Q (.inl (some (.int (zI i)))) h) : zC g (.code yJ15_checkIndex_7cf53 cJ15_checkIndex_7cf53 2 (Option.some Jvm.ClassFile.FieldType.int)) yJ15_checkIndex_7cf53 11 0 0 [.int (zI i), .int (zI n)] h Q := by
  refine zC_of (M := mJ15_checkIndex_7cf53) (lv := [some (.int (zI i)), some (.int (zI n))]) (by decide) rfl rfl (Nat.le_of_ble_eq_true rfl) rfl rfl ?_
  refine r_iload_0 1 rfl (dd_J15_checkIndex_7cf53 0 _ _ _ rfl) ?_
  refine r_iload_1 2 rfl (dd_J15_checkIndex_7cf53 1 _ _ _ rfl) ?_
  refine r_null 3 rfl (dd_J15_checkIndex_7cf53 2 _ _ _ rfl) ?_
  refine r_callS3 (lvl := 10) (mc1 := 0) (ms1 := 0) 0 0 hg rfl md_J3_checkIndex_8e157 ws_J3_checkIndex_8e157 (tb_2 19 _ rfl) (by decide) (by decide) rfl (Nat.le_of_ble_eq_true rfl) (Nat.le_of_ble_eq_true rfl) (Nat.le_of_ble_eq_true rfl) 6 rfl (dd_J15_checkIndex_7cf53 3 _ _ _ rfl) ?_
  refine c_J3_checkIndex_8e157 hg (by omega) (by omega) ?_
  dsimp only [zCont, Option.toList, List.cons_append, List.nil_append]
  refine r_ireturn rfl rfl (dd_J15_checkIndex_7cf53 4 _ _ _ rfl) ?_
  exact k

abbrev mJx4a65c_size_8abf5 : zM := (RJx4a65c, cJx4a65c_size_8abf5, 1, (Option.some Jvm.ClassFile.FieldType.int), [], "size", 10)
set_option maxRecDepth 20000 in
theorem c_Jx4a65c_size_8abf5 {g : zGT} {Q : zO → zH → Prop} {h : zH} (hg : zG g) {o : Nat → Nat} {r a : Nat} {L : List Nat} (hA : LRep g o r h a L) (k : Q (.inl (some (.int (zI (L.length : Int))))) h) : zC g (.code yJx4a65c_size_8abf5 cJx4a65c_size_8abf5 1 (Option.some Jvm.ClassFile.FieldType.int)) yJx4a65c_size_8abf5 10 0 0 [.ref a] h Q := by
  refine zC_of (M := mJx4a65c_size_8abf5) (lv := [some (.ref a)]) (by decide) rfl rfl (Nat.le_of_ble_eq_true rfl) rfl rfl ?_
  refine r_aload_0 1 rfl (dd_Jx4a65c_size_8abf5 0 _ _ _ rfl) ?_
  refine r_geti hg zc_Jx4a65c 2 (by decide) (fun _ _ _ => rfl) hA.2.2.1 hA.1 (Or.inl rfl) (tb_1 92 _ rfl) 4 rfl (dd_Jx4a65c_size_8abf5 1 _ _ _ rfl) ?_
  refine r_ireturn rfl rfl (dd_Jx4a65c_size_8abf5 2 _ _ _ rfl) ?_
  exact k

abbrev mJx4a65c_elementData_915e3 : zM := (RJx4a65c, cJx4a65c_elementData_915e3, 2, (Option.some (Jvm.ClassFile.FieldType.object "java/lang/Object")), [], "elementData", 10)
set_option maxRecDepth 20000 in
theorem c_Jx4a65c_elementData_915e3 {g : zGT} {Q : zO → zH → Prop} {h : zH} (hg : zG g) {o : Nat → Nat} {r a : Nat} {L : List Nat} (hA : LRep g o r h a L) {i y : Nat} (hy : L[i]? = some y) (k : Q (.inl (some (.ref y))) h) : zC g (.code yJx4a65c_elementData_915e3 cJx4a65c_elementData_915e3 2 (Option.some (Jvm.ClassFile.FieldType.object "java/lang/Object"))) yJx4a65c_elementData_915e3 10 0 0 [.ref a, .int (zI (i : Int))] h Q := by
  refine zC_of (M := mJx4a65c_elementData_915e3) (lv := [some (.ref a), some (.int (zI (i : Int)))]) (by decide) rfl rfl (Nat.le_of_ble_eq_true rfl) rfl rfl ?_
  have hi : i < L.length := (List.getElem?_eq_some_iff.mp hy).1
  refine r_ge (fun hge1 hge2 => ?_)
  obtain ⟨e, hA⟩ := hA.arr hge1 hge2
  have h9 := hA.2.2.2.2.2.1
  have h8 := hA.2.2.2.2.1
  have hk25 : kd_ h e = 25 := by rcases hA.2.2.2.1 with q | q; exact q; have := hA.2.2.2.2.2.2.2.1 q; omega
  refine r_aload_0 1 rfl (dd_Jx4a65c_elementData_915e3 0 _ _ _ rfl) ?_
  refine r_getr hg zc_Jx4a65c 1 (by decide) (fun _ _ _ => rfl) hA.2.1 hA.1 (Or.inl rfl) (tb_1 91 _ rfl) 4 rfl (dd_Jx4a65c_elementData_915e3 1 _ _ _ rfl) ?_
  refine r_iload_1 5 rfl (dd_Jx4a65c_elementData_915e3 2 _ _ _ rfl) ?_
  refine r_aaload (v := .ref y) hg hk25 (by omega) (by omega) (by have := hA.2.2.2.2.1; omega) (by rw [show ((i : Int)).toNat = i by omega, hA.2.2.2.2.2.2.1 i hi, hy]; rfl) 6 rfl (dd_Jx4a65c_elementData_915e3 3 _ _ _ rfl) ?_
  refine r_areturn rfl (by first | exact Or.inl ⟨_, rfl⟩ | exact Or.inr ⟨_, rfl⟩) (dd_Jx4a65c_elementData_915e3 4 _ _ _ rfl) ?_
  exact k

abbrev mJx4a65c_get_915e3 : zM := (RJx4a65c, cJx4a65c_get_915e3, 2, (Option.some (Jvm.ClassFile.FieldType.object "java/lang/Object")), [], "get", 12)
set_option maxRecDepth 20000 in
theorem c_Jx4a65c_get_915e3 {g : zGT} {Q : zO → zH → Prop} {h : zH} (hg : zG g) {o : Nat → Nat} {r a : Nat} {L : List Nat} (hA : LRep g o r h a L) {i y : Nat} (hy : L[i]? = some y) (k : Q (.inl (some (.ref y))) h) : zC g (.code yJx4a65c_get_915e3 cJx4a65c_get_915e3 2 (Option.some (Jvm.ClassFile.FieldType.object "java/lang/Object"))) yJx4a65c_get_915e3 12 0 0 [.ref a, .int (zI (i : Int))] h Q := by
  refine zC_of (M := mJx4a65c_get_915e3) (lv := [some (.ref a), some (.int (zI (i : Int)))]) (by decide) rfl rfl (Nat.le_of_ble_eq_true rfl) rfl rfl ?_
  have hi : i < L.length := (List.getElem?_eq_some_iff.mp hy).1
  have h9 := hA.2.2.2.1
  refine r_iload_1 1 rfl (dd_Jx4a65c_get_915e3 0 _ _ _ rfl) ?_
  refine r_aload_0 2 rfl (dd_Jx4a65c_get_915e3 1 _ _ _ rfl) ?_
  refine r_geti hg zc_Jx4a65c 2 (by decide) (fun _ _ _ => rfl) hA.2.2.1 hA.1 (Or.inl rfl) (tb_1 92 _ rfl) 5 rfl (dd_Jx4a65c_get_915e3 2 _ _ _ rfl) ?_
  refine r_callS2 (lvl := 11) (mc1 := 0) (ms1 := 0) 0 0 hg rfl md_J15_checkIndex_7cf53 ws_J15_checkIndex_7cf53 (tb_2 16 _ rfl) (by decide) (by decide) rfl (Nat.le_of_ble_eq_true rfl) (Nat.le_of_ble_eq_true rfl) (Nat.le_of_ble_eq_true rfl) 8 rfl (dd_Jx4a65c_get_915e3 3 _ _ _ rfl) ?_
  refine c_J15_checkIndex_7cf53 hg (by omega) (by omega) ?_
  dsimp only [zCont, Option.toList, List.cons_append, List.nil_append]
  refine r_pop rfl 9 rfl (dd_Jx4a65c_get_915e3 4 _ _ _ rfl) ?_
  refine r_aload_0 10 rfl (dd_Jx4a65c_get_915e3 5 _ _ _ rfl) ?_
  refine r_iload_1 11 rfl (dd_Jx4a65c_get_915e3 6 _ _ _ rfl) ?_
  refine r_callV1 (lvl := 10) (mc1 := 0) (ms1 := 0) 0 0 hg rfl md_Jx4a65c_elementData_915e3 zc_Jx4a65c hA.1 wi_Jx4a65c_elementData_915e3 wv_Jx4a65c_elementData_915e3 (tb_2 22 _ rfl) (by decide) (by decide) rfl (Nat.le_of_ble_eq_true rfl) (Nat.le_of_ble_eq_true rfl) (Nat.le_of_ble_eq_true rfl) 14 rfl (dd_Jx4a65c_get_915e3 7 _ _ _ rfl) ?_
  refine c_Jx4a65c_elementData_915e3 hg hA hy ?_
  dsimp only [zCont, Option.toList, List.cons_append, List.nil_append]
  refine r_areturn rfl (by first | exact Or.inl ⟨_, rfl⟩ | exact Or.inr ⟨_, rfl⟩) (dd_Jx4a65c_get_915e3 8 _ _ _ rfl) ?_
  exact k
