/-- the two pictures are alike off P -/
def z_agree (P : Nat → Prop) (h h1 : zH) : Prop := ∀ b, ¬ P b → kd_ h b ≠ 0 → kd_ h1 b = kd_ h b ∧ ln_ h1 b = ln_ h b ∧ (∀ j, fi_ h1 b j = fi_ h b j) ∧ (∀ j, fj_ h1 b j = fj_ h b j) ∧ (∀ j, fr_ h1 b j = fr_ h b j) ∧ (∀ j, ai_ h1 b j = ai_ h b j) ∧ (∀ j, aj_ h1 b j = aj_ h b j) ∧ (∀ j, ar_ h1 b j = ar_ h b j)
theorem z_agree.refl {P : Nat → Prop} {h : zH} : z_agree P h h := fun b _ _ => ⟨rfl, rfl, fun _ => rfl, fun _ => rfl, fun _ => rfl, fun _ => rfl, fun _ => rfl, fun _ => rfl⟩
theorem z_agree.trans {P : Nat → Prop} {h h1 h2 : zH} (x : z_agree P h h1) (y : z_agree P h1 h2) : z_agree P h h2 := by
  intro b hb h0
  obtain ⟨a1, a2, a3, a4, a5, a6, a7, a8⟩ := x b hb h0
  obtain ⟨b1, b2, b3, b4, b5, b6, b7, b8⟩ := y b hb (by rw [a1]; exact h0)
  exact ⟨b1.trans a1, b2.trans a2, fun j => (b3 j).trans (a3 j), fun j => (b4 j).trans (a4 j), fun j => (b5 j).trans (a5 j), fun j => (b6 j).trans (a6 j), fun j => (b7 j).trans (a7 j), fun j => (b8 j).trans (a8 j)⟩
theorem z_agree.mono {P P' : Nat → Prop} {h h1 : zH} (x : z_agree P h h1) (hp : ∀ b, P b → P' b) : z_agree P' h h1 := fun b hb h0 => x b (fun q => hb (hp b q)) h0
theorem zu2_at {α : Type} {f : Nat → Nat → α} {a k : Nat} {v : α} : zu2 f a k v a k = v := by simp [zu2]
theorem zu2_ne {α : Type} {f : Nat → Nat → α} {a k b j : Nat} {v : α} (hn : ¬ (b = a ∧ j = k)) : zu2 f a k v b j = f b j := by unfold zu2; rw [if_neg hn]
theorem zu1_at {α : Type} {f : Nat → α} {a : Nat} {v : α} : zu1 f a v a = v := by simp [zu1]
theorem zu1_ne {α : Type} {f : Nat → α} {a b : Nat} {v : α} (hn : ¬ b = a) : zu1 f a v b = f b := by unfold zu1; rw [if_neg hn]
theorem agree_sfi {P : Nat → Prop} {h : zH} {a k : Nat} {v : Int} (ha : P a) : z_agree P h (sfi h a k v) := fun b hb _ => ⟨rfl, rfl, fun j => zu2_ne (fun q => hb (by rw [q.1]; exact ha)), fun _ => rfl, fun _ => rfl, fun _ => rfl, fun _ => rfl, fun _ => rfl⟩
theorem agree_sfj {P : Nat → Prop} {h : zH} {a k : Nat} {v : Int} (ha : P a) : z_agree P h (sfj h a k v) := fun b hb _ => ⟨rfl, rfl, fun _ => rfl, fun j => zu2_ne (fun q => hb (by rw [q.1]; exact ha)), fun _ => rfl, fun _ => rfl, fun _ => rfl, fun _ => rfl⟩
theorem agree_sfr {P : Nat → Prop} {h : zH} {a k : Nat} {v : Option Nat} (ha : P a) : z_agree P h (sfr h a k v) := fun b hb _ => ⟨rfl, rfl, fun _ => rfl, fun _ => rfl, fun j => zu2_ne (fun q => hb (by rw [q.1]; exact ha)), fun _ => rfl, fun _ => rfl, fun _ => rfl⟩
theorem agree_sai {P : Nat → Prop} {h : zH} {a k : Nat} {v : Int} (ha : P a) : z_agree P h (sai h a k v) := fun b hb _ => ⟨rfl, rfl, fun _ => rfl, fun _ => rfl, fun _ => rfl, fun j => zu2_ne (fun q => hb (by rw [q.1]; exact ha)), fun _ => rfl, fun _ => rfl⟩
theorem agree_saj {P : Nat → Prop} {h : zH} {a k : Nat} {v : Int} (ha : P a) : z_agree P h (saj h a k v) := fun b hb _ => ⟨rfl, rfl, fun _ => rfl, fun _ => rfl, fun _ => rfl, fun _ => rfl, fun j => zu2_ne (fun q => hb (by rw [q.1]; exact ha)), fun _ => rfl⟩
theorem agree_sar {P : Nat → Prop} {h : zH} {a k : Nat} {v : Option Nat} (ha : P a) : z_agree P h (sar h a k v) := fun b hb _ => ⟨rfl, rfl, fun _ => rfl, fun _ => rfl, fun _ => rfl, fun _ => rfl, fun _ => rfl, fun j => zu2_ne (fun q => hb (by rw [q.1]; exact ha))⟩
theorem agree_nob {P : Nat → Prop} {h : zH} {a c : Nat} (ha : kd_ h a = 0) : z_agree P h (nob h a c) := fun b _ h0 => by
  have hn : ¬ b = a := fun q => h0 (by rw [q]; exact ha)
  exact ⟨zu1_ne hn, rfl, fun _ => if_neg hn, fun _ => if_neg hn, fun _ => if_neg hn, fun _ => rfl, fun _ => rfl, fun _ => rfl⟩
theorem agree_nar {P : Nat → Prop} {h : zH} {a k n : Nat} (ha : kd_ h a = 0) : z_agree P h (nar h a k n) := fun b _ h0 => by
  have hn : ¬ b = a := fun q => h0 (by rw [q]; exact ha)
  exact ⟨zu1_ne hn, zu1_ne hn, fun _ => rfl, fun _ => rfl, fun _ => rfl, fun _ => if_neg hn, fun _ => if_neg hn, fun _ => if_neg hn⟩
section Geti
variable {g : zGT} {M : zM} {mc ms : Nat} {Q : zO → zH → Prop} {pc : Nat} {lv : List (Option Value)} {st : List Value} {h : zH} {bc bs : Nat}
theorem r_geti {ci C T N ty a idx} {ref : String} {z : Int} (hg : zG g) (zc : z_cls ci C T N ty) (k : Nat) (hk : k < N) (hv : ∀ i j r, z_val (ty k) i j r = .int (zI i)) (hz : fi_ h a k = z) (hkd : kd_ h a = ci + 1) (href : ref = (T k).1 ∨ Cond.sameField ref (T k).1 (T k).2.1 (T k).2.2.1 ∈ lw_tbl) (hlink : Cond.fieldLink M.1 idx ref (T k).2.1 (T k).2.2.1 ∈ lw_tbl) (pc' : Nat) (hp : pc + 3 = pc') (d : decode M.2.1 pc = .ok (.getfield idx, 3)) (kk : zX g M mc ms Q pc' lv (.int (zI z) :: st) h bc bs) : zX g M mc ms Q pc lv (.ref a :: st) h bc bs := by
  refine r_getf hg zc k hk ?_ hkd href hlink pc' hp d kk
  unfold z_fld
  rw [zc.2.2.2.2.1, hv, hz]
theorem r_getj {ci C T N ty a idx} {ref : String} {z : Int} (hg : zG g) (zc : z_cls ci C T N ty) (k : Nat) (hk : k < N) (hv : ∀ i j r, z_val (ty k) i j r = .long (zL j)) (hz : fj_ h a k = z) (hkd : kd_ h a = ci + 1) (href : ref = (T k).1 ∨ Cond.sameField ref (T k).1 (T k).2.1 (T k).2.2.1 ∈ lw_tbl) (hlink : Cond.fieldLink M.1 idx ref (T k).2.1 (T k).2.2.1 ∈ lw_tbl) (pc' : Nat) (hp : pc + 3 = pc') (d : decode M.2.1 pc = .ok (.getfield idx, 3)) (kk : zX g M mc ms Q pc' lv (.long (zL z) :: st) h bc bs) : zX g M mc ms Q pc lv (.ref a :: st) h bc bs := by
  refine r_getf hg zc k hk ?_ hkd href hlink pc' hp d kk
  unfold z_fld
  rw [zc.2.2.2.2.1, hv, hz]
theorem r_getr {ci C T N ty a idx} {ref : String} {b : Nat} (hg : zG g) (zc : z_cls ci C T N ty) (k : Nat) (hk : k < N) (hv : ∀ i j r, z_val (ty k) i j r = va_rf r) (hz : fr_ h a k = some b) (hkd : kd_ h a = ci + 1) (href : ref = (T k).1 ∨ Cond.sameField ref (T k).1 (T k).2.1 (T k).2.2.1 ∈ lw_tbl) (hlink : Cond.fieldLink M.1 idx ref (T k).2.1 (T k).2.2.1 ∈ lw_tbl) (pc' : Nat) (hp : pc + 3 = pc') (d : decode M.2.1 pc = .ok (.getfield idx, 3)) (kk : zX g M mc ms Q pc' lv (.ref b :: st) h bc bs) : zX g M mc ms Q pc lv (.ref a :: st) h bc bs := by
  refine r_getf hg zc k hk ?_ hkd href hlink pc' hp d kk
  unfold z_fld
  rw [zc.2.2.2.2.1, hv, hz]
  rfl
end Geti

def z_mk : Nat → Nat := fun k => [0, 0, 0, 21, 0, 20, 20, 20, 20, 20, 20, 20, 0, 22, 20, 22, 0, 23, 0, 23, 0, 20, 20, 20, 23, 20, 20, 20, 20, 20, 23, 0, 21, 20, 20, 20, 0, 20, 20, 20, 20, 20, 0, 0].getD k 0
def z_ml : Nat → Nat := fun k => [0, 0, 0, 8, 0, 12, 12, 12, 12, 360, 360, 360, 0, 10, 10, 676, 0, 1057, 0, 67600, 0, 40, 40, 40, 12, 12, 12, 12, 12, 12, 3756, 0, 160, 40, 40, 40, 0, 20, 20, 20, 20, 20, 0, 0].getD k 0
/-- the reference's state: its numbers by the places of its fields, its rows -/
abbrev zS : Type := (Nat → Int) × (Nat → Nat → Int)
def MOwn (m : Nat) (A : Nat → Nat) : Nat → Prop := fun b => b = m ∨ ∃ k, z_mk k ≠ 0 ∧ b = A k
def MOK (h : zH) (m : Nat) (A : Nat → Nat) : Prop := kd_ h m = 16 ∧ (∀ k, z_mk k ≠ 0 → fr_ h m k = some (A k) ∧ kd_ h (A k) = z_mk k ∧ ln_ h (A k) = z_ml k) ∧ (∀ j k, z_mk j ≠ 0 → z_mk k ≠ 0 → A j = A k → j = k)
def z_free (k : Nat) : Prop := k = 0 ∨ k = 42 ∨ k = 43
def MRep (h : zH) (m : Nat) (A : Nat → Nat) (S : zS) : Prop := MOK h m A ∧ (∀ k, ¬ z_free k → z_mk k = 0 → fi_ h m k = S.1 k) ∧ (∀ k i, z_mk k ≠ 0 → z_mk k ≠ 23 → ai_ h (A k) i = S.2 k i) ∧ (∀ k i, z_mk k = 23 → aj_ h (A k) i = S.2 k i)
/-- the reference m stands in h for S; since h0 nothing but its own has changed -/
def MI (h0 : zH) (m : Nat) (A : Nat → Nat) (S : zS) (t : Int) (h : zH) : Prop := MRep h m A S ∧ z_agree (MOwn m A) h0 h ∧ fi_ h m 0 = t
theorem MOwn.me {m : Nat} {A : Nat → Nat} : MOwn m A m := Or.inl rfl
theorem MOwn.arr {m : Nat} {A : Nat → Nat} {k : Nat} (hk : z_mk k ≠ 0) : MOwn m A (A k) := Or.inr ⟨k, hk, rfl⟩
theorem MI.refl {h : zH} {m : Nat} {A : Nat → Nat} {S : zS} (x : MRep h m A S) : MI h m A S (fi_ h m 0) h := ⟨x, .refl, rfl⟩
theorem MI.from {h0 h h1 : zH} {m : Nat} {A : Nat → Nat} {S S1 : zS} {t t1 : Int} (x : MI h0 m A S t h) (y : MI h m A S1 t1 h1) : MI h0 m A S1 t1 h1 := ⟨y.1, x.2.1.trans y.2.1, y.2.2⟩
theorem MI.sc {h0 h : zH} {m : Nat} {A : Nat → Nat} {S : zS} {t : Int} (x : MI h0 m A S t h) (k : Nat) (hf : ¬ z_free k) (hk : z_mk k = 0) : fi_ h m k = S.1 k := x.1.2.1 k hf hk
theorem MI.fr {h0 h : zH} {m : Nat} {A : Nat → Nat} {S : zS} {t : Int} (x : MI h0 m A S t h) (k : Nat) (hk : z_mk k ≠ 0) : fr_ h m k = some (A k) := (x.1.1.2.1 k hk).1
theorem MI.kd {h0 h : zH} {m : Nat} {A : Nat → Nat} {S : zS} {t : Int} (x : MI h0 m A S t h) : kd_ h m = 15 + 1 := x.1.1.1
theorem MI.ne {h0 h : zH} {m : Nat} {A : Nat → Nat} {S : zS} {t : Int} (x : MI h0 m A S t h) (k : Nat) (hk : z_mk k ≠ 0) (h9 : z_mk k ≠ 16) : A k ≠ m := fun q => h9 (by rw [← (x.1.1.2.1 k hk).2.1, q]; exact x.1.1.1)
theorem z_mk_16 (k : Nat) : z_mk k ≠ 16 := by
  unfold z_mk
  by_cases hk : k < 44
  · have : ∀ k, k < 44 → ([0, 0, 0, 21, 0, 20, 20, 20, 20, 20, 20, 20, 0, 22, 20, 22, 0, 23, 0, 23, 0, 20, 20, 20, 23, 20, 20, 20, 20, 20, 23, 0, 21, 20, 20, 20, 0, 20, 20, 20, 20, 20, 0, 0] : List Nat).getD k 0 ≠ 16 := by decide +kernel
    exact this k hk
  · rw [List.getD_eq_getElem?_getD, List.getElem?_eq_none (by simpa using Nat.not_lt.mp hk)]
    decide
theorem MI.puti {h0 h : zH} {m : Nat} {A : Nat → Nat} {S : zS} {t : Int} (x : MI h0 m A S t h) (k : Nat) (hk : z_mk k = 0) (hf : k ≠ 0) (v : Int) : MI h0 m A (zu1 S.1 k v, S.2) t (sfi h m k v) := by
  obtain ⟨⟨⟨a1, a2, a3⟩, b, c, d⟩, e, f⟩ := x
  refine ⟨⟨⟨a1, a2, a3⟩, fun j hf hj => ?_, fun j i h1 h2 => c j i h1 h2, fun j i h1 => d j i h1⟩, e.trans (agree_sfi MOwn.me), (zu2_ne (fun q => hf q.2.symm)).trans f⟩
  by_cases hjk : j = k
  · subst hjk; exact (zu2_at).trans (zu1_at).symm
  · exact ((zu2_ne (fun q => hjk q.2)).trans (b j hf hj)).trans (zu1_ne hjk).symm
theorem MI.putx {h0 h : zH} {m : Nat} {A : Nat → Nat} {S : zS} {t : Int} (x : MI h0 m A S t h) (k : Nat) (hk : k = 42 ∨ k = 43) (v : Int) : MI h0 m A S t (sfi h m k v) := by
  obtain ⟨⟨⟨a1, a2, a3⟩, b, c, d⟩, e, f⟩ := x
  refine ⟨⟨⟨a1, a2, a3⟩, fun j hf hj => ?_, fun j i h1 h2 => c j i h1 h2, fun j i h1 => d j i h1⟩, e.trans (agree_sfi MOwn.me), (zu2_ne (fun q => by omega)).trans f⟩
  exact ((zu2_ne (fun q => hf (by unfold z_free; omega))).trans (b j hf hj))
theorem MI.putt {h0 h : zH} {m : Nat} {A : Nat → Nat} {S : zS} {t : Int} (x : MI h0 m A S t h) (v : Int) : MI h0 m A S v (sfi h m 0 v) := by
  obtain ⟨⟨⟨a1, a2, a3⟩, b, c, d⟩, e, f⟩ := x
  refine ⟨⟨⟨a1, a2, a3⟩, fun j hf hj => ?_, fun j i h1 h2 => c j i h1 h2, fun j i h1 => d j i h1⟩, e.trans (agree_sfi MOwn.me), zu2_at⟩
  exact ((zu2_ne (fun q => hf (by unfold z_free; omega))).trans (b j hf hj))
theorem MI.asti {h0 h : zH} {m : Nat} {A : Nat → Nat} {S : zS} {t : Int} (x : MI h0 m A S t h) (k i : Nat) (hk : z_mk k ≠ 0) (h9 : z_mk k ≠ 23) (v : Int) : MI h0 m A (S.1, zu2 S.2 k i v) t (sai h (A k) i v) := by
  have hne := x.ne k hk (z_mk_16 k)
  obtain ⟨⟨⟨a1, a2, a3⟩, b, c, d⟩, e, f⟩ := x
  refine ⟨⟨⟨a1, a2, a3⟩, fun j hf hj => b j hf hj, fun j i2 h1 h2 => ?_, fun j i2 h1 => (d j i2 h1).trans (zu2_ne (fun q => h9 (by rw [← q.1]; exact h1))).symm⟩, e.trans (agree_sai (MOwn.arr hk)), f⟩
  by_cases hjk : j = k ∧ i2 = i
  · obtain ⟨rfl, rfl⟩ := hjk; exact (zu2_at).trans (zu2_at).symm
  · exact ((zu2_ne (fun q => hjk ⟨a3 _ _ h1 hk q.1, q.2⟩)).trans (c j i2 h1 h2)).trans (zu2_ne hjk).symm
theorem MI.astj {h0 h : zH} {m : Nat} {A : Nat → Nat} {S : zS} {t : Int} (x : MI h0 m A S t h) (k i : Nat) (hk : z_mk k = 23) (v : Int) : MI h0 m A (S.1, zu2 S.2 k i v) t (saj h (A k) i v) := by
  have hk0 : z_mk k ≠ 0 := by rw [hk]; decide
  obtain ⟨⟨⟨a1, a2, a3⟩, b, c, d⟩, e, f⟩ := x
  refine ⟨⟨⟨a1, a2, a3⟩, fun j hf hj => b j hf hj, fun j i2 h1 h2 => ?_, fun j i2 h1 => ?_⟩, e.trans (agree_saj (MOwn.arr hk0)), f⟩
  · exact (c j i2 h1 h2).trans (zu2_ne (fun q => h2 (by rw [q.1]; exact hk))).symm
  · by_cases hjk : j = k ∧ i2 = i
    · obtain ⟨rfl, rfl⟩ := hjk; exact (zu2_at).trans (zu2_at).symm
    · exact ((zu2_ne (fun q => hjk ⟨a3 _ _ (by rw [h1]; decide) hk0 q.1, q.2⟩)).trans (d j i2 h1)).trans (zu2_ne hjk).symm
section MRows
variable {g : zGT} {M : zM} {mc ms : Nat} {Q : zO → zH → Prop} {pc : Nat} {lv : List (Option Value)} {st : List Value} {h h0 : zH} {bc bs : Nat} {m : Nat} {A : Nat → Nat} {sc : Nat → Int} {ar : Nat → Nat → Int}

theorem m_get {idx : Nat} (k : Nat) (hg : zG g) {t : Int} (hM : MI h0 m A (sc, ar) t h) (hf : ¬ z_free k) (hk : z_mk k = 0) (hk2 : k < 44) (hlink : Cond.fieldLink M.1 idx (TX12 k).1 (TX12 k).2.1 (TX12 k).2.2.1 ∈ lw_tbl) (pc' : Nat) (hp : pc + 3 = pc') (d : decode M.2.1 pc = .ok (.getfield idx, 3)) (kk : zX g M mc ms Q pc' lv (.int (zI (sc k)) :: st) h bc bs) (hv : ∀ i j r, z_val (tyX12 k) i j r = .int (zI i)) : zX g M mc ms Q pc lv (.ref m :: st) h bc bs :=
  r_geti hg zc_X12 k hk2 hv (hM.sc k hf hk) hM.kd (Or.inl rfl) hlink pc' hp d kk
theorem m_getx {idx : Nat} {z : Int} (k : Nat) (hg : zG g) {t : Int} (hM : MI h0 m A (sc, ar) t h) (hz : fi_ h m k = z) (hk2 : k < 44) (hlink : Cond.fieldLink M.1 idx (TX12 k).1 (TX12 k).2.1 (TX12 k).2.2.1 ∈ lw_tbl) (pc' : Nat) (hp : pc + 3 = pc') (d : decode M.2.1 pc = .ok (.getfield idx, 3)) (kk : zX g M mc ms Q pc' lv (.int (zI z) :: st) h bc bs) (hv : ∀ i j r, z_val (tyX12 k) i j r = .int (zI i)) : zX g M mc ms Q pc lv (.ref m :: st) h bc bs :=
  r_geti hg zc_X12 k hk2 hv hz hM.kd (Or.inl rfl) hlink pc' hp d kk
theorem m_arr {idx : Nat} (k : Nat) (hg : zG g) {t : Int} (hM : MI h0 m A (sc, ar) t h) (hk : z_mk k ≠ 0) (hk2 : k < 44) (hlink : Cond.fieldLink M.1 idx (TX12 k).1 (TX12 k).2.1 (TX12 k).2.2.1 ∈ lw_tbl) (pc' : Nat) (hp : pc + 3 = pc') (d : decode M.2.1 pc = .ok (.getfield idx, 3)) (kk : zX g M mc ms Q pc' lv (.ref (A k) :: st) h bc bs) (hv : ∀ i j r, z_val (tyX12 k) i j r = va_rf r) : zX g M mc ms Q pc lv (.ref m :: st) h bc bs :=
  r_getr hg zc_X12 k hk2 hv (hM.fr k hk) hM.kd (Or.inl rfl) hlink pc' hp d kk
theorem m_put {idx : Nat} {v : Int} (k : Nat) (hg : zG g) {t : Int} (hM : MI h0 m A (sc, ar) t h) (hk : z_mk k = 0) (hf : k ≠ 0) (hk2 : k < 44) (hfin : (TX12 k).2.2.2 = false) (hv : ∀ i j r, z_val (tyX12 k) i j r = .int (zI i)) (hn : narrow (tyX12 k) (.int (zI v)) = .int (zI v)) (hfit : fits (tyX12 k) (.int (zI v)) = true) (hlink : Cond.fieldLink M.1 idx (TX12 k).1 (TX12 k).2.1 (TX12 k).2.2.1 ∈ lw_tbl) (pc' : Nat) (hp : pc + 3 = pc') (d : decode M.2.1 pc = .ok (.putfield idx, 3)) (kk : ∀ h1, MI h0 m A (zu1 sc k v, ar) t h1 → zX g M mc ms Q pc' lv st h1 bc bs) : zX g M mc ms Q pc lv (.int (zI v) :: .ref m :: st) h bc bs :=
  r_puti hg zc_X12 k hk2 hfin hv hn hfit (by decide) hM.kd (Or.inl rfl) hlink pc' hp d (kk _ (hM.puti k hk hf v))
theorem m_putx {idx : Nat} {v : Int} (k : Nat) (hg : zG g) {t : Int} (hM : MI h0 m A (sc, ar) t h) (hk : k = 42 ∨ k = 43) (hk2 : k < 44) (hfin : (TX12 k).2.2.2 = false) (hv : ∀ i j r, z_val (tyX12 k) i j r = .int (zI i)) (hn : narrow (tyX12 k) (.int (zI v)) = .int (zI v)) (hfit : fits (tyX12 k) (.int (zI v)) = true) (hlink : Cond.fieldLink M.1 idx (TX12 k).1 (TX12 k).2.1 (TX12 k).2.2.1 ∈ lw_tbl) (pc' : Nat) (hp : pc + 3 = pc') (d : decode M.2.1 pc = .ok (.putfield idx, 3)) (kk : ∀ h1, MI h0 m A (sc, ar) t h1 → fi_ h1 m k = v → (∀ j, j ≠ k → fi_ h1 m j = fi_ h m j) → zX g M mc ms Q pc' lv st h1 bc bs) : zX g M mc ms Q pc lv (.int (zI v) :: .ref m :: st) h bc bs :=
  r_puti hg zc_X12 k hk2 hfin hv hn hfit (by decide) hM.kd (Or.inl rfl) hlink pc' hp d (kk _ (hM.putx k hk v) zu2_at (fun j hj => zu2_ne (fun q => hj q.2)))
theorem m_putt {idx : Nat} {t : Int} {v : Int} (hg : zG g) (hM : MI h0 m A (sc, ar) t h) (hlink : Cond.fieldLink M.1 idx (TX12 0).1 (TX12 0).2.1 (TX12 0).2.2.1 ∈ lw_tbl) (pc' : Nat) (hp : pc + 3 = pc') (d : decode M.2.1 pc = .ok (.putfield idx, 3)) (kk : ∀ h1, MI h0 m A (sc, ar) v h1 → zX g M mc ms Q pc' lv st h1 bc bs) : zX g M mc ms Q pc lv (.int (zI v) :: .ref m :: st) h bc bs :=
  r_puti hg zc_X12 0 (by decide) rfl (fun _ _ _ => rfl) rfl rfl (by decide) hM.kd (Or.inl rfl) hlink pc' hp d (kk _ (hM.putt v))

theorem m_iald {i : Int} (k j : Nat) (hj : i.toNat = j) (hg : zG g) {t : Int} (hM : MI h0 m A (sc, ar) t h) (hk : z_mk k = 20) (hi : 0 ≤ i) (hl : i < z_ml k) (hb : z_ml k ≤ 100000) (pc' : Nat) (hp : pc + 1 = pc') (d : decode M.2.1 pc = .ok (.iaload, 1)) (kk : zX g M mc ms Q pc' lv (.int (zI (ar k j)) :: st) h bc bs) : zX g M mc ms Q pc lv (.int (zI i) :: .ref (A k) :: st) h bc bs := by
  subst hj
  have hk0 : z_mk k ≠ 0 := by rw [hk]; decide
  have q := hM.1.1.2.1 k hk0
  refine r_iaload hg (q.2.1.trans hk) hi (by omega) (by rw [q.2.2]; exact hl) pc' hp d ?_
  rw [hM.1.2.2.1 k i.toNat hk0 (by rw [hk]; decide)]
  exact kk

theorem m_cald {i : Int} (k j : Nat) (hj : i.toNat = j) (hg : zG g) {t : Int} (hM : MI h0 m A (sc, ar) t h) (hk : z_mk k = 21) (hi : 0 ≤ i) (hl : i < z_ml k) (hb : z_ml k ≤ 100000) (pc' : Nat) (hp : pc + 1 = pc') (d : decode M.2.1 pc = .ok (.caload, 1)) (kk : zX g M mc ms Q pc' lv (.int (zI (ar k j)) :: st) h bc bs) : zX g M mc ms Q pc lv (.int (zI i) :: .ref (A k) :: st) h bc bs := by
  subst hj
  have hk0 : z_mk k ≠ 0 := by rw [hk]; decide
  have q := hM.1.1.2.1 k hk0
  refine r_caload hg (q.2.1.trans hk) hi (by omega) (by rw [q.2.2]; exact hl) pc' hp d ?_
  rw [hM.1.2.2.1 k i.toNat hk0 (by rw [hk]; decide)]
  exact kk

theorem m_zald {i : Int} (k j : Nat) (hj : i.toNat = j) (hg : zG g) {t : Int} (hM : MI h0 m A (sc, ar) t h) (hk : z_mk k = 22) (hi : 0 ≤ i) (hl : i < z_ml k) (hb : z_ml k ≤ 100000) (pc' : Nat) (hp : pc + 1 = pc') (d : decode M.2.1 pc = .ok (.baload, 1)) (kk : zX g M mc ms Q pc' lv (.int (zI (ar k j)) :: st) h bc bs) : zX g M mc ms Q pc lv (.int (zI i) :: .ref (A k) :: st) h bc bs := by
  subst hj
  have hk0 : z_mk k ≠ 0 := by rw [hk]; decide
  have q := hM.1.1.2.1 k hk0
  refine r_zaload hg (q.2.1.trans hk) hi (by omega) (by rw [q.2.2]; exact hl) pc' hp d ?_
  rw [hM.1.2.2.1 k i.toNat hk0 (by rw [hk]; decide)]
  exact kk

theorem m_lald {i : Int} (k j : Nat) (hj : i.toNat = j) (hg : zG g) {t : Int} (hM : MI h0 m A (sc, ar) t h) (hk : z_mk k = 23) (hi : 0 ≤ i) (hl : i < z_ml k) (hb : z_ml k ≤ 100000) (pc' : Nat) (hp : pc + 1 = pc') (d : decode M.2.1 pc = .ok (.laload, 1)) (kk : zX g M mc ms Q pc' lv (.long (zL (ar k j)) :: st) h bc bs) : zX g M mc ms Q pc lv (.int (zI i) :: .ref (A k) :: st) h bc bs := by
  subst hj
  have hk0 : z_mk k ≠ 0 := by rw [hk]; decide
  have q := hM.1.1.2.1 k hk0
  refine r_laload hg (q.2.1.trans hk) hi (by omega) (by rw [q.2.2]; exact hl) pc' hp d ?_
  rw [hM.1.2.2.2 k i.toNat hk]
  exact kk

theorem m_iast {i v : Int} (k j : Nat) (hj : i.toNat = j) (hg : zG g) {t : Int} (hM : MI h0 m A (sc, ar) t h) (hk : z_mk k = 20) (hi : 0 ≤ i) (hl : i < z_ml k) (hb : z_ml k ≤ 100000) (pc' : Nat) (hp : pc + 1 = pc') (d : decode M.2.1 pc = .ok (.iastore, 1)) (kk : ∀ h1, MI h0 m A (sc, zu2 ar k j v) t h1 → zX g M mc ms Q pc' lv st h1 bc bs) : zX g M mc ms Q pc lv (.int (zI v) :: .int (zI i) :: .ref (A k) :: st) h bc bs := by
  subst hj
  have hk0 : z_mk k ≠ 0 := by rw [hk]; decide
  have q := hM.1.1.2.1 k hk0
  exact r_iastore hg (q.2.1.trans hk) hi (by omega) (by rw [q.2.2]; exact hl) pc' hp d (kk _ (hM.asti k i.toNat hk0 (by rw [hk]; decide) v))

theorem m_cast {i v : Int} (k j : Nat) (hj : i.toNat = j) (hg : zG g) {t : Int} (hM : MI h0 m A (sc, ar) t h) (hk : z_mk k = 21) (hi : 0 ≤ i) (hl : i < z_ml k) (hb : z_ml k ≤ 100000) (hx : narrow .char (.int (zI v)) = .int (zI v)) (pc' : Nat) (hp : pc + 1 = pc') (d : decode M.2.1 pc = .ok (.castore, 1)) (kk : ∀ h1, MI h0 m A (sc, zu2 ar k j v) t h1 → zX g M mc ms Q pc' lv st h1 bc bs) : zX g M mc ms Q pc lv (.int (zI v) :: .int (zI i) :: .ref (A k) :: st) h bc bs := by
  subst hj
  have hk0 : z_mk k ≠ 0 := by rw [hk]; decide
  have q := hM.1.1.2.1 k hk0
  exact r_castore hg (q.2.1.trans hk) hi (by omega) (by rw [q.2.2]; exact hl) hx pc' hp d (kk _ (hM.asti k i.toNat hk0 (by rw [hk]; decide) v))

theorem m_zast {i v : Int} (k j : Nat) (hj : i.toNat = j) (hg : zG g) {t : Int} (hM : MI h0 m A (sc, ar) t h) (hk : z_mk k = 22) (hi : 0 ≤ i) (hl : i < z_ml k) (hb : z_ml k ≤ 100000) (hx : narrow .boolean (.int (zI v)) = .int (zI v)) (pc' : Nat) (hp : pc + 1 = pc') (d : decode M.2.1 pc = .ok (.bastore, 1)) (kk : ∀ h1, MI h0 m A (sc, zu2 ar k j v) t h1 → zX g M mc ms Q pc' lv st h1 bc bs) : zX g M mc ms Q pc lv (.int (zI v) :: .int (zI i) :: .ref (A k) :: st) h bc bs := by
  subst hj
  have hk0 : z_mk k ≠ 0 := by rw [hk]; decide
  have q := hM.1.1.2.1 k hk0
  exact r_zastore hg (q.2.1.trans hk) hi (by omega) (by rw [q.2.2]; exact hl) hx pc' hp d (kk _ (hM.asti k i.toNat hk0 (by rw [hk]; decide) v))

theorem m_last {i v : Int} (k j : Nat) (hj : i.toNat = j) (hg : zG g) {t : Int} (hM : MI h0 m A (sc, ar) t h) (hk : z_mk k = 23) (hi : 0 ≤ i) (hl : i < z_ml k) (hb : z_ml k ≤ 100000) (pc' : Nat) (hp : pc + 1 = pc') (d : decode M.2.1 pc = .ok (.lastore, 1)) (kk : ∀ h1, MI h0 m A (sc, zu2 ar k j v) t h1 → zX g M mc ms Q pc' lv st h1 bc bs) : zX g M mc ms Q pc lv (.long (zL v) :: .int (zI i) :: .ref (A k) :: st) h bc bs := by
  subst hj
  have hk0 : z_mk k ≠ 0 := by rw [hk]; decide
  have q := hM.1.1.2.1 k hk0
  exact r_lastore hg (q.2.1.trans hk) hi (by omega) (by rw [q.2.2]; exact hl) pc' hp d (kk _ (hM.astj k i.toNat hk v))
end MRows
