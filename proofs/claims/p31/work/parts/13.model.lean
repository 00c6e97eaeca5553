/-- the two pictures are alike off P -/
def z_agree (P : Nat → Prop) (h h1 : zH) : Prop := ∀ b, ¬ P b → kd_ h b ≠ 0 → kd_ h1 b = kd_ h b ∧ ln_ h1 b = ln_ h b ∧ (∀ j, fi_ h1 b j = fi_ h b j) ∧ (∀ j, fj_ h1 b j = fj_ h b j) ∧ (∀ j, fr_ h1 b j = fr_ h b j) ∧ (∀ j, ai_ h1 b j = ai_ h b j) ∧ (∀ j, aj_ h1 b j = aj_ h b j) ∧ (∀ j, ar_ h1 b j = ar_ h b j)
theorem z_agree.refl {P : Nat → Prop} {h : zH} : z_agree P h h := fun b _ _ => ⟨rfl, rfl, fun _ => rfl, fun _ => rfl, fun _ => rfl, fun _ => rfl, fun _ => rfl, fun _ => rfl⟩
theorem z_agree.trans {P : Nat → Prop} {h h1 h2 : zH} (x : z_agree P h h1) (y : z_agree P h1 h2) : z_agree P h h2 := by
  intro b hb h0
  obtain ⟨a1, a2, a3, a4, a5, a6, a7, a8⟩ := x b hb h0
  obtain ⟨b1, b2, b3, b4, b5, b6, b7, b8⟩ := y b hb (by rw [a1]; exact h0)
  exact ⟨b1.trans a1, b2.trans a2, fun j => (b3 j).trans (a3 j), fun j => (b4 j).trans (a4 j), fun j => (b5 j).trans (a5 j), fun j => (b6 j).trans (a6 j), fun j => (b7 j).trans (a7 j), fun j => (b8 j).trans (a8 j)⟩
theorem z_agree.mono {P P' : Nat → Prop} {h h1 : zH} (x : z_agree P h h1) (hp : ∀ b, P b → P' b) : z_agree P' h h1 := fun b hb h0 => x b (fun q => hb (hp b q)) h0
theorem zu2_at {α : Type} {f : Nat → Nat → α} {a k : Nat} {v : α} : zu2 f a k v a k = v := by simp [zu2]
theorem zu2_ne {α : Type} {f : Nat → Nat → α} {a k b j : Nat} {v : α} (hn : ¬ (b = a ∧ j = k)) : zu2 f a k v b j = f b j := by unfold zu2; rw [if_neg hn]
theorem zu1_at {α : Type} {f : Nat → α} {a : Nat} {v : α} : zu1 f a v a = v := by simp [zu1]
theorem zu1_ne {α : Type} {f : Nat → α} {a b : Nat} {v : α} (hn : ¬ b = a) : zu1 f a v b = f b := by unfold zu1; rw [if_neg hn]
theorem agree_sfi {P : Nat → Prop} {h : zH} {a k : Nat} {v : Int} (ha : P a) : z_agree P h (sfi h a k v) := fun b hb _ => ⟨rfl, rfl, fun j => zu2_ne (fun q => hb (by rw [q.1]; exact ha)), fun _ => rfl, fun _ => rfl, fun _ => rfl, fun _ => rfl, fun _ => rfl⟩
theorem agree_sfj {P : Nat → Prop} {h : zH} {a k : Nat} {v : Int} (ha : P a) : z_agree P h (sfj h a k v) := fun b hb _ => ⟨rfl, rfl, fun _ => rfl, fun j => zu2_ne (fun q => hb (by rw [q.1]; exact ha)), fun _ => rfl, fun _ => rfl, fun _ => rfl, fun _ => rfl⟩
theorem agree_sfr {P : Nat → Prop} {h : zH} {a k : Nat} {v : Option Nat} (ha : P a) : z_agree P h (sfr h a k v) := fun b hb _ => ⟨rfl, rfl, fun _ => rfl, fun _ => rfl, fun j => zu2_ne (fun q => hb (by rw [q.1]; exact ha)), fun _ => rfl, fun _ => rfl, fun _ => rfl⟩
theorem agree_sai {P : Nat → Prop} {h : zH} {a k : Nat} {v : Int} (ha : P a) : z_agree P h (sai h a k v) := fun b hb _ => ⟨rfl, rfl, fun _ => rfl, fun _ => rfl, fun _ => rfl, fun j => zu2_ne (fun q => hb (by rw [q.1]; exact ha)), fun _ => rfl, fun _ => rfl⟩
theorem agree_saj {P : Nat → Prop} {h : zH} {a k : Nat} {v : Int} (ha : P a) : z_agree P h (saj h a k v) := fun b hb _ => ⟨rfl, rfl, fun _ => rfl, fun _ => rfl, fun _ => rfl, fun _ => rfl, fun j => zu2_ne (fun q => hb (by rw [q.1]; exact ha)), fun _ => rfl⟩
theorem agree_sar {P : Nat → Prop} {h : zH} {a k : Nat} {v : Option Nat} (ha : P a) : z_agree P h (sar h a k v) := fun b hb _ => ⟨rfl, rfl, fun _ => rfl, fun _ => rfl, fun _ => rfl, fun _ => rfl, fun _ => rfl, fun j => zu2_ne (fun q => hb (by rw [q.1]; exact ha))⟩
theorem agree_nob {P : Nat → Prop} {h : zH} {a c : Nat} (ha : kd_ h a = 0) : z_agree P h (nob h a c) := fun b _ h0 => by
  have hn : ¬ b = a := fun q => h0 (by rw [q]; exact ha)
  exact ⟨zu1_ne hn, rfl, fun _ => if_neg hn, fun _ => if_neg hn, fun _ => if_neg hn, fun _ => rfl, fun _ => rfl, fun _ => rfl⟩
theorem agree_nar {P : Nat → Prop} {h : zH} {a k n : Nat} (ha : kd_ h a = 0) : z_agree P h (nar h a k n) := fun b _ h0 => by
  have hn : ¬ b = a := fun q => h0 (by rw [q]; exact ha)
  exact ⟨zu1_ne hn, zu1_ne hn, fun _ => rfl, fun _ => rfl, fun _ => rfl, fun _ => if_neg hn, fun _ => if_neg hn, fun _ => if_neg hn⟩
section Geti
variable {g : zGT} {M : zM} {mc ms : Nat} {Q : zO → zH → Prop} {pc : Nat} {lv : List (Option Value)} {st : List Value} {h : zH} {bc bs : Nat}
theorem r_geti {ci C T N ty a idx} {ref : String} {z : Int} (hg : zG g) (zc : z_cls ci C T N ty) (k : Nat) (hk : k < N) (hv : ∀ i j r, z_val (ty k) i j r = .int (zI i)) (hz : fi_ h a k = z) (hkd : kd_ h a = ci + 1) (href : ref = (T k).1 ∨ Cond.sameField ref (T k).1 (T k).2.1 (T k).2.2.1 ∈ lw_tbl) (hlink : Cond.fieldLink M.1 idx ref (T k).2.1 (T k).2.2.1 ∈ lw_tbl) (pc' : Nat) (hp : pc + 3 = pc') (d : decode M.2.1 pc = .ok (.getfield idx, 3)) (kk : zX g M mc ms Q pc' lv (.int (zI z) :: st) h bc bs) : zX g M mc ms Q pc lv (.ref a :: st) h bc bs := by
  refine r_getf hg zc k hk ?_ hkd href hlink pc' hp d kk
  unfold z_fld
  rw [zc.2.2.2.2.1, hv, hz]
theorem r_getj {ci C T N ty a idx} {ref : String} {z : Int} (hg : zG g) (zc : z_cls ci C T N ty) (k : Nat) (hk : k < N) (hv : ∀ i j r, z_val (ty k) i j r = .long (zL j)) (hz : fj_ h a k = z) (hkd : kd_ h a = ci + 1) (href : ref = (T k).1 ∨ Cond.sameField ref (T k).1 (T k).2.1 (T k).2.2.1 ∈ lw_tbl) (hlink : Cond.fieldLink M.1 idx ref (T k).2.1 (T k).2.2.1 ∈ lw_tbl) (pc' : Nat) (hp : pc + 3 = pc') (d : decode M.2.1 pc = .ok (.getfield idx, 3)) (kk : zX g M mc ms Q pc' lv (.long (zL z) :: st) h bc bs) : zX g M mc ms Q pc lv (.ref a :: st) h bc bs := by
  refine r_getf hg zc k hk ?_ hkd href hlink pc' hp d kk
  unfold z_fld
  rw [zc.2.2.2.2.1, hv, hz]
theorem r_getr {ci C T N ty a idx} {ref : String} {b : Nat} (hg : zG g) (zc : z_cls ci C T N ty) (k : Nat) (hk : k < N) (hv : ∀ i j r, z_val (ty k) i j r = va_rf r) (hz : fr_ h a k = some b) (hkd : kd_ h a = ci + 1) (href : ref = (T k).1 ∨ Cond.sameField ref (T k).1 (T k).2.1 (T k).2.2.1 ∈ lw_tbl) (hlink : Cond.fieldLink M.1 idx ref (T k).2.1 (T k).2.2.1 ∈ lw_tbl) (pc' : Nat) (hp : pc + 3 = pc') (d : decode M.2.1 pc = .ok (.getfield idx, 3)) (kk : zX g M mc ms Q pc' lv (.ref b :: st) h bc bs) : zX g M mc ms Q pc lv (.ref a :: st) h bc bs := by
  refine r_getf hg zc k hk ?_ hkd href hlink pc' hp d kk
  unfold z_fld
  rw [zc.2.2.2.2.1, hv, hz]
  rfl
end Geti

/-- the register's state: its numbers by the places of whole's reference, its rows -/
abbrev zS : Type := (Nat → Int) × (Nat → Nat → Int)
def zS0 : zS := (fun k => if k = 16 then -1 else 0, fun _ _ => 0)
