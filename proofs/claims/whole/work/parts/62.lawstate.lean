section LawState
theorem z_mk_15 (k : Nat) : z_mk k ≠ 15 := by
  unfold z_mk
  by_cases hk : k < 44
  · have : ∀ k, k < 44 → ([0, 0, 0, 21, 0, 20, 20, 20, 20, 20, 20, 20, 0, 22, 20, 22, 0, 23, 0, 23, 0, 20, 20, 20, 23, 20, 20, 20, 20, 20, 23, 0, 21, 20, 20, 20, 0, 20, 20, 20, 20, 20, 0, 0] : List Nat).getD k 0 ≠ 15 := by decide +kernel
    exact this k hk
  · rw [List.getD_eq_getElem?_getD, List.getElem?_eq_none (by simpa using Nat.not_lt.mp hk)]
    decide
/-- law's loop between its calls: the class shows SC, the reference SM; F is what stays as it was in hB; 'out' is law's row -/
def zLS (g : zGT) (x m : Nat) (A : Nat → Nat) (out : Nat) (F : Nat → Prop) (hB : zH) (o : Nat → Nat) (n : Nat) (SC SM : zS) (h : zH) : Prop :=
  CEx g o h x SC n ∧ MRep h m A SM ∧ (∀ b, MOwn m A b → o b = 0) ∧ (∀ b, F b → o b = 0) ∧ o out = 0 ∧ z_agree (fun b => ¬ F b) hB h ∧ kd_ h out = 23 ∧ ln_ h out = 1 ∧ kd_ h x = 15
def zLF (m : Nat) (A : Nat → Nat) (out : Nat) (F : Nat → Prop) (hB : zH) : Prop := (∀ b, F b → kd_ hB b ≠ 0 ∧ ¬ MOwn m A b ∧ b ≠ out) ∧ ¬ MOwn m A out
theorem MRep.kne {h : zH} {m : Nat} {A : Nat → Nat} {S : zS} (x : MRep h m A S) {b : Nat} (hb : MOwn m A b) : kd_ h b ≠ 0 := by
  rcases hb with rfl | ⟨k, hk, rfl⟩
  · rw [x.1.1]; decide
  · rw [(x.1.2.1 k hk).2.1]; exact hk
theorem MRep.keep {h h1 : zH} {m : Nat} {A : Nat → Nat} {S : zS} {P : Nat → Prop} (x : MRep h m A S) (f : z_agree P h h1) (hP : ∀ b, MOwn m A b → ¬ P b) : MRep h1 m A S := by
  have e := fun b (hb : MOwn m A b) => f b (hP b hb) (x.kne hb)
  obtain ⟨⟨x1, x2, x3⟩, x4, x5, x6⟩ := id x
  have em := e m .me
  refine ⟨⟨em.1.trans x1, fun k hk => ?_, x3⟩, fun k hk h0 => (em.2.2.1 k).trans (x4 k hk h0), fun k i hk h0 => ?_, fun k i hk => ?_⟩
  · obtain ⟨a1, a2, a3⟩ := x2 k hk
    have ea := e (A k) (.arr hk)
    exact ⟨(em.2.2.2.2.1 k).trans a1, ea.1.trans a2, ea.2.1.trans a3⟩
  · exact ((e (A k) (.arr hk)).2.2.2.2.2.1 i).trans (x5 k i hk h0)
  · exact ((e (A k) (.arr (by rw [hk]; decide))).2.2.2.2.2.2.1 i).trans (x6 k i hk)
variable {g : zGT} {x m : Nat} {A : Nat → Nat} {out : Nat} {F : Nat → Prop} {hB : zH} {o : Nat → Nat} {n : Nat} {SC SM : zS} {h : zH}
theorem zLS.keepF (y : zLS g x m A out F hB o n SC SM h) (hF : zLF m A out F hB) {b : Nat} (hb : F b) : kd_ h b ≠ 0 := by
  rw [(y.2.2.2.2.2.1 b (fun q => q hb) (hF.1 b hb).1).1]; exact (hF.1 b hb).1
theorem zLS.cls (y : zLS g x m A out F hB o n SC SM h) (hF : zLF m A out F hB) {o1 : Nat → Nat} {h1 : zH} {n2 : Nat} {S2 : zS} (c : CEx g o1 h1 x S2 n2) (st : zStep zOwn o h o1 h1) : zLS g x m A out F hB o1 n2 S2 SM h1 := by
  obtain ⟨y1, y2, y3, y4, y5, y6, y7, y8, y9⟩ := id y
  have e := st.1 out (by show ¬ o out ≠ 0; rw [y5]; exact fun q => q rfl) (by rw [y7]; decide)
  refine ⟨c, y2.keep st.1 (fun b hb => by show ¬ o b ≠ 0; rw [y3 b hb]; exact fun q => q rfl), fun b hb => ((st.2 b (y2.kne hb)).1).trans (y3 b hb), fun b hb => ((st.2 b (y.keepF hF hb)).1).trans (y4 b hb), ((st.2 out (by rw [y7]; decide)).1).trans y5, fun b hb h0 => ?_, e.1.trans y7, e.2.1.trans y8, st.kd y9 (by decide)⟩
  have hb' : F b := Classical.not_not.mp hb
  have e0 := y6 b hb h0
  have e1 := st.1 b (by show ¬ o b ≠ 0; rw [y4 b hb']; exact fun q => q rfl) (by rw [e0.1]; exact h0)
  exact ⟨e1.1.trans e0.1, e1.2.1.trans e0.2.1, fun j => (e1.2.2.1 j).trans (e0.2.2.1 j), fun j => (e1.2.2.2.1 j).trans (e0.2.2.2.1 j), fun j => (e1.2.2.2.2.1 j).trans (e0.2.2.2.2.1 j), fun j => (e1.2.2.2.2.2.1 j).trans (e0.2.2.2.2.2.1 j), fun j => (e1.2.2.2.2.2.2.1 j).trans (e0.2.2.2.2.2.2.1 j), fun j => (e1.2.2.2.2.2.2.2 j).trans (e0.2.2.2.2.2.2.2 j)⟩
/-- a step that leaves the class's and F's addresses as they are -/
theorem zLS.other (y : zLS g x m A out F hB o n SC SM h) (hF : zLF m A out F hB) {P : Nat → Prop} {h1 : zH} {SM2 : zS} (f : z_agree P h h1) (hP : ∀ b, P b → o b = 0 ∧ ¬ F b) (ho : kd_ h1 out = kd_ h out ∧ ln_ h1 out = ln_ h out) (hx : ¬ P x) (hM : MRep h1 m A SM2) : zLS g x m A out F hB o n SC SM2 h1 := by
  obtain ⟨y1, y2, y3, y4, y5, y6, y7, y8, y9⟩ := id y
  obtain ⟨Vs, Ps, Ss, Ts, Fs, Tn, A9, G, Rc, c⟩ := y1
  refine ⟨⟨Vs, Ps, Ss, Ts, Fs, Tn, A9, G, Rc, c.fr (fun r h0 _ b hb hk => ⟨hb, f b (fun q => h0 (hb.symm.trans (hP b q).1)) hk⟩)⟩, hM, y3, y4, y5, fun b hb h0 => ?_, ho.1.trans y7, ho.2.trans y8, ((f x hx (by rw [y9]; decide)).1).trans y9⟩
  have hb' : F b := Classical.not_not.mp hb
  have e0 := y6 b hb h0
  have e1 := f b (fun q => (hP b q).2 hb') (by rw [e0.1]; exact h0)
  exact ⟨e1.1.trans e0.1, e1.2.1.trans e0.2.1, fun j => (e1.2.2.1 j).trans (e0.2.2.1 j), fun j => (e1.2.2.2.1 j).trans (e0.2.2.2.1 j), fun j => (e1.2.2.2.2.1 j).trans (e0.2.2.2.2.1 j), fun j => (e1.2.2.2.2.2.1 j).trans (e0.2.2.2.2.2.1 j), fun j => (e1.2.2.2.2.2.2.1 j).trans (e0.2.2.2.2.2.2.1 j), fun j => (e1.2.2.2.2.2.2.2 j).trans (e0.2.2.2.2.2.2.2 j)⟩
theorem zLS.put (y : zLS g x m A out F hB o n SC SM h) (hF : zLF m A out F hB) (a : Int) : zLS g x m A out F hB o n SC SM (saj h out 0 a) ∧ aj_ (saj h out 0 a) out 0 = a := by
  have f : z_agree (fun b => b = out) h (saj h out 0 a) := agree_saj (P := fun b => b = out) rfl
  refine ⟨y.other hF f (fun b hb => ?_) ⟨rfl, rfl⟩ (fun q => ?_) (y.2.1.keep f (fun b hb q => hF.2 (q ▸ hb))), zu2_at⟩
  · subst hb; exact ⟨y.2.2.2.2.1, fun q => (hF.1 _ q).2.2 rfl⟩
  · have h7 := y.2.2.2.2.2.2.1
    have h9 := y.2.2.2.2.2.2.2.2
    rw [← q, h9] at h7
    exact absurd h7 (by decide)
theorem zLS.mod (y : zLS g x m A out F hB o n SC SM h) (hF : zLF m A out F hB) {SM2 : zS} {t : Int} {h1 : zH} (z : MI h m A SM2 t h1) : zLS g x m A out F hB o n SC SM2 h1 ∧ aj_ h1 out 0 = aj_ h out 0 := by
  have e := z.2.1 out hF.2 (by rw [y.2.2.2.2.2.2.1]; decide)
  refine ⟨y.other hF z.2.1 (fun b hb => ⟨y.2.2.1 b hb, fun q => (hF.1 b q).2.1 hb⟩) ⟨e.1, e.2.1⟩ (fun q => ?_) z.1, e.2.2.2.2.2.2.1 0⟩
  rcases q with q | ⟨k, hk, q⟩
  · have := y.2.1.1.1; rw [← q, y.2.2.2.2.2.2.2.2] at this; exact absurd this (by decide)
  · have := (y.2.1.1.2.1 k hk).2.1
    rw [← q, y.2.2.2.2.2.2.2.2] at this
    exact absurd this.symm (z_mk_15 k)
end LawState
