/-- the law's invariant of the numbers: serials have digits besides -/
def MOk (n : Nat) (S : zS) : Prop := MInv n S ∧ ∀ i : Nat, (i : Int) < S.1 4 → zdigit (S.2 5 i) < 10
section Okay
variable {n : Nat} {S : zS}
theorem MOk.of {n2 : Nat} {sc2 : Nat → Int} {ar2 : Nat → Nat → Int} (x : MOk n S) (h : MInv n2 (sc2, ar2)) (h4 : sc2 4 = S.1 4) (h5 : ∀ i, ar2 5 i = S.2 5 i) : MOk n2 (sc2, ar2) := ⟨h, fun i hi => by
  have hi : (i : Int) < sc2 4 := hi
  show zdigit (ar2 5 i) < 10
  rw [h5 i]
  exact x.2 i (by omega)⟩
theorem MOk.up (x : MOk n S) (hn : n < 512) : MInv (n + 1) (S.1, S.2) := x.1.mono (Nat.le_succ n) hn
theorem MOk.next (x : MOk n S) (hn : n < 512) : MOk (n + 1) S := x.of (x.up hn) rfl (fun _ => rfl)
theorem ok_type (x : MOk n S) (hn : n < 512) {v : Int} (hv : 0 ≤ v ∧ v < 65536) (h : S.1 2 ≠ 8) : MOk (n + 1) (zu1 S.1 2 (S.1 2 + 1), zu2 S.2 3 (S.1 2).toNat v) :=
  x.of (((x.up hn).a3 hv).s2 (by have := x.1.signs; omega)) (zu1_ne (by decide)) (fun i => zu2_ne (fun q => absurd q.1 (by decide)))
theorem ok_clear (x : MOk n S) (hn : n < 512) : MOk (n + 1) (zu1 S.1 2 0, S.2) :=
  x.of ((x.up hn).s2 (by omega)) (zu1_ne (by decide)) (fun i => rfl)
theorem ok_protect (x : MOk n S) (hn : n < 512) {is : Int} {p : Nat} (hv : is = 0 ∨ is = 1) : MOk (n + 1) (S.1, zu2 S.2 13 p is) :=
  x.of ((x.up hn).a13 hv) rfl (fun i => zu2_ne (fun q => absurd q.1 (by decide)))
theorem ok_bar (x : MOk n S) (hn : n < 512) {is : Int} {p : Nat} (hv : is = 0 ∨ is = 1) : MOk (n + 1) (S.1, zu2 S.2 15 p is) :=
  x.of ((x.up hn).a15 hv) rfl (fun i => zu2_ne (fun q => absurd q.1 (by decide)))
theorem ok_pass (x : MOk n S) (hn : n < 512) {v : Int} (h1 : 1 ≤ v ∧ v ≤ 400) (h2 : S.1 1 + v ≤ 20000) : MOk (n + 1) (zu1 S.1 1 (S.1 1 + v), S.2) :=
  x.of ((x.up hn).s1 (by have := x.1.today; omega)) (zu1_ne (by decide)) (fun i => rfl)
theorem ok_person (x : MOk n S) (hn : n < 512) (h : S.1 12 ≠ 10) : MOk (n + 1) (zu1 S.1 12 (S.1 12 + 1), S.2) :=
  x.of ((x.up hn).s12 (by have := x.1.people; omega)) (zu1_ne (by decide)) (fun i => rfl)
theorem ok_rate (x : MOk n S) (hn : n < 512) {a b c : Int} (h : 0 ≤ a ∧ a ≤ 3 ∧ 0 ≤ b ∧ b ≤ 20000 ∧ 0 ≤ c ∧ c ≤ 100000) (h2 : S.1 20 ≠ 40) : MOk (n + 1) (zu1 S.1 20 (S.1 20 + 1), zu2 (zu2 (zu2 S.2 21 (S.1 20).toNat a) 22 (S.1 20).toNat b) 23 (S.1 20).toNat c) :=
  x.of (((((x.up hn).a21 (by omega)).a22 (by omega)).a23 (by omega)).s20 (by have := x.1.rates; omega)) (zu1_ne (by decide)) (fun i => (zu2_ne (fun q => absurd q.1 (by decide))).trans ((zu2_ne (fun q => absurd q.1 (by decide))).trans (zu2_ne (fun q => absurd q.1 (by decide)))))
theorem ok_vehicle (x : MOk n S) (hn : n < 512) {a b c : Int} (h : 0 ≤ a ∧ a ≤ 9999 ∧ 0 ≤ b ∧ b ≤ S.1 1 ∧ 0 ≤ c ∧ c ≤ 3 ∧ zdigit a < 10) (h2 : S.1 4 ≠ 12) : MOk (n + 1) (zu1 S.1 4 (S.1 4 + 1), zu2 (zu2 (zu2 (zu2 S.2 5 (S.1 4).toNat a) 6 (S.1 4).toNat b) 7 (S.1 4).toNat c) 29 (S.1 4).toNat (b + 1080)) := by
  have e1 := x.1.today
  have e4 := x.1.vehicles
  refine ⟨(((((x.up hn).a5 (by omega)).a6 (by omega)).a7 (by omega)).a29 (by omega)).s4 (by omega), fun i hi => ?_⟩
  have hi : (i : Int) < zu1 S.1 4 (S.1 4 + 1) 4 := hi
  rw [zu1_at] at hi
  have e : zu2 (zu2 (zu2 (zu2 S.2 5 (S.1 4).toNat a) 6 (S.1 4).toNat b) 7 (S.1 4).toNat c) 29 (S.1 4).toNat (b + 1080) 5 i = zu2 S.2 5 (S.1 4).toNat a 5 i := (zu2_ne (fun q => absurd q.1 (by decide))).trans ((zu2_ne (fun q => absurd q.1 (by decide))).trans (zu2_ne (fun q => absurd q.1 (by decide))))
  show zdigit (zu2 (zu2 (zu2 (zu2 S.2 5 (S.1 4).toNat a) 6 (S.1 4).toNat b) 7 (S.1 4).toNat c) 29 (S.1 4).toNat (b + 1080) 5 i) < 10
  rw [e]
  by_cases hq : i = (S.1 4).toNat
  · rw [hq, zu2_at]; exact h.2.2.2.2.2.2
  · rw [zu2_ne (fun q => hq q.2)]
    exact x.2 i (by omega)
theorem ok_pay (x : MOk n S) (hn : n < 512) {u : Nat} {b : Int} (h : 1 ≤ b ∧ b ≤ 1000000) : MOk (n + 1) (S.1, zu2 S.2 24 u (S.2 24 u + b)) :=
  x.of ((x.up hn).a24 (by have := x.1.paid u; omega)) rfl (fun i => zu2_ne (fun q => absurd q.1 (by decide)))
theorem ok_pack {p v d : Int} (hp : 0 ≤ p ∧ p < 67600) (hv : 0 ≤ v ∧ v < 12) (hd : 0 ≤ d ∧ d ≤ 20000) : (0 ≤ zpack p v d ∧ zpack p v d < 1099511627776) ∧ zpack p v d % 131072 < 67600 := by
  unfold zpack; omega
theorem ok_allot (x : MOk n S) (hn : n < 512) {u : Nat} (hu : (u : Int) < S.1 4) (h : znext S < 67600) : MOk (n + 1) (zu1 (zu1 S.1 16 (znext S)) 18 (S.1 18 + 1), zu2 (zu2 S.2 17 ((znext S) / 64).toNat (zset (S.2 17 ((znext S) / 64).toNat) ((znext S) % 64))) 19 (S.1 18).toNat (zpack (znext S) u (S.1 1))) := by
  have e1 := x.1.today
  have e4 := x.1.vehicles
  have e := znext_range x.1
  have e18 := x.1.allotted
  have w := ok_pack (p := znext S) (v := u) (d := S.1 1) (by omega) (by omega) (by omega)
  exact x.of (((((x.up hn).a17 (zset_zQ _ _)).a19 w.1 w.2).s16 (by omega)).s18 (by omega)) ((zu1_ne (by decide)).trans (zu1_ne (by decide))) (fun i => (zu2_ne (fun q => absurd q.1 (by decide))).trans (zu2_ne (fun q => absurd q.1 (by decide))))
theorem ok_wish (x : MOk n S) (hn : n < 512) {u : Nat} (hu : (u : Int) < S.1 4) (h : zplateOK S) : MOk (n + 1) (zu1 (zu1 S.1 2 0) 18 (S.1 18 + 1), zu2 (zu2 S.2 17 ((zplateV S) / 64).toNat (zset (S.2 17 ((zplateV S) / 64).toNat) ((zplateV S) % 64))) 19 (S.1 18).toNat (zpack (zplateV S) u (S.1 1))) := by
  have e1 := x.1.today
  have e4 := x.1.vehicles
  have e18 := x.1.allotted
  have e : 0 ≤ zplateV S ∧ zplateV S < 67600 := by unfold zplateOK at h; unfold zplateV; omega
  have w := ok_pack (p := zplateV S) (v := u) (d := S.1 1) e (by omega) (by omega)
  exact x.of (((((x.up hn).a17 (zset_zQ _ _)).a19 w.1 w.2).s2 (by omega)).s18 (by omega)) ((zu1_ne (by decide)).trans (zu1_ne (by decide))) (fun i => (zu2_ne (fun q => absurd q.1 (by decide))).trans (zu2_ne (fun q => absurd q.1 (by decide))))
theorem ok_fine (x : MOk n S) (hn : n < 512) {s : Nat} {b : Int} (hs : (s : Int) < S.1 31) (hb : 1 ≤ b ∧ b ≤ 100000) (h : S.1 36 ≠ 20) : MOk (n + 1) (zu1 S.1 36 (S.1 36 + 1), zu2 (zu2 (zu2 S.2 37 (S.1 36).toNat s) 38 (S.1 36).toNat b) 39 (S.1 36).toNat (S.1 1)) :=
  x.of (((((x.up hn).a37 (by have := x.1.sightings; omega)).a38 (by omega)).a39 x.1.today).s36 (by have := x.1.fines; omega)) (zu1_ne (by decide)) (fun i => (zu2_ne (fun q => absurd q.1 (by decide))).trans ((zu2_ne (fun q => absurd q.1 (by decide))).trans (zu2_ne (fun q => absurd q.1 (by decide)))))
theorem ok_name (x : MOk n S) (hn : n < 512) {f : Nat} {b : Int} (hb : 0 ≤ b ∧ b < S.1 12) (h : S.2 40 f < 3) : MOk (n + 1) (S.1, zu2 (zu2 (zu2 S.2 40 f (S.2 40 f + 1)) 41 f b) 39 f (S.1 1)) :=
  x.of ((((x.up hn).a40 (by have := x.1.names f; omega)).a41 (by have := x.1.people; omega)).a39 x.1.today) rfl (fun i => (zu2_ne (fun q => absurd q.1 (by decide))).trans ((zu2_ne (fun q => absurd q.1 (by decide))).trans (zu2_ne (fun q => absurd q.1 (by decide)))))
theorem ok_look (x : MOk n S) (hn : n < 512) {p : Nat} : MOk (n + 1) (zu1 S.1 2 0, zu2 S.2 14 p (S.2 14 p + 1)) :=
  x.of (((x.up hn).a14 (by have := x.1.looked p; omega)).s2 (by omega)) (zu1_ne (by decide)) (fun i => zu2_ne (fun q => absurd q.1 (by decide)))
theorem MInv.cp (x : MInv n S) (k : Nat) : ∀ j, MInv n (S.1, zcp S.2 k j)
  | 0 => x
  | j + 1 => by
    have h := x.buffer j
    exact (MInv.cp x k j).a32 h
theorem ok_sight (x : MOk n S) (hn : n < 512) {a c : Int} (h : 0 ≤ a ∧ a ≤ 9 ∧ 0 ≤ c ∧ c ≤ 1439) (h2 : S.1 31 ≠ 40) : MOk (n + 1) (zu1 (zu1 S.1 2 0) 31 (S.1 31 + 1), zu2 (zu2 (zu2 (zcp S.2 (S.1 31).toNat 4) 33 (S.1 31).toNat a) 34 (S.1 31).toNat (S.1 1)) 35 (S.1 31).toNat c) :=
  x.of ((((((MInv.cp (x.up hn) (S.1 31).toNat 4).a33 (by omega)).a34 x.1.today).a35 (by omega)).s2 (by omega)).s31 (by have := x.1.sightings; omega)) ((zu1_ne (by decide)).trans (zu1_ne (by decide))) (fun i => (zu2_ne (fun q => absurd q.1 (by decide))).trans ((zu2_ne (fun q => absurd q.1 (by decide))).trans ((zu2_ne (fun q => absurd q.1 (by decide))).trans (zcp_other (by decide) 4))))
theorem MInv.il (x : MInv n S) (v : Nat) (to t0 : Int) : ∀ j, MInv n (S.1, zil S.2 v to t0 j)
  | 0 => x
  | j + 1 => by
    refine (MInv.il x v to t0 j).a30 ?_
    split
    · exact zset_zQ _ _
    · exact zclr_zQ _ _
theorem zil_5 {ar : Nat → Nat → Int} {v : Nat} {to t0 : Int} (i : Nat) : ∀ j, zil ar v to t0 j 5 i = ar 5 i
  | 0 => rfl
  | j + 1 => (zu2_ne (fun q => absurd q.1 (by decide))).trans (zil_5 i j)
theorem ok_insure (x : MOk n S) (hn : n < 512) {u : Nat} {to t0 : Int} {j : Nat} : MOk (n + 1) (S.1, zil S.2 u to t0 j) :=
  x.of (MInv.il (x.up hn) u to t0 j) rfl (fun i => zil_5 i j)
theorem ok_test (x : MOk n S) (hn : n < 512) {u : Nat} {w gr far B U : Int} (h : ztestOK S u w gr far) (h2 : S.2 25 u ≠ 20) (hB : B = zback S u far) (hU : U = zuntil S u w gr) : MOk (n + 1) (S.1, zu2 (zu2 (zu2 (zu2 (zu2 S.2 28 u (S.2 28 u + B)) 25 u (S.2 25 u + 1)) 26 u w) 27 u far) 29 u U) := by
  have e1 := x.1.today
  have e6 := x.1.built u
  have e25 := x.1.tests u
  have e28 := x.1.back u
  have e29 := x.1.until u
  have e26 := x.1.testDay u
  have hw : 0 ≤ w := by
    have h1 := h.1
    split at h1 <;> omega
  have hb : B = 0 ∨ B = 1 := by subst hB; unfold zback; split <;> simp
  have hu : 0 ≤ U ∧ U ≤ 21080 := by subst hU; have h3 := h.2.1; unfold zuntil; split <;> split <;> omega
  have h3 := h.2
  exact x.of ((((((x.up hn).a28 (by omega)).a25 (by omega)).a26 (by omega)).a27 (by omega)).a29 hu) rfl (fun i => (zu2_ne (fun q => absurd q.1 (by decide))).trans ((zu2_ne (fun q => absurd q.1 (by decide))).trans ((zu2_ne (fun q => absurd q.1 (by decide))).trans ((zu2_ne (fun q => absurd q.1 (by decide))).trans (zu2_ne (fun q => absurd q.1 (by decide)))))))
theorem MOk.sh5 (ar : Nat → Nat → Int) (b a e : Nat) (i : Nat) : zsh ar b a e 5 i = ar 5 i := by unfold zsh; simp
theorem ok_tell (x : MOk n S) (hn : n < 512) {u p : Nat} {K W w : Int} (h8 : S.2 8 u ≠ 30) (hK : 0 ≤ K ∧ K ≤ 7) (hW : 0 ≤ W ∧ W ≤ 9) (hw : 0 ≤ w ∧ w ≤ 20000) : MOk (n + 1) (zins2 S u p K W w) :=
  x.of ((x.up hn).ins u p (by show S.2 8 u < 30; have := x.1.events u; omega) hK hW hw) rfl (fun i => (zu2_ne (fun q => absurd q.1 (by decide))).trans ((zu2_ne (fun q => absurd q.1 (by decide))).trans ((zu2_ne (fun q => absurd q.1 (by decide))).trans ((zu2_ne (fun q => absurd q.1 (by decide))).trans (MOk.sh5 _ _ _ _ i)))))
theorem ok_0 : MOk 0 zS0 := ⟨by
  have hz : ∀ k i, zS0.2 k i = 0 := fun _ _ => rfl
  unfold MInv
  simp only [hz]
  repeat' (first | exact fun _ => by decide | exact fun _ => Or.inl rfl | exact fun _ => ⟨by decide, by decide⟩ | decide | refine ⟨?_, ?_⟩), fun i hi => absurd hi (by show ¬ (i : Int) < 0; omega)⟩
end Okay
