/-- may the plate p be allotted? -/
def zfree (ar : Nat → Nat → Int) (p : Int) : Prop := zbit (ar 17 (p / 64).toNat) (p % 64) = false ∧ ar 15 (p / 100).toNat = 0
def zfreeB (ar : Nat → Nat → Int) (p : Int) : Bool := !zbit (ar 17 (p / 64).toNat) (p % 64) && decide (ar 15 (p / 100).toNat = 0)
theorem zfreeB_iff {ar : Nat → Nat → Int} {p : Int} : zfreeB ar p = true ↔ zfree ar p := by unfold zfreeB zfree; simp
/-- the series' next plate, 67600 if none is left -/
def znext (S : zS) : Int := S.1 16 + 1 + (zpre (fun j => !zfreeB S.2 (S.1 16 + 1 + j)) (67600 - (S.1 16 + 1)).toNat : Nat)
def zplateOK (S : zS) : Prop := S.1 2 = 4 ∧ (65 ≤ S.2 3 0 ∧ S.2 3 0 ≤ 90) ∧ (65 ≤ S.2 3 1 ∧ S.2 3 1 ≤ 90) ∧ (48 ≤ S.2 3 2 ∧ S.2 3 2 ≤ 57) ∧ (48 ≤ S.2 3 3 ∧ S.2 3 3 ≤ 57)
def zplateV (S : zS) : Int := 100 * (26 * (S.2 3 0 - 65) + S.2 3 1 - 65) + 10 * (S.2 3 2 - 48) + S.2 3 3 - 48
def zpo (ar : Nat → Nat → Int) (v w : Int) : Nat → Int
  | 0 => -1
  | k + 1 => if ar 19 k / 131072 % 16 = v ∧ ar 19 k / 2097152 ≤ w then ar 19 k % 131072 else zpo ar v w k
/-- the plate of a vehicle on a day -/
def zplate (S : zS) (v w : Int) : Int := zpo S.2 v w (S.1 18).toNat
theorem zsign_nar {p q : Int} (hp : 0 ≤ p) (h2 : p < 67600) : narrow .char (.int (zI (zsign p q))) = .int (zI (zsign p q)) := by
  refine z_nchar ?_ ?_ <;> (unfold zsign; repeat' split) <;> omega
theorem zpo_range {ar : Nat → Nat → Int} {v w : Int} (h : ∀ i, 0 ≤ ar 19 i ∧ ar 19 i < 1099511627776) : ∀ k, -1 ≤ zpo ar v w k ∧ zpo ar v w k < 131072
  | 0 => by unfold zpo; omega
  | k + 1 => by
    unfold zpo
    have := h k
    have := zpo_range (v := v) (w := w) h k
    split <;> omega
theorem zplate_lt {S : zS} {n : Nat} {v w : Int} (hI : MInv n S) : zplate S v w < 67600 := by
  have h : ∀ k, zpo S.2 v w k < 67600 := by
    intro k
    induction k with
    | zero => unfold zpo; omega
    | succ k ih =>
      unfold zpo
      have := hI.plateP k
      split <;> omega
  exact h _
theorem zplate_range {S : zS} {n : Nat} {v w : Int} (hI : MInv n S) : -1 ≤ zplate S v w ∧ zplate S v w < 67600 := ⟨(zpo_range hI.plate _).1, zplate_lt hI⟩
/-- the rate of a class on a day: from which day it holds, what it is -/
def zro (ar : Nat → Nat → Int) (c w : Int) : Nat → Int × Int
  | 0 => (-1, 0)
  | k + 1 => if ar 21 k = c ∧ ar 22 k ≤ w ∧ (zro ar c w k).1 ≤ ar 22 k then (ar 22 k, ar 23 k) else zro ar c w k
def zrate (S : zS) (c w : Int) : Int := (zro S.2 c w (S.1 20).toNat).2
theorem zro_range {S : zS} {n : Nat} {c w : Int} (hI : MInv n S) : ∀ k, (-1 ≤ (zro S.2 c w k).1 ∧ (zro S.2 c w k).1 ≤ 20000) ∧ (0 ≤ (zro S.2 c w k).2 ∧ (zro S.2 c w k).2 ≤ 100000)
  | 0 => by unfold zro; dsimp only; omega
  | k + 1 => by
    unfold zro
    have h1 := hI.rateFrom k
    have h2 := hI.rateIs k
    have := zro_range (c := c) (w := w) hI k
    split
    · dsimp only; omega
    · exact this
theorem zrate_range {S : zS} {n : Nat} {c w : Int} (hI : MInv n S) : 0 ≤ zrate S c w ∧ zrate S c w ≤ 100000 := (zro_range hI _).2
def ztax (S : zS) (v : Nat) (w : Int) : Int := if zstate S v w = 1 then zrate S (zlast S v w 7 (S.2 7 v)) w else 0
theorem ztax_range {S : zS} {n v : Nat} {w : Int} (hI : MInv n S) : 0 ≤ ztax S v w ∧ ztax S v w ≤ 100000 := by
  unfold ztax
  have := zrate_range (c := zlast S v w 7 (S.2 7 v)) (w := w) hI
  split <;> omega
def zmon (S : zS) (v : Nat) : Nat → Int
  | 0 => 0
  | j + 1 => zmon S v j + ztax S v (30 * j)
theorem zmon_range {S : zS} {n v : Nat} (hI : MInv n S) : ∀ j, 0 ≤ zmon S v j ∧ zmon S v j ≤ 100000 * j
  | 0 => by unfold zmon; omega
  | j + 1 => by
    unfold zmon
    have := zmon_range (v := v) hI j
    have := ztax_range (v := v) (w := 30 * j) hI
    omega
def zowed (S : zS) (v : Nat) : Int := zmon S v (S.1 1 / 30 + 1).toNat - S.2 24 v
/-- where an event of the day w goes in among the first e -/
def zpos (ar : Nat → Nat → Int) (b : Nat) (w : Int) : Nat → Nat
  | 0 => 0
  | e + 1 => if w < ar 11 (b + e) then zpos ar b w e else e + 1
theorem zpos_le {ar : Nat → Nat → Int} {b : Nat} {w : Int} : ∀ e, zpos ar b w e ≤ e
  | 0 => Nat.le_refl _
  | e + 1 => by unfold zpos; have := zpos_le (ar := ar) (b := b) (w := w) e; split <;> omega
/-- the rows of events behind the place b + a, up to b + e, one place on -/
def zsh (ar : Nat → Nat → Int) (b a e : Nat) : Nat → Nat → Int := fun k i => if (k = 9 ∨ k = 10 ∨ k = 11) ∧ b + a < i ∧ i ≤ b + e then ar k (i - 1) else ar k i
theorem zsh_0 {ar : Nat → Nat → Int} {b e : Nat} : zsh ar b e e = ar := by
  funext k i
  unfold zsh
  rw [if_neg (by omega)]
theorem zsh_lo {ar : Nat → Nat → Int} {b a e k i : Nat} (h : i ≤ b + a) : zsh ar b a e k i = ar k i := by
  unfold zsh
  rw [if_neg (by omega)]
theorem zsh_other {ar : Nat → Nat → Int} {b a e k i : Nat} (h : ¬ (k = 9 ∨ k = 10 ∨ k = 11)) : zsh ar b a e k i = ar k i := by
  unfold zsh
  rw [if_neg (fun q => h q.1)]
theorem zsh_step {ar : Nat → Nat → Int} {b a e : Nat} (h : a + 1 ≤ e) : zu2 (zu2 (zu2 (zsh ar b (a + 1) e) 9 (b + (a + 1)) (ar 9 (b + a))) 10 (b + (a + 1)) (ar 10 (b + a))) 11 (b + (a + 1)) (ar 11 (b + a)) = zsh ar b a e := by
  funext k i
  unfold zsh zu2
  by_cases h1 : i = b + (a + 1)
  · subst h1
    have e1 : b + (a + 1) - 1 = b + a := by omega
    by_cases k9 : k = 9
    · subst k9; simp [e1]; omega
    by_cases k10 : k = 10
    · subst k10; simp [e1]; omega
    by_cases k11 : k = 11
    · subst k11; simp [e1]; omega
    · simp [k9, k10, k11]
  · simp only [h1, and_false, if_false]
    by_cases hk : k = 9 ∨ k = 10 ∨ k = 11
    · by_cases h2 : b + a < i ∧ i ≤ b + e
      · rw [if_pos (by omega), if_pos (by omega)]
      · rw [if_neg (by omega), if_neg (by omega)]
    · rw [if_neg (fun q => hk q.1), if_neg (fun q => hk q.1)]
theorem znext_eq {S : zS} {n j : Nat} {a : Int} (hI : MInv n S) (ha : a = S.1 16 + 1 + j) (hj : a ≤ 67600) (hall : ∀ i, i < j → (fun i : Nat => !zfreeB S.2 (S.1 16 + 1 + i)) i = true) (hs : a < 67600 → zfree S.2 a) : znext S = a := by
  have e1 := hI.series
  unfold znext
  rw [zpre_eq (j := j) (by omega) hall (fun q => ?_)]
  · omega
  · have := zfreeB_iff.mpr (hs (by omega))
    rw [ha] at this
    simp [this]
theorem znext_range {S : zS} {n : Nat} (hI : MInv n S) : 0 ≤ znext S ∧ znext S ≤ 67600 := by
  have e1 := hI.series
  have := zpre_le (fun j => !zfreeB S.2 (S.1 16 + 1 + j)) (67600 - (S.1 16 + 1)).toNat
  unfold znext
  omega
