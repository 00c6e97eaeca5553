/-- what holds of the numbers of a state behind n calls -/
def MInv (n : Nat) (S : zS) : Prop := (0 ≤ S.1 1 ∧ S.1 1 ≤ 20000) ∧ (0 ≤ S.1 2 ∧ S.1 2 ≤ 8) ∧ (0 ≤ S.1 4 ∧ S.1 4 ≤ 12) ∧ (0 ≤ S.1 12 ∧ S.1 12 ≤ 10) ∧ (-1 ≤ S.1 16 ∧ S.1 16 < 67600) ∧ (0 ≤ S.1 18 ∧ S.1 18 ≤ n) ∧ (0 ≤ S.1 20 ∧ S.1 20 ≤ 40) ∧ (0 ≤ S.1 31 ∧ S.1 31 ≤ 40) ∧ (0 ≤ S.1 36 ∧ S.1 36 ≤ 20) ∧ (∀ i, 0 ≤ S.2 3 i ∧ S.2 3 i < 65536) ∧ (∀ i, 0 ≤ S.2 5 i ∧ S.2 5 i ≤ 9999) ∧ (∀ i, 0 ≤ S.2 6 i ∧ S.2 6 i ≤ 20000) ∧ (∀ i, 0 ≤ S.2 7 i ∧ S.2 7 i ≤ 3) ∧ (∀ i, 0 ≤ S.2 8 i ∧ S.2 8 i ≤ 30) ∧ (∀ i, 0 ≤ S.2 9 i ∧ S.2 9 i ≤ 7) ∧ (∀ i, 0 ≤ S.2 10 i ∧ S.2 10 i ≤ 9) ∧ (∀ i, 0 ≤ S.2 11 i ∧ S.2 11 i ≤ 20000) ∧ (∀ i, S.2 13 i = 0 ∨ S.2 13 i = 1) ∧ (∀ i, 0 ≤ S.2 14 i ∧ S.2 14 i ≤ n) ∧ (∀ i, S.2 15 i = 0 ∨ S.2 15 i = 1) ∧ (∀ i, zQ (S.2 17 i)) ∧ (∀ i, 0 ≤ S.2 19 i ∧ S.2 19 i < 1099511627776) ∧ (∀ i, S.2 19 i % 131072 < 67600) ∧ (∀ i, 0 ≤ S.2 21 i ∧ S.2 21 i ≤ 3) ∧ (∀ i, 0 ≤ S.2 22 i ∧ S.2 22 i ≤ 20000) ∧ (∀ i, 0 ≤ S.2 23 i ∧ S.2 23 i ≤ 100000) ∧ (∀ i, 0 ≤ S.2 24 i ∧ S.2 24 i ≤ 1000000 * n) ∧ (∀ i, 0 ≤ S.2 25 i ∧ S.2 25 i ≤ 20) ∧ (∀ i, 0 ≤ S.2 26 i ∧ S.2 26 i ≤ 20000) ∧ (∀ i, 0 ≤ S.2 27 i ∧ S.2 27 i ≤ 10000000) ∧ (∀ i, 0 ≤ S.2 28 i ∧ S.2 28 i ≤ n) ∧ (∀ i, 0 ≤ S.2 29 i ∧ S.2 29 i ≤ 21080) ∧ (∀ i, zQ (S.2 30 i)) ∧ (∀ i, 0 ≤ S.2 32 i ∧ S.2 32 i < 65536) ∧ (∀ i, 0 ≤ S.2 33 i ∧ S.2 33 i ≤ 9) ∧ (∀ i, 0 ≤ S.2 34 i ∧ S.2 34 i ≤ 20000) ∧ (∀ i, 0 ≤ S.2 35 i ∧ S.2 35 i ≤ 1439) ∧ (∀ i, 0 ≤ S.2 37 i ∧ S.2 37 i ≤ 39) ∧ (∀ i, 0 ≤ S.2 38 i ∧ S.2 38 i ≤ 100000) ∧ (∀ i, 0 ≤ S.2 39 i ∧ S.2 39 i ≤ 20000) ∧ (∀ i, 0 ≤ S.2 40 i ∧ S.2 40 i ≤ 3) ∧ (∀ i, 0 ≤ S.2 41 i ∧ S.2 41 i ≤ 9) ∧ (n ≤ 512)
theorem MInv.today {n : Nat} {S : zS} (x : MInv n S) : 0 ≤ S.1 1 ∧ S.1 1 ≤ 20000 := x.1
theorem MInv.signs {n : Nat} {S : zS} (x : MInv n S) : 0 ≤ S.1 2 ∧ S.1 2 ≤ 8 := x.2.1
theorem MInv.vehicles {n : Nat} {S : zS} (x : MInv n S) : 0 ≤ S.1 4 ∧ S.1 4 ≤ 12 := x.2.2.1
theorem MInv.people {n : Nat} {S : zS} (x : MInv n S) : 0 ≤ S.1 12 ∧ S.1 12 ≤ 10 := x.2.2.2.1
theorem MInv.series {n : Nat} {S : zS} (x : MInv n S) : -1 ≤ S.1 16 ∧ S.1 16 < 67600 := x.2.2.2.2.1
theorem MInv.allotted {n : Nat} {S : zS} (x : MInv n S) : 0 ≤ S.1 18 ∧ S.1 18 ≤ n := x.2.2.2.2.2.1
theorem MInv.rates {n : Nat} {S : zS} (x : MInv n S) : 0 ≤ S.1 20 ∧ S.1 20 ≤ 40 := x.2.2.2.2.2.2.1
theorem MInv.sightings {n : Nat} {S : zS} (x : MInv n S) : 0 ≤ S.1 31 ∧ S.1 31 ≤ 40 := x.2.2.2.2.2.2.2.1
theorem MInv.fines {n : Nat} {S : zS} (x : MInv n S) : 0 ≤ S.1 36 ∧ S.1 36 ≤ 20 := x.2.2.2.2.2.2.2.2.1
theorem MInv.buffer {n : Nat} {S : zS} (x : MInv n S) : ∀ i, 0 ≤ S.2 3 i ∧ S.2 3 i < 65536 := x.2.2.2.2.2.2.2.2.2.1
theorem MInv.serial {n : Nat} {S : zS} (x : MInv n S) : ∀ i, 0 ≤ S.2 5 i ∧ S.2 5 i ≤ 9999 := x.2.2.2.2.2.2.2.2.2.2.1
theorem MInv.built {n : Nat} {S : zS} (x : MInv n S) : ∀ i, 0 ≤ S.2 6 i ∧ S.2 6 i ≤ 20000 := x.2.2.2.2.2.2.2.2.2.2.2.1
theorem MInv.ofClass {n : Nat} {S : zS} (x : MInv n S) : ∀ i, 0 ≤ S.2 7 i ∧ S.2 7 i ≤ 3 := x.2.2.2.2.2.2.2.2.2.2.2.2.1
theorem MInv.events {n : Nat} {S : zS} (x : MInv n S) : ∀ i, 0 ≤ S.2 8 i ∧ S.2 8 i ≤ 30 := x.2.2.2.2.2.2.2.2.2.2.2.2.2.1
theorem MInv.kind {n : Nat} {S : zS} (x : MInv n S) : ∀ i, 0 ≤ S.2 9 i ∧ S.2 9 i ≤ 7 := x.2.2.2.2.2.2.2.2.2.2.2.2.2.2.1
theorem MInv.about {n : Nat} {S : zS} (x : MInv n S) : ∀ i, 0 ≤ S.2 10 i ∧ S.2 10 i ≤ 9 := x.2.2.2.2.2.2.2.2.2.2.2.2.2.2.2.1
theorem MInv.day {n : Nat} {S : zS} (x : MInv n S) : ∀ i, 0 ≤ S.2 11 i ∧ S.2 11 i ≤ 20000 := x.2.2.2.2.2.2.2.2.2.2.2.2.2.2.2.2.1
theorem MInv.prot {n : Nat} {S : zS} (x : MInv n S) : ∀ i, S.2 13 i = 0 ∨ S.2 13 i = 1 := x.2.2.2.2.2.2.2.2.2.2.2.2.2.2.2.2.2.1
theorem MInv.looked {n : Nat} {S : zS} (x : MInv n S) : ∀ i, 0 ≤ S.2 14 i ∧ S.2 14 i ≤ n := x.2.2.2.2.2.2.2.2.2.2.2.2.2.2.2.2.2.2.1
theorem MInv.barred {n : Nat} {S : zS} (x : MInv n S) : ∀ i, S.2 15 i = 0 ∨ S.2 15 i = 1 := x.2.2.2.2.2.2.2.2.2.2.2.2.2.2.2.2.2.2.2.1
theorem MInv.given {n : Nat} {S : zS} (x : MInv n S) : ∀ i, zQ (S.2 17 i) := x.2.2.2.2.2.2.2.2.2.2.2.2.2.2.2.2.2.2.2.2.1
theorem MInv.plate {n : Nat} {S : zS} (x : MInv n S) : ∀ i, 0 ≤ S.2 19 i ∧ S.2 19 i < 1099511627776 := x.2.2.2.2.2.2.2.2.2.2.2.2.2.2.2.2.2.2.2.2.2.1
theorem MInv.plateP {n : Nat} {S : zS} (x : MInv n S) : ∀ i, S.2 19 i % 131072 < 67600 := x.2.2.2.2.2.2.2.2.2.2.2.2.2.2.2.2.2.2.2.2.2.2.1
theorem MInv.rateClass {n : Nat} {S : zS} (x : MInv n S) : ∀ i, 0 ≤ S.2 21 i ∧ S.2 21 i ≤ 3 := x.2.2.2.2.2.2.2.2.2.2.2.2.2.2.2.2.2.2.2.2.2.2.2.1
theorem MInv.rateFrom {n : Nat} {S : zS} (x : MInv n S) : ∀ i, 0 ≤ S.2 22 i ∧ S.2 22 i ≤ 20000 := x.2.2.2.2.2.2.2.2.2.2.2.2.2.2.2.2.2.2.2.2.2.2.2.2.1
theorem MInv.rateIs {n : Nat} {S : zS} (x : MInv n S) : ∀ i, 0 ≤ S.2 23 i ∧ S.2 23 i ≤ 100000 := x.2.2.2.2.2.2.2.2.2.2.2.2.2.2.2.2.2.2.2.2.2.2.2.2.2.1
theorem MInv.paid {n : Nat} {S : zS} (x : MInv n S) : ∀ i, 0 ≤ S.2 24 i ∧ S.2 24 i ≤ 1000000 * n := x.2.2.2.2.2.2.2.2.2.2.2.2.2.2.2.2.2.2.2.2.2.2.2.2.2.2.1
theorem MInv.tests {n : Nat} {S : zS} (x : MInv n S) : ∀ i, 0 ≤ S.2 25 i ∧ S.2 25 i ≤ 20 := x.2.2.2.2.2.2.2.2.2.2.2.2.2.2.2.2.2.2.2.2.2.2.2.2.2.2.2.1
theorem MInv.testDay {n : Nat} {S : zS} (x : MInv n S) : ∀ i, 0 ≤ S.2 26 i ∧ S.2 26 i ≤ 20000 := x.2.2.2.2.2.2.2.2.2.2.2.2.2.2.2.2.2.2.2.2.2.2.2.2.2.2.2.2.1
theorem MInv.mileage {n : Nat} {S : zS} (x : MInv n S) : ∀ i, 0 ≤ S.2 27 i ∧ S.2 27 i ≤ 10000000 := x.2.2.2.2.2.2.2.2.2.2.2.2.2.2.2.2.2.2.2.2.2.2.2.2.2.2.2.2.2.1
theorem MInv.back {n : Nat} {S : zS} (x : MInv n S) : ∀ i, 0 ≤ S.2 28 i ∧ S.2 28 i ≤ n := x.2.2.2.2.2.2.2.2.2.2.2.2.2.2.2.2.2.2.2.2.2.2.2.2.2.2.2.2.2.2.1
theorem MInv.until {n : Nat} {S : zS} (x : MInv n S) : ∀ i, 0 ≤ S.2 29 i ∧ S.2 29 i ≤ 21080 := x.2.2.2.2.2.2.2.2.2.2.2.2.2.2.2.2.2.2.2.2.2.2.2.2.2.2.2.2.2.2.2.1
theorem MInv.insured {n : Nat} {S : zS} (x : MInv n S) : ∀ i, zQ (S.2 30 i) := x.2.2.2.2.2.2.2.2.2.2.2.2.2.2.2.2.2.2.2.2.2.2.2.2.2.2.2.2.2.2.2.2.1
theorem MInv.seenSigns {n : Nat} {S : zS} (x : MInv n S) : ∀ i, 0 ≤ S.2 32 i ∧ S.2 32 i < 65536 := x.2.2.2.2.2.2.2.2.2.2.2.2.2.2.2.2.2.2.2.2.2.2.2.2.2.2.2.2.2.2.2.2.2.1
theorem MInv.place {n : Nat} {S : zS} (x : MInv n S) : ∀ i, 0 ≤ S.2 33 i ∧ S.2 33 i ≤ 9 := x.2.2.2.2.2.2.2.2.2.2.2.2.2.2.2.2.2.2.2.2.2.2.2.2.2.2.2.2.2.2.2.2.2.2.1
theorem MInv.sightDay {n : Nat} {S : zS} (x : MInv n S) : ∀ i, 0 ≤ S.2 34 i ∧ S.2 34 i ≤ 20000 := x.2.2.2.2.2.2.2.2.2.2.2.2.2.2.2.2.2.2.2.2.2.2.2.2.2.2.2.2.2.2.2.2.2.2.2.1
theorem MInv.minute {n : Nat} {S : zS} (x : MInv n S) : ∀ i, 0 ≤ S.2 35 i ∧ S.2 35 i ≤ 1439 := x.2.2.2.2.2.2.2.2.2.2.2.2.2.2.2.2.2.2.2.2.2.2.2.2.2.2.2.2.2.2.2.2.2.2.2.2.1
theorem MInv.fineSight {n : Nat} {S : zS} (x : MInv n S) : ∀ i, 0 ≤ S.2 37 i ∧ S.2 37 i ≤ 39 := x.2.2.2.2.2.2.2.2.2.2.2.2.2.2.2.2.2.2.2.2.2.2.2.2.2.2.2.2.2.2.2.2.2.2.2.2.2.1
theorem MInv.amount {n : Nat} {S : zS} (x : MInv n S) : ∀ i, 0 ≤ S.2 38 i ∧ S.2 38 i ≤ 100000 := x.2.2.2.2.2.2.2.2.2.2.2.2.2.2.2.2.2.2.2.2.2.2.2.2.2.2.2.2.2.2.2.2.2.2.2.2.2.2.1
theorem MInv.since {n : Nat} {S : zS} (x : MInv n S) : ∀ i, 0 ≤ S.2 39 i ∧ S.2 39 i ≤ 20000 := x.2.2.2.2.2.2.2.2.2.2.2.2.2.2.2.2.2.2.2.2.2.2.2.2.2.2.2.2.2.2.2.2.2.2.2.2.2.2.2.1
theorem MInv.names {n : Nat} {S : zS} (x : MInv n S) : ∀ i, 0 ≤ S.2 40 i ∧ S.2 40 i ≤ 3 := x.2.2.2.2.2.2.2.2.2.2.2.2.2.2.2.2.2.2.2.2.2.2.2.2.2.2.2.2.2.2.2.2.2.2.2.2.2.2.2.2.1
theorem MInv.named {n : Nat} {S : zS} (x : MInv n S) : ∀ i, 0 ≤ S.2 41 i ∧ S.2 41 i ≤ 9 := x.2.2.2.2.2.2.2.2.2.2.2.2.2.2.2.2.2.2.2.2.2.2.2.2.2.2.2.2.2.2.2.2.2.2.2.2.2.2.2.2.2.1
theorem MInv.calls {n : Nat} {S : zS} (x : MInv n S) : n ≤ 512 := x.2.2.2.2.2.2.2.2.2.2.2.2.2.2.2.2.2.2.2.2.2.2.2.2.2.2.2.2.2.2.2.2.2.2.2.2.2.2.2.2.2.2
/-- how many of the first n places, from the first one on, hold P -/
def zpre (P : Nat → Bool) : Nat → Nat
  | 0 => 0
  | n + 1 => if zpre P n = n ∧ P n = true then n + 1 else zpre P n
theorem zpre_le (P : Nat → Bool) : ∀ n, zpre P n ≤ n
  | 0 => Nat.le_refl _
  | n + 1 => by unfold zpre; have := zpre_le P n; split <;> omega
theorem zpre_all (P : Nat → Bool) : ∀ n j, j < zpre P n → P j = true
  | 0, j, h => by simp [zpre] at h
  | n + 1, j, h => by
    unfold zpre at h
    split at h
    · rename_i hc
      by_cases hj : j = n
      · subst hj; exact hc.2
      · exact zpre_all P n j (by omega)
    · exact zpre_all P n j h
theorem zpre_stop (P : Nat → Bool) : ∀ n, zpre P n < n → P (zpre P n) = false
  | 0, h => by simp at h
  | n + 1, h => by
    unfold zpre at h ⊢
    split at h
    · omega
    · rename_i hc
      rw [if_neg hc]
      by_cases hn : zpre P n = n
      · rw [hn]
        cases hp : P n with
        | false => rfl
        | true => exact absurd ⟨hn, hp⟩ hc
      · exact zpre_stop P n (by have := zpre_le P n; omega)
theorem zpre_eq {P : Nat → Bool} {n j : Nat} (hj : j ≤ n) (ha : ∀ i, i < j → P i = true) (hs : j < n → P j = false) : zpre P n = j := by
  rcases Nat.lt_trichotomy (zpre P n) j with q | q | q
  · have := zpre_stop P n (by omega)
    rw [ha _ q] at this; cases this
  · exact q
  · have h1 := zpre_all P n j q
    have h2 := zpre_le P n
    rw [hs (by omega)] at h1; cases h1
/-- an event changes the state: the state, and what it was ahead of the theft -/
def zchg (q : Int × Int) (its : Int) : Int × Int := if q.1 = 4 then q else if its = 6 then (4, q.2) else if q.1 = 3 then (if its = 5 then (q.2, q.2) else q) else if its = 4 then (3, q.1) else if its = 2 then (1, q.2) else if its = 3 then (2, q.2) else q
def zst (S : zS) (v : Nat) : Nat → Int × Int
  | 0 => (0, 0)
  | j + 1 => zchg (zst S v j) (S.2 9 (30 * v + j))
def zlat (S : zS) (v : Nat) (its wo : Int) : Nat → Int
  | 0 => wo
  | j + 1 => if S.2 9 (30 * v + j) = its then S.2 10 (30 * v + j) else zlat S v its wo j
/-- how many events of a vehicle are of days up to w -/
def zev (S : zS) (v : Nat) (w : Int) : Nat := zpre (fun j => decide (S.2 11 (30 * v + j) ≤ w)) (S.2 8 v).toNat
def zstate (S : zS) (v : Nat) (w : Int) : Int := (zst S v (zev S v w)).1
def zlast (S : zS) (v : Nat) (w its wo : Int) : Int := zlat S v its wo (zev S v w)
def zdigit (s : Int) : Int := (s / 1000 * 2 + s / 100 % 10 * 3 + s / 10 % 10 * 4 + s % 10 * 5) % 11
/-- the vehicle of a serial, the last one of several -/
def zvof (S : zS) (s : Int) : Nat → Int
  | 0 => -1
  | v + 1 => if S.2 5 v = s then (v : Int) else zvof S s v
def zsign (p : Int) (k : Int) : Int := if k = 0 then 65 + p / 2600 else if k = 1 then 65 + p / 100 % 26 else if k = 2 then 48 + p / 10 % 10 else 48 + p % 10
