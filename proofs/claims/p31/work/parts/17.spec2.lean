theorem zchg_range {s a its : Int} (h : 0 ≤ s ∧ s ≤ 4) (h2 : 0 ≤ a ∧ a ≤ 4) : (0 ≤ (zchg (s, a) its).1 ∧ (zchg (s, a) its).1 ≤ 4) ∧ (0 ≤ (zchg (s, a) its).2 ∧ (zchg (s, a) its).2 ≤ 4) := by
  unfold zchg
  dsimp only
  split
  · dsimp only; omega
  split
  · dsimp only; omega
  split
  · split <;> (dsimp only; omega)
  split
  · dsimp only; omega
  split
  · dsimp only; omega
  split <;> (dsimp only; omega)
theorem zst_range (S : zS) (v : Nat) : ∀ j, (0 ≤ (zst S v j).1 ∧ (zst S v j).1 ≤ 4) ∧ (0 ≤ (zst S v j).2 ∧ (zst S v j).2 ≤ 4)
  | 0 => by unfold zst; dsimp only; omega
  | j + 1 => by
    unfold zst
    have := zst_range S v j
    exact zchg_range this.1 this.2
theorem zstate_range (S : zS) (v : Nat) (w : Int) : 0 ≤ zstate S v w ∧ zstate S v w ≤ 4 := (zst_range S v _).1
theorem zev_eq {S : zS} {v j : Nat} {w : Int} (hj : (j : Int) ≤ S.2 8 v) (ha : ∀ i, i < j → S.2 11 (30 * v + i) ≤ w) (hs : (j : Int) < S.2 8 v → ¬ S.2 11 (30 * v + j) ≤ w) : zev S v w = j := by
  unfold zev
  exact zpre_eq (by omega) (fun i hi => by simpa using ha i hi) (fun q => by simpa using hs (by omega))
theorem zlat_range {S : zS} {n v : Nat} {its wo : Int} (hI : MInv n S) (hw : -1 ≤ wo ∧ wo ≤ 9) : ∀ j, -1 ≤ zlat S v its wo j ∧ zlat S v its wo j ≤ 9
  | 0 => hw
  | j + 1 => by
    unfold zlat
    have := hI.about (30 * v + j)
    split
    · omega
    · exact zlat_range hI hw j
theorem zlast_range {S : zS} {n v : Nat} {w its wo : Int} (hI : MInv n S) (hw : -1 ≤ wo ∧ wo ≤ 9) : -1 ≤ zlast S v w its wo ∧ zlast S v w its wo ≤ 9 := zlat_range hI hw _
theorem zvof_range {S : zS} {s : Int} : ∀ v, -1 ≤ zvof S s v ∧ zvof S s v < (v : Int) + 1 ∧ zvof S s v ≤ v
  | 0 => by unfold zvof; omega
  | v + 1 => by
    unfold zvof
    have := zvof_range (S := S) (s := s) v
    split <;> omega
theorem zdigit_range (s : Int) : 0 ≤ zdigit s ∧ zdigit s ≤ 10 := by unfold zdigit; omega
