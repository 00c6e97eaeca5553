/-- is a vehicle insured on a day, by its bits -/
def zins (ar : Nat → Nat → Int) (v : Nat) (w : Int) : Bool := zbit (ar 30 (313 * v + (w / 64).toNat)) (w % 64)
/-- the bits behind j days told from t0 on, insured up to the day to -/
def zil (ar : Nat → Nat → Int) (v : Nat) (to t0 : Int) : Nat → Nat → Nat → Int
  | 0 => ar
  | j + 1 => zu2 (zil ar v to t0 j) 30 (313 * v + ((t0 + j) / 64).toNat) (if t0 + j ≤ to then zset (zil ar v to t0 j 30 (313 * v + ((t0 + j) / 64).toNat)) ((t0 + j) % 64) else zclr (zil ar v to t0 j 30 (313 * v + ((t0 + j) / 64).toNat)) ((t0 + j) % 64))
abbrev zok (ar : Nat → Nat → Int) (s : Nat) (p : Int) (k : Nat) : Prop := ar 32 (4 * s + k) = 63 ∨ ar 32 (4 * s + k) = zsign p k
abbrev zagr (ar : Nat → Nat → Int) (s : Nat) (p : Int) : Prop := p ≠ -1 ∧ zok ar s p 0 ∧ zok ar s p 1 ∧ zok ar s p 2 ∧ zok ar s p 3
theorem zagr_no {ar : Nat → Nat → Int} {s : Nat} {p : Int} {j : Nat} (hj : j < 4) (h : zagr ar s p) (h1 : ¬ ar 32 (4 * s + j) = 63) (h2 : ¬ ar 32 (4 * s + j) = zsign p j) : False := by
  obtain ⟨-, a0, a1, a2, a3⟩ := h
  rcases (show j = 0 ∨ j = 1 ∨ j = 2 ∨ j = 3 by omega) with rfl | rfl | rfl | rfl
  · exact a0.elim h1 h2
  · exact a1.elim h1 h2
  · exact a2.elim h1 h2
  · exact a3.elim h1 h2
theorem zagr_yes {ar : Nat → Nat → Int} {s : Nat} {p : Int} (h : p ≠ -1) (ha : ∀ i, i < 4 → zok ar s p i) : zagr ar s p := ⟨h, ha 0 (by omega), ha 1 (by omega), ha 2 (by omega), ha 3 (by omega)⟩
theorem zsign_range {p q : Int} (hp : 0 ≤ p) (h2 : p < 67600) : 0 ≤ zsign p q ∧ zsign p q < 65536 := by
  unfold zsign
  (repeat' split) <;> omega
/-- of which vehicle a sighting is, and of how many -/
def zsb (S : zS) (s : Nat) : Nat → Int × Int
  | 0 => (-1, 0)
  | v + 1 => if zagr S.2 s (zplate S v (S.2 34 s)) then ((v : Int), (zsb S s v).2 + 1) else zsb S s v
theorem zsb_yes {S : zS} {s v : Nat} (h : zagr S.2 s (zplate S v (S.2 34 s))) : zsb S s (v + 1) = ((v : Int), (zsb S s v).2 + 1) := if_pos h
theorem zsb_no {S : zS} {s v : Nat} (h : ¬ zagr S.2 s (zplate S v (S.2 34 s))) : zsb S s (v + 1) = zsb S s v := if_neg h
theorem zsb_range {S : zS} {s : Nat} : ∀ v, (-1 ≤ (zsb S s v).1 ∧ (zsb S s v).1 < v ∨ (zsb S s v).1 = -1) ∧ 0 ≤ (zsb S s v).2 ∧ (zsb S s v).2 ≤ v ∧ (0 < (zsb S s v).2 → 0 ≤ (zsb S s v).1)
  | 0 => by unfold zsb; dsimp only; omega
  | v + 1 => by
    unfold zsb
    have := zsb_range (S := S) (s := s) v
    split
    · dsimp only; omega
    · omega
def zseen (S : zS) (s : Nat) : Int := if (zsb S s (S.1 4).toNat).2 = 1 then (zsb S s (S.1 4).toNat).1 else -1
theorem zseen_range {S : zS} {n s : Nat} (hI : MInv n S) : -1 ≤ zseen S s ∧ zseen S s < 12 ∧ (zseen S s = -1 ∨ 0 ≤ zseen S s ∧ zseen S s < S.1 4) := by
  have e := hI.vehicles
  have := zsb_range (S := S) (s := s) (S.1 4).toNat
  unfold zseen
  split <;> omega
/-- whose a fine is -/
def zwhose (S : zS) (f : Nat) : Int := if 0 < S.2 40 f then S.2 41 f else if zseen S (S.2 37 f).toNat = -1 then -1 else zlast S (zseen S (S.2 37 f).toNat).toNat (S.2 34 (S.2 37 f).toNat) 0 (-1)
theorem zwhose_range {S : zS} {n f : Nat} (hI : MInv n S) : -1 ≤ zwhose S f ∧ zwhose S f ≤ 9 := by
  unfold zwhose
  have h1 := hI.named f
  split
  · omega
  split
  · omega
  · exact zlast_range hI (by omega)
def zsum (S : zS) (p : Int) : Nat → Int
  | 0 => 0
  | f + 1 => zsum S p f + if zwhose S f = p then S.2 38 f else 0
theorem zsum_range {S : zS} {n : Nat} {p : Int} (hI : MInv n S) : ∀ f, 0 ≤ zsum S p f ∧ zsum S p f ≤ 100000 * f
  | 0 => by unfold zsum; omega
  | f + 1 => by
    unfold zsum
    have := zsum_range (p := p) hI f
    have := hI.amount f
    split <;> omega
def zmin (S : zS) (s : Nat) : Int := 1440 * S.2 34 s + S.2 35 s
abbrev zbeh (S : zS) (s o : Nat) : Prop := zmin S o < zmin S s ∨ zmin S s = zmin S o ∧ o < s
theorem zmin_range {S : zS} {n s : Nat} (hI : MInv n S) : 0 ≤ zmin S s ∧ zmin S s ≤ 28801439 := by
  have h1 := hI.sightDay s
  have h2 := hI.minute s
  unfold zmin
  omega
/-- the next sighting of the vehicle behind s among the first j, -1 without -/
def znx (S : zS) (v : Int) (s : Nat) : Nat → Int
  | 0 => -1
  | o + 1 => if (zseen S o = v ∧ zbeh S o s) ∧ (znx S v s o = -1 ∨ zbeh S (znx S v s o).toNat o) then (o : Int) else znx S v s o
theorem znx_range {S : zS} {v : Int} {s : Nat} : ∀ o, -1 ≤ znx S v s o ∧ znx S v s o < o ∨ znx S v s o = -1
  | 0 => by unfold znx; omega
  | o + 1 => by
    unfold znx
    have := znx_range (S := S) (v := v) (s := s) o
    split <;> omega
def zfar (S : zS) (a b : Nat) : Int := if S.2 33 b < S.2 33 a then S.2 33 a - S.2 33 b else S.2 33 b - S.2 33 a
/-- is the sighting s with the next one a clone? -/
def zcl1 (S : zS) (v : Int) (s : Nat) : Int := if zseen S s = v ∧ znx S v s (S.1 31).toNat ≠ -1 ∧ zmin S (znx S v s (S.1 31).toNat).toNat - zmin S s < 10 * zfar S (znx S v s (S.1 31).toNat).toNat s then 1 else 0
def zclones (S : zS) (v : Int) : Nat → Int
  | 0 => 0
  | s + 1 => zclones S v s + zcl1 S v s
/-- the days in the state ROAD and not insured -/
def zgap (S : zS) (v : Nat) : Nat → Int
  | 0 => 0
  | d + 1 => zgap S v d + if zstate S v d = 1 ∧ zins S.2 v d = false then 1 else 0
theorem zgap_range {S : zS} {v : Nat} : ∀ d, 0 ≤ zgap S v d ∧ zgap S v d ≤ d
  | 0 => by unfold zgap; omega
  | d + 1 => by
    unfold zgap
    have := zgap_range (S := S) (v := v) d
    split <;> omega
theorem zfar_pos {S : zS} {a b : Nat} (h : S.2 33 b < S.2 33 a) : zfar S a b = S.2 33 a - S.2 33 b := if_pos h
theorem zfar_neg {S : zS} {a b : Nat} (h : ¬ S.2 33 b < S.2 33 a) : zfar S a b = S.2 33 b - S.2 33 a := if_neg h
theorem znx_yes {S : zS} {v : Int} {s o : Nat} (h : (zseen S o = v ∧ zbeh S o s) ∧ (znx S v s o = -1 ∨ zbeh S (znx S v s o).toNat o)) : znx S v s (o + 1) = (o : Int) := if_pos h
theorem znx_no {S : zS} {v : Int} {s o : Nat} (h : ¬ ((zseen S o = v ∧ zbeh S o s) ∧ (znx S v s o = -1 ∨ zbeh S (znx S v s o).toNat o))) : znx S v s (o + 1) = znx S v s o := if_neg h
theorem zclones_range {S : zS} {v : Int} : ∀ s, 0 ≤ zclones S v s ∧ zclones S v s ≤ s
  | 0 => by unfold zclones; omega
  | s + 1 => by
    unfold zclones zcl1
    have := zclones_range (S := S) (v := v) s
    split <;> omega
abbrev zbuf (S : zS) (k : Nat) : Prop := S.2 3 k = 63 ∨ (if k < 2 then 65 ≤ S.2 3 k ∧ S.2 3 k ≤ 90 else 48 ≤ S.2 3 k ∧ S.2 3 k ≤ 57)
abbrev zsightOK (S : zS) : Prop := S.1 2 = 4 ∧ zbuf S 0 ∧ zbuf S 1 ∧ zbuf S 2 ∧ zbuf S 3
theorem zsight_no {S : zS} {j : Nat} (hj : j < 4) (h : zsightOK S) (h1 : ¬ zbuf S j) : False := by
  obtain ⟨-, a0, a1, a2, a3⟩ := h
  rcases (show j = 0 ∨ j = 1 ∨ j = 2 ∨ j = 3 by omega) with rfl | rfl | rfl | rfl
  · exact h1 a0
  · exact h1 a1
  · exact h1 a2
  · exact h1 a3
theorem zsight_yes {S : zS} (h : S.1 2 = 4) (ha : ∀ i, i < 4 → zbuf S i) : zsightOK S := ⟨h, ha 0 (by omega), ha 1 (by omega), ha 2 (by omega), ha 3 (by omega)⟩
/-- the first j signs of the buffer as those of the sighting n -/
def zcp (ar : Nat → Nat → Int) (n : Nat) : Nat → Nat → Nat → Int
  | 0 => ar
  | j + 1 => zu2 (zcp ar n j) 32 (4 * n + j) (ar 3 j)
theorem zcp_other {ar : Nat → Nat → Int} {n k i : Nat} (hk : k ≠ 32) : ∀ j, zcp ar n j k i = ar k i
  | 0 => rfl
  | j + 1 => by
    unfold zcp
    rw [zu2_ne (fun q => hk q.1)]
    exact zcp_other hk j
abbrev zwordOK (S : zS) (W : Int) (many : Nat) : Prop := S.1 2 = many ∧ ∀ k, k < many → S.2 3 k = 97 + W / 2 ^ (5 * k) % 32
abbrev ztestOK (S : zS) (u : Nat) (w gr far : Int) : Prop := (if S.2 25 u = 0 then S.2 6 u else S.2 26 u) ≤ w ∧ w ≤ S.1 1 ∧ 0 ≤ gr ∧ gr ≤ 2 ∧ 0 ≤ far ∧ far ≤ 10000000
def zback (S : zS) (u : Nat) (far : Int) : Int := if 0 < S.2 25 u ∧ far < S.2 27 u then 1 else 0
def zuntil (S : zS) (u : Nat) (w gr : Int) : Int := if gr = 2 then (if w < S.2 29 u then w else S.2 29 u) else (if S.2 29 u < w + 360 then w + 360 else S.2 29 u)
theorem zst_ar {S S2 : zS} (h : S2.2 = S.2) (v : Nat) : ∀ j, zst S2 v j = zst S v j
  | 0 => rfl
  | j + 1 => by unfold zst; rw [zst_ar h v j, h]
theorem zlat_ar {S S2 : zS} (h : S2.2 = S.2) (v : Nat) (its wo : Int) : ∀ j, zlat S2 v its wo j = zlat S v its wo j
  | 0 => rfl
  | j + 1 => by unfold zlat; rw [zlat_ar h v its wo j, h]
theorem zev_ar {S S2 : zS} (h : S2.2 = S.2) {v : Nat} {w : Int} : zev S2 v w = zev S v w := by unfold zev; rw [h]
theorem zstate_ar {S S2 : zS} (h : S2.2 = S.2) {v : Nat} {w : Int} : zstate S2 v w = zstate S v w := by unfold zstate; rw [zev_ar h, zst_ar h]
theorem zlast_ar {S S2 : zS} (h : S2.2 = S.2) {v : Nat} {w its wo : Int} : zlast S2 v w its wo = zlast S v w its wo := by unfold zlast; rw [zev_ar h, zlat_ar h]
