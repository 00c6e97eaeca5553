theorem zgap_eq {S : zS} {v : Nat} : ∀ d : Nat, zgap S v d = zds (fun w => if zstate S v w = 1 ∧ zins S.2 v w = false then 1 else 0) 0 d
  | 0 => rfl
  | d + 1 => by
    unfold zgap zds
    rw [zgap_eq d]
    simp
theorem zmon_eq {S : zS} {v : Nat} : ∀ k : Nat, zds (fun w => if w % 30 = 0 then ztax S v w else 0) 0 (30 * k) = zmon S v k
  | 0 => rfl
  | k + 1 => by
    rw [show 30 * (k + 1) = 30 * k + (1 + 29) by omega, zds_add, zmon_eq k, zds_add, zds_zero 29 (fun i hi => if_neg (by omega))]
    have e : zds (fun w => if w % 30 = 0 then ztax S v w else 0) (0 + ((30 * k : Nat) : Int)) 1 = ztax S v (30 * k) := by
      show 0 + (if (0 + ((30 * k : Nat) : Int) + ((0 : Nat) : Int)) % 30 = 0 then ztax S v (0 + ((30 * k : Nat) : Int) + ((0 : Nat) : Int)) else 0) = _
      rw [if_pos (by omega), show (0 + ((30 * k : Nat) : Int) + ((0 : Nat) : Int)) = 30 * (k : Int) by omega]
      omega
    rw [e]
    show _ = zmon S v k + ztax S v (30 * (k : Int))
    omega
theorem zmon_eq2 {S : zS} {v : Nat} {T : Int} (h0 : 0 ≤ T) : zds (fun w => if w % 30 = 0 then ztax S v w else 0) 0 (T + 1).toNat = zmon S v (T / 30 + 1).toNat := by
  rw [← zmon_eq]
  have h1 := zds_split (f := fun w => if w % 30 = 0 then ztax S v w else 0) (a := 0) (b := T + 1) (c := 30 * (T / 30 + 1)) (by omega) (by omega)
  rw [zds_zero (30 * (T / 30 + 1) - (T + 1)).toNat (fun i hi => if_neg (by omega))] at h1
  rw [show 30 * (T / 30 + 1).toNat = (30 * (T / 30 + 1) - 0).toNat by omega, h1, show (T + 1).toNat = (T + 1 - 0).toNat by omega]
  omega
/-- what daysReached has counted behind its first j rows -/
def zdr (F V : Nat → Int) (c : Nat) (a b : Int) : Nat → Int
  | 0 => 0
  | j + 1 => zdr F V c a b j + (fun last : Int => (fun m : Int => if (0 : Int) < m then m else 0) ((if b < last then b else last) - (if F j < a then a else F j) + 1)) (if (if j + 1 < c then F (j + 1) - 1 else b) < V j then (if j + 1 < c then F (j + 1) - 1 else b) else V j)
def zKb (F : Nat → Int) (c : Nat) (a b : Int) (j : Nat) : Int := if zB F c b j < a then a else if b + 1 < zB F c b j then b + 1 else zB F c b j
theorem zdr_eq {F V : Nat → Int} {c n : Nat} (ok : CoOK F V c n) {a b : Int} (hab : a ≤ b) (ha : 0 ≤ a) : ∀ j, j ≤ c → zdr F V c a b j = zds (fun w => if w ≤ (zcp1 F V (-1) w c).2 then 1 else 0) a (zKb F c a b j - a).toNat
  | 0, _ => by
    rw [zds_zero _ fun i hi => ?_]
    · rfl
    · show (if a + (i : Int) ≤ (zcp1 F V (-1) (a + (i : Int)) c).2 then (1 : Int) else 0) = 0
      rw [zcp1_none c (fun k hk => ?_)]
      · exact if_neg (by show ¬ a + (i : Int) ≤ -1; omega)
      · have h1 : F 0 ≤ F k := by
          by_cases hk0 : k = 0
          · subst hk0; omega
          · have := ok.1 0 k (by omega) hk; omega
        unfold zKb zB at hi
        rw [if_pos (by omega : 0 < c)] at hi
        split at hi
        · omega
        · split at hi <;> omega
  | j + 1, h => by
    have hj : j < c := by omega
    have hF := ok.2.1 j hj
    have hB : zB F c b j = F j := if_pos hj
    have hB2 : zB F c b (j + 1) = if j + 1 < c then F (j + 1) else b + 1 := rfl
    have hs : j + 1 < c → F j < F (j + 1) := fun q => ok.1 j (j + 1) (by omega) q
    have hK1 : a ≤ zKb F c a b j := by unfold zKb; split; omega; split <;> omega
    have hK2 : zKb F c a b j ≤ zKb F c a b (j + 1) := by
      unfold zKb
      rw [hB, hB2]
      repeat' split
      all_goals omega
    rw [zds_split hK1 hK2, ← zdr_eq ok hab ha j (by omega)]
    rw [zds_upto (v := V j) (zKb F c a b (j + 1) - zKb F c a b j).toNat (fun i hi => ?_)]
    · show zdr F V c a b j + _ = zdr F V c a b j + _
      refine congrArg (fun x => zdr F V c a b j + x) ?_
      dsimp only
      unfold zKb
      rw [hB, hB2]
      by_cases hc : j + 1 < c
      · have := hs hc
        simp only [if_pos hc]
        repeat' split
        all_goals omega
      · simp only [if_neg hc]
        repeat' split
        all_goals omega
    · show (if _ ≤ (zcp1 F V (-1) (zKb F c a b j + (i : Int)) c).2 then (1 : Int) else 0) = _
      rw [zcp1_eq (i := j) ?_ c hj (fun k h1 h2 => ?_)]
      · unfold zKb at hi ⊢
        rw [hB, hB2] at hi
        rw [hB]
        revert hi
        repeat' split
        all_goals omega
      · have h3 : F (j + 1) ≤ F k := by
          by_cases hk0 : k = j + 1
          · subst hk0; omega
          · have := ok.1 (j + 1) k (by omega) h2; omega
        have hc : j + 1 < c := by omega
        unfold zKb at hi ⊢
        rw [hB, hB2, if_pos hc] at hi
        rw [hB]
        revert hi
        repeat' split
        all_goals omega
theorem zdr_all {F V : Nat → Int} {c n : Nat} (ok : CoOK F V c n) {a b : Int} (hab : a ≤ b) (ha : 0 ≤ a) : zdr F V c a b c = zds (fun w => if w ≤ (zcp1 F V (-1) w c).2 then 1 else 0) a (b - a + 1).toNat := by
  rw [zdr_eq ok hab ha c (Nat.le_refl _)]
  congr 1
  unfold zKb zB
  rw [if_neg (by omega)]
  split
  · omega
  · split <;> omega
theorem zdr_range {F V : Nat → Int} {c : Nat} {a b : Int} (hab : a ≤ b) (ha : 0 ≤ a) (hF : ∀ i, i < c → 0 ≤ F i) : ∀ j, j ≤ c → 0 ≤ zdr F V c a b j ∧ zdr F V c a b j ≤ (b - a + 1) * j
  | 0, _ => by simp [zdr]
  | j + 1, h => by
    have h1 := zdr_range (V := V) hab ha hF j (by omega)
    have h3 : (b - a + 1) * ((j + 1 : Nat) : Int) = (b - a + 1) * j + (b - a + 1) := by rw [show ((j + 1 : Nat) : Int) = (j : Int) + 1 by omega, Int.mul_add]; omega
    rw [h3]
    show 0 ≤ zdr F V c a b j + _ ∧ zdr F V c a b j + _ ≤ _
    dsimp only
    generalize zdr F V c a b j = Y at *
    generalize (b - a + 1) * (j : Int) = X at *
    generalize (if (if j + 1 < c then F (j + 1) - 1 else b) < V j then (if j + 1 < c then F (j + 1) - 1 else b) else V j) = last
    repeat' split
    all_goals omega
/-- sorted days: the events up to a day between two neighbours -/
theorem zev_between {S : zS} {v j : Nat} {w : Int} (hs : SDay S v) (hj : (j : Int) < S.2 8 v) (h1 : S.2 11 (30 * v + j) ≤ w) (h2 : ((j + 1 : Nat) : Int) < S.2 8 v → w < S.2 11 (30 * v + (j + 1))) : zev S v w = j + 1 := by
  refine zev_eq (by omega) (fun i hi => ?_) (fun q => by have := h2 q; omega)
  have := hs i j (by omega) hj
  omega
theorem zev_first {S : zS} {v : Nat} {w : Int} (h0 : 0 ≤ S.2 8 v) (h2 : 0 < S.2 8 v → w < S.2 11 (30 * v)) : zev S v w = 0 := by
  refine zev_eq (by omega) (fun i hi => absurd hi (by omega)) (fun q => ?_)
  have := h2 (by omega)
  show ¬ S.2 11 (30 * v + 0) ≤ w
  rw [Nat.add_zero]
  omega
