theorem zcp1_none {F V : Nat → Int} {d w : Int} : ∀ c, (∀ i, i < c → w < F i) → zcp1 F V d w c = (-1, d)
  | 0, _ => rfl
  | c + 1, h => by
    unfold zcp1
    rw [if_neg (by have := h c (by omega); omega)]
    exact zcp1_none c fun i hi => h i (by omega)
theorem zcp1_eq {F V : Nat → Int} {d w : Int} {i : Nat} (h1 : F i ≤ w) : ∀ c, i < c → (∀ j, i < j → j < c → w < F j) → zcp1 F V d w c = (F i, V i)
  | 0, h, _ => absurd h (by omega)
  | c + 1, h, h2 => by
    unfold zcp1
    by_cases hc : i = c
    · subst hc; rw [if_pos h1]
    · rw [if_neg (by have := h2 c (by omega) (by omega); omega)]
      exact zcp1_eq h1 c (by omega) fun j a b => h2 j a (by omega)
theorem zcp1_char (F V : Nat → Int) (d w : Int) : ∀ c, (∀ i, i < c → w < F i) ∨ ∃ i, i < c ∧ F i ≤ w ∧ ∀ j, i < j → j < c → w < F j
  | 0 => Or.inl fun i h => absurd h (by omega)
  | c + 1 => by
    by_cases hc : F c ≤ w
    · exact Or.inr ⟨c, by omega, hc, fun j a b => by omega⟩
    · rcases zcp1_char F V d w c with q | ⟨i, a, b, e⟩
      · exact Or.inl fun i hi => by
          by_cases hq : i = c
          · subst hq; omega
          · exact q i (by omega)
      · exact Or.inr ⟨i, by omega, b, fun j x y => by
          by_cases hq : j = c
          · subst hq; omega
          · exact e j x (by omega)⟩
/-- the row that rowOn finds -/
def zrow (F : Nat → Int) (w : Int) : Nat → Int
  | 0 => -1
  | i + 1 => if F i ≤ w then (i : Int) else zrow F w i
theorem zrow_range {F : Nat → Int} {w : Int} : ∀ c, -1 ≤ zrow F w c ∧ zrow F w c < c
  | 0 => by unfold zrow; omega
  | c + 1 => by unfold zrow; have := zrow_range (F := F) (w := w) c; split <;> omega
theorem zrow_spec {F : Nat → Int} {w : Int} : ∀ c, (∀ j : Nat, zrow F w c < (j : Int) → j < c → w < F j) ∧ (0 ≤ zrow F w c → F (zrow F w c).toNat ≤ w)
  | 0 => ⟨fun j _ h => absurd h (by omega), fun h => by unfold zrow at h; omega⟩
  | c + 1 => by
    have ih := zrow_spec (F := F) (w := w) c
    unfold zrow
    by_cases hc : F c ≤ w
    · rw [if_pos hc]
      exact ⟨fun j a b => by omega, fun _ => by simpa using hc⟩
    · rw [if_neg hc]
      refine ⟨fun j a b => ?_, ih.2⟩
      by_cases hq : j = c
      · subst hq; omega
      · exact ih.1 j a (by omega)
theorem zcp1_row {F V : Nat → Int} {d w : Int} {c : Nat} : (zrow F w c < 0 → zcp1 F V d w c = (-1, d)) ∧ (0 ≤ zrow F w c → zcp1 F V d w c = (F (zrow F w c).toNat, V (zrow F w c).toNat)) := by
  have h1 := zrow_spec (F := F) (w := w) c
  have h2 := zrow_range (F := F) (w := w) c
  refine ⟨fun h => zcp1_none c fun i hi => h1.1 i (by omega) hi, fun h => zcp1_eq (h1.2 h) c (by omega) fun j a b => h1.1 j (by omega) b⟩
theorem zcp1_fst {F V : Nat → Int} {d w : Int} {c : Nat} (h : ∀ i, i < c → 0 ≤ F i) : -1 ≤ (zcp1 F V d w c).1 ∧ ((zcp1 F V d w c).1 ≤ w ∨ (zcp1 F V d w c).1 = -1) := by
  rcases zcp1_char F V d w c with q | ⟨i, a, b, e⟩
  · rw [zcp1_none c q]; exact ⟨by omega, Or.inr rfl⟩
  · rw [zcp1_eq b c a e]; have := h i a; exact ⟨by show -1 ≤ F i; omega, Or.inl b⟩
/-- a row's value told anew -/
theorem zcp1_set {F V V2 : Nat → Int} {d w v t : Int} {c r n : Nat} (ok : CoOK F V c n) (hr : r < c) (hF : F r = t) (hV : ∀ i, i < c → V2 i = if i = r then v else V i) : zcp1 F V2 d w c = if t ≤ w ∧ (zcp1 F V d w c).1 ≤ t then (t, v) else zcp1 F V d w c := by
  rcases zcp1_char F V d w c with q | ⟨i, a, b, e⟩
  · rw [zcp1_none c q, zcp1_none c q]
    rw [if_neg (by have := q r hr; omega)]
  · rw [zcp1_eq b c a e, zcp1_eq b c a e]
    dsimp only
    rw [hV i a]
    by_cases hi : i = r
    · subst hi; rw [if_pos rfl, if_pos (by omega), hF]
    · rw [if_neg hi]
      by_cases hlt : i < r
      · rw [if_neg (by have := e r hlt hr; omega)]
      · rw [if_neg (by have := ok.1 r i (by omega) a; omega)]
/-- a row put in at p -/
theorem zcp1_ins {F V F2 V2 : Nat → Int} {d w v t : Int} {c p n : Nat} (ok : CoOK F V c n) (hp : p ≤ c) (h0 : 0 ≤ t) (hlo : ∀ i, i < p → F i < t) (hhi : ∀ i, p ≤ i → i < c → t < F i) (hF : ∀ i, i < c + 1 → F2 i = if i < p then F i else if i = p then t else F (i - 1)) (hV : ∀ i, i < c + 1 → V2 i = if i < p then V i else if i = p then v else V (i - 1)) : zcp1 F2 V2 d w (c + 1) = if t ≤ w ∧ (zcp1 F V d w c).1 ≤ t then (t, v) else zcp1 F V d w c := by
  have fp : F2 p = t := by rw [hF p (by omega)]; simp
  have vp : V2 p = v := by rw [hV p (by omega)]; simp
  have flo : ∀ i, i < p → F2 i = F i := fun i hi => by rw [hF i (by omega), if_pos hi]
  have fhi : ∀ i, p ≤ i → i < c → F2 (i + 1) = F i := fun i hi hc => by rw [hF (i + 1) (by omega), if_neg (by omega), if_neg (by omega)]; rfl
  have vlo : ∀ i, i < p → V2 i = V i := fun i hi => by rw [hV i (by omega), if_pos hi]
  have vhi : ∀ i, p ≤ i → i < c → V2 (i + 1) = V i := fun i hi hc => by rw [hV (i + 1) (by omega), if_neg (by omega), if_neg (by omega)]; rfl
  have fbig : ∀ j, p < j → j < c + 1 → ∃ k, p ≤ k ∧ k < c ∧ j = k + 1 := fun j a b => ⟨j - 1, by omega, by omega, by omega⟩
  rcases zcp1_char F V d w c with q | ⟨i, a, b, e⟩
  · rw [zcp1_none c q]
    by_cases hw : t ≤ w
    · rw [if_pos (by dsimp only; omega)]
      rw [zcp1_eq (i := p) (by omega) (c + 1) (by omega) (fun j x y => by obtain ⟨k, k1, k2, rfl⟩ := fbig j x y; rw [fhi k k1 k2]; exact q k k2), fp, vp]
    · rw [if_neg (by omega)]
      refine zcp1_none (c + 1) fun j hj => ?_
      by_cases h1 : j < p
      · rw [flo j h1]; exact q j (by omega)
      · by_cases h2 : j = p
        · subst h2; omega
        · obtain ⟨k, k1, k2, rfl⟩ := fbig j (by omega) hj; rw [fhi k k1 k2]; exact q k k2
  · rw [zcp1_eq b c a e]
    dsimp only
    by_cases hip : i < p
    · have h9 := hlo i hip
      by_cases hw : t ≤ w
      · rw [if_pos (by omega)]
        rw [zcp1_eq (i := p) (by omega) (c + 1) (by omega) (fun j x y => by obtain ⟨k, k1, k2, rfl⟩ := fbig j x y; rw [fhi k k1 k2]; exact e k (by omega) k2), fp, vp]
      · rw [if_neg (by omega)]
        rw [zcp1_eq (i := i) (by rw [flo i hip]; exact b) (c + 1) (by omega) (fun j x y => ?_), flo i hip, vlo i hip]
        by_cases h1 : j < p
        · rw [flo j h1]; exact e j x (by omega)
        · by_cases h2 : j = p
          · subst h2; omega
          · obtain ⟨k, k1, k2, rfl⟩ := fbig j (by omega) y; rw [fhi k k1 k2]; exact e k (by omega) k2
    · have h9 := hhi i (by omega) a
      rw [if_neg (by omega)]
      rw [zcp1_eq (i := i + 1) (by rw [fhi i (by omega) a]; exact b) (c + 1) (by omega) (fun j x y => by obtain ⟨k, k1, k2, rfl⟩ := fbig j (by omega) y; rw [fhi k k1 k2]; exact e k (by omega) k2), fhi i (by omega) a, vhi i (by omega) a]
theorem CoOK.set {F V V2 : Nat → Int} {v : Int} {c r n : Nat} (ok : CoOK F V c n) (hv : -1 ≤ v ∧ v ≤ 100000) (hV : ∀ i, i < c → V2 i = if i = r then v else V i) : CoOK F V2 c n := by
  obtain ⟨a, b, e⟩ := ok
  refine ⟨a, fun i hi => ?_, e⟩
  have := b i hi
  rw [hV i hi]
  split <;> omega
theorem CoOK.ins {F V F2 V2 : Nat → Int} {v t : Int} {c p n : Nat} (ok : CoOK F V c n) (hp : p ≤ c) (h0 : 0 ≤ t ∧ t ≤ 20000) (hv : -1 ≤ v ∧ v ≤ 100000) (hlo : ∀ i, i < p → F i < t) (hhi : ∀ i, p ≤ i → i < c → t < F i) (hF : ∀ i, i < c + 1 → F2 i = if i < p then F i else if i = p then t else F (i - 1)) (hV : ∀ i, i < c + 1 → V2 i = if i < p then V i else if i = p then v else V (i - 1)) : CoOK F2 V2 (c + 1) (n + 1) := by
  obtain ⟨a, b, e⟩ := ok
  refine ⟨fun i j hij hj => ?_, fun i hi => ?_, by omega⟩
  · rw [hF i (by omega), hF j hj]
    by_cases h1 : i < p
    · rw [if_pos h1]
      by_cases h2 : j < p
      · rw [if_pos h2]; exact a i j hij (by omega)
      · rw [if_neg h2]
        by_cases h3 : j = p
        · rw [if_pos h3]; exact hlo i h1
        · rw [if_neg h3]; exact a i (j - 1) (by omega) (by omega)
    · rw [if_neg h1, if_neg (by omega : ¬ j < p), if_neg (by omega : ¬ j = p)]
      by_cases h3 : i = p
      · rw [if_pos h3]; exact hhi (j - 1) (by omega) (by omega)
      · rw [if_neg h3]; exact a (i - 1) (j - 1) (by omega) (by omega)
  · rw [hF i hi, hV i hi]
    by_cases h1 : i < p
    · rw [if_pos h1, if_pos h1]; exact b i (by omega)
    · rw [if_neg h1, if_neg h1]
      by_cases h3 : i = p
      · rw [if_pos h3, if_pos h3]; omega
      · rw [if_neg h3, if_neg h3]; exact b (i - 1) (by omega)
/-- sums over days -/
def zds (f : Int → Int) (a : Int) : Nat → Int
  | 0 => 0
  | n + 1 => zds f a n + f (a + n)
theorem zds_add {f : Int → Int} {a : Int} {m : Nat} : ∀ n, zds f a (m + n) = zds f a m + zds f (a + m) n
  | 0 => by simp [zds]
  | n + 1 => by
    show zds f a (m + n) + f (a + ((m + n : Nat) : Int)) = zds f a m + (zds f (a + m) n + f (a + m + n))
    rw [zds_add n, show a + ((m + n : Nat) : Int) = a + m + n by omega]
    omega
theorem zds_congr {f k : Int → Int} {a : Int} : ∀ n, (∀ i : Nat, i < n → f (a + i) = k (a + i)) → zds f a n = zds k a n
  | 0, _ => rfl
  | n + 1, h => by
    unfold zds
    rw [zds_congr n fun i hi => h i (by omega), h n (by omega)]
theorem zds_zero {f : Int → Int} {a : Int} : ∀ n, (∀ i : Nat, i < n → f (a + i) = 0) → zds f a n = 0
  | 0, _ => rfl
  | n + 1, h => by
    unfold zds
    rw [zds_zero n fun i hi => h i (by omega), h n (by omega)]
    rfl
theorem zds_split {f : Int → Int} {a b c : Int} (h1 : a ≤ b) (h2 : b ≤ c) : zds f a (c - a).toNat = zds f a (b - a).toNat + zds f b (c - b).toNat := by
  have e : (c - a).toNat = (b - a).toNat + (c - b).toNat := by omega
  rw [e, zds_add, show a + (((b - a).toNat : Nat) : Int) = b by omega]
theorem zds_neg1 {f k : Int → Int} {a : Int} : ∀ n, (∀ i : Nat, i < n → f (a + i) = 1 - k (a + i)) → zds f a n = n - zds k a n
  | 0, _ => rfl
  | n + 1, h => by
    unfold zds
    rw [zds_neg1 n fun i hi => h i (by omega), h n (by omega)]
    omega
theorem zds_upto {f : Int → Int} {a v : Int} : ∀ n, (∀ i : Nat, i < n → f (a + i) = if a + (i : Int) ≤ v then 1 else 0) → zds f a n = if v < a then 0 else if a + n ≤ v then (n : Int) else v - a + 1
  | 0, _ => by unfold zds; split; rfl; split; rfl; omega
  | n + 1, h => by
    unfold zds
    rw [zds_upto n fun i hi => h i (by omega), h n (by omega)]
    repeat' split
    all_goals omega
theorem zds_range {f : Int → Int} {a m : Int} (h : ∀ d, 0 ≤ f d ∧ f d ≤ m) : ∀ n : Nat, 0 ≤ zds f a n ∧ zds f a n ≤ m * n
  | 0 => by simp [zds]
  | n + 1 => by
    have h1 := zds_range (a := a) h n
    have h2 := h (a + n)
    have h3 : m * ((n + 1 : Nat) : Int) = m * n + m := by rw [show ((n + 1 : Nat) : Int) = (n : Int) + 1 by omega, Int.mul_add]; omega
    unfold zds
    rw [h3]
    omega
/-- where the rows from the j-th on begin -/
def zB (D : Nat → Int) (c : Nat) (T : Int) (j : Nat) : Int := if j < c then D j else T + 1
/-- rows that part the days -/
theorem zparts {f : Int → Int} {D : Nat → Int} {c : Nat} {T : Int} (h0 : 0 ≤ T) (hs : ∀ i j, i ≤ j → j < c → D i ≤ D j) (hr : ∀ i, i < c → 0 ≤ D i ∧ D i ≤ T) (hz : ∀ d, 0 ≤ d → d < zB D c T 0 → f d = 0) (g : Nat → Int) (g0 : g 0 = 0) (gs : ∀ j, j < c → g (j + 1) = g j + zds f (D j) (zB D c T (j + 1) - D j).toNat) : ∀ j, j ≤ c → g j = zds f 0 (zB D c T j).toNat
  | 0, _ => by
    rw [g0, zds_zero _ fun i hi => ?_]
    refine hz _ (by omega) ?_
    unfold zB at hi ⊢
    split at hi <;> rename_i hc
    · rw [if_pos hc]; omega
    · rw [if_neg hc]; omega
  | j + 1, h => by
    rw [gs j (by omega), zparts h0 hs hr hz g g0 gs j (by omega)]
    have hj := hr j (by omega)
    have hB : zB D c T j = D j := if_pos (by omega)
    have hle : D j ≤ zB D c T (j + 1) := by
      unfold zB
      split
      · exact hs j (j + 1) (by omega) (by omega)
      · omega
    have := zds_split (f := f) (a := 0) (b := D j) (c := zB D c T (j + 1)) hj.1 hle
    rw [hB]
    rw [show (D j).toNat = (D j - 0).toNat by omega, show (zB D c T (j + 1)).toNat = (zB D c T (j + 1) - 0).toNat by omega]
    omega
