abbrev zH : Type := (Nat → Nat) × (Nat → Nat) × (Nat → Nat → Int) × (Nat → Nat → Int) × (Nat → Nat → Option Nat) × (Nat → Nat → Int) × (Nat → Nat → Int) × (Nat → Nat → Option Nat)
def kd_ (h : zH) : Nat → Nat := h.1
def ln_ (h : zH) : Nat → Nat := h.2.1
def fi_ (h : zH) : Nat → Nat → Int := h.2.2.1
def fj_ (h : zH) : Nat → Nat → Int := h.2.2.2.1
def fr_ (h : zH) : Nat → Nat → Option Nat := h.2.2.2.2.1
def ai_ (h : zH) : Nat → Nat → Int := h.2.2.2.2.2.1
def aj_ (h : zH) : Nat → Nat → Int := h.2.2.2.2.2.2.1
def ar_ (h : zH) : Nat → Nat → Option Nat := h.2.2.2.2.2.2.2
def zu1 {α : Type} (f : Nat → α) (a : Nat) (v : α) : Nat → α := fun b => if b = a then v else f b
def zu2 {α : Type} (f : Nat → Nat → α) (a k : Nat) (v : α) : Nat → Nat → α := fun b j => if b = a ∧ j = k then v else f b j
def sfi (h : zH) (a k : Nat) (v : Int) : zH := (h.1, h.2.1, zu2 h.2.2.1 a k v, h.2.2.2)
def sfj (h : zH) (a k : Nat) (v : Int) : zH := (h.1, h.2.1, h.2.2.1, zu2 h.2.2.2.1 a k v, h.2.2.2.2)
def sfr (h : zH) (a k : Nat) (v : Option Nat) : zH := (h.1, h.2.1, h.2.2.1, h.2.2.2.1, zu2 h.2.2.2.2.1 a k v, h.2.2.2.2.2)
def sai (h : zH) (a k : Nat) (v : Int) : zH := (h.1, h.2.1, h.2.2.1, h.2.2.2.1, h.2.2.2.2.1, zu2 h.2.2.2.2.2.1 a k v, h.2.2.2.2.2.2)
def saj (h : zH) (a k : Nat) (v : Int) : zH := (h.1, h.2.1, h.2.2.1, h.2.2.2.1, h.2.2.2.2.1, h.2.2.2.2.2.1, zu2 h.2.2.2.2.2.2.1 a k v, h.2.2.2.2.2.2.2)
def sar (h : zH) (a k : Nat) (v : Option Nat) : zH := (h.1, h.2.1, h.2.2.1, h.2.2.2.1, h.2.2.2.2.1, h.2.2.2.2.2.1, h.2.2.2.2.2.2.1, zu2 h.2.2.2.2.2.2.2 a k v)
/-- an object of the kind c, born at a -/
def nob (h : zH) (a c : Nat) : zH := (zu1 h.1 a (c + 1), h.2.1, (fun b j => if b = a then 0 else h.2.2.1 b j), (fun b j => if b = a then 0 else h.2.2.2.1 b j), (fun b j => if b = a then none else h.2.2.2.2.1 b j), h.2.2.2.2.2)
/-- an array of the kind k with n places, born at a -/
def nar (h : zH) (a k n : Nat) : zH := (zu1 h.1 a k, zu1 h.2.1 a n, h.2.2.1, h.2.2.2.1, h.2.2.2.2.1, (fun b j => if b = a then 0 else h.2.2.2.2.2.1 b j), (fun b j => if b = a then 0 else h.2.2.2.2.2.2.1 b j), (fun b j => if b = a then none else h.2.2.2.2.2.2.2 b j))
def z_tys : List (Nat → FieldType) := [tyJ0, tyJ4, tyJx4a65c, tyX0, tyX1, tyX2, tyX3, tyX4, tyX5, tyX6, tyX7, tyX8, tyX9, tyX10, tyX11]
def z_ty (c : Nat) : Nat → FieldType := z_tys.getD c tyJ0
def z_Ns : List Nat := [4, 4, 3, 2, 3, 4, 5, 3, 2, 3, 4, 5, 5, 7, 10]
def z_N (c : Nat) : Nat := z_Ns.getD c 0
def z_val (ty : FieldType) (i j : Int) (r : Option Nat) : Value := match ty with
  | .long => .long (zL j)
  | .object _ => va_rf r
  | .array _ => va_rf r
  | _ => .int (zI i)
def z_fld (h : zH) (a c k : Nat) : Value := z_val (z_ty c k) (fi_ h a k) (fj_ h a k) (fr_ h a k)
def z_obj (h : zH) (a c : Nat) : List Value := (List.range (z_N c)).map (z_fld h a c)
def z_aty (k : Nat) : FieldType := match k with
  | 20 => .int
  | 21 => .char
  | 22 => .boolean
  | 23 => .long
  | 24 => .byte
  | 26 => .object "Platehall$Course"
  | _ => .object "java/lang/Object"
def z_con (h : zH) (a k : Nat) : (Nat → Int32) ⊕ (Nat → Int64) ⊕ (Nat → UInt32) ⊕ (Nat → UInt64) ⊕ (Nat → Option Nat) := match k with
  | 20 => .inl fun j => zI (ai_ h a j)
  | 21 => .inl fun j => zI (ai_ h a j)
  | 22 => .inl fun j => zI (ai_ h a j)
  | 24 => .inl fun j => zI (ai_ h a j)
  | 23 => .inr (.inl fun j => zL (aj_ h a j))
  | _ => .inr (.inr (.inr (.inr fun j => ar_ h a j)))
def z_at (dA : Nat → ClassId) (h : zH) (a : Nat) (k : Nat) : Option va_E := match k with
  | 0 => none
  | c + 1 => if 0 < c ∧ c < 16 then some (.inr (c, z_obj h a c)) else if 16 ≤ c ∧ c < 26 ∧ c ≠ 23 then some (.inl (dA (c + 1), (ln_ h a, z_con h a (c + 1)))) else none
def z_ent (dA : Nat → ClassId) (h : zH) (a : Nat) : Option va_E := z_at dA h a (kd_ h a)
def z_ro (k : Nat) : Prop := k = 1 ∨ k = 24 ∨ k = 27
abbrev zGT : Type := Launch × State × Array Value × va_G × (Nat → ClassId) × Nat
abbrev gl_ (g : zGT) : Launch := g.1
abbrev gS_ (g : zGT) : State := g.2.1
abbrev ga_ (g : zGT) : Array Value := g.2.2.1
abbrev gD_ (g : zGT) : va_G := g.2.2.2.1
abbrev gA_ (g : zGT) : Nat → ClassId := g.2.2.2.2.1
abbrev ge_ (g : zGT) : Nat := g.2.2.2.2.2
def zP (g : zGT) (h : zH) (H : Heap) : Prop :=
  (∀ a e, z_ent (gA_ g) h a = some e → va_at (gD_ g) vwCl (a, e) H) ∧ (∀ a, kd_ h a ≠ 0 → ¬ z_ro (kd_ h a) → (gS_ g).heap.size ≤ a) ∧ (∀ q, q < (gS_ g).heap.size → H[q]? = (gS_ g).heap[q]?) ∧ (gS_ g).heap.size ≤ H.size ∧ (∀ a, kd_ h a ≠ 0 → a < H.size) ∧ kd_ h (ge_ g) = 27 ∧ ln_ h (ge_ g) = 0
theorem z_at_obj {dA : Nat → ClassId} {h : zH} {a c : Nat} (hk : kd_ h a = c + 1) (hc : 0 < c ∧ c < 16) : z_ent dA h a = some (.inr (c, z_obj h a c)) := by
  unfold z_ent; rw [hk]; unfold z_at; simp [hc]
theorem z_at_arr {dA : Nat → ClassId} {h : zH} {a k : Nat} (hk : kd_ h a = k) (h1 : 17 ≤ k) (h2 : k ≤ 26 ∧ k ≠ 24) : z_ent dA h a = some (.inl (dA k, (ln_ h a, z_con h a k))) := by
  unfold z_ent
  rw [hk]
  obtain ⟨c, rfl⟩ : ∃ c, k = c + 1 := ⟨k - 1, by omega⟩
  unfold z_at
  simp only
  rw [if_neg (by omega), if_pos (by omega)]
theorem zP.arr {g : zGT} {h : zH} {H : Heap} (hP : zP g h H) {a k : Nat} (hk : kd_ h a = k) (h1 : 17 ≤ k) (h2 : k ≤ 26 ∧ k ≠ 24) : va_P (gD_ g) vwCl [(a, .inl (gA_ g k, (ln_ h a, z_con h a k)))] H := by
  intro i q hq
  have hi : i < 1 := (List.getElem?_eq_some_iff.mp hq).1
  rw [show i = 0 by omega] at hq
  cases hq
  exact hP.1 a _ (z_at_arr hk h1 h2)
theorem zP.obj {g : zGT} {h : zH} {H : Heap} (hP : zP g h H) {a c : Nat} (hk : kd_ h a = c + 1) (hc : 0 < c ∧ c < 16) : va_P (gD_ g) vwCl [(a, .inr (c, z_obj h a c))] H := by
  intro i q hq
  have hi : i < 1 := (List.getElem?_eq_some_iff.mp hq).1
  rw [show i = 0 by omega] at hq
  cases hq
  exact hP.1 a _ (z_at_obj hk hc)
theorem zP.put {g : zGT} {h h1 : zH} {H H1 : Heap} (hP : zP g h H) {a : Nat} (ha : (gS_ g).heap.size ≤ a) (z : H1.size = H.size) (oq : ∀ q : Nat, q ≠ a → H1[q]? = H[q]?) (hb : ∀ b, b ≠ a → z_ent (gA_ g) h1 b = z_ent (gA_ g) h b) (hk : kd_ h1 = kd_ h) (hl : ln_ h1 = ln_ h) (he : ∀ e, z_ent (gA_ g) h1 a = some e → va_at (gD_ g) vwCl (a, e) H1) : zP g h1 H1 := by
  obtain ⟨p1, p2, p3, p4, p5, p6, p7⟩ := hP
  refine ⟨fun b e hbe => ?_, by rw [hk]; exact p2, fun q hq => by rw [oq q (by omega)]; exact p3 q hq, by omega, fun b hb => by rw [hk] at hb; rw [z]; exact p5 b hb, by rw [hk]; exact p6, by rw [hl]; exact p7⟩
  by_cases hba : b = a
  · subst hba; exact he e hbe
  · rw [hb b hba] at hbe
    exact (p1 b e hbe).kept (oq b hba)
theorem zP.fresh {g : zGT} {h : zH} {H : Heap} (hP : zP g h H) : kd_ h H.size = 0 := by
  rcases Nat.eq_zero_or_pos (kd_ h H.size) with q | q
  · exact q
  · exact absurd (hP.2.2.2.2.1 _ (by omega)) (Nat.lt_irrefl _)
theorem zP.new {g : zGT} {h h1 : zH} {H H1 : Heap} (hP : zP g h H) {a : Nat} (ha : a = H.size) (z : H1.size = H.size + 1) (oq : ∀ q : Nat, q < H.size → H1[q]? = H[q]?) (hb : ∀ b, b ≠ a → z_ent (gA_ g) h1 b = z_ent (gA_ g) h b) (hk : ∀ b, b ≠ a → kd_ h1 b = kd_ h b) (hl : ∀ b, b ≠ a → ln_ h1 b = ln_ h b) (he : ∀ e, z_ent (gA_ g) h1 a = some e → va_at (gD_ g) vwCl (a, e) H1) : zP g h1 H1 := by
  have hfr := hP.fresh
  obtain ⟨p1, p2, p3, p4, p5, p6, p7⟩ := hP
  have hne : ge_ g ≠ a := by
    intro hh
    rw [hh, ha, hfr] at p6
    cases p6
  refine ⟨fun b e hbe => ?_, fun b h0 hr => ?_, fun q hq => by rw [oq q (by omega)]; exact p3 q hq, by omega, fun b hb0 => ?_, by rw [hk _ hne]; exact p6, by rw [hl _ hne]; exact p7⟩
  · by_cases hba : b = a
    · subst hba; exact he e hbe
    · rw [hb b hba] at hbe
      have := p1 b e hbe
      exact this.kept (oq b this.lt)
  · by_cases hba : b = a
    · omega
    · rw [hk b hba] at h0 hr; exact p2 b h0 hr
  · by_cases hba : b = a
    · omega
    · rw [hk b hba] at hb0
      have := p5 b hb0
      omega
theorem z_ent_congr {dA : Nat → ClassId} {h h1 : zH} {b : Nat} (hk : kd_ h1 b = kd_ h b) (hl : ln_ h1 b = ln_ h b) (h1i : ∀ j, fi_ h1 b j = fi_ h b j) (h1j : ∀ j, fj_ h1 b j = fj_ h b j) (h1r : ∀ j, fr_ h1 b j = fr_ h b j) (h2i : ∀ j, ai_ h1 b j = ai_ h b j) (h2j : ∀ j, aj_ h1 b j = aj_ h b j) (h2r : ∀ j, ar_ h1 b j = ar_ h b j) : z_ent dA h1 b = z_ent dA h b := by
  unfold z_ent z_at z_obj z_con z_fld
  simp only [hk, hl, h1i, h1j, h1r, h2i, h2j, h2r]
theorem z_ent_sfi {dA : Nat → ClassId} {h : zH} {a k : Nat} {v : Int} {b : Nat} (hb : b ≠ a) : z_ent dA (sfi h a k v) b = z_ent dA h b :=
  z_ent_congr rfl rfl (fun j => by simp [fi_, sfi, zu2, hb]) (fun j => rfl) (fun j => rfl) (fun j => rfl) (fun j => rfl) (fun j => rfl)
theorem z_ent_sfj {dA : Nat → ClassId} {h : zH} {a k : Nat} {v : Int} {b : Nat} (hb : b ≠ a) : z_ent dA (sfj h a k v) b = z_ent dA h b :=
  z_ent_congr rfl rfl (fun j => rfl) (fun j => by simp [fj_, sfj, zu2, hb]) (fun j => rfl) (fun j => rfl) (fun j => rfl) (fun j => rfl)
theorem z_ent_sfr {dA : Nat → ClassId} {h : zH} {a k : Nat} {v : Option Nat} {b : Nat} (hb : b ≠ a) : z_ent dA (sfr h a k v) b = z_ent dA h b :=
  z_ent_congr rfl rfl (fun j => rfl) (fun j => rfl) (fun j => by simp [fr_, sfr, zu2, hb]) (fun j => rfl) (fun j => rfl) (fun j => rfl)
theorem z_ent_sai {dA : Nat → ClassId} {h : zH} {a k : Nat} {v : Int} {b : Nat} (hb : b ≠ a) : z_ent dA (sai h a k v) b = z_ent dA h b :=
  z_ent_congr rfl rfl (fun j => rfl) (fun j => rfl) (fun j => rfl) (fun j => by simp [ai_, sai, zu2, hb]) (fun j => rfl) (fun j => rfl)
theorem z_ent_saj {dA : Nat → ClassId} {h : zH} {a k : Nat} {v : Int} {b : Nat} (hb : b ≠ a) : z_ent dA (saj h a k v) b = z_ent dA h b :=
  z_ent_congr rfl rfl (fun j => rfl) (fun j => rfl) (fun j => rfl) (fun j => rfl) (fun j => by simp [aj_, saj, zu2, hb]) (fun j => rfl)
theorem z_ent_sar {dA : Nat → ClassId} {h : zH} {a k : Nat} {v : Option Nat} {b : Nat} (hb : b ≠ a) : z_ent dA (sar h a k v) b = z_ent dA h b :=
  z_ent_congr rfl rfl (fun j => rfl) (fun j => rfl) (fun j => rfl) (fun j => rfl) (fun j => rfl) (fun j => by simp [ar_, sar, zu2, hb])
theorem z_ent_nob {dA : Nat → ClassId} {h : zH} {a c : Nat} {b : Nat} (hb : b ≠ a) : z_ent dA (nob h a c) b = z_ent dA h b :=
  z_ent_congr (by simp [kd_, nob, zu1, hb]) rfl (fun j => by simp [fi_, nob, hb]) (fun j => by simp [fj_, nob, hb]) (fun j => by simp [fr_, nob, hb]) (fun j => rfl) (fun j => rfl) (fun j => rfl)
theorem z_ent_nar {dA : Nat → ClassId} {h : zH} {a k n : Nat} {b : Nat} (hb : b ≠ a) : z_ent dA (nar h a k n) b = z_ent dA h b :=
  z_ent_congr (by simp [kd_, nar, zu1, hb]) (by simp [ln_, nar, zu1, hb]) (fun j => rfl) (fun j => rfl) (fun j => rfl) (fun j => by simp [ai_, nar, hb]) (fun j => by simp [aj_, nar, hb]) (fun j => by simp [ar_, nar, hb])
theorem z_obj_len (h : zH) (a c : Nat) : (z_obj h a c).length = z_N c := by simp [z_obj]
theorem z_obj_get {h : zH} {a c k : Nat} (hk : k < z_N c) : (z_obj h a c)[k]? = some (z_fld h a c k) := by simp [z_obj, hk]
theorem z_obj_set {h h1 : zH} {a c k : Nat} {v : Value} (hv : z_fld h1 a c k = v) (ho : ∀ j, j ≠ k → z_fld h1 a c j = z_fld h a c j) : z_obj h1 a c = (z_obj h a c).set k v := by
  unfold z_obj
  apply List.ext_getElem?
  intro i
  rw [List.getElem?_set]
  by_cases hik : k = i
  · subst hik
    by_cases hl : k < z_N c
    · simp [hl, hv]
    · simp [hl]
  · simp only [hik, if_false]
    by_cases hl : i < z_N c
    · simp [hl, ho i (fun q => hik q.symm)]
    · simp [hl]
