def MPa2 (h0 h : zH) (m : Nat) (A : Nat → Nat) (n : Nat) (sr : Int) : Prop := MPart h0 h m A n sr ∧ ∀ k, k < n → z_mk k ≠ 0 → kd_ h0 (A k) = 0
theorem MPa2.kd_nar {h0 h : zH} {m n a k l : Nat} {A : Nat → Nat} {sr : Int} (x : MPa2 h0 h m A n sr) (ha : kd_ h a = 0) : kd_ (nar h a k l) m = 15 + 1 := x.1.kd_nar ha
theorem MPa2.step {h0 h : zH} {m n a k l : Nat} {A : Nat → Nat} {sr : Int} (x : MPa2 h0 h m A n sr) (ha : kd_ h a = 0) (hk : z_mk k ≠ 0) (hl : l = z_ml k) (hnk : n ≤ k) (hno : ∀ j, j < k → n ≤ j → z_mk j = 0) : MPa2 h0 (sfr (nar h a (z_mk k) l) m k (some a)) m (zu1 A k a) (k + 1) sr := by
  refine ⟨x.1.step ha hk hl hnk hno, fun j hj h9 => ?_⟩
  by_cases h1 : j = k
  · subst h1
    rw [zu1_at]
    by_cases h2 : kd_ h0 a = 0
    · exact h2
    · have e := (x.1.2.2.2.2 a (fun q => x.1.ne ha q.symm) h2).1
      rw [ha] at e
      exact e.symm
  · rw [zu1_ne h1]
    by_cases h2 : j < n
    · exact x.2 j h2 h9
    · exact absurd (hno j (by omega) (by omega)) h9
theorem MPa2.ser {h0 h : zH} {m n : Nat} {A : Nat → Nat} {sr : Int} (x : MPa2 h0 h m A n sr) (v : Int) : MPa2 h0 (sfi h m 16 v) m A n v := ⟨x.1.ser v, x.2⟩
set_option maxRecDepth 20000 in
set_option maxHeartbeats 4000000 in
theorem c_X12_ini2 {g : zGT} {Q : zO → zH → Prop} {h0 : zH} (hg : zG g) {m : Nat} (hm : kd_ h0 m = 16) (hz : ∀ k, fi_ h0 m k = 0) (k : ∀ A h1, MRep h1 m A zS0 → z_agree (fun b => b = m) h0 h1 → (∀ j, z_mk j ≠ 0 → kd_ h0 (A j) = 0) → Q (.inl none) h1) : zC g (.code yX12_init cX12_init 1 (Option.none : Option Jvm.ClassFile.FieldType)) yX12_init 10 32 74817 [.ref m] h0 Q := by
  refine zC_of (M := mX12_init) (lv := [some (.ref m)]) (by decide) rfl rfl (Nat.le_of_ble_eq_true rfl) rfl rfl ?_
  have hq : MPa2 h0 h0 m (fun _ => 0) 0 0 := ⟨⟨hm, fun k hk => absurd hk (by omega), fun j k hj => absurd hj (by omega), fun k => by rw [hz]; split <;> rfl, .refl⟩, fun k hk => absurd hk (by omega)⟩
  refine r_aload_0 1 rfl (dd_X12_init_0 0 _ _ _ rfl) ?_
  refine r_objInit hg (tb_6 54 _ rfl) (tb_1 42 _ rfl) (tb_1 43 _ rfl) (Nat.le_of_ble_eq_true rfl) (by decide) 4 rfl (dd_X12_init_0 1 _ _ _ rfl) ?_
  refine r_aload_0 5 rfl (dd_X12_init_0 2 _ _ _ rfl) ?_
  refine r_bipush (by decide) 7 rfl (dd_X12_init_0 3 _ _ _ rfl) ?_
  refine r_newarray 21 31 74809 hg (by decide) (by decide) rfl (tb_1 58 _ rfl) (by decide) (by decide) (by decide) (Nat.le_of_ble_eq_true rfl) 9 rfl (dd_X12_init_0 4 _ _ _ rfl) (fun a ha => ?_)
  refine r_putrF hg zc_X12 3 (by decide) rfl (fun _ _ _ => rfl) rfl rfl (by decide) (hq.kd_nar ha) rfl rfl (Or.inl rfl) (tb_6 59 _ rfl) 12 rfl (dd_X12_init_0 5 _ _ _ rfl) ?_
  replace hq := hq.step (k := 3) (l := (8 : Int).toNat) ha (by decide) (by decide) (by decide) (by decide)
  rw [show z_mk 3 = 21 from rfl] at hq
  generalize sfr (nar _ a 21 _) m 3 (some a) = h at hq ⊢
  refine r_aload_0 13 rfl (dd_X12_init_0 6 _ _ _ rfl) ?_
  refine r_bipush (by decide) 15 rfl (dd_X12_init_0 7 _ _ _ rfl) ?_
  refine r_newarray 20 30 74797 hg (by decide) (by decide) rfl (tb_1 121 _ rfl) (by decide) (by decide) (by decide) (Nat.le_of_ble_eq_true rfl) 17 rfl (dd_X12_init_0 8 _ _ _ rfl) (fun a ha => ?_)
  refine r_putrF hg zc_X12 5 (by decide) rfl (fun _ _ _ => rfl) rfl rfl (by decide) (hq.kd_nar ha) rfl rfl (Or.inl rfl) (tb_6 61 _ rfl) 20 rfl (dd_X12_init_0 9 _ _ _ rfl) ?_
  replace hq := hq.step (k := 5) (l := (12 : Int).toNat) ha (by decide) (by decide) (by decide) (by decide)
  rw [show z_mk 5 = 20 from rfl] at hq
  generalize sfr (nar _ a 20 _) m 5 (some a) = h at hq ⊢
  refine r_aload_0 21 rfl (dd_X12_init_0 10 _ _ _ rfl) ?_
  refine r_bipush (by decide) 23 rfl (dd_X12_init_0 11 _ _ _ rfl) ?_
  refine r_newarray 20 29 74785 hg (by decide) (by decide) rfl (tb_1 121 _ rfl) (by decide) (by decide) (by decide) (Nat.le_of_ble_eq_true rfl) 25 rfl (dd_X12_init_0 12 _ _ _ rfl) (fun a ha => ?_)
  refine r_putrF hg zc_X12 6 (by decide) rfl (fun _ _ _ => rfl) rfl rfl (by decide) (hq.kd_nar ha) rfl rfl (Or.inl rfl) (tb_6 62 _ rfl) 28 rfl (dd_X12_init_0 13 _ _ _ rfl) ?_
  replace hq := hq.step (k := 6) (l := (12 : Int).toNat) ha (by decide) (by decide) (by decide) (by decide)
  rw [show z_mk 6 = 20 from rfl] at hq
  generalize sfr (nar _ a 20 _) m 6 (some a) = h at hq ⊢
  refine r_aload_0 29 rfl (dd_X12_init_0 14 _ _ _ rfl) ?_
  refine r_bipush (by decide) 31 rfl (dd_X12_init_0 15 _ _ _ rfl) ?_
  refine r_newarray 20 28 74773 hg (by decide) (by decide) rfl (tb_1 121 _ rfl) (by decide) (by decide) (by decide) (Nat.le_of_ble_eq_true rfl) 33 rfl (dd_X12_init_0 16 _ _ _ rfl) (fun a ha => ?_)
  refine r_putrF hg zc_X12 7 (by decide) rfl (fun _ _ _ => rfl) rfl rfl (by decide) (hq.kd_nar ha) rfl rfl (Or.inl rfl) (tb_6 63 _ rfl) 36 rfl (dd_X12_init_0 17 _ _ _ rfl) ?_
  replace hq := hq.step (k := 7) (l := (12 : Int).toNat) ha (by decide) (by decide) (by decide) (by decide)
  rw [show z_mk 7 = 20 from rfl] at hq
  generalize sfr (nar _ a 20 _) m 7 (some a) = h at hq ⊢
  refine r_aload_0 37 rfl (dd_X12_init_0 18 _ _ _ rfl) ?_
  refine r_bipush (by decide) 39 rfl (dd_X12_init_0 19 _ _ _ rfl) ?_
  refine r_newarray 20 27 74761 hg (by decide) (by decide) rfl (tb_1 121 _ rfl) (by decide) (by decide) (by decide) (Nat.le_of_ble_eq_true rfl) 41 rfl (dd_X12_init_0 20 _ _ _ rfl) (fun a ha => ?_)
  refine r_putrF hg zc_X12 8 (by decide) rfl (fun _ _ _ => rfl) rfl rfl (by decide) (hq.kd_nar ha) rfl rfl (Or.inl rfl) (tb_6 64 _ rfl) 44 rfl (dd_X12_init_0 21 _ _ _ rfl) ?_
  replace hq := hq.step (k := 8) (l := (12 : Int).toNat) ha (by decide) (by decide) (by decide) (by decide)
  rw [show z_mk 8 = 20 from rfl] at hq
  generalize sfr (nar _ a 20 _) m 8 (some a) = h at hq ⊢
  refine r_aload_0 45 rfl (dd_X12_init_0 22 _ _ _ rfl) ?_
  refine r_sipush (by decide) 48 rfl (dd_X12_init_0 23 _ _ _ rfl) ?_
  refine r_newarray 20 26 74401 hg (by decide) (by decide) rfl (tb_1 121 _ rfl) (by decide) (by decide) (by decide) (Nat.le_of_ble_eq_true rfl) 50 rfl (dd_X12_init_0 24 _ _ _ rfl) (fun a ha => ?_)
  refine r_putrF hg zc_X12 9 (by decide) rfl (fun _ _ _ => rfl) rfl rfl (by decide) (hq.kd_nar ha) rfl rfl (Or.inl rfl) (tb_6 65 _ rfl) 53 rfl (dd_X12_init_0 25 _ _ _ rfl) ?_
  replace hq := hq.step (k := 9) (l := (360 : Int).toNat) ha (by decide) (by decide) (by decide) (by decide)
  rw [show z_mk 9 = 20 from rfl] at hq
  generalize sfr (nar _ a 20 _) m 9 (some a) = h at hq ⊢
  refine r_aload_0 54 rfl (dd_X12_init_0 26 _ _ _ rfl) ?_
  refine r_sipush (by decide) 57 rfl (dd_X12_init_0 27 _ _ _ rfl) ?_
  refine r_newarray 20 25 74041 hg (by decide) (by decide) rfl (tb_1 121 _ rfl) (by decide) (by decide) (by decide) (Nat.le_of_ble_eq_true rfl) 59 rfl (dd_X12_init_0 28 _ _ _ rfl) (fun a ha => ?_)
  refine r_putrF hg zc_X12 10 (by decide) rfl (fun _ _ _ => rfl) rfl rfl (by decide) (hq.kd_nar ha) rfl rfl (Or.inl rfl) (tb_6 66 _ rfl) 62 rfl (dd_X12_init_0 29 _ _ _ rfl) ?_
  replace hq := hq.step (k := 10) (l := (360 : Int).toNat) ha (by decide) (by decide) (by decide) (by decide)
  rw [show z_mk 10 = 20 from rfl] at hq
  generalize sfr (nar _ a 20 _) m 10 (some a) = h at hq ⊢
  refine r_aload_0 63 rfl (dd_X12_init_0 30 _ _ _ rfl) ?_
  refine r_sipush (by decide) 66 rfl (dd_X12_init_0 31 _ _ _ rfl) ?_
  refine r_newarray 20 24 73681 hg (by decide) (by decide) rfl (tb_1 121 _ rfl) (by decide) (by decide) (by decide) (Nat.le_of_ble_eq_true rfl) 68 rfl (dd_X12_init_0 32 _ _ _ rfl) (fun a ha => ?_)
  refine r_putrF hg zc_X12 11 (by decide) rfl (fun _ _ _ => rfl) rfl rfl (by decide) (hq.kd_nar ha) rfl rfl (Or.inl rfl) (tb_6 67 _ rfl) 71 rfl (dd_X12_init_0 33 _ _ _ rfl) ?_
  replace hq := hq.step (k := 11) (l := (360 : Int).toNat) ha (by decide) (by decide) (by decide) (by decide)
  rw [show z_mk 11 = 20 from rfl] at hq
  generalize sfr (nar _ a 20 _) m 11 (some a) = h at hq ⊢
  refine r_aload_0 72 rfl (dd_X12_init_0 34 _ _ _ rfl) ?_
  refine r_bipush (by decide) 74 rfl (dd_X12_init_0 35 _ _ _ rfl) ?_
  refine r_newarray 22 23 73671 hg (by decide) (by decide) rfl (tb_1 76 _ rfl) (by decide) (by decide) (by decide) (Nat.le_of_ble_eq_true rfl) 76 rfl (dd_X12_init_0 36 _ _ _ rfl) (fun a ha => ?_)
  refine r_putrF hg zc_X12 13 (by decide) rfl (fun _ _ _ => rfl) rfl rfl (by decide) (hq.kd_nar ha) rfl rfl (Or.inl rfl) (tb_6 69 _ rfl) 79 rfl (dd_X12_init_0 37 _ _ _ rfl) ?_
  replace hq := hq.step (k := 13) (l := (10 : Int).toNat) ha (by decide) (by decide) (by decide) (by decide)
  rw [show z_mk 13 = 22 from rfl] at hq
  generalize sfr (nar _ a 22 _) m 13 (some a) = h at hq ⊢
  refine r_aload_0 80 rfl (dd_X12_init_0 38 _ _ _ rfl) ?_
  refine r_bipush (by decide) 82 rfl (dd_X12_init_0 39 _ _ _ rfl) ?_
  refine r_newarray 20 22 73661 hg (by decide) (by decide) rfl (tb_1 121 _ rfl) (by decide) (by decide) (by decide) (Nat.le_of_ble_eq_true rfl) 84 rfl (dd_X12_init_0 40 _ _ _ rfl) (fun a ha => ?_)
  refine r_putrF hg zc_X12 14 (by decide) rfl (fun _ _ _ => rfl) rfl rfl (by decide) (hq.kd_nar ha) rfl rfl (Or.inl rfl) (tb_6 70 _ rfl) 87 rfl (dd_X12_init_0 41 _ _ _ rfl) ?_
  replace hq := hq.step (k := 14) (l := (10 : Int).toNat) ha (by decide) (by decide) (by decide) (by decide)
  rw [show z_mk 14 = 20 from rfl] at hq
  generalize sfr (nar _ a 20 _) m 14 (some a) = h at hq ⊢
  refine r_aload_0 88 rfl (dd_X12_init_0 42 _ _ _ rfl) ?_
  refine r_sipush (by decide) 91 rfl (dd_X12_init_0 43 _ _ _ rfl) ?_
  refine r_newarray 22 21 72985 hg (by decide) (by decide) rfl (tb_1 76 _ rfl) (by decide) (by decide) (by decide) (Nat.le_of_ble_eq_true rfl) 93 rfl (dd_X12_init_0 44 _ _ _ rfl) (fun a ha => ?_)
  refine r_putrF hg zc_X12 15 (by decide) rfl (fun _ _ _ => rfl) rfl rfl (by decide) (hq.kd_nar ha) rfl rfl (Or.inl rfl) (tb_6 71 _ rfl) 96 rfl (dd_X12_init_0 45 _ _ _ rfl) ?_
  replace hq := hq.step (k := 15) (l := (676 : Int).toNat) ha (by decide) (by decide) (by decide) (by decide)
  rw [show z_mk 15 = 22 from rfl] at hq
  generalize sfr (nar _ a 22 _) m 15 (some a) = h at hq ⊢
  refine r_aload_0 97 rfl (dd_X12_init_0 46 _ _ _ rfl) ?_
  refine r_iconst 98 rfl (dd_X12_init_0 47 _ _ _ rfl) ?_
  refine r_puti hg zc_X12 16 (by decide) rfl (fun _ _ _ => rfl) rfl rfl (by decide) hq.1.1 (Or.inl rfl) (tb_6 72 _ rfl) 101 rfl (dd_X12_init_0 48 _ _ _ rfl) ?_
  replace hq := hq.ser (-1)
  generalize sfi _ m 16 (-1) = h at hq ⊢
  refine r_aload_0 102 rfl (dd_X12_init_0 49 _ _ _ rfl) ?_
  refine r_sipush (by decide) 105 rfl (dd_X12_init_0 50 _ _ _ rfl) ?_
  refine r_newarray 23 20 71928 hg (by decide) (by decide) rfl (tb_1 77 _ rfl) (by decide) (by decide) (by decide) (Nat.le_of_ble_eq_true rfl) 107 rfl (dd_X12_init_0 51 _ _ _ rfl) (fun a ha => ?_)
  refine r_putrF hg zc_X12 17 (by decide) rfl (fun _ _ _ => rfl) rfl rfl (by decide) (hq.kd_nar ha) rfl rfl (Or.inl rfl) (tb_6 73 _ rfl) 110 rfl (dd_X12_init_0 52 _ _ _ rfl) ?_
  replace hq := hq.step (k := 17) (l := (1057 : Int).toNat) ha (by decide) (by decide) (by decide) (by decide)
  rw [show z_mk 17 = 23 from rfl] at hq
  generalize sfr (nar _ a 23 _) m 17 (some a) = h at hq ⊢
  refine r_aload_0 111 rfl (dd_X12_init_0 53 _ _ _ rfl) ?_
  refine r_ldc hg (tb_6 55 _ rfl) 113 rfl (dd_X12_init_0 54 _ _ _ rfl) ?_
  refine r_top 67600 rfl ?_
  refine r_newarray 23 19 4328 hg (by decide) (by decide) rfl (tb_1 77 _ rfl) (by decide) (by decide) (by decide) (Nat.le_of_ble_eq_true rfl) 115 rfl (dd_X12_init_0 55 _ _ _ rfl) (fun a ha => ?_)
  refine r_putrF hg zc_X12 19 (by decide) rfl (fun _ _ _ => rfl) rfl rfl (by decide) (hq.kd_nar ha) rfl rfl (Or.inl rfl) (tb_6 75 _ rfl) 118 rfl (dd_X12_init_0 56 _ _ _ rfl) ?_
  replace hq := hq.step (k := 19) (l := (67600 : Int).toNat) ha (by decide) (by decide) (by decide) (by decide)
  rw [show z_mk 19 = 23 from rfl] at hq
  generalize sfr (nar _ a 23 _) m 19 (some a) = h at hq ⊢
  refine r_aload_0 119 rfl (dd_X12_init_0 57 _ _ _ rfl) ?_
  refine r_bipush (by decide) 121 rfl (dd_X12_init_0 58 _ _ _ rfl) ?_
  refine r_newarray 20 18 4288 hg (by decide) (by decide) rfl (tb_1 121 _ rfl) (by decide) (by decide) (by decide) (Nat.le_of_ble_eq_true rfl) 123 rfl (dd_X12_init_0 59 _ _ _ rfl) (fun a ha => ?_)
  refine r_putrF hg zc_X12 21 (by decide) rfl (fun _ _ _ => rfl) rfl rfl (by decide) (hq.kd_nar ha) rfl rfl (Or.inl rfl) (tb_6 77 _ rfl) 126 rfl (dd_X12_init_1 0 _ _ _ rfl) ?_
  replace hq := hq.step (k := 21) (l := (40 : Int).toNat) ha (by decide) (by decide) (by decide) (by decide)
  rw [show z_mk 21 = 20 from rfl] at hq
  generalize sfr (nar _ a 20 _) m 21 (some a) = h at hq ⊢
  refine r_aload_0 127 rfl (dd_X12_init_1 1 _ _ _ rfl) ?_
  refine r_bipush (by decide) 129 rfl (dd_X12_init_1 2 _ _ _ rfl) ?_
  refine r_newarray 20 17 4248 hg (by decide) (by decide) rfl (tb_1 121 _ rfl) (by decide) (by decide) (by decide) (Nat.le_of_ble_eq_true rfl) 131 rfl (dd_X12_init_1 3 _ _ _ rfl) (fun a ha => ?_)
  refine r_putrF hg zc_X12 22 (by decide) rfl (fun _ _ _ => rfl) rfl rfl (by decide) (hq.kd_nar ha) rfl rfl (Or.inl rfl) (tb_6 78 _ rfl) 134 rfl (dd_X12_init_1 4 _ _ _ rfl) ?_
  replace hq := hq.step (k := 22) (l := (40 : Int).toNat) ha (by decide) (by decide) (by decide) (by decide)
  rw [show z_mk 22 = 20 from rfl] at hq
  generalize sfr (nar _ a 20 _) m 22 (some a) = h at hq ⊢
  refine r_aload_0 135 rfl (dd_X12_init_1 5 _ _ _ rfl) ?_
  refine r_bipush (by decide) 137 rfl (dd_X12_init_1 6 _ _ _ rfl) ?_
  refine r_newarray 20 16 4208 hg (by decide) (by decide) rfl (tb_1 121 _ rfl) (by decide) (by decide) (by decide) (Nat.le_of_ble_eq_true rfl) 139 rfl (dd_X12_init_1 7 _ _ _ rfl) (fun a ha => ?_)
  refine r_putrF hg zc_X12 23 (by decide) rfl (fun _ _ _ => rfl) rfl rfl (by decide) (hq.kd_nar ha) rfl rfl (Or.inl rfl) (tb_6 79 _ rfl) 142 rfl (dd_X12_init_1 8 _ _ _ rfl) ?_
  replace hq := hq.step (k := 23) (l := (40 : Int).toNat) ha (by decide) (by decide) (by decide) (by decide)
  rw [show z_mk 23 = 20 from rfl] at hq
  generalize sfr (nar _ a 20 _) m 23 (some a) = h at hq ⊢
  refine r_aload_0 143 rfl (dd_X12_init_1 9 _ _ _ rfl) ?_
  refine r_bipush (by decide) 145 rfl (dd_X12_init_1 10 _ _ _ rfl) ?_
  refine r_newarray 23 15 4196 hg (by decide) (by decide) rfl (tb_1 77 _ rfl) (by decide) (by decide) (by decide) (Nat.le_of_ble_eq_true rfl) 147 rfl (dd_X12_init_1 11 _ _ _ rfl) (fun a ha => ?_)
  refine r_putrF hg zc_X12 24 (by decide) rfl (fun _ _ _ => rfl) rfl rfl (by decide) (hq.kd_nar ha) rfl rfl (Or.inl rfl) (tb_6 80 _ rfl) 150 rfl (dd_X12_init_1 12 _ _ _ rfl) ?_
  replace hq := hq.step (k := 24) (l := (12 : Int).toNat) ha (by decide) (by decide) (by decide) (by decide)
  rw [show z_mk 24 = 23 from rfl] at hq
  generalize sfr (nar _ a 23 _) m 24 (some a) = h at hq ⊢
  refine r_aload_0 151 rfl (dd_X12_init_1 13 _ _ _ rfl) ?_
  refine r_bipush (by decide) 153 rfl (dd_X12_init_1 14 _ _ _ rfl) ?_
  refine r_newarray 20 14 4184 hg (by decide) (by decide) rfl (tb_1 121 _ rfl) (by decide) (by decide) (by decide) (Nat.le_of_ble_eq_true rfl) 155 rfl (dd_X12_init_1 15 _ _ _ rfl) (fun a ha => ?_)
  refine r_putrF hg zc_X12 25 (by decide) rfl (fun _ _ _ => rfl) rfl rfl (by decide) (hq.kd_nar ha) rfl rfl (Or.inl rfl) (tb_6 81 _ rfl) 158 rfl (dd_X12_init_1 16 _ _ _ rfl) ?_
  replace hq := hq.step (k := 25) (l := (12 : Int).toNat) ha (by decide) (by decide) (by decide) (by decide)
  rw [show z_mk 25 = 20 from rfl] at hq
  generalize sfr (nar _ a 20 _) m 25 (some a) = h at hq ⊢
  refine r_aload_0 159 rfl (dd_X12_init_1 17 _ _ _ rfl) ?_
  refine r_bipush (by decide) 161 rfl (dd_X12_init_1 18 _ _ _ rfl) ?_
  refine r_newarray 20 13 4172 hg (by decide) (by decide) rfl (tb_1 121 _ rfl) (by decide) (by decide) (by decide) (Nat.le_of_ble_eq_true rfl) 163 rfl (dd_X12_init_1 19 _ _ _ rfl) (fun a ha => ?_)
  refine r_putrF hg zc_X12 26 (by decide) rfl (fun _ _ _ => rfl) rfl rfl (by decide) (hq.kd_nar ha) rfl rfl (Or.inl rfl) (tb_6 82 _ rfl) 166 rfl (dd_X12_init_1 20 _ _ _ rfl) ?_
  replace hq := hq.step (k := 26) (l := (12 : Int).toNat) ha (by decide) (by decide) (by decide) (by decide)
  rw [show z_mk 26 = 20 from rfl] at hq
  generalize sfr (nar _ a 20 _) m 26 (some a) = h at hq ⊢
  refine r_aload_0 167 rfl (dd_X12_init_1 21 _ _ _ rfl) ?_
  refine r_bipush (by decide) 169 rfl (dd_X12_init_1 22 _ _ _ rfl) ?_
  refine r_newarray 20 12 4160 hg (by decide) (by decide) rfl (tb_1 121 _ rfl) (by decide) (by decide) (by decide) (Nat.le_of_ble_eq_true rfl) 171 rfl (dd_X12_init_1 23 _ _ _ rfl) (fun a ha => ?_)
  refine r_putrF hg zc_X12 27 (by decide) rfl (fun _ _ _ => rfl) rfl rfl (by decide) (hq.kd_nar ha) rfl rfl (Or.inl rfl) (tb_6 83 _ rfl) 174 rfl (dd_X12_init_1 24 _ _ _ rfl) ?_
  replace hq := hq.step (k := 27) (l := (12 : Int).toNat) ha (by decide) (by decide) (by decide) (by decide)
  rw [show z_mk 27 = 20 from rfl] at hq
  generalize sfr (nar _ a 20 _) m 27 (some a) = h at hq ⊢
  refine r_aload_0 175 rfl (dd_X12_init_1 25 _ _ _ rfl) ?_
  refine r_bipush (by decide) 177 rfl (dd_X12_init_1 26 _ _ _ rfl) ?_
  refine r_newarray 20 11 4148 hg (by decide) (by decide) rfl (tb_1 121 _ rfl) (by decide) (by decide) (by decide) (Nat.le_of_ble_eq_true rfl) 179 rfl (dd_X12_init_1 27 _ _ _ rfl) (fun a ha => ?_)
  refine r_putrF hg zc_X12 28 (by decide) rfl (fun _ _ _ => rfl) rfl rfl (by decide) (hq.kd_nar ha) rfl rfl (Or.inl rfl) (tb_6 84 _ rfl) 182 rfl (dd_X12_init_1 28 _ _ _ rfl) ?_
  replace hq := hq.step (k := 28) (l := (12 : Int).toNat) ha (by decide) (by decide) (by decide) (by decide)
  rw [show z_mk 28 = 20 from rfl] at hq
  generalize sfr (nar _ a 20 _) m 28 (some a) = h at hq ⊢
  refine r_aload_0 183 rfl (dd_X12_init_1 29 _ _ _ rfl) ?_
  refine r_bipush (by decide) 185 rfl (dd_X12_init_1 30 _ _ _ rfl) ?_
  refine r_newarray 20 10 4136 hg (by decide) (by decide) rfl (tb_1 121 _ rfl) (by decide) (by decide) (by decide) (Nat.le_of_ble_eq_true rfl) 187 rfl (dd_X12_init_1 31 _ _ _ rfl) (fun a ha => ?_)
  refine r_putrF hg zc_X12 29 (by decide) rfl (fun _ _ _ => rfl) rfl rfl (by decide) (hq.kd_nar ha) rfl rfl (Or.inl rfl) (tb_6 85 _ rfl) 190 rfl (dd_X12_init_1 32 _ _ _ rfl) ?_
  replace hq := hq.step (k := 29) (l := (12 : Int).toNat) ha (by decide) (by decide) (by decide) (by decide)
  rw [show z_mk 29 = 20 from rfl] at hq
  generalize sfr (nar _ a 20 _) m 29 (some a) = h at hq ⊢
  refine r_aload_0 191 rfl (dd_X12_init_1 33 _ _ _ rfl) ?_
  refine r_sipush (by decide) 194 rfl (dd_X12_init_1 34 _ _ _ rfl) ?_
  refine r_newarray 23 9 380 hg (by decide) (by decide) rfl (tb_1 77 _ rfl) (by decide) (by decide) (by decide) (Nat.le_of_ble_eq_true rfl) 196 rfl (dd_X12_init_1 35 _ _ _ rfl) (fun a ha => ?_)
  refine r_putrF hg zc_X12 30 (by decide) rfl (fun _ _ _ => rfl) rfl rfl (by decide) (hq.kd_nar ha) rfl rfl (Or.inl rfl) (tb_6 86 _ rfl) 199 rfl (dd_X12_init_1 36 _ _ _ rfl) ?_
  replace hq := hq.step (k := 30) (l := (3756 : Int).toNat) ha (by decide) (by decide) (by decide) (by decide)
  rw [show z_mk 30 = 23 from rfl] at hq
  generalize sfr (nar _ a 23 _) m 30 (some a) = h at hq ⊢
  refine r_aload_0 200 rfl (dd_X12_init_1 37 _ _ _ rfl) ?_
  refine r_sipush (by decide) 203 rfl (dd_X12_init_1 38 _ _ _ rfl) ?_
  refine r_newarray 21 8 220 hg (by decide) (by decide) rfl (tb_1 58 _ rfl) (by decide) (by decide) (by decide) (Nat.le_of_ble_eq_true rfl) 205 rfl (dd_X12_init_1 39 _ _ _ rfl) (fun a ha => ?_)
  refine r_putrF hg zc_X12 32 (by decide) rfl (fun _ _ _ => rfl) rfl rfl (by decide) (hq.kd_nar ha) rfl rfl (Or.inl rfl) (tb_6 88 _ rfl) 208 rfl (dd_X12_init_1 40 _ _ _ rfl) ?_
  replace hq := hq.step (k := 32) (l := (160 : Int).toNat) ha (by decide) (by decide) (by decide) (by decide)
  rw [show z_mk 32 = 21 from rfl] at hq
  generalize sfr (nar _ a 21 _) m 32 (some a) = h at hq ⊢
  refine r_aload_0 209 rfl (dd_X12_init_1 41 _ _ _ rfl) ?_
  refine r_bipush (by decide) 211 rfl (dd_X12_init_1 42 _ _ _ rfl) ?_
  refine r_newarray 20 7 180 hg (by decide) (by decide) rfl (tb_1 121 _ rfl) (by decide) (by decide) (by decide) (Nat.le_of_ble_eq_true rfl) 213 rfl (dd_X12_init_1 43 _ _ _ rfl) (fun a ha => ?_)
  refine r_putrF hg zc_X12 33 (by decide) rfl (fun _ _ _ => rfl) rfl rfl (by decide) (hq.kd_nar ha) rfl rfl (Or.inl rfl) (tb_6 89 _ rfl) 216 rfl (dd_X12_init_1 44 _ _ _ rfl) ?_
  replace hq := hq.step (k := 33) (l := (40 : Int).toNat) ha (by decide) (by decide) (by decide) (by decide)
  rw [show z_mk 33 = 20 from rfl] at hq
  generalize sfr (nar _ a 20 _) m 33 (some a) = h at hq ⊢
  refine r_aload_0 217 rfl (dd_X12_init_1 45 _ _ _ rfl) ?_
  refine r_bipush (by decide) 219 rfl (dd_X12_init_1 46 _ _ _ rfl) ?_
  refine r_newarray 20 6 140 hg (by decide) (by decide) rfl (tb_1 121 _ rfl) (by decide) (by decide) (by decide) (Nat.le_of_ble_eq_true rfl) 221 rfl (dd_X12_init_1 47 _ _ _ rfl) (fun a ha => ?_)
  refine r_putrF hg zc_X12 34 (by decide) rfl (fun _ _ _ => rfl) rfl rfl (by decide) (hq.kd_nar ha) rfl rfl (Or.inl rfl) (tb_6 90 _ rfl) 224 rfl (dd_X12_init_1 48 _ _ _ rfl) ?_
  replace hq := hq.step (k := 34) (l := (40 : Int).toNat) ha (by decide) (by decide) (by decide) (by decide)
  rw [show z_mk 34 = 20 from rfl] at hq
  generalize sfr (nar _ a 20 _) m 34 (some a) = h at hq ⊢
  refine r_aload_0 225 rfl (dd_X12_init_1 49 _ _ _ rfl) ?_
  refine r_bipush (by decide) 227 rfl (dd_X12_init_1 50 _ _ _ rfl) ?_
  refine r_newarray 20 5 100 hg (by decide) (by decide) rfl (tb_1 121 _ rfl) (by decide) (by decide) (by decide) (Nat.le_of_ble_eq_true rfl) 229 rfl (dd_X12_init_1 51 _ _ _ rfl) (fun a ha => ?_)
  refine r_putrF hg zc_X12 35 (by decide) rfl (fun _ _ _ => rfl) rfl rfl (by decide) (hq.kd_nar ha) rfl rfl (Or.inl rfl) (tb_6 91 _ rfl) 232 rfl (dd_X12_init_1 52 _ _ _ rfl) ?_
  replace hq := hq.step (k := 35) (l := (40 : Int).toNat) ha (by decide) (by decide) (by decide) (by decide)
  rw [show z_mk 35 = 20 from rfl] at hq
  generalize sfr (nar _ a 20 _) m 35 (some a) = h at hq ⊢
  refine r_aload_0 233 rfl (dd_X12_init_1 53 _ _ _ rfl) ?_
  refine r_bipush (by decide) 235 rfl (dd_X12_init_1 54 _ _ _ rfl) ?_
  refine r_newarray 20 4 80 hg (by decide) (by decide) rfl (tb_1 121 _ rfl) (by decide) (by decide) (by decide) (Nat.le_of_ble_eq_true rfl) 237 rfl (dd_X12_init_1 55 _ _ _ rfl) (fun a ha => ?_)
  refine r_putrF hg zc_X12 37 (by decide) rfl (fun _ _ _ => rfl) rfl rfl (by decide) (hq.kd_nar ha) rfl rfl (Or.inl rfl) (tb_6 93 _ rfl) 240 rfl (dd_X12_init_1 56 _ _ _ rfl) ?_
  replace hq := hq.step (k := 37) (l := (20 : Int).toNat) ha (by decide) (by decide) (by decide) (by decide)
  rw [show z_mk 37 = 20 from rfl] at hq
  generalize sfr (nar _ a 20 _) m 37 (some a) = h at hq ⊢
  refine r_aload_0 241 rfl (dd_X12_init_1 57 _ _ _ rfl) ?_
  refine r_bipush (by decide) 243 rfl (dd_X12_init_1 58 _ _ _ rfl) ?_
  refine r_newarray 20 3 60 hg (by decide) (by decide) rfl (tb_1 121 _ rfl) (by decide) (by decide) (by decide) (Nat.le_of_ble_eq_true rfl) 245 rfl (dd_X12_init_1 59 _ _ _ rfl) (fun a ha => ?_)
  refine r_putrF hg zc_X12 38 (by decide) rfl (fun _ _ _ => rfl) rfl rfl (by decide) (hq.kd_nar ha) rfl rfl (Or.inl rfl) (tb_6 94 _ rfl) 248 rfl (dd_X12_init_2 0 _ _ _ rfl) ?_
  replace hq := hq.step (k := 38) (l := (20 : Int).toNat) ha (by decide) (by decide) (by decide) (by decide)
  rw [show z_mk 38 = 20 from rfl] at hq
  generalize sfr (nar _ a 20 _) m 38 (some a) = h at hq ⊢
  refine r_aload_0 249 rfl (dd_X12_init_2 1 _ _ _ rfl) ?_
  refine r_bipush (by decide) 251 rfl (dd_X12_init_2 2 _ _ _ rfl) ?_
  refine r_newarray 20 2 40 hg (by decide) (by decide) rfl (tb_1 121 _ rfl) (by decide) (by decide) (by decide) (Nat.le_of_ble_eq_true rfl) 253 rfl (dd_X12_init_2 3 _ _ _ rfl) (fun a ha => ?_)
  refine r_putrF hg zc_X12 39 (by decide) rfl (fun _ _ _ => rfl) rfl rfl (by decide) (hq.kd_nar ha) rfl rfl (Or.inl rfl) (tb_6 95 _ rfl) 256 rfl (dd_X12_init_2 4 _ _ _ rfl) ?_
  replace hq := hq.step (k := 39) (l := (20 : Int).toNat) ha (by decide) (by decide) (by decide) (by decide)
  rw [show z_mk 39 = 20 from rfl] at hq
  generalize sfr (nar _ a 20 _) m 39 (some a) = h at hq ⊢
  refine r_aload_0 257 rfl (dd_X12_init_2 5 _ _ _ rfl) ?_
  refine r_bipush (by decide) 259 rfl (dd_X12_init_2 6 _ _ _ rfl) ?_
  refine r_newarray 20 1 20 hg (by decide) (by decide) rfl (tb_1 121 _ rfl) (by decide) (by decide) (by decide) (Nat.le_of_ble_eq_true rfl) 261 rfl (dd_X12_init_2 7 _ _ _ rfl) (fun a ha => ?_)
  refine r_putrF hg zc_X12 40 (by decide) rfl (fun _ _ _ => rfl) rfl rfl (by decide) (hq.kd_nar ha) rfl rfl (Or.inl rfl) (tb_6 96 _ rfl) 264 rfl (dd_X12_init_2 8 _ _ _ rfl) ?_
  replace hq := hq.step (k := 40) (l := (20 : Int).toNat) ha (by decide) (by decide) (by decide) (by decide)
  rw [show z_mk 40 = 20 from rfl] at hq
  generalize sfr (nar _ a 20 _) m 40 (some a) = h at hq ⊢
  refine r_aload_0 265 rfl (dd_X12_init_2 9 _ _ _ rfl) ?_
  refine r_bipush (by decide) 267 rfl (dd_X12_init_2 10 _ _ _ rfl) ?_
  refine r_newarray 20 0 0 hg (by decide) (by decide) rfl (tb_1 121 _ rfl) (by decide) (by decide) (by decide) (Nat.le_of_ble_eq_true rfl) 269 rfl (dd_X12_init_2 11 _ _ _ rfl) (fun a ha => ?_)
  refine r_putrF hg zc_X12 41 (by decide) rfl (fun _ _ _ => rfl) rfl rfl (by decide) (hq.kd_nar ha) rfl rfl (Or.inl rfl) (tb_6 97 _ rfl) 272 rfl (dd_X12_init_2 12 _ _ _ rfl) ?_
  replace hq := hq.step (k := 41) (l := (20 : Int).toNat) ha (by decide) (by decide) (by decide) (by decide)
  rw [show z_mk 41 = 20 from rfl] at hq
  generalize sfr (nar _ a 20 _) m 41 (some a) = h at hq ⊢
  refine r_vreturn rfl (dd_X12_init_2 13 _ _ _ rfl) ?_
  obtain ⟨⟨q1, q2, q3, q4, q5⟩, q6⟩ := hq
  exact k _ _ (MPart.rep ⟨q1, fun j hj h9 => q2 j (by have := z_mk_lt j h9; omega) h9, fun i j hi hj h8 h9 q => q3 i j (by have := z_mk_lt i h8; omega) (by have := z_mk_lt j h9; omega) h8 h9 q, q4, q5⟩) q5 (fun j h9 => q6 j (by have := z_mk_lt j h9; omega) h9)
