theorem zvof_at {S : zS} (us : ∀ u v : Nat, u < v → (v : Int) < S.1 4 → S.2 5 u ≠ S.2 5 v) {u : Nat} : ∀ N : Nat, u < N → (N : Int) ≤ S.1 4 → zvof S (S.2 5 u) N = u
  | 0, h, _ => absurd h (by omega)
  | N + 1, h, h4 => by
    unfold zvof
    by_cases q : u = N
    · subst q; rw [if_pos rfl]
    · rw [if_neg (fun e => us u N (by omega) (by omega) e.symm)]
      exact zvof_at us N (by omega) (by omega)
theorem zpre_mono {P P2 : Nat → Bool} (hp : ∀ j, P j = true → P2 j = true) (n : Nat) : zpre P n ≤ zpre P2 n := by
  rcases Nat.lt_or_ge (zpre P2 n) (zpre P n) with q | q
  · have h1 := zpre_le P n
    have h2 := zpre_stop P2 n (by omega)
    rw [hp _ (zpre_all P n _ q)] at h2
    cases h2
  · exact q
theorem zst_gone {S : zS} {v i : Nat} (h : (zst S v i).1 = 4) : ∀ j, i ≤ j → (zst S v j).1 = 4
  | 0, hj => by rw [show i = 0 by omega] at h; exact h
  | j + 1, hj => by
    by_cases q : i = j + 1
    · rw [q] at h; exact h
    · have e := zst_gone h j (by omega)
      unfold zst zchg
      rw [if_pos e]; exact e
theorem gone_stays {S : zS} {v : Nat} {d t : Int} (h : zstate S v d = 4) (hd : d ≤ t) : zstate S v t = 4 := by
  refine zst_gone h _ ?_
  unfold zev
  refine zpre_mono (fun j hj => ?_) _
  have hj : S.2 11 (30 * v + j) ≤ d := by simpa using hj
  simp; omega
theorem zpo_keeps {ar : Nat → Nat → Int} {v w t : Int} (hw : w ≤ t) (h19 : ∀ i, 0 ≤ ar 19 i) : ∀ k, zpo ar v w k ≠ -1 → zpo ar v t k ≠ -1
  | 0, h => h
  | k + 1, h => by
    unfold zpo at h ⊢
    have e := h19 k
    by_cases q : ar 19 k / 131072 % 16 = v ∧ ar 19 k / 2097152 ≤ t
    · rw [if_pos q]; omega
    · rw [if_neg q]
      rw [if_neg (fun q2 => q ⟨q2.1, by omega⟩)] at h
      exact zpo_keeps hw h19 k h
theorem zsb_agr {S : zS} {s : Nat} : ∀ N : Nat, (zsb S s N).1 ≠ -1 → zagr S.2 s (zplate S (zsb S s N).1 (S.2 34 s))
  | 0, h => absurd rfl h
  | N + 1, h => by
    by_cases q : zagr S.2 s (zplate S N (S.2 34 s))
    · rw [zsb_yes q]; exact q
    · rw [zsb_no q] at h ⊢
      exact zsb_agr N h
theorem seen_plate {n : Nat} {S : zS} (hS : zOK n S) {s : Nat} (h : zseen S s ≠ -1) : zplate S (zseen S s) (S.1 1) ≠ -1 := by
  unfold zseen at h ⊢
  by_cases q : (zsb S s (S.1 4).toNat).2 = 1
  · rw [if_pos q] at h ⊢
    exact zpo_keeps (hS.2 s) (fun i => (hS.1.1.plate i).1) _ (zsb_agr _ h).1
  · rw [if_neg q] at h
    exact absurd rfl h
theorem zdig_law {s : Int} : (s / 10000 * 2 + s / 1000 % 10 * 3 + s / 100 % 10 * 4 + s / 10 % 10 * 5) % 11 = zdigit (s / 10) := by
  unfold zdigit
  have h1 : s / 10 / 1000 = s / 10000 := by omega
  have h2 : s / 10 / 100 = s / 1000 := by omega
  have h3 : s / 10 / 10 = s / 100 := by omega
  rw [h1, h2, h3]
abbrev mL_isSo : zM := (RL, cL_isSo, 9, (Option.some Jvm.ClassFile.FieldType.boolean), [], "isSo", 20)
set_option maxRecDepth 20000
theorem so_C {g : zGT} (hg : zG g) (hnx : zNX g) {n : Nat} {S : zS} (hS : zOK n S) {mc ms : Nat} {Q : zO → zH → Prop} {x : Nat} {v : Nat} {st k day early : Int} (hv : (v : Int) < S.1 4) (he : 0 ≤ early ∧ early ≤ S.1 1) {b1 b2 : Nat} (kk : ∀ o h, CEx g o h x S n → zX g mL_isSo mc ms Q 208 [some (.ref x), some (.int (zI (S.1 1))), some (.int (zI (1))), some (.int (zI ((v : Int)))), some (.int (zI (st))), some (.int (zI (k))), some (.int (zI (day))), some (.int (zI (early))), none] [] h b1 b2) : ∀ (r : Nat) (w : Int), w + r = 4 → 0 ≤ w → ∀ (o : Nat → Nat) (h : zH) (bc bs : Nat), CEx g o h x S n → 8 * r + b1 ≤ bc → 80 * r + b2 ≤ bs → zX g mL_isSo mc ms Q 159 [some (.ref x), some (.int (zI (S.1 1))), some (.int (zI (1))), some (.int (zI ((v : Int)))), some (.int (zI (st))), some (.int (zI (k))), some (.int (zI (day))), some (.int (zI (early))), some (.int (zI (w)))] [] h bc bs := by
  have hI := hS.1.1
  have e4 := hI.vehicles
  have e1 := hI.today
  intro r
  induction r with
  | zero =>
    intro w hw h0 o h bc bs c hb hb2
    refine r_iload_8 161 rfl (dd_L_isSo_1 39 _ _ _ rfl) ?_
    refine r_iconst 162 rfl (dd_L_isSo_1 40 _ _ _ rfl) ?_
    refine r_if_icmpge (by omega) (by omega) 165 rfl 208 rfl (dd_L_isSo_1 41 _ _ _ rfl) (fun hc1 => ?_) (fun hc1 => ?_)
    · first | (exfalso; omega) | exact r_sub _ (z_s1 (z_s1 (z_s1 (z_s1 (z_s1 (z_s1 (z_s1 (z_s1 (z_s0 z_sN))))))))) (r_room (by omega) (by omega) (kk o h c))
    · exfalso; omega
  | succ r ih =>
    intro w hw h0 o h bc bs c hb hb2
    by_cases h6 : 6 ≤ (v : Int)
    · refine r_iload_8 161 rfl (dd_L_isSo_1 39 _ _ _ rfl) ?_
      refine r_iconst 162 rfl (dd_L_isSo_1 40 _ _ _ rfl) ?_
      refine r_if_icmpge (by omega) (by omega) 165 rfl 208 rfl (dd_L_isSo_1 41 _ _ _ rfl) (fun hc1 => ?_) (fun hc1 => ?_)
      · first | (exfalso; omega) | exact r_sub _ (z_s1 (z_s1 (z_s1 (z_s1 (z_s1 (z_s1 (z_s1 (z_s1 (z_s0 z_sN))))))))) (r_room (by omega) (by omega) (kk o h c))
      · refine r_iload_3 166 rfl (dd_L_isSo_1 42 _ _ _ rfl) ?_
        refine r_bipush (by decide) 168 rfl (dd_L_isSo_1 43 _ _ _ rfl) ?_
        refine r_if_icmpge (by omega) (by omega) 171 rfl 208 rfl (dd_L_isSo_1 44 _ _ _ rfl) (fun hc2 => ?_) (fun hc2 => ?_)
        · first | (exfalso; omega) | exact r_sub _ (z_s1 (z_s1 (z_s1 (z_s1 (z_s1 (z_s1 (z_s1 (z_s1 (z_s0 z_sN))))))))) (r_room (by omega) (by omega) (kk o h c))
        · exfalso; omega
    · obtain ⟨Vs, Ps, Ss, Ts, Fs, Tn, A, G, Rc, y⟩ := id c
      have zr := zon_R (u := v) (w := early) (q := w) hI
      refine r_iload_8 161 rfl (dd_L_isSo_1 39 _ _ _ rfl) ?_
      refine r_iconst 162 rfl (dd_L_isSo_1 40 _ _ _ rfl) ?_
      refine r_if_icmpge (by omega) (by omega) 165 rfl 208 rfl (dd_L_isSo_1 41 _ _ _ rfl) (fun hc1 => ?_) (fun hc1 => ?_)
      · exfalso; omega
      · refine r_iload_3 166 rfl (dd_L_isSo_1 42 _ _ _ rfl) ?_
        refine r_bipush (by decide) 168 rfl (dd_L_isSo_1 43 _ _ _ rfl) ?_
        refine r_if_icmpge (by omega) (by omega) 171 rfl 208 rfl (dd_L_isSo_1 44 _ _ _ rfl) (fun hc2 => ?_) (fun hc2 => ?_)
        · exfalso; omega
        · refine r_iload_2 172 rfl (dd_L_isSo_1 45 _ _ _ rfl) ?_
          refine r_ifeq (by omega) 175 rfl 200 rfl (dd_L_isSo_1 46 _ _ _ rfl) (fun q => absurd q (by decide)) (fun _ => ?_)
          refine r_aload_0 176 rfl (dd_L_isSo_1 47 _ _ _ rfl) ?_
          refine r_iload_3 177 rfl (dd_L_isSo_1 48 _ _ _ rfl) ?_
          refine r_iload_7 179 rfl (dd_L_isSo_1 49 _ _ _ rfl) ?_
          refine r_iload_8 181 rfl (dd_L_isSo_1 50 _ _ _ rfl) ?_
          refine r_callV3 (lvl := 15) (mc1 := 4) (ms1 := 40) (bc - 4) (bs - 40) hg rfl md_X11_on zc_X11 c.kd wi_X11_on wv_X11_on (tb_6 35 _ rfl) (by decide) (by decide) rfl (Nat.le_of_ble_eq_true rfl) (by omega) (by omega) 184 rfl (dd_L_isSo_1 51 _ _ _ rfl) ?_
          refine c_X11_on hg hI y (v := (v : Int)) (w := early) (q := w) (by omega) (by omega) (by omega) (fun q => by exfalso; omega) (fun u hu _ q => by exfalso; omega) (fun u hu _ _ => ?_)
          obtain rfl : v = u := by omega
          dsimp only [zCont, Option.toList, List.cons_append, List.nil_append]
          refine r_aload_0 185 rfl (dd_L_isSo_1 52 _ _ _ rfl) ?_
          refine r_iload_3 186 rfl (dd_L_isSo_1 53 _ _ _ rfl) ?_
          refine r_iload_7 188 rfl (dd_L_isSo_1 54 _ _ _ rfl) ?_
          refine r_iload_8 190 rfl (dd_L_isSo_1 55 _ _ _ rfl) ?_
          refine r_callV3 (lvl := 15) (mc1 := 4) (ms1 := 40) ((bc - 4) - 4) ((bs - 40) - 40) hg rfl md_X11_onAnew zc_X11 c.kd wi_X11_onAnew wv_X11_onAnew (tb_6 55 _ rfl) (by decide) (by decide) rfl (Nat.le_of_ble_eq_true rfl) (by omega) (by omega) 193 rfl (dd_L_isSo_1 56 _ _ _ rfl) ?_
          refine c_X11_onAnew hg hI y (v := (v : Int)) (w := early) (q := w) (by omega) (by omega) (by omega) (fun q => by exfalso; omega) (fun u hu _ q => by exfalso; omega) (fun u hu _ _ o1 h1 y1 _ => ?_)
          obtain rfl : v = u := by omega
          dsimp only [zCont, Option.toList, List.cons_append, List.nil_append]
          refine r_if_icmpne zr zr 196 rfl 200 rfl (dd_L_isSo_1 57 _ _ _ rfl) (fun q => absurd rfl q) (fun _ => ?_)
          refine r_iconst 197 rfl (dd_L_isSo_1 58 _ _ _ rfl) ?_
          refine r_goto 201 rfl (dd_L_isSo_1 59 _ _ _ rfl) ?_
          refine r_istore_2 202 rfl (by decide) rfl (dd_L_isSo_2 1 _ _ _ rfl) ?_
          refine r_iinc_8 205 rfl (by decide) rfl (dd_L_isSo_2 2 _ _ _ rfl) ?_
          refine r_goto 159 rfl (dd_L_isSo_2 3 _ _ _ rfl) ?_
          exact r_sub _ (z_s1 (z_s1 (z_s1 (z_s1 (z_s1 (z_s1 (z_s1 (z_s1 (z_s1 z_sN))))))))) (ih (w + 1) (by omega) (by omega) o1 h1 _ _ ⟨Vs, Ps, Ss, Ts, Fs, Tn, A, G, Rc, y1⟩ (by omega) (by omega))
theorem so_B1 {g : zGT} (hg : zG g) (hnx : zNX g) {n : Nat} {S : zS} (hS : zOK n S) {mc ms : Nat} {Q : zO → zH → Prop} {x : Nat} {v : Nat} {st : Int} (hv : (v : Int) < S.1 4) {b1 b2 : Nat} {k : Int} (hk : 0 ≤ k ∧ k ≤ 4) (kk : ∀ o h, CEx g o h x S n → zX g mL_isSo mc ms Q 117 [some (.ref x), some (.int (zI (S.1 1))), some (.int (zI (1))), some (.int (zI ((v : Int)))), some (.int (zI (st))), some (.int (zI (k + 1))), none, none, none] [] h b1 b2) (o : Nat → Nat) (h : zH) (bc bs : Nat) (c : CEx g o h x S n) (hb : 40 + b1 ≤ bc) (hb2 : 400 + b2 ≤ bs) : zX g mL_isSo mc ms Q 117 [some (.ref x), some (.int (zI (S.1 1))), some (.int (zI (1))), some (.int (zI ((v : Int)))), some (.int (zI (st))), some (.int (zI (k))), none, none, none] [] h bc bs := by
  have hI := hS.1.1
  have e4 := hI.vehicles
  have e1 := hI.today
  have hm : 0 ≤ S.1 1 * k ∧ S.1 1 * k ≤ 4 * S.1 1 := by
    rcases (show k = 0 ∨ k = 1 ∨ k = 2 ∨ k = 3 ∨ k = 4 by omega) with rfl | rfl | rfl | rfl | rfl <;> omega
  by_cases q6 : S.1 1 < 160
  · refine r_iload_5 119 rfl (dd_L_isSo_1 15 _ _ _ rfl) ?_
    refine r_iconst 120 rfl (dd_L_isSo_1 16 _ _ _ rfl) ?_
    refine r_if_icmpge (by omega) (by omega) 123 rfl 247 rfl (dd_L_isSo_1 17 _ _ _ rfl) (fun q => by exfalso; omega) (fun _ => ?_)
    refine r_iload_2 124 rfl (dd_L_isSo_1 18 _ _ _ rfl) ?_
    refine r_ifeq (by omega) 127 rfl 247 rfl (dd_L_isSo_1 19 _ _ _ rfl) (fun q => absurd q (by decide)) (fun _ => ?_)
    refine r_iload_1 128 rfl (dd_L_isSo_1 20 _ _ _ rfl) ?_
    refine r_iload_5 130 rfl (dd_L_isSo_1 21 _ _ _ rfl) ?_
    refine r_imul 131 rfl (dd_L_isSo_1 22 _ _ _ rfl) ?_
    refine r_iconst 132 rfl (dd_L_isSo_1 23 _ _ _ rfl) ?_
    refine r_idiv (by omega) (by omega) (by omega) (by omega) 133 rfl (dd_L_isSo_1 24 _ _ _ rfl) ?_
    refine r_istore_6 135 rfl (by decide) rfl (dd_L_isSo_1 25 _ _ _ rfl) ?_
    refine r_iload_1 136 rfl (dd_L_isSo_1 26 _ _ _ rfl) ?_
    refine r_sipush (by decide) 139 rfl (dd_L_isSo_1 27 _ _ _ rfl) ?_
    refine r_if_icmpge (by omega) (by omega) 142 rfl 146 rfl (dd_L_isSo_1 28 _ _ _ rfl) (fun q => by exfalso; omega) (fun _ => ?_)
    refine r_iload_1 143 rfl (dd_L_isSo_1 29 _ _ _ rfl) ?_
    refine r_goto 149 rfl (dd_L_isSo_1 30 _ _ _ rfl) ?_
    refine r_iload_5 151 rfl (dd_L_isSo_1 32 _ _ _ rfl) ?_
    refine r_imul 152 rfl (dd_L_isSo_1 33 _ _ _ rfl) ?_
    refine r_iconst 153 rfl (dd_L_isSo_1 34 _ _ _ rfl) ?_
    refine r_idiv (by omega) (by omega) (by omega) (by omega) 154 rfl (dd_L_isSo_1 35 _ _ _ rfl) ?_
    refine r_istore_7 156 rfl (by decide) rfl (dd_L_isSo_1 36 _ _ _ rfl) ?_
    refine r_iconst 157 rfl (dd_L_isSo_1 37 _ _ _ rfl) ?_
    refine r_istore_8 159 rfl (by decide) rfl (dd_L_isSo_1 38 _ _ _ rfl) ?_
    refine r_sub [some (.ref x), some (.int (zI (S.1 1))), some (.int (zI (1))), some (.int (zI ((v : Int)))), some (.int (zI (st))), some (.int (zI (k))), some (.int (zI (S.1 1 * k / 4))), some (.int (zI (S.1 1 * k / 4))), some (.int (zI (0)))] (z_s1 (z_s1 (z_s1 (z_s1 (z_s1 (z_s1 (z_s1 (z_s1 (z_s1 z_sN))))))))) ?_
    refine so_C hg hnx hS hv (by omega) (b1 := 8 + b1) (b2 := 80 + b2) (fun o2 h2 c2 => ?_) 4 0 rfl (by decide) o h _ _ c (by omega) (by omega)
    obtain ⟨Vs, Ps, Ss, Ts, Fs, Tn, A, G, Rc, y⟩ := id c2
    refine r_iload_2 209 rfl (dd_L_isSo_2 4 _ _ _ rfl) ?_
    refine r_ifeq (by omega) 212 rfl 239 rfl (dd_L_isSo_2 5 _ _ _ rfl) (fun q => absurd q (by decide)) (fun _ => ?_)
    refine r_aload_0 213 rfl (dd_L_isSo_2 6 _ _ _ rfl) ?_
    refine r_iload_3 214 rfl (dd_L_isSo_2 7 _ _ _ rfl) ?_
    refine r_iload_6 216 rfl (dd_L_isSo_2 8 _ _ _ rfl) ?_
    refine r_iconst 217 rfl (dd_L_isSo_2 9 _ _ _ rfl) ?_
    refine r_callV3 (lvl := 15) (mc1 := 4) (ms1 := 40) ((8 + b1) - 4) ((80 + b2) - 40) hg rfl md_X11_on zc_X11 c2.kd wi_X11_on wv_X11_on (tb_6 35 _ rfl) (by decide) (by decide) rfl (Nat.le_of_ble_eq_true rfl) (by omega) (by omega) 220 rfl (dd_L_isSo_2 10 _ _ _ rfl) ?_
    refine c_X11_on hg hI y (v := (v : Int)) (w := S.1 1 * k / 4) (q := 0) (by omega) (by omega) (by omega) (fun q => by exfalso; omega) (fun u hu _ q => by exfalso; omega) (fun u hu _ _ => ?_)
    obtain rfl : v = u := by omega
    rw [if_pos rfl]
    have zs217 := zstate_range S v (S.1 1 * k / 4)
    dsimp only [zCont, Option.toList, List.cons_append, List.nil_append]
    refine r_iconst 221 rfl (dd_L_isSo_2 11 _ _ _ rfl) ?_
    refine r_if_icmpne (by omega) (by omega) 224 rfl 235 rfl (dd_L_isSo_2 12 _ _ _ rfl) (fun hc1 => ?_) (fun hc1 => ?_)
    · refine r_iconst 236 rfl (dd_L_isSo_2 20 _ _ _ rfl) ?_
      refine r_goto 240 rfl (dd_L_isSo_2 21 _ _ _ rfl) ?_
      refine r_istore_2 241 rfl (by decide) rfl (dd_L_isSo_2 23 _ _ _ rfl) ?_
      refine r_iinc_5 244 rfl (by decide) rfl (dd_L_isSo_2 24 _ _ _ rfl) ?_
      refine r_goto 117 rfl (dd_L_isSo_2 25 _ _ _ rfl) ?_
      exact r_sub _ (z_s1 (z_s1 (z_s1 (z_s1 (z_s1 (z_s1 (z_s0 (z_s0 (z_s0 z_sN))))))))) (r_room (by omega) (by omega) (kk o2 h2 c2))
    · refine r_aload_0 225 rfl (dd_L_isSo_2 13 _ _ _ rfl) ?_
      refine r_iload_3 226 rfl (dd_L_isSo_2 14 _ _ _ rfl) ?_
      refine r_iload_1 227 rfl (dd_L_isSo_2 15 _ _ _ rfl) ?_
      refine r_iconst 228 rfl (dd_L_isSo_2 16 _ _ _ rfl) ?_
      refine r_callV3 (lvl := 15) (mc1 := 4) (ms1 := 40) (((8 + b1) - 4) - 4) (((80 + b2) - 40) - 40) hg rfl md_X11_on zc_X11 c2.kd wi_X11_on wv_X11_on (tb_6 35 _ rfl) (by decide) (by decide) rfl (Nat.le_of_ble_eq_true rfl) (by omega) (by omega) 231 rfl (dd_L_isSo_2 17 _ _ _ rfl) ?_
      refine c_X11_on hg hI y (v := (v : Int)) (w := S.1 1) (q := 0) (by omega) (by omega) (by omega) (fun q => by exfalso; omega) (fun u hu _ q => by exfalso; omega) (fun u hu _ _ => ?_)
      obtain rfl : v = u := by omega
      rw [if_pos rfl]
      have zs228 := zstate_range S v (S.1 1)
      dsimp only [zCont, Option.toList, List.cons_append, List.nil_append]
      refine r_iconst 232 rfl (dd_L_isSo_2 18 _ _ _ rfl) ?_
      refine r_if_icmpne (by omega) (by omega) 235 rfl 239 rfl (dd_L_isSo_2 19 _ _ _ rfl) (fun q => absurd (gone_stays (d := S.1 1 * k / 4) (by omega) (by omega)) q) (fun _ => ?_)
      refine r_iconst 236 rfl (dd_L_isSo_2 20 _ _ _ rfl) ?_
      refine r_goto 240 rfl (dd_L_isSo_2 21 _ _ _ rfl) ?_
      refine r_istore_2 241 rfl (by decide) rfl (dd_L_isSo_2 23 _ _ _ rfl) ?_
      refine r_iinc_5 244 rfl (by decide) rfl (dd_L_isSo_2 24 _ _ _ rfl) ?_
      refine r_goto 117 rfl (dd_L_isSo_2 25 _ _ _ rfl) ?_
      exact r_sub _ (z_s1 (z_s1 (z_s1 (z_s1 (z_s1 (z_s1 (z_s0 (z_s0 (z_s0 z_sN))))))))) (r_room (by omega) (by omega) (kk o2 h2 c2))
  have hm2 : 0 ≤ 160 * k ∧ 160 * k ≤ 640 := by omega
  refine r_iload_5 119 rfl (dd_L_isSo_1 15 _ _ _ rfl) ?_
  refine r_iconst 120 rfl (dd_L_isSo_1 16 _ _ _ rfl) ?_
  refine r_if_icmpge (by omega) (by omega) 123 rfl 247 rfl (dd_L_isSo_1 17 _ _ _ rfl) (fun q => by exfalso; omega) (fun _ => ?_)
  refine r_iload_2 124 rfl (dd_L_isSo_1 18 _ _ _ rfl) ?_
  refine r_ifeq (by omega) 127 rfl 247 rfl (dd_L_isSo_1 19 _ _ _ rfl) (fun q => absurd q (by decide)) (fun _ => ?_)
  refine r_iload_1 128 rfl (dd_L_isSo_1 20 _ _ _ rfl) ?_
  refine r_iload_5 130 rfl (dd_L_isSo_1 21 _ _ _ rfl) ?_
  refine r_imul 131 rfl (dd_L_isSo_1 22 _ _ _ rfl) ?_
  refine r_iconst 132 rfl (dd_L_isSo_1 23 _ _ _ rfl) ?_
  refine r_idiv (by omega) (by omega) (by omega) (by omega) 133 rfl (dd_L_isSo_1 24 _ _ _ rfl) ?_
  refine r_istore_6 135 rfl (by decide) rfl (dd_L_isSo_1 25 _ _ _ rfl) ?_
  refine r_iload_1 136 rfl (dd_L_isSo_1 26 _ _ _ rfl) ?_
  refine r_sipush (by decide) 139 rfl (dd_L_isSo_1 27 _ _ _ rfl) ?_
  refine r_if_icmpge (by omega) (by omega) 142 rfl 146 rfl (dd_L_isSo_1 28 _ _ _ rfl) (fun _ => ?_) (fun q => by exfalso; omega)
  refine r_sipush (by decide) 149 rfl (dd_L_isSo_1 31 _ _ _ rfl) ?_
  refine r_iload_5 151 rfl (dd_L_isSo_1 32 _ _ _ rfl) ?_
  refine r_imul 152 rfl (dd_L_isSo_1 33 _ _ _ rfl) ?_
  refine r_iconst 153 rfl (dd_L_isSo_1 34 _ _ _ rfl) ?_
  refine r_idiv (by omega) (by omega) (by omega) (by omega) 154 rfl (dd_L_isSo_1 35 _ _ _ rfl) ?_
  refine r_istore_7 156 rfl (by decide) rfl (dd_L_isSo_1 36 _ _ _ rfl) ?_
  refine r_iconst 157 rfl (dd_L_isSo_1 37 _ _ _ rfl) ?_
  refine r_istore_8 159 rfl (by decide) rfl (dd_L_isSo_1 38 _ _ _ rfl) ?_
  refine r_sub [some (.ref x), some (.int (zI (S.1 1))), some (.int (zI (1))), some (.int (zI ((v : Int)))), some (.int (zI (st))), some (.int (zI (k))), some (.int (zI (S.1 1 * k / 4))), some (.int (zI (160 * k / 4))), some (.int (zI (0)))] (z_s1 (z_s1 (z_s1 (z_s1 (z_s1 (z_s1 (z_s1 (z_s1 (z_s1 z_sN))))))))) ?_
  refine so_C hg hnx hS hv (by omega) (b1 := 8 + b1) (b2 := 80 + b2) (fun o2 h2 c2 => ?_) 4 0 rfl (by decide) o h _ _ c (by omega) (by omega)
  obtain ⟨Vs, Ps, Ss, Ts, Fs, Tn, A, G, Rc, y⟩ := id c2
  refine r_iload_2 209 rfl (dd_L_isSo_2 4 _ _ _ rfl) ?_
  refine r_ifeq (by omega) 212 rfl 239 rfl (dd_L_isSo_2 5 _ _ _ rfl) (fun q => absurd q (by decide)) (fun _ => ?_)
  refine r_aload_0 213 rfl (dd_L_isSo_2 6 _ _ _ rfl) ?_
  refine r_iload_3 214 rfl (dd_L_isSo_2 7 _ _ _ rfl) ?_
  refine r_iload_6 216 rfl (dd_L_isSo_2 8 _ _ _ rfl) ?_
  refine r_iconst 217 rfl (dd_L_isSo_2 9 _ _ _ rfl) ?_
  refine r_callV3 (lvl := 15) (mc1 := 4) (ms1 := 40) ((8 + b1) - 4) ((80 + b2) - 40) hg rfl md_X11_on zc_X11 c2.kd wi_X11_on wv_X11_on (tb_6 35 _ rfl) (by decide) (by decide) rfl (Nat.le_of_ble_eq_true rfl) (by omega) (by omega) 220 rfl (dd_L_isSo_2 10 _ _ _ rfl) ?_
  refine c_X11_on hg hI y (v := (v : Int)) (w := S.1 1 * k / 4) (q := 0) (by omega) (by omega) (by omega) (fun q => by exfalso; omega) (fun u hu _ q => by exfalso; omega) (fun u hu _ _ => ?_)
  obtain rfl : v = u := by omega
  rw [if_pos rfl]
  have zs217 := zstate_range S v (S.1 1 * k / 4)
  dsimp only [zCont, Option.toList, List.cons_append, List.nil_append]
  refine r_iconst 221 rfl (dd_L_isSo_2 11 _ _ _ rfl) ?_
  refine r_if_icmpne (by omega) (by omega) 224 rfl 235 rfl (dd_L_isSo_2 12 _ _ _ rfl) (fun hc1 => ?_) (fun hc1 => ?_)
  · refine r_iconst 236 rfl (dd_L_isSo_2 20 _ _ _ rfl) ?_
    refine r_goto 240 rfl (dd_L_isSo_2 21 _ _ _ rfl) ?_
    refine r_istore_2 241 rfl (by decide) rfl (dd_L_isSo_2 23 _ _ _ rfl) ?_
    refine r_iinc_5 244 rfl (by decide) rfl (dd_L_isSo_2 24 _ _ _ rfl) ?_
    refine r_goto 117 rfl (dd_L_isSo_2 25 _ _ _ rfl) ?_
    exact r_sub _ (z_s1 (z_s1 (z_s1 (z_s1 (z_s1 (z_s1 (z_s0 (z_s0 (z_s0 z_sN))))))))) (r_room (by omega) (by omega) (kk o2 h2 c2))
  · refine r_aload_0 225 rfl (dd_L_isSo_2 13 _ _ _ rfl) ?_
    refine r_iload_3 226 rfl (dd_L_isSo_2 14 _ _ _ rfl) ?_
    refine r_iload_1 227 rfl (dd_L_isSo_2 15 _ _ _ rfl) ?_
    refine r_iconst 228 rfl (dd_L_isSo_2 16 _ _ _ rfl) ?_
    refine r_callV3 (lvl := 15) (mc1 := 4) (ms1 := 40) (((8 + b1) - 4) - 4) (((80 + b2) - 40) - 40) hg rfl md_X11_on zc_X11 c2.kd wi_X11_on wv_X11_on (tb_6 35 _ rfl) (by decide) (by decide) rfl (Nat.le_of_ble_eq_true rfl) (by omega) (by omega) 231 rfl (dd_L_isSo_2 17 _ _ _ rfl) ?_
    refine c_X11_on hg hI y (v := (v : Int)) (w := S.1 1) (q := 0) (by omega) (by omega) (by omega) (fun q => by exfalso; omega) (fun u hu _ q => by exfalso; omega) (fun u hu _ _ => ?_)
    obtain rfl : v = u := by omega
    rw [if_pos rfl]
    have zs228 := zstate_range S v (S.1 1)
    dsimp only [zCont, Option.toList, List.cons_append, List.nil_append]
    refine r_iconst 232 rfl (dd_L_isSo_2 18 _ _ _ rfl) ?_
    refine r_if_icmpne (by omega) (by omega) 235 rfl 239 rfl (dd_L_isSo_2 19 _ _ _ rfl) (fun q => absurd (gone_stays (d := S.1 1 * k / 4) (by omega) (by omega)) q) (fun _ => ?_)
    refine r_iconst 236 rfl (dd_L_isSo_2 20 _ _ _ rfl) ?_
    refine r_goto 240 rfl (dd_L_isSo_2 21 _ _ _ rfl) ?_
    refine r_istore_2 241 rfl (by decide) rfl (dd_L_isSo_2 23 _ _ _ rfl) ?_
    refine r_iinc_5 244 rfl (by decide) rfl (dd_L_isSo_2 24 _ _ _ rfl) ?_
    refine r_goto 117 rfl (dd_L_isSo_2 25 _ _ _ rfl) ?_
    exact r_sub _ (z_s1 (z_s1 (z_s1 (z_s1 (z_s1 (z_s1 (z_s0 (z_s0 (z_s0 z_sN))))))))) (r_room (by omega) (by omega) (kk o2 h2 c2))
theorem so_B {g : zGT} (hg : zG g) (hnx : zNX g) {n : Nat} {S : zS} (hS : zOK n S) {mc ms : Nat} {Q : zO → zH → Prop} {x : Nat} {v : Nat} {st : Int} (hv : (v : Int) < S.1 4) {b1 b2 : Nat} (kk : ∀ o h, CEx g o h x S n → zX g mL_isSo mc ms Q 247 [some (.ref x), some (.int (zI (S.1 1))), some (.int (zI (1))), some (.int (zI ((v : Int)))), none, none, none, none, none] [] h b1 b2) : ∀ (r : Nat) (k : Int), k + r = 5 → 0 ≤ k → ∀ (o : Nat → Nat) (h : zH) (bc bs : Nat), CEx g o h x S n → 40 * r + b1 ≤ bc → 400 * r + b2 ≤ bs → zX g mL_isSo mc ms Q 117 [some (.ref x), some (.int (zI (S.1 1))), some (.int (zI (1))), some (.int (zI ((v : Int)))), some (.int (zI (st))), some (.int (zI (k))), none, none, none] [] h bc bs := by
  intro r
  induction r with
  | zero =>
    intro k hk h0 o h bc bs c hb hb2
    refine r_iload_5 119 rfl (dd_L_isSo_1 15 _ _ _ rfl) ?_
    refine r_iconst 120 rfl (dd_L_isSo_1 16 _ _ _ rfl) ?_
    refine r_if_icmpge (by omega) (by omega) 123 rfl 247 rfl (dd_L_isSo_1 17 _ _ _ rfl) (fun _ => ?_) (fun q => by exfalso; omega)
    exact r_sub _ (z_s1 (z_s1 (z_s1 (z_s1 (z_s0 (z_s0 (z_s0 (z_s0 (z_s0 z_sN))))))))) (r_room (by omega) (by omega) (kk o h c))
  | succ r ih =>
    intro k hk h0 o h bc bs c hb hb2
    exact so_B1 hg hnx hS hv (b1 := 40 * r + b1) (b2 := 400 * r + b2) (by omega) (fun o2 h2 c2 => ih (k + 1) (by omega) (by omega) o2 h2 _ _ c2 (Nat.le_refl _) (Nat.le_refl _)) o h bc bs c (by omega) (by omega)
theorem so_A1 {g : zGT} (hg : zG g) (hnx : zNX g) {n : Nat} {S : zS} (hS : zOK n S) {mc ms : Nat} {Q : zO → zH → Prop} {x : Nat} {v : Nat} (hv : (v : Int) < S.1 4) {b1 b2 : Nat} (kk : ∀ o h, CEx g o h x S n → zX g mL_isSo mc ms Q 247 [some (.ref x), some (.int (zI (S.1 1))), some (.int (zI (1))), some (.int (zI ((v : Int)))), none, none, none, none, none] [] h b1 b2) (o : Nat → Nat) (h : zH) (bc bs : Nat) (c : CEx g o h x S n) (hb : 212 + b1 ≤ bc) (hb2 : 2120 + b2 ≤ bs) : zX g mL_isSo mc ms Q 25 [some (.ref x), some (.int (zI (S.1 1))), some (.int (zI (1))), some (.int (zI ((v : Int)))), none, none, none, none, none] [] h bc bs := by
  have hI := hS.1.1
  have e4 := hI.vehicles
  have e1 := hI.today
  have e5 := hI.serial v
  have e6 := zdigit_range (S.2 5 v)
  have e7 := hS.1.2 v hv
  obtain ⟨sv, hsv⟩ : ∃ sv : Int, sv = S.2 5 v * 10 + zdigit (S.2 5 v) := ⟨_, rfl⟩
  have hif : (if zdigit (S.2 5 v) = 10 then -1 else S.2 5 v * 10 + zdigit (S.2 5 v)) = sv := by rw [if_neg (by omega)]; exact hsv.symm
  have hdv : sv / 10 = S.2 5 v := by omega
  have hdm : sv % 10 = zdigit (S.2 5 v) := by omega
  have hz9 : zdigit (sv / 10) = sv % 10 := by rw [hdv, hdm]
  have hlaw := (zdig_law (s := sv)).trans hz9
  have hgap := zgap_range (S := S) (v := v) (S.1 1 + 1).toNat
  obtain ⟨Vs, Ps, Ss, Ts, Fs, Tn, A, G, Rc, y⟩ := id c
  have hvo : zvof S (sv / 10) (S.1 4).toNat = v := by rw [hdv]; exact zvof_at y.us _ (by omega) (by omega)
  refine r_aload_0 26 rfl (dd_L_isSo_0 16 _ _ _ rfl) ?_
  refine r_iload_3 27 rfl (dd_L_isSo_0 17 _ _ _ rfl) ?_
  refine r_iconst 28 rfl (dd_L_isSo_0 18 _ _ _ rfl) ?_
  refine r_callV2 (lvl := 17) (mc1 := 4) (ms1 := 40) (bc - 4) (bs - 40) hg rfl md_X11_ofVehicle zc_X11 c.kd wi_X11_ofVehicle wv_X11_ofVehicle (tb_5 66 _ rfl) (by decide) (by decide) rfl (Nat.le_of_ble_eq_true rfl) (by omega) (by omega) 31 rfl (dd_L_isSo_0 19 _ _ _ rfl) ?_
  refine c_X11_ofVehicle hg hI y (v := (v : Int)) (q := 0) (by omega) (by omega) (fun q => by exfalso; omega) (fun u hu _ q => by exfalso; omega) (fun u hu _ _ => ?_) (fun u hu _ q => by exfalso; omega) (fun u hu _ q => by exfalso; omega) (fun u hu _ q => by exfalso; omega) (fun u hu _ q => by exfalso; omega)
  obtain rfl : v = u := by omega
  rw [hif]
  dsimp only [zCont, Option.toList, List.cons_append, List.nil_append]
  refine r_istore_4 33 rfl (by decide) rfl (dd_L_isSo_0 20 _ _ _ rfl) ?_
  refine r_aload_0 34 rfl (dd_L_isSo_0 21 _ _ _ rfl) ?_
  refine r_iload_4 36 rfl (dd_L_isSo_0 22 _ _ _ rfl) ?_
  refine r_callV1 (lvl := 14) (mc1 := 4) (ms1 := 40) ((bc - 4) - 4) ((bs - 40) - 40) hg rfl md_X11_stamped zc_X11 c.kd wi_X11_stamped wv_X11_stamped (tb_6 50 _ rfl) (by decide) (by decide) rfl (Nat.le_of_ble_eq_true rfl) (by omega) (by omega) 39 rfl (dd_L_isSo_0 23 _ _ _ rfl) ?_
  refine c_X11_stamped hg hI y (v := sv) (by omega) (fun q => absurd ⟨by omega, by omega, by rw [hdv, hdm]⟩ q) (fun _ => ?_)
  rw [hvo]
  dsimp only [zCont, Option.toList, List.cons_append, List.nil_append]
  refine r_iload_3 40 rfl (dd_L_isSo_0 24 _ _ _ rfl) ?_
  refine r_if_icmpne (by omega) (by omega) 43 rfl 112 rfl (dd_L_isSo_0 25 _ _ _ rfl) (fun q => by exfalso; omega) (fun _ => ?_)
  refine r_iload_4 45 rfl (dd_L_isSo_0 26 _ _ _ rfl) ?_
  refine r_bipush (by decide) 47 rfl (dd_L_isSo_0 27 _ _ _ rfl) ?_
  refine r_irem (by omega) (by omega) (by omega) (by omega) 48 rfl (dd_L_isSo_0 28 _ _ _ rfl) ?_
  refine r_iload_4 50 rfl (dd_L_isSo_0 29 _ _ _ rfl) ?_
  refine r_sipush (by decide) 53 rfl (dd_L_isSo_0 30 _ _ _ rfl) ?_
  refine r_idiv (by omega) (by omega) (by omega) (by omega) 54 rfl (dd_L_isSo_0 31 _ _ _ rfl) ?_
  refine r_iconst 55 rfl (dd_L_isSo_0 32 _ _ _ rfl) ?_
  refine r_imul 56 rfl (dd_L_isSo_0 33 _ _ _ rfl) ?_
  refine r_iload_4 58 rfl (dd_L_isSo_0 34 _ _ _ rfl) ?_
  refine r_sipush (by decide) 61 rfl (dd_L_isSo_0 35 _ _ _ rfl) ?_
  refine r_idiv (by omega) (by omega) (by omega) (by omega) 62 rfl (dd_L_isSo_0 36 _ _ _ rfl) ?_
  refine r_bipush (by decide) 64 rfl (dd_L_isSo_0 37 _ _ _ rfl) ?_
  refine r_irem (by omega) (by omega) (by omega) (by omega) 65 rfl (dd_L_isSo_0 38 _ _ _ rfl) ?_
  refine r_iconst 66 rfl (dd_L_isSo_0 39 _ _ _ rfl) ?_
  refine r_imul 67 rfl (dd_L_isSo_0 40 _ _ _ rfl) ?_
  refine r_iadd 68 rfl (dd_L_isSo_0 41 _ _ _ rfl) ?_
  refine r_iload_4 70 rfl (dd_L_isSo_0 42 _ _ _ rfl) ?_
  refine r_bipush (by decide) 72 rfl (dd_L_isSo_0 43 _ _ _ rfl) ?_
  refine r_idiv (by omega) (by omega) (by omega) (by omega) 73 rfl (dd_L_isSo_0 44 _ _ _ rfl) ?_
  refine r_bipush (by decide) 75 rfl (dd_L_isSo_0 45 _ _ _ rfl) ?_
  refine r_irem (by omega) (by omega) (by omega) (by omega) 76 rfl (dd_L_isSo_0 46 _ _ _ rfl) ?_
  refine r_iconst 77 rfl (dd_L_isSo_0 47 _ _ _ rfl) ?_
  refine r_imul 78 rfl (dd_L_isSo_0 48 _ _ _ rfl) ?_
  refine r_iadd 79 rfl (dd_L_isSo_0 49 _ _ _ rfl) ?_
  refine r_iload_4 81 rfl (dd_L_isSo_0 50 _ _ _ rfl) ?_
  refine r_bipush (by decide) 83 rfl (dd_L_isSo_0 51 _ _ _ rfl) ?_
  refine r_idiv (by omega) (by omega) (by omega) (by omega) 84 rfl (dd_L_isSo_0 52 _ _ _ rfl) ?_
  refine r_bipush (by decide) 86 rfl (dd_L_isSo_0 53 _ _ _ rfl) ?_
  refine r_irem (by omega) (by omega) (by omega) (by omega) 87 rfl (dd_L_isSo_0 54 _ _ _ rfl) ?_
  refine r_iconst 88 rfl (dd_L_isSo_0 55 _ _ _ rfl) ?_
  refine r_imul 89 rfl (dd_L_isSo_0 56 _ _ _ rfl) ?_
  refine r_iadd 90 rfl (dd_L_isSo_0 57 _ _ _ rfl) ?_
  refine r_bipush (by decide) 92 rfl (dd_L_isSo_0 58 _ _ _ rfl) ?_
  refine r_irem (by omega) (by omega) (by omega) (by omega) 93 rfl (dd_L_isSo_0 59 _ _ _ rfl) ?_
  refine r_if_icmpne (by omega) (by omega) 96 rfl 112 rfl (dd_L_isSo_1 0 _ _ _ rfl) (fun q => by exfalso; omega) (fun _ => ?_)
  refine r_aload_0 97 rfl (dd_L_isSo_1 1 _ _ _ rfl) ?_
  refine r_iload_3 98 rfl (dd_L_isSo_1 2 _ _ _ rfl) ?_
  refine r_iconst 99 rfl (dd_L_isSo_1 3 _ _ _ rfl) ?_
  refine r_callV2 (lvl := 17) (mc1 := 4) (ms1 := 40) (((bc - 4) - 4) - 4) (((bs - 40) - 40) - 40) hg rfl md_X11_ofVehicle zc_X11 c.kd wi_X11_ofVehicle wv_X11_ofVehicle (tb_5 66 _ rfl) (by decide) (by decide) rfl (Nat.le_of_ble_eq_true rfl) (by omega) (by omega) 102 rfl (dd_L_isSo_1 4 _ _ _ rfl) ?_
  refine c_X11_ofVehicle hg hI y (v := (v : Int)) (q := 3) (by omega) (by omega) (fun q => by exfalso; omega) (fun u hu _ q => by exfalso; omega) (fun u hu _ q => by exfalso; omega) (fun u hu _ q => by exfalso; omega) (fun u hu _ q => by exfalso; omega) (fun u hu _ _ => ?_) (fun u hu _ q => by exfalso; omega)
  obtain rfl : v = u := by omega
  dsimp only [zCont, Option.toList, List.cons_append, List.nil_append]
  refine r_iload_1 103 rfl (dd_L_isSo_1 5 _ _ _ rfl) ?_
  refine r_iconst 104 rfl (dd_L_isSo_1 6 _ _ _ rfl) ?_
  refine r_iadd 105 rfl (dd_L_isSo_1 7 _ _ _ rfl) ?_
  refine r_if_icmpgt (by omega) (by omega) 108 rfl 112 rfl (dd_L_isSo_1 8 _ _ _ rfl) (fun q => by exfalso; omega) (fun _ => ?_)
  refine r_iconst 109 rfl (dd_L_isSo_1 9 _ _ _ rfl) ?_
  refine r_goto 113 rfl (dd_L_isSo_1 10 _ _ _ rfl) ?_
  refine r_istore_2 114 rfl (by decide) rfl (dd_L_isSo_1 12 _ _ _ rfl) ?_
  refine r_iconst 115 rfl (dd_L_isSo_1 13 _ _ _ rfl) ?_
  refine r_istore_5 117 rfl (by decide) rfl (dd_L_isSo_1 14 _ _ _ rfl) ?_
  refine r_sub [some (.ref x), some (.int (zI (S.1 1))), some (.int (zI (1))), some (.int (zI ((v : Int)))), some (.int (zI (sv))), some (.int (zI (0))), none, none, none] (z_s1 (z_s1 (z_s1 (z_s1 (z_s1 (z_s1 (z_s0 (z_s0 (z_s0 z_sN))))))))) ?_
  exact so_B hg hnx hS hv kk 5 0 rfl (by decide) o h _ _ c (by omega) (by omega)
theorem so_A {g : zGT} (hg : zG g) (hnx : zNX g) {n : Nat} {S : zS} (hS : zOK n S) {mc ms : Nat} {Q : zO → zH → Prop} {x : Nat} {b1 b2 : Nat} (kk : ∀ o h, CEx g o h x S n → zX g mL_isSo mc ms Q 253 [some (.ref x), some (.int (zI (S.1 1))), some (.int (zI (1))), none, none, none, none, none, none] [] h b1 b2) : ∀ (r v : Nat), v + r = 12 → ∀ (o : Nat → Nat) (h : zH) (bc bs : Nat), CEx g o h x S n → 216 * r + b1 ≤ bc → 2160 * r + b2 ≤ bs → zX g mL_isSo mc ms Q 4 [some (.ref x), some (.int (zI (S.1 1))), some (.int (zI (1))), some (.int (zI ((v : Int)))), none, none, none, none, none] [] h bc bs := by
  have hI := hS.1.1
  have e4 := hI.vehicles
  have e1 := hI.today
  intro r
  induction r with
  | zero =>
    intro v hv o h bc bs c hb hb2
    refine r_iload_3 5 rfl (dd_L_isSo_0 4 _ _ _ rfl) ?_
    refine r_bipush (by decide) 7 rfl (dd_L_isSo_0 5 _ _ _ rfl) ?_
    refine r_if_icmpge (by omega) (by omega) 10 rfl 253 rfl (dd_L_isSo_0 6 _ _ _ rfl) (fun _ => ?_) (fun q => by exfalso; omega)
    exact r_sub _ (z_s1 (z_s1 (z_s1 (z_s0 (z_s0 (z_s0 (z_s0 (z_s0 (z_s0 z_sN))))))))) (r_room (by omega) (by omega) (kk o h c))
  | succ r ih =>
    intro v hv o h bc bs c hb hb2
    have nxt : ∀ o h, CEx g o h x S n → zX g mL_isSo mc ms Q 247 [some (.ref x), some (.int (zI (S.1 1))), some (.int (zI (1))), some (.int (zI ((v : Int)))), none, none, none, none, none] [] h (216 * r + b1) (2160 * r + b2) := by
      intro o h c
      refine r_iinc_3 250 rfl (by decide) rfl (dd_L_isSo_2 26 _ _ _ rfl) ?_
      refine r_goto 4 rfl (dd_L_isSo_2 27 _ _ _ rfl) ?_
      have z := ih (v + 1) (by omega) o h _ _ c (Nat.le_refl _) (Nat.le_refl _)
      rw [show ((v + 1 : Nat) : Int) = (v : Int) + 1 by omega] at z
      exact z
    obtain ⟨t, R, hd⟩ := d_ofVehicle hg hnx hS (v := (v : Int)) (q := 0) (by omega) (by omega)
    refine r_iload_3 5 rfl (dd_L_isSo_0 4 _ _ _ rfl) ?_
    refine r_bipush (by decide) 7 rfl (dd_L_isSo_0 5 _ _ _ rfl) ?_
    refine r_if_icmpge (by omega) (by omega) 10 rfl 253 rfl (dd_L_isSo_0 6 _ _ _ rfl) (fun q => by exfalso; omega) (fun _ => ?_)
    refine r_iload_2 11 rfl (dd_L_isSo_0 7 _ _ _ rfl) ?_
    refine r_ifeq (by omega) 14 rfl 253 rfl (dd_L_isSo_0 8 _ _ _ rfl) (fun q => absurd q (by decide)) (fun _ => ?_)
    refine r_aload_0 15 rfl (dd_L_isSo_0 9 _ _ _ rfl) ?_
    refine r_iload_3 16 rfl (dd_L_isSo_0 10 _ _ _ rfl) ?_
    refine r_iconst 17 rfl (dd_L_isSo_0 11 _ _ _ rfl) ?_
    refine r_callSH (lvl := 18) (mc1 := 4) (ms1 := 40) (As := [.ref x, .int (zI ((v : Int))), .int (zI (0))]) (rest := []) (bc - 4) (bs - 40) hg rfl mh_ofVehicle ws_L_ofVehicle (tb_5 63 _ rfl) (by decide) (by decide) rfl (Nat.le_of_ble_eq_true rfl) (by omega) (by omega) rfl 20 rfl (dd_L_isSo_0 12 _ _ _ rfl) ?_
    refine hd x o h _ c ?_
    dsimp only [zCont, Option.toList, List.cons_append, List.nil_append]
    refine r_lconst0 21 rfl (dd_L_isSo_0 13 _ _ _ rfl) ?_
    have B9 := R.1
    refine r_lcmp (by omega) (by omega) 22 rfl (dd_L_isSo_0 14 _ _ _ rfl) (fun hcl => ?_) (fun hcl => ?_) (fun hcl => ?_)
    · refine r_iflt (by omega) 25 rfl 247 rfl (dd_L_isSo_0 15 _ _ _ rfl) (fun _ => ?_) (fun q => absurd q (by decide))
      exact r_room (by omega) (by omega) (nxt o h c)
    · refine r_iflt (by omega) 25 rfl 247 rfl (dd_L_isSo_0 15 _ _ _ rfl) (fun q => absurd q (by decide)) (fun _ => ?_)
      exact so_A1 hg hnx hS (by have e := R.2; by_cases q : (v : Int) < S.1 4; exact q; (exfalso; have e := e (by omega); have e : t = -9000000000000000 := e; omega)) nxt o h _ _ c (by omega) (by omega)
    · refine r_iflt (by omega) 25 rfl 247 rfl (dd_L_isSo_0 15 _ _ _ rfl) (fun q => absurd q (by decide)) (fun _ => ?_)
      exact so_A1 hg hnx hS (by have e := R.2; by_cases q : (v : Int) < S.1 4; exact q; (exfalso; have e := e (by omega); have e : t = -9000000000000000 := e; omega)) nxt o h _ _ c (by omega) (by omega)
theorem so_S {g : zGT} (hg : zG g) (hnx : zNX g) {n : Nat} {S : zS} (hS : zOK n S) {mc ms : Nat} {Q : zO → zH → Prop} {x : Nat} {o : Nat → Nat} {h : zH} (c : CEx g o h x S n) {b1 b2 : Nat} (kk : zX g mL_isSo mc ms Q 316 [some (.ref x), some (.int (zI (S.1 1))), some (.int (zI (1))), none, none, none, none, none, none] [] h b1 b2) : ∀ (r s : Nat), s + r = 40 → ∀ (bc bs : Nat), 8 * r + b1 ≤ bc → 80 * r + b2 ≤ bs → zX g mL_isSo mc ms Q 255 [some (.ref x), some (.int (zI (S.1 1))), some (.int (zI (1))), some (.int (zI ((s : Int)))), none, none, none, none, none] [] h bc bs := by
  have hI := hS.1.1
  have e4 := hI.vehicles
  have e1 := hI.today
  intro r
  induction r with
  | zero =>
    intro s hs bc bs hb hb2
    refine r_iload_3 256 rfl (dd_L_isSo_2 30 _ _ _ rfl) ?_
    refine r_bipush (by decide) 258 rfl (dd_L_isSo_2 31 _ _ _ rfl) ?_
    refine r_if_icmpge (by omega) (by omega) 261 rfl 316 rfl (dd_L_isSo_2 32 _ _ _ rfl) (fun _ => ?_) (fun q => by exfalso; omega)
    exact r_sub _ (z_s1 (z_s1 (z_s1 (z_s0 (z_s0 (z_s0 (z_s0 (z_s0 (z_s0 z_sN))))))))) (r_room (by omega) (by omega) kk)
  | succ r ih =>
    intro s hs bc bs hb hb2
    obtain ⟨t, ⟨B9, R1, R2⟩, hd⟩ := d_seen hg hnx hS (v := (s : Int)) (by omega)
    have nxt : zX g mL_isSo mc ms Q 304 [some (.ref x), some (.int (zI (S.1 1))), some (.int (zI (1))), some (.int (zI ((s : Int)))), none, none, none, none, none] [] h (8 * r + b1) (80 * r + b2) := by
      refine r_iconst 305 rfl (dd_L_isSo_2 56 _ _ _ rfl) ?_
      refine r_goto 309 rfl (dd_L_isSo_2 57 _ _ _ rfl) ?_
      refine r_istore_2 310 rfl (by decide) rfl (dd_L_isSo_2 59 _ _ _ rfl) ?_
      refine r_iinc_3 313 rfl (by decide) rfl (dd_L_isSo_3 0 _ _ _ rfl) ?_
      refine r_goto 255 rfl (dd_L_isSo_3 1 _ _ _ rfl) ?_
      have z := ih (s + 1) (by omega) _ _ (Nat.le_refl _) (Nat.le_refl _)
      rw [show ((s + 1 : Nat) : Int) = (s : Int) + 1 by omega] at z
      exact z
    by_cases q1 : (s : Int) < S.1 31
    · have et := R2 s rfl q1
      have zs := zseen_range (s := s) hI
      by_cases q2 : zseen S s = -1
      · refine r_iload_3 256 rfl (dd_L_isSo_2 30 _ _ _ rfl) ?_
        refine r_bipush (by decide) 258 rfl (dd_L_isSo_2 31 _ _ _ rfl) ?_
        refine r_if_icmpge (by omega) (by omega) 261 rfl 316 rfl (dd_L_isSo_2 32 _ _ _ rfl) (fun q => by exfalso; omega) (fun _ => ?_)
        refine r_iload_2 262 rfl (dd_L_isSo_2 33 _ _ _ rfl) ?_
        refine r_ifeq (by omega) 265 rfl 316 rfl (dd_L_isSo_2 34 _ _ _ rfl) (fun q => absurd q (by decide)) (fun _ => ?_)
        refine r_aload_0 266 rfl (dd_L_isSo_2 35 _ _ _ rfl) ?_
        refine r_iload_3 267 rfl (dd_L_isSo_2 36 _ _ _ rfl) ?_
        refine r_callSH (lvl := 17) (mc1 := 4) (ms1 := 40) (As := [.ref x, .int (zI ((s : Int)))]) (rest := []) (bc - 4) (bs - 40) hg rfl mh_seen ws_L_seen (tb_5 143 _ rfl) (by decide) (by decide) rfl (Nat.le_of_ble_eq_true rfl) (by omega) (by omega) rfl 270 rfl (dd_L_isSo_2 37 _ _ _ rfl) ?_
        refine hd x o h _ c ?_
        dsimp only [zCont, Option.toList, List.cons_append, List.nil_append]
        refine r_lstore_4 272 rfl (by decide) rfl (dd_L_isSo_2 38 _ _ _ rfl) ?_
        refine r_lload_4 274 rfl (dd_L_isSo_2 39 _ _ _ rfl) ?_
        refine r_ldc2 hg (tb_2 212 _ rfl) 277 rfl (dd_L_isSo_2 40 _ _ _ rfl) ?_
        refine r_topl (-9000000000000000) rfl ?_
        refine r_lcmp (by omega) (by omega) 278 rfl (dd_L_isSo_2 41 _ _ _ rfl) (fun q => by exfalso; omega) (fun q => by exfalso; omega) (fun _ => ?_)
        refine r_ifeq (by omega) 281 rfl 304 rfl (dd_L_isSo_2 42 _ _ _ rfl) (fun q => absurd q (by decide)) (fun _ => ?_)
        refine r_lload_4 283 rfl (dd_L_isSo_2 43 _ _ _ rfl) ?_
        refine r_ldc2 hg (tb_6 63 _ rfl) 286 rfl (dd_L_isSo_2 44 _ _ _ rfl) ?_
        refine r_topl (-1) rfl ?_
        refine r_lcmp (by omega) (by omega) 287 rfl (dd_L_isSo_2 45 _ _ _ rfl) (fun q => by exfalso; omega) (fun _ => ?_) (fun q => by exfalso; omega)
        refine r_ifeq (by omega) 290 rfl 304 rfl (dd_L_isSo_2 46 _ _ _ rfl) (fun _ => ?_) (fun q => absurd q (by decide))
        exact r_sub _ (z_s1 (z_s1 (z_s1 (z_s1 (z_s0 (z_s0 (z_s0 (z_s0 (z_s0 z_sN))))))))) (r_room (by omega) (by omega) nxt)
      · obtain ⟨tp, Rp, hd2⟩ := d_plate hg hnx hS (v := t) (w := S.1 1) (q := 0) (by omega) (by omega) (by omega)
        obtain ⟨u, hu⟩ : ∃ u : Nat, t = (u : Int) := ⟨t.toNat, by omega⟩
        have ep := Rp.2 u hu (by omega) (by omega) (by omega)
        have hnp := seen_plate hS q2
        have er := zplate_range (v := (u : Int)) (w := S.1 1) hI
        rw [show zseen S s = (u : Int) by omega] at hnp
        rw [if_neg hnp] at ep
        have ez : zsign (zplate S u (S.1 1)) 0 = 65 + zplate S u (S.1 1) / 2600 := if_pos rfl
        have etp : 0 < tp := by rw [ep, ez]; omega
        have B8 := Rp.1
        refine r_iload_3 256 rfl (dd_L_isSo_2 30 _ _ _ rfl) ?_
        refine r_bipush (by decide) 258 rfl (dd_L_isSo_2 31 _ _ _ rfl) ?_
        refine r_if_icmpge (by omega) (by omega) 261 rfl 316 rfl (dd_L_isSo_2 32 _ _ _ rfl) (fun q => by exfalso; omega) (fun _ => ?_)
        refine r_iload_2 262 rfl (dd_L_isSo_2 33 _ _ _ rfl) ?_
        refine r_ifeq (by omega) 265 rfl 316 rfl (dd_L_isSo_2 34 _ _ _ rfl) (fun q => absurd q (by decide)) (fun _ => ?_)
        refine r_aload_0 266 rfl (dd_L_isSo_2 35 _ _ _ rfl) ?_
        refine r_iload_3 267 rfl (dd_L_isSo_2 36 _ _ _ rfl) ?_
        refine r_callSH (lvl := 17) (mc1 := 4) (ms1 := 40) (As := [.ref x, .int (zI ((s : Int)))]) (rest := []) (bc - 4) (bs - 40) hg rfl mh_seen ws_L_seen (tb_5 143 _ rfl) (by decide) (by decide) rfl (Nat.le_of_ble_eq_true rfl) (by omega) (by omega) rfl 270 rfl (dd_L_isSo_2 37 _ _ _ rfl) ?_
        refine hd x o h _ c ?_
        dsimp only [zCont, Option.toList, List.cons_append, List.nil_append]
        refine r_lstore_4 272 rfl (by decide) rfl (dd_L_isSo_2 38 _ _ _ rfl) ?_
        refine r_lload_4 274 rfl (dd_L_isSo_2 39 _ _ _ rfl) ?_
        refine r_ldc2 hg (tb_2 212 _ rfl) 277 rfl (dd_L_isSo_2 40 _ _ _ rfl) ?_
        refine r_topl (-9000000000000000) rfl ?_
        refine r_lcmp (by omega) (by omega) 278 rfl (dd_L_isSo_2 41 _ _ _ rfl) (fun q => by exfalso; omega) (fun q => by exfalso; omega) (fun _ => ?_)
        refine r_ifeq (by omega) 281 rfl 304 rfl (dd_L_isSo_2 42 _ _ _ rfl) (fun q => absurd q (by decide)) (fun _ => ?_)
        refine r_lload_4 283 rfl (dd_L_isSo_2 43 _ _ _ rfl) ?_
        refine r_ldc2 hg (tb_6 63 _ rfl) 286 rfl (dd_L_isSo_2 44 _ _ _ rfl) ?_
        refine r_topl (-1) rfl ?_
        refine r_lcmp (by omega) (by omega) 287 rfl (dd_L_isSo_2 45 _ _ _ rfl) (fun q => by exfalso; omega) (fun q => by exfalso; omega) (fun _ => ?_)
        refine r_ifeq (by omega) 290 rfl 304 rfl (dd_L_isSo_2 46 _ _ _ rfl) (fun q => absurd q (by decide)) (fun _ => ?_)
        refine r_aload_0 291 rfl (dd_L_isSo_2 47 _ _ _ rfl) ?_
        refine r_lload_4 293 rfl (dd_L_isSo_2 48 _ _ _ rfl) ?_
        refine r_l2iz (by omega) 294 rfl (dd_L_isSo_2 49 _ _ _ rfl) ?_
        refine r_iload_1 295 rfl (dd_L_isSo_2 50 _ _ _ rfl) ?_
        refine r_iconst 296 rfl (dd_L_isSo_2 51 _ _ _ rfl) ?_
        refine r_callSH (lvl := 16) (mc1 := 4) (ms1 := 40) (As := [.ref x, .int (zI (t)), .int (zI (S.1 1)), .int (zI (0))]) (rest := []) ((bc - 4) - 4) ((bs - 40) - 40) hg rfl mh_plate ws_L_plate (tb_4 222 _ rfl) (by decide) (by decide) rfl (Nat.le_of_ble_eq_true rfl) (by omega) (by omega) rfl 299 rfl (dd_L_isSo_2 52 _ _ _ rfl) ?_
        refine hd2 x o h _ c ?_
        dsimp only [zCont, Option.toList, List.cons_append, List.nil_append]
        refine r_lconst0 300 rfl (dd_L_isSo_2 53 _ _ _ rfl) ?_
        refine r_lcmp (by omega) (by omega) 301 rfl (dd_L_isSo_2 54 _ _ _ rfl) (fun q => by exfalso; omega) (fun q => by exfalso; omega) (fun _ => ?_)
        refine r_ifle (by omega) 304 rfl 308 rfl (dd_L_isSo_2 55 _ _ _ rfl) (fun q => absurd q (by decide)) (fun _ => ?_)
        exact r_sub _ (z_s1 (z_s1 (z_s1 (z_s1 (z_s0 (z_s0 (z_s0 (z_s0 (z_s0 z_sN))))))))) (r_room (by omega) (by omega) nxt)
    · have et := R1 (by omega)
      have et : t = -9000000000000000 := et
      refine r_iload_3 256 rfl (dd_L_isSo_2 30 _ _ _ rfl) ?_
      refine r_bipush (by decide) 258 rfl (dd_L_isSo_2 31 _ _ _ rfl) ?_
      refine r_if_icmpge (by omega) (by omega) 261 rfl 316 rfl (dd_L_isSo_2 32 _ _ _ rfl) (fun q => by exfalso; omega) (fun _ => ?_)
      refine r_iload_2 262 rfl (dd_L_isSo_2 33 _ _ _ rfl) ?_
      refine r_ifeq (by omega) 265 rfl 316 rfl (dd_L_isSo_2 34 _ _ _ rfl) (fun q => absurd q (by decide)) (fun _ => ?_)
      refine r_aload_0 266 rfl (dd_L_isSo_2 35 _ _ _ rfl) ?_
      refine r_iload_3 267 rfl (dd_L_isSo_2 36 _ _ _ rfl) ?_
      refine r_callSH (lvl := 17) (mc1 := 4) (ms1 := 40) (As := [.ref x, .int (zI ((s : Int)))]) (rest := []) (bc - 4) (bs - 40) hg rfl mh_seen ws_L_seen (tb_5 143 _ rfl) (by decide) (by decide) rfl (Nat.le_of_ble_eq_true rfl) (by omega) (by omega) rfl 270 rfl (dd_L_isSo_2 37 _ _ _ rfl) ?_
      refine hd x o h _ c ?_
      dsimp only [zCont, Option.toList, List.cons_append, List.nil_append]
      refine r_lstore_4 272 rfl (by decide) rfl (dd_L_isSo_2 38 _ _ _ rfl) ?_
      refine r_lload_4 274 rfl (dd_L_isSo_2 39 _ _ _ rfl) ?_
      refine r_ldc2 hg (tb_2 212 _ rfl) 277 rfl (dd_L_isSo_2 40 _ _ _ rfl) ?_
      refine r_topl (-9000000000000000) rfl ?_
      refine r_lcmp (by omega) (by omega) 278 rfl (dd_L_isSo_2 41 _ _ _ rfl) (fun q => by exfalso; omega) (fun _ => ?_) (fun q => by exfalso; omega)
      refine r_ifeq (by omega) 281 rfl 304 rfl (dd_L_isSo_2 42 _ _ _ rfl) (fun _ => ?_) (fun q => absurd q (by decide))
      exact r_sub _ (z_s1 (z_s1 (z_s1 (z_s1 (z_s0 (z_s0 (z_s0 (z_s0 (z_s0 z_sN))))))))) (r_room (by omega) (by omega) nxt)
theorem c_isSo {g : zGT} (hg : zG g) (hnx : zNX g) {n : Nat} {S : zS} (hS : zOK n S) {x : Nat} {o : Nat → Nat} {h : zH} {Q : zO → zH → Prop} (c : CEx g o h x S n) (k : ∀ h1, Q (.inl (some (.int (zI 1)))) h1) : zC g (.code yL_isSo cL_isSo 9 (Option.some Jvm.ClassFile.FieldType.boolean)) yL_isSo 20 2920 29200 [.ref x, .int (zI (S.1 1))] h Q := by
  have hI := hS.1.1
  have e4 := hI.vehicles
  have e1 := hI.today
  have e12 := hI.people
  refine zC_of (M := mL_isSo) (lv := [some (.ref x), some (.int (zI (S.1 1))), none, none, none, none, none, none, none]) (by decide) rfl rfl (Nat.le_of_ble_eq_true rfl) rfl rfl ?_
  refine r_iconst 1 rfl (dd_L_isSo_0 0 _ _ _ rfl) ?_
  refine r_istore_2 2 rfl (by decide) rfl (dd_L_isSo_0 1 _ _ _ rfl) ?_
  refine r_iconst 3 rfl (dd_L_isSo_0 2 _ _ _ rfl) ?_
  refine r_istore_3 4 rfl (by decide) rfl (dd_L_isSo_0 3 _ _ _ rfl) ?_
  refine so_A hg hnx hS (b1 := 328) (b2 := 3280) (fun o h c => ?_) 12 0 rfl o h 2920 29200 c (by decide) (by decide)
  refine r_iconst 254 rfl (dd_L_isSo_2 28 _ _ _ rfl) ?_
  refine r_istore_3 255 rfl (by decide) rfl (dd_L_isSo_2 29 _ _ _ rfl) ?_
  refine so_S hg hnx hS c (b1 := 8) (b2 := 80) ?_ 40 0 rfl 328 3280 (by decide) (by decide)
  obtain ⟨t3, R3, hd3⟩ := d_ofVehicle hg hnx hS (v := 12) (q := 0) (by omega) (by omega)
  obtain ⟨t4, R4, hd4⟩ := d_fines hg hnx hS (v := 10) (by omega)
  have e3 : t3 = -9000000000000000 := R3.2 (by omega)
  have e5 : t4 = -9000000000000000 := R4.2 (by omega)
  refine r_iload_2 317 rfl (dd_L_isSo_3 2 _ _ _ rfl) ?_
  refine r_ifeq (by omega) 320 rfl 351 rfl (dd_L_isSo_3 3 _ _ _ rfl) (fun q => absurd q (by decide)) (fun _ => ?_)
  refine r_aload_0 321 rfl (dd_L_isSo_3 4 _ _ _ rfl) ?_
  refine r_bipush (by decide) 323 rfl (dd_L_isSo_3 5 _ _ _ rfl) ?_
  refine r_iconst 324 rfl (dd_L_isSo_3 6 _ _ _ rfl) ?_
  refine r_callSH (lvl := 18) (mc1 := 4) (ms1 := 40) (As := [.ref x, .int (zI (12)), .int (zI (0))]) (rest := []) (8 - 4) (80 - 40) hg rfl mh_ofVehicle ws_L_ofVehicle (tb_5 63 _ rfl) (by decide) (by decide) rfl (Nat.le_of_ble_eq_true rfl) (by omega) (by omega) rfl 327 rfl (dd_L_isSo_3 7 _ _ _ rfl) ?_
  refine hd3 x o h _ c ?_
  dsimp only [zCont, Option.toList, List.cons_append, List.nil_append]
  refine r_ldc2 hg (tb_2 212 _ rfl) 330 rfl (dd_L_isSo_3 8 _ _ _ rfl) ?_
  refine r_topl (-9000000000000000) rfl ?_
  refine r_lcmp (by omega) (by omega) 331 rfl (dd_L_isSo_3 9 _ _ _ rfl) (fun q => by exfalso; omega) (fun _ => ?_) (fun q => by exfalso; omega)
  refine r_ifne (by omega) 334 rfl 351 rfl (dd_L_isSo_3 10 _ _ _ rfl) (fun q => absurd q (by decide)) (fun _ => ?_)
  refine r_aload_0 335 rfl (dd_L_isSo_3 11 _ _ _ rfl) ?_
  refine r_bipush (by decide) 337 rfl (dd_L_isSo_3 12 _ _ _ rfl) ?_
  refine r_callSH (lvl := 18) (mc1 := 4) (ms1 := 40) (As := [.ref x, .int (zI (10))]) (rest := []) ((8 - 4) - 4) ((80 - 40) - 40) hg rfl mh_fines ws_L_fines (tb_5 214 _ rfl) (by decide) (by decide) rfl (Nat.le_of_ble_eq_true rfl) (by omega) (by omega) rfl 340 rfl (dd_L_isSo_3 13 _ _ _ rfl) ?_
  refine hd4 x o h _ c ?_
  dsimp only [zCont, Option.toList, List.cons_append, List.nil_append]
  refine r_ldc2 hg (tb_2 212 _ rfl) 343 rfl (dd_L_isSo_3 14 _ _ _ rfl) ?_
  refine r_topl (-9000000000000000) rfl ?_
  refine r_lcmp (by omega) (by omega) 344 rfl (dd_L_isSo_3 15 _ _ _ rfl) (fun q => by exfalso; omega) (fun _ => ?_) (fun q => by exfalso; omega)
  refine r_ifne (by omega) 347 rfl 351 rfl (dd_L_isSo_3 16 _ _ _ rfl) (fun q => absurd q (by decide)) (fun _ => ?_)
  refine r_iconst 348 rfl (dd_L_isSo_3 17 _ _ _ rfl) ?_
  refine r_goto 352 rfl (dd_L_isSo_3 18 _ _ _ rfl) ?_
  refine r_ireturn rfl rfl (dd_L_isSo_3 20 _ _ _ rfl) ?_
  exact k _
