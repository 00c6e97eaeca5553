def zfp (S : zS) (Tn : List Nat) (M : Int) : Nat → Nat
  | 0 => 0
  | e + 1 => if M < zmin S (Tn.getD e 0) then zfp S Tn M e else e + 1
theorem zfp_le {S : zS} {Tn : List Nat} {M : Int} : ∀ e, zfp S Tn M e ≤ e
  | 0 => Nat.le_refl _
  | e + 1 => by unfold zfp; have := zfp_le (S := S) (Tn := Tn) (M := M) e; split <;> omega
theorem zfp_spec {S : zS} {Tn : List Nat} {M : Int} : ∀ e, (∀ i, zfp S Tn M e ≤ i → i < e → M < zmin S (Tn.getD i 0)) ∧ (0 < zfp S Tn M e → zmin S (Tn.getD (zfp S Tn M e - 1) 0) ≤ M)
  | 0 => ⟨fun i h1 h2 => absurd h2 (by omega), fun h => absurd h (by unfold zfp; omega)⟩
  | e + 1 => by
    have ih := zfp_spec (S := S) (Tn := Tn) (M := M) e
    unfold zfp
    by_cases hc : M < zmin S (Tn.getD e 0)
    · rw [if_pos hc]
      refine ⟨fun i h1 h2 => ?_, ih.2⟩
      by_cases hq : i = e
      · subst hq; exact hc
      · exact ih.1 i h1 (by omega)
    · rw [if_neg hc]
      exact ⟨fun i h1 h2 => by omega, fun _ => by rw [show e + 1 - 1 = e by omega]; omega⟩
theorem zig {L : List Nat} {a p i : Nat} (hp : p ≤ L.length) : (L.take p ++ a :: L.drop p)[i]? = if i < p then L[i]? else if i = p then some a else L[i - 1]? := by
  have htl : (L.take p).length = p := by simp; omega
  by_cases h1 : i < p
  · rw [if_pos h1, List.getElem?_append_left (by omega), List.getElem?_take_of_lt h1]
  · rw [if_neg h1, List.getElem?_append_right (by omega), htl]
    by_cases h2 : i = p
    · rw [if_pos h2, h2]; simp
    · rw [if_neg h2]
      obtain ⟨d, rfl⟩ : ∃ d, i = p + 1 + d := ⟨i - (p + 1), by omega⟩
      rw [show p + 1 + d - p = d + 1 by omega, List.getElem?_cons_succ, List.getElem?_drop]
      congr 1; omega
theorem TsOK.ins {S S2 : zS} {Ss Ts Tn : List Nat} {M : Int} {p sa : Nat} (x : TsOK S Ss Ts Tn) (hz : ∀ s, s < Ss.length → zmin S2 s = zmin S s) (hM : zmin S2 Ss.length = M) (hp : p = zfp S Tn M Ts.length) : TsOK S2 (Ss ++ [sa]) (Ts.take p ++ sa :: Ts.drop p) (Tn.take p ++ Ss.length :: Tn.drop p) := by
  obtain ⟨x1, x2, x3, x4, x5⟩ := x
  have hpl : p ≤ Ts.length := by rw [hp]; exact zfp_le _
  obtain ⟨s1, s2⟩ := zfp_spec (S := S) (Tn := Tn) (M := M) Ts.length
  rw [← hp] at s1 s2
  have gd : ∀ i s : Nat, Tn[i]? = some s → Tn.getD i 0 = s := fun i s h => by rw [List.getD_eq_getElem?_getD, h]; rfl
  have lt : ∀ i s : Nat, Tn[i]? = some s → i < Ts.length := fun i s h => by have := (List.getElem?_eq_some_iff.mp h).1; omega
  have hi : ∀ i s : Nat, p ≤ i → Tn[i]? = some s → M < zmin S2 s := fun i s h1 h2 => by
    have := s1 i h1 (lt i s h2)
    rw [gd i s h2] at this
    rw [hz s (x3 i s h2).1]; exact this
  have lo : ∀ i s : Nat, i < p → Tn[i]? = some s → zmin S2 s ≤ M := fun i s h1 h2 => by
    rw [hz s (x3 i s h2).1]
    have h3 := s2 (by omega)
    obtain ⟨t, ht⟩ : ∃ t, Tn[p - 1]? = some t := ⟨Tn[p - 1], List.getElem?_eq_getElem (by omega)⟩
    rw [gd (p - 1) t ht] at h3
    by_cases hq : i = p - 1
    · subst hq; rw [h2] at ht; cases ht; exact h3
    · have := x4 i (p - 1) s t (by omega) h2 ht
      unfold zbeh at this
      omega
  refine ⟨by simp; omega, by simp; omega, fun i s h => ?_, fun i j s t hij hs ht => ?_, fun s hs => ?_⟩
  · rw [zig (by omega)] at h
    rw [zig hpl]
    by_cases h1 : i < p
    · rw [if_pos h1] at h ⊢
      obtain ⟨q1, q2⟩ := x3 i s h
      exact ⟨by simp; omega, by rw [q2, List.getElem?_append_left q1]⟩
    · rw [if_neg h1] at h ⊢
      by_cases h2 : i = p
      · rw [if_pos h2] at h ⊢
        cases h
        exact ⟨by simp, by simp⟩
      · rw [if_neg h2] at h ⊢
        obtain ⟨q1, q2⟩ := x3 (i - 1) s h
        exact ⟨by simp; omega, by rw [q2, List.getElem?_append_left q1]⟩
  · rw [zig (by omega)] at hs ht
    have old : ∀ a b c d : Nat, a < b → Tn[a]? = some c → Tn[b]? = some d → zbeh S2 d c := fun a b c d hab hc hd => by
      have := x4 a b c d hab hc hd
      unfold zbeh at *
      rw [hz c (x3 a c hc).1, hz d (x3 b d hd).1]
      exact this
    by_cases h1 : j < p
    · rw [if_pos h1] at ht
      rw [if_pos (by omega)] at hs
      exact old i j s t hij hs ht
    · rw [if_neg h1] at ht
      by_cases h2 : j = p
      · rw [if_pos h2] at ht
        rw [if_pos (by omega)] at hs
        cases ht
        have := lo i s (by omega) hs
        have h9 := (x3 i s hs).1
        unfold zbeh
        rw [hM]
        omega
      · rw [if_neg h2] at ht
        by_cases h3 : i < p
        · rw [if_pos h3] at hs
          exact old i (j - 1) s t (by omega) hs ht
        · rw [if_neg h3] at hs
          by_cases h4 : i = p
          · rw [if_pos h4] at hs
            cases hs
            have := hi (j - 1) t (by omega) ht
            unfold zbeh
            rw [hM]
            omega
          · rw [if_neg h4] at hs
            exact old (i - 1) (j - 1) s t (by omega) hs ht
  · simp at hs
    by_cases hq : s = Ss.length
    · exact ⟨p, by rw [zig (by omega), if_neg (by omega), if_pos rfl, hq]⟩
    · obtain ⟨i, hi9⟩ := x5 s (by omega)
      by_cases h1 : i < p
      · exact ⟨i, by rw [zig (by omega), if_pos h1]; exact hi9⟩
      · exact ⟨i + 1, by rw [zig (by omega), if_neg (by omega), if_neg (by omega)]; exact hi9⟩
theorem zcp_at {ar : Nat → Nat → Int} {n k : Nat} (hk : k < 4) : zcp ar n 4 32 (4 * n + k) = ar 3 k := by
  rcases (show k = 0 ∨ k = 1 ∨ k = 2 ∨ k = 3 by omega) with rfl | rfl | rfl | rfl <;> simp [zcp, zu2]
theorem zcp_off {ar : Nat → Nat → Int} {n u i : Nat} (hu : u ≠ n) (hi : i < 4) : zcp ar n 4 32 (4 * u + i) = ar 32 (4 * u + i) := by
  have h9 : ∀ k, k < 4 → ¬ 4 * u + i = 4 * n + k := fun k hk => by omega
  show zu2 (zu2 (zu2 (zu2 ar 32 (4 * n + 0) (ar 3 0)) 32 (4 * n + 1) (ar 3 1)) 32 (4 * n + 2) (ar 3 2)) 32 (4 * n + 3) (ar 3 3) 32 (4 * u + i) = _
  rw [zu2_ne (fun q => h9 3 (by decide) q.2), zu2_ne (fun q => h9 2 (by decide) q.2), zu2_ne (fun q => h9 1 (by decide) q.2), zu2_ne (fun q => h9 0 (by decide) q.2)]

abbrev mX11_fileByTime : zM := (RX11, cX11_fileByTime, 3, (Option.none : Option Jvm.ClassFile.FieldType), [], "fileByTime", 17)
set_option maxRecDepth 20000 in
theorem c_X11_fileByTime {g : zGT} {Q : zO → zH → Prop} {h : zH} (hg : zG g) {mi : Nat} (hm : zMi g mi) {o : Nat → Nat} {x lt sa n : Nat} {S : zS} {Ts Tn : List Nat} {M : Int} (hI : MInv n S) (mk : kd_ h x = 15) (mf : fr_ h x 8 = some lt) (hL : LRep g o 8 h lt Ts) (ht40 : Ts.length < 40) (ka : kd_ h sa = 11) (q3 : fi_ h sa 3 = M) (hMr : zR M) (hlen : Tn.length = Ts.length) (hE : ∀ i s : Nat, Tn[i]? = some s → ∃ a, Ts[i]? = some a ∧ kd_ h a = 11 ∧ fi_ h a 3 = zmin S s) (hel : ∀ z, z ∈ Ts → kd_ h z = 11) (k : ∀ o1 h1, LRep g o1 8 h1 lt (Ts.take (zfp S Tn M Ts.length) ++ sa :: Ts.drop (zfp S Tn M Ts.length)) → zStep (fun q => q = 8) o h o1 h1 → Q (.inl none) h1) : zC g (.code yX11_fileByTime cX11_fileByTime 3 (Option.none : Option Jvm.ClassFile.FieldType)) yX11_fileByTime 17 1 100 [.ref x, .ref sa] h Q := by
  refine zC_of (M := mX11_fileByTime) (lv := [some (.ref x), some (.ref sa), none]) (by decide) rfl rfl (Nat.le_of_ble_eq_true rfl) rfl rfl ?_
  refine r_aload_0 1 rfl (dd_X11_fileByTime 0 _ _ _ rfl) ?_
  refine r_getr hg zc_X11 8 (by decide) (fun _ _ _ => rfl) mf mk (Or.inl rfl) (tb_1 129 _ rfl) 4 rfl (dd_X11_fileByTime 1 _ _ _ rfl) ?_
  refine r_callV0 (lvl := 10) (mc1 := 0) (ms1 := 0) 1 100 hg rfl md_Jx4a65c_size_8abf5 zc_Jx4a65c hL.1 wi_Jx4a65c_size_8abf5 wv_Jx4a65c_size_8abf5 (tb_2 8 _ rfl) (by decide) (by decide) rfl (Nat.le_of_ble_eq_true rfl) (Nat.le_of_ble_eq_true rfl) (Nat.le_of_ble_eq_true rfl) 7 rfl (dd_X11_fileByTime 2 _ _ _ rfl) ?_
  refine c_Jx4a65c_size_8abf5 hg hL ?_
  dsimp only [zCont, Option.toList, List.cons_append, List.nil_append]
  refine r_istore_2 8 rfl (by decide) rfl (dd_X11_fileByTime 3 _ _ _ rfl) ?_
  have L8 : ∀ (tt : Nat), ∀ (j : Nat) (b : Int), j < tt → (j ≤ Ts.length) → (b = j) → (zfp S Tn M Ts.length = zfp S Tn M j) → zX g mX11_fileByTime 1 100 Q 8 [some (.ref x), some (.ref sa), some (.int (zI b))] [] h 1 100 := by
    intro tt8
    induction tt8 with
    | zero => intros; exfalso; omega
    | succ tt8 ih8 =>
      intro j b hlt8 hj hb hz
      refine r_iload_2 9 rfl (dd_X11_fileByTime 4 _ _ _ rfl) ?_
      refine r_ifle (by omega) 12 rfl 41 rfl (dd_X11_fileByTime 5 _ _ _ rfl) (fun hc1 => ?_) (fun hc1 => ?_)
      · subst hb
        have hj0 : j = 0 := by omega
        have hpz : zfp S Tn M Ts.length = j := by rw [hz, hj0]; rfl
        have hjl : j ≤ Ts.length := by rw [← hpz]; exact zfp_le _
        refine r_aload_0 42 rfl (dd_X11_fileByTime 19 _ _ _ rfl) ?_
        refine r_getr hg zc_X11 8 (by decide) (fun _ _ _ => rfl) mf mk (Or.inl rfl) (tb_1 129 _ rfl) 45 rfl (dd_X11_fileByTime 20 _ _ _ rfl) ?_
        refine r_iload_2 46 rfl (dd_X11_fileByTime 21 _ _ _ rfl) ?_
        refine r_aload_1 47 rfl (dd_X11_fileByTime 22 _ _ _ rfl) ?_
        refine r_callV2 (lvl := 16) (mc1 := 1) (ms1 := 100) 0 0 hg rfl md_Jx4a65c_add_7a177 zc_Jx4a65c hL.1 wi_Jx4a65c_add_7a177 wv_Jx4a65c_add_7a177 (tb_5 142 _ rfl) (by decide) (by decide) rfl (Nat.le_of_ble_eq_true rfl) (Nat.le_of_ble_eq_true rfl) (Nat.le_of_ble_eq_true rfl) 50 rfl (dd_X11_fileByTime 23 _ _ _ rfl) ?_
        refine c_Jx4a65c_add_7a177 hg zc_X7 (tb_6 89 _ rfl) hm hL (by omega) hel ka hjl (fun o1 h1 hL1 st1 => ?_)
        dsimp only [zCont, Option.toList, List.cons_append, List.nil_append]
        refine r_vreturn rfl (dd_X11_fileByTime 24 _ _ _ rfl) ?_
        rw [hpz] at k
        exact k _ _ hL1 st1
      · obtain ⟨j, rfl⟩ : ∃ i, j = i + 1 := ⟨j - 1, by omega⟩
        obtain ⟨s, hTn⟩ : ∃ s, Tn[j]? = some s := ⟨Tn[j], List.getElem?_eq_getElem (by omega)⟩
        obtain ⟨ea, eT, ek, e3⟩ := hE j s hTn
        have hmr := zmin_range (s := s) hI
        have hgd : Tn.getD j 0 = s := by rw [List.getD_eq_getElem?_getD, hTn]; rfl
        refine r_aload_0 13 rfl (dd_X11_fileByTime 6 _ _ _ rfl) ?_
        refine r_getr hg zc_X11 8 (by decide) (fun _ _ _ => rfl) mf mk (Or.inl rfl) (tb_1 129 _ rfl) 16 rfl (dd_X11_fileByTime 7 _ _ _ rfl) ?_
        refine r_iload_2 17 rfl (dd_X11_fileByTime 8 _ _ _ rfl) ?_
        refine r_iconst 18 rfl (dd_X11_fileByTime 9 _ _ _ rfl) ?_
        refine r_isub 19 rfl (dd_X11_fileByTime 10 _ _ _ rfl) ?_
        refine r_top ((j : Nat) : Int) (congrArg zI (by omega)) ?_
        refine r_callV1 (lvl := 12) (mc1 := 0) (ms1 := 0) 1 100 hg rfl md_Jx4a65c_get_915e3 zc_Jx4a65c hL.1 wi_Jx4a65c_get_915e3 wv_Jx4a65c_get_915e3 (tb_2 12 _ rfl) (by decide) (by decide) rfl (Nat.le_of_ble_eq_true rfl) (Nat.le_of_ble_eq_true rfl) (Nat.le_of_ble_eq_true rfl) 22 rfl (dd_X11_fileByTime 11 _ _ _ rfl) ?_
        refine c_Jx4a65c_get_915e3 hg hL (i := j) (y := ea) eT ?_
        dsimp only [zCont, Option.toList, List.cons_append, List.nil_append]
        refine r_checkcastS hg zc_X7 ek (tb_5 87 _ rfl) 25 rfl (dd_X11_fileByTime 12 _ _ _ rfl) ?_
        refine r_geti hg zc_X7 3 (by decide) (fun _ _ _ => rfl) e3 ek (Or.inl rfl) (tb_5 124 _ rfl) 28 rfl (dd_X11_fileByTime 13 _ _ _ rfl) ?_
        refine r_aload_1 29 rfl (dd_X11_fileByTime 14 _ _ _ rfl) ?_
        refine r_geti hg zc_X7 3 (by decide) (fun _ _ _ => rfl) q3 ka (Or.inl rfl) (tb_5 124 _ rfl) 32 rfl (dd_X11_fileByTime 15 _ _ _ rfl) ?_
        refine r_if_icmple (by omega) (by omega) 35 rfl 41 rfl (dd_X11_fileByTime 16 _ _ _ rfl) (fun hc2 => ?_) (fun hc2 => ?_)
        · subst hb
          have hpz : zfp S Tn M Ts.length = j + 1 := hz.trans (if_neg (by rw [hgd]; omega))
          generalize j + 1 = j at *
          have hjl : j ≤ Ts.length := by rw [← hpz]; exact zfp_le _
          refine r_aload_0 42 rfl (dd_X11_fileByTime 19 _ _ _ rfl) ?_
          refine r_getr hg zc_X11 8 (by decide) (fun _ _ _ => rfl) mf mk (Or.inl rfl) (tb_1 129 _ rfl) 45 rfl (dd_X11_fileByTime 20 _ _ _ rfl) ?_
          refine r_iload_2 46 rfl (dd_X11_fileByTime 21 _ _ _ rfl) ?_
          refine r_aload_1 47 rfl (dd_X11_fileByTime 22 _ _ _ rfl) ?_
          refine r_callV2 (lvl := 16) (mc1 := 1) (ms1 := 100) 0 0 hg rfl md_Jx4a65c_add_7a177 zc_Jx4a65c hL.1 wi_Jx4a65c_add_7a177 wv_Jx4a65c_add_7a177 (tb_5 142 _ rfl) (by decide) (by decide) rfl (Nat.le_of_ble_eq_true rfl) (Nat.le_of_ble_eq_true rfl) (Nat.le_of_ble_eq_true rfl) 50 rfl (dd_X11_fileByTime 23 _ _ _ rfl) ?_
          refine c_Jx4a65c_add_7a177 hg zc_X7 (tb_6 89 _ rfl) hm hL (by omega) hel ka hjl (fun o1 h1 hL1 st1 => ?_)
          dsimp only [zCont, Option.toList, List.cons_append, List.nil_append]
          refine r_vreturn rfl (dd_X11_fileByTime 24 _ _ _ rfl) ?_
          rw [hpz] at k
          exact k _ _ hL1 st1
        · refine r_iinc_2 38 rfl (by decide) rfl (dd_X11_fileByTime 17 _ _ _ rfl) ?_
          refine r_goto 8 rfl (dd_X11_fileByTime 18 _ _ _ rfl) ?_
          exact r_sub _ (z_s1 (z_s1 (z_s1 z_sN))) (ih8 j _ (by omega) (by omega) (by omega) (hz.trans (if_pos (by rw [hgd]; omega))))
  exact r_sub _ (z_s1 (z_s1 (z_s1 z_sN))) (L8 1000000 Ts.length _ (by omega) (by omega) rfl rfl)

abbrev mX11_sight : zM := (RX11, cX11_sight, 4, (Option.some Jvm.ClassFile.FieldType.int), [], "sight", 18)
set_option maxRecDepth 20000 in
theorem c_X11_sight {g : zGT} {Q : zO → zH → Prop} {h : zH} (hg : zG g) {mi : Nat} (hm : zMi g mi) {o : Nat → Nat} {x : Nat} {S : zS} {n : Nat} {Vs Ps Ss Ts Fs Tn : List Nat} {A : Nat → Nat} {G : Nat → Nat → Nat} {Rc : Nat → Nat} (hI : MInv n S) (y : CRep g o h x S n Vs Ps Ss Ts Fs Tn A G Rc) {a c : Int} (ha : zR a) (hc : zR c) (kE : ¬ (0 ≤ a ∧ a ≤ 9 ∧ 0 ≤ c ∧ c ≤ 1439) → Q (.inr "java/lang/IllegalArgumentException") h) (k2 : (0 ≤ a ∧ a ≤ 9 ∧ 0 ≤ c ∧ c ≤ 1439) → (¬ zsightOK S ∨ S.1 31 = 40) → Q (.inr "java/lang/IllegalStateException") h) (k0 : (0 ≤ a ∧ a ≤ 9 ∧ 0 ≤ c ∧ c ≤ 1439) → zsightOK S → S.1 31 ≠ 40 → ∀ o1 h1, CEx g o1 h1 x (zu1 (zu1 S.1 2 0) 31 (S.1 31 + 1), zu2 (zu2 (zu2 (zcp S.2 (S.1 31).toNat 4) 33 (S.1 31).toNat a) 34 (S.1 31).toNat (S.1 1)) 35 (S.1 31).toNat c) (n + 1) → zStep zOwn o h o1 h1 → Q (.inl (some (.int (zI (S.1 31))))) h1) : zC g (.code yX11_sight cX11_sight 4 (Option.some Jvm.ClassFile.FieldType.int)) yX11_sight 18 14 300 [.ref x, .int (zI a), .int (zI c)] h Q := by
  refine zC_of (M := mX11_sight) (lv := [some (.ref x), some (.int (zI a)), some (.int (zI c)), none]) (by decide) rfl rfl (Nat.le_of_ble_eq_true rfl) rfl rfl ?_
  have e1 := hI.vehicles
  have e2 := hI.today
  have e3 := hI.people
  have e4 := hI.sightings
  have e5 := hI.fines
  have e6 := hI.calls
  have nv := y.nv
  have np := y.np
  have ns := y.ns
  have nf := y.nf
  have e9 := hI.signs
  refine r_iload_1 1 rfl (dd_X11_sight 0 _ _ _ rfl) ?_
  refine r_iconst 2 rfl (dd_X11_sight 1 _ _ _ rfl) ?_
  refine r_bipush (by decide) 4 rfl (dd_X11_sight 2 _ _ _ rfl) ?_
  refine r_callS3 (lvl := 10) (mc1 := 0) (ms1 := 0) 14 300 hg rfl md_X11_isWithin ws_X11_isWithin (tb_1 171 _ rfl) (by decide) (by decide) rfl (Nat.le_of_ble_eq_true rfl) (Nat.le_of_ble_eq_true rfl) (Nat.le_of_ble_eq_true rfl) 7 rfl (dd_X11_sight 3 _ _ _ rfl) ?_
  refine c_X11_isWithin hg (by omega) (by omega) (by omega) (fun hb1 => ?_) (fun hb1 => ?_)
  · dsimp only [zCont, Option.toList, List.cons_append, List.nil_append]
    refine r_ifeq (by omega) 10 rfl 21 rfl (dd_X11_sight 4 _ _ _ rfl) (fun q => absurd q (by decide)) (fun _ => ?_)
    refine r_iload_2 11 rfl (dd_X11_sight 5 _ _ _ rfl) ?_
    refine r_iconst 12 rfl (dd_X11_sight 6 _ _ _ rfl) ?_
    refine r_sipush (by decide) 15 rfl (dd_X11_sight 7 _ _ _ rfl) ?_
    refine r_callS3 (lvl := 10) (mc1 := 0) (ms1 := 0) 14 300 hg rfl md_X11_isWithin ws_X11_isWithin (tb_1 171 _ rfl) (by decide) (by decide) rfl (Nat.le_of_ble_eq_true rfl) (Nat.le_of_ble_eq_true rfl) (Nat.le_of_ble_eq_true rfl) 18 rfl (dd_X11_sight 8 _ _ _ rfl) ?_
    refine c_X11_isWithin hg (by omega) (by omega) (by omega) (fun hb2 => ?_) (fun hb2 => ?_)
    · dsimp only [zCont, Option.toList, List.cons_append, List.nil_append]
      refine r_ifne (by omega) 21 rfl 29 rfl (dd_X11_sight 9 _ _ _ rfl) (fun _ => ?_) (fun q => absurd q (by decide))
      obtain ⟨bg, b1, b2, b3, b4, b5, b6, b7, b8⟩ := id y.bu
      refine r_aload_0 30 rfl (dd_X11_sight 14 _ _ _ rfl) ?_
      refine r_getr hg zc_X11 1 (by decide) (fun _ _ _ => rfl) y.mn.2.2.2.2.1 y.mn.1 (Or.inl rfl) (tb_1 122 _ rfl) 33 rfl (dd_X11_sight 15 _ _ _ rfl) ?_
      refine r_iconst 34 rfl (dd_X11_sight 16 _ _ _ rfl) ?_
      refine r_callV1 (lvl := 12) (mc1 := 0) (ms1 := 0) 14 300 hg rfl md_X0_isOfPlateSigns zc_X0 b1 wi_X0_isOfPlateSigns wv_X0_isOfPlateSigns (tb_5 112 _ rfl) (by decide) (by decide) rfl (Nat.le_of_ble_eq_true rfl) (Nat.le_of_ble_eq_true rfl) (Nat.le_of_ble_eq_true rfl) 37 rfl (dd_X11_sight 17 _ _ _ rfl) ?_
      refine c_X0_isOfPlateSigns hg hI y.bu (by decide) (fun hpl => ?_) (fun hpl => ?_)
      · rw [zpl_sight] at hpl
        dsimp only [zCont, Option.toList, List.cons_append, List.nil_append]
        refine r_ifeq (by omega) 40 rfl 52 rfl (dd_X11_sight 18 _ _ _ rfl) (fun q => absurd q (by decide)) (fun _ => ?_)
        refine r_aload_0 41 rfl (dd_X11_sight 19 _ _ _ rfl) ?_
        refine r_getr hg zc_X11 7 (by decide) (fun _ _ _ => rfl) y.mn.2.2.2.2.2.2.2.2.2.1 y.mn.1 (Or.inl rfl) (tb_1 128 _ rfl) 44 rfl (dd_X11_sight 20 _ _ _ rfl) ?_
        refine r_callV0 (lvl := 10) (mc1 := 0) (ms1 := 0) 14 300 hg rfl md_Jx4a65c_size_8abf5 zc_Jx4a65c y.ls.1 wi_Jx4a65c_size_8abf5 wv_Jx4a65c_size_8abf5 (tb_2 8 _ rfl) (by decide) (by decide) rfl (Nat.le_of_ble_eq_true rfl) (Nat.le_of_ble_eq_true rfl) (Nat.le_of_ble_eq_true rfl) 47 rfl (dd_X11_sight 21 _ _ _ rfl) ?_
        refine c_Jx4a65c_size_8abf5 hg y.ls ?_
        dsimp only [zCont, Option.toList, List.cons_append, List.nil_append]
        refine r_bipush (by decide) 49 rfl (dd_X11_sight 22 _ _ _ rfl) ?_
        refine r_if_icmplt (by omega) (by omega) 52 rfl 60 rfl (dd_X11_sight 23 _ _ _ rfl) (fun hc3 => ?_) (fun hc3 => ?_)
        · refine r_new 13 296 hg zc_X7 (tb_5 87 _ rfl) (tb_5 113 _ rfl) (tb_1 33 _ rfl) (Nat.le_of_ble_eq_true rfl) (Nat.le_of_ble_eq_true rfl) zd_X7 63 rfl (dd_X11_sight 28 _ _ _ rfl) (fun sa hz_sa => ?_)
          have hxs : x ≠ sa := fun q => by have := y.mn.1; rw [q, hz_sa] at this; cases this
          have mn0 : fi_ (nob h sa 10) x 0 = S.1 1 := (if_neg hxs).trans y.mn.2.2.1
          have mnk : kd_ (nob h sa 10) x = 15 := (zu1_ne hxs).trans y.mn.1
          refine r_dup rfl 64 rfl (dd_X11_sight 29 _ _ _ rfl) ?_
          refine r_iload_1 65 rfl (dd_X11_sight 30 _ _ _ rfl) ?_
          refine r_aload_0 66 rfl (dd_X11_sight 31 _ _ _ rfl) ?_
          refine r_geti hg zc_X11 0 (by decide) (fun _ _ _ => rfl) mn0 mnk (Or.inl rfl) (tb_1 121 _ rfl) 69 rfl (dd_X11_sight 32 _ _ _ rfl) ?_
          refine r_iload_2 70 rfl (dd_X11_sight 33 _ _ _ rfl) ?_
          refine r_callI3 (lvl := 10) (mc1 := 1) (ms1 := 4) 12 292 hg rfl md_X7_init wi_X7_init rfl rfl (tb_5 114 _ rfl) (by decide) (by decide) rfl (Nat.le_of_ble_eq_true rfl) (Nat.le_of_ble_eq_true rfl) (Nat.le_of_ble_eq_true rfl) 73 rfl (dd_X11_sight 34 _ _ _ rfl) ?_
          refine c_X7_init (o := zu1 o sa (rg 6 Ss.length)) (r := rg 6 Ss.length) hg zu1_at zu1_at (fun sg o1 h1 z0 f0 q1 q2 q3 ks ls os st0 => ?_)
          have st1 : zStep (fun q => q = rg 6 Ss.length) o h o1 h1 := (step_nob hz_sa).trans st0
          have ka : kd_ h1 sa = 11 := st0.kd zu1_at (by decide)
          have oa : o1 sa = rg 6 Ss.length := st0.own (by rw [show kd_ (nob h sa 10) sa = 11 from zu1_at]; decide) zu1_at
          have mn1 := y.mn.fr (st1.fr (r := 1) (by show ¬ _ = _; unfold rg; omega))
          have bu1 := y.bu.fr (st1.fr (r := 2) (by show ¬ _ = _; unfold rg; omega))
          obtain ⟨bg1, d1, d2, d3, d4, d5, d6, d7, d8⟩ := id bu1
          have hsa : sa ≠ sg := fun q => by rw [q, ks] at ka; cases ka
          have hbsg : bg1 ≠ sg := fun q => by rw [q, os] at d6; unfold rg at d6; omega
          have hb1sg : A 1 ≠ sg := fun q => by rw [q, ks] at d1; cases d1
          have bz : BuRep (zo1 sg) 0 h1 (A 1) S := ⟨bg1, d1, if_neg hb1sg, d3, d4, d5, if_neg hbsg, d7, d8⟩
          dsimp only [zCont, Option.toList, List.cons_append, List.nil_append]
          refine r_astore_3 74 rfl (by decide) rfl (dd_X11_sight 35 _ _ _ rfl) ?_
          refine r_aload_0 75 rfl (dd_X11_sight 36 _ _ _ rfl) ?_
          refine r_getr hg zc_X11 1 (by decide) (fun _ _ _ => rfl) mn1.2.2.2.2.1 mn1.1 (Or.inl rfl) (tb_1 122 _ rfl) 78 rfl (dd_X11_sight 37 _ _ _ rfl) ?_
          refine r_aload_3 79 rfl (dd_X11_sight 38 _ _ _ rfl) ?_
          refine r_getr hg zc_X7 0 (by decide) (fun _ _ _ => rfl) f0 ka (Or.inl rfl) (tb_5 119 _ rfl) 82 rfl (dd_X11_sight 39 _ _ _ rfl) ?_
          refine r_callV1 (lvl := 10) (mc1 := 0) (ms1 := 0) 12 292 hg rfl md_X0_copyTo zc_X0 d1 wi_X0_copyTo wv_X0_copyTo (tb_5 134 _ rfl) (by decide) (by decide) rfl (Nat.le_of_ble_eq_true rfl) (Nat.le_of_ble_eq_true rfl) (Nat.le_of_ble_eq_true rfl) 85 rfl (dd_X11_sight 40 _ _ _ rfl) ?_
          refine c_X0_copyTo hg hI bz ks ls (if_pos rfl) (by decide) (fun h2 q4 q4l st2z => ?_)
          have on2 : zOnly sg h1 h2 := zOnly.of st2z (by rw [ks]; decide)
          have st2 : zStep (fun q => q = rg 6 Ss.length) o1 h1 o1 h2 := on2.step os
          have mn2 := mn1.fr (st2.fr (r := 1) (by show ¬ _ = _; unfold rg; omega))
          have bu2 := bu1.fr (st2.fr (r := 2) (by show ¬ _ = _; unfold rg; omega))
          obtain ⟨bg2, e1b, e2b, e3b, e4b, e5b, e6b, e7b, e8b⟩ := id bu2
          have sa2 := on2.1 sa hsa (by rw [ka]; decide)
          dsimp only [zCont, Option.toList, List.cons_append, List.nil_append]
          refine r_aload_0 86 rfl (dd_X11_sight 41 _ _ _ rfl) ?_
          refine r_getr hg zc_X11 1 (by decide) (fun _ _ _ => rfl) mn2.2.2.2.2.1 mn2.1 (Or.inl rfl) (tb_1 122 _ rfl) 89 rfl (dd_X11_sight 42 _ _ _ rfl) ?_
          refine r_callV0 (lvl := 10) (mc1 := 0) (ms1 := 0) 12 292 hg rfl md_X0_empty zc_X0 e1b wi_X0_empty wv_X0_empty (tb_4 184 _ rfl) (by decide) (by decide) rfl (Nat.le_of_ble_eq_true rfl) (Nat.le_of_ble_eq_true rfl) (Nat.le_of_ble_eq_true rfl) 92 rfl (dd_X11_sight 43 _ _ _ rfl) ?_
          refine c_X0_empty hg hI bu2 (fun h3 hb3 st3 => ?_)
          have mn3 := mn2.fr (st3.fr (r := 1) (by show ¬ _ = _; decide))
          have st13 : zStep (fun q => q = 2 ∨ q = rg 6 Ss.length) o h o1 h3 := ((st1.mono (fun _ q => Or.inr q)).trans (st2.mono (fun _ q => Or.inr q))).trans (st3.mono (fun _ q => Or.inl q))
          have ls3 := y.ls.fr (st13.fr (r := 7) (by show ¬ (_ = _ ∨ _ = _); unfold rg; omega))
          have ka3 : kd_ h3 sa = 11 := st3.kd (sa2.1.trans ka) (by decide)
          have siE : ∀ s a : Nat, Ss[s]? = some a → SiRep o1 (rg 6 s) h3 a S s := fun s a hs => (y.si s a hs).fr (st13.fr (r := rg 6 s) (by have hq := (List.getElem?_eq_some_iff.mp hs).1; show ¬ (_ = _ ∨ _ = _); unfold rg; omega))
          dsimp only [zCont, Option.toList, List.cons_append, List.nil_append]
          refine r_pop rfl 93 rfl (dd_X11_sight 44 _ _ _ rfl) ?_
          refine r_aload_0 94 rfl (dd_X11_sight 45 _ _ _ rfl) ?_
          refine r_getr hg zc_X11 7 (by decide) (fun _ _ _ => rfl) mn3.2.2.2.2.2.2.2.2.2.1 mn3.1 (Or.inl rfl) (tb_1 128 _ rfl) 97 rfl (dd_X11_sight 46 _ _ _ rfl) ?_
          refine r_aload_3 98 rfl (dd_X11_sight 47 _ _ _ rfl) ?_
          refine r_callV1 (lvl := 16) (mc1 := 1) (ms1 := 100) 11 192 hg rfl md_Jx4a65c_add_9ea2d zc_Jx4a65c ls3.1 wi_Jx4a65c_add_9ea2d wv_Jx4a65c_add_9ea2d (tb_2 147 _ rfl) (by decide) (by decide) rfl (Nat.le_of_ble_eq_true rfl) (Nat.le_of_ble_eq_true rfl) (Nat.le_of_ble_eq_true rfl) 101 rfl (dd_X11_sight 48 _ _ _ rfl) ?_
          refine c_Jx4a65c_add_9ea2d hg zc_X7 (tb_6 89 _ rfl) hm ls3 (by omega) (fun z hz => by obtain ⟨i, hi⟩ := List.getElem?_of_mem hz; obtain ⟨sg9, z9⟩ := siE i z hi; exact z9.1) ka3 (fun o4 h4 hL4 st4 => ?_)
          have mn4 := mn3.fr (st4.fr (r := 1) (by show ¬ _ = _; decide))
          have st14 : zStep (fun q => q = 2 ∨ q = 7 ∨ q = rg 6 Ss.length) o h o4 h4 := (st13.mono (fun q hq => by rcases hq with hq | hq; exact Or.inl hq; exact Or.inr (Or.inr hq))).trans (st4.mono (fun _ q => Or.inr (Or.inl q)))
          have lt4 := y.lt.fr (st14.fr (r := 8) (by show ¬ (_ = _ ∨ _ = _ ∨ _ = _); unfold rg; omega))
          have ka4 : kd_ h4 sa = 11 := st4.kd ka3 (by decide)
          have siN : SiRep o4 (rg 6 Ss.length) h4 sa (zu1 (zu1 S.1 2 0) 31 (S.1 31 + 1), zu2 (zu2 (zu2 (zcp S.2 (S.1 31).toNat 4) 33 (S.1 31).toNat a) 34 (S.1 31).toNat (S.1 1)) 35 (S.1 31).toNat c) Ss.length := by
            have hN : (S.1 31).toNat = Ss.length := by omega
            have sz : SiRep o1 (rg 6 Ss.length) h2 sa (zu1 (zu1 S.1 2 0) 31 (S.1 31 + 1), zu2 (zu2 (zu2 (zcp S.2 (S.1 31).toNat 4) 33 (S.1 31).toNat a) 34 (S.1 31).toNat (S.1 1)) 35 (S.1 31).toNat c) Ss.length := ⟨sg, sa2.1.trans ka, oa, (sa2.2.2.2.2.1 0).trans f0, ((sa2.2.2.1 1).trans q1).trans (by simp [zu2, hN]), ((sa2.2.2.1 2).trans q2).trans (by simp [zu2, hN]), ((sa2.2.2.1 3).trans q3).trans (by unfold zmin; simp [zu2, hN]; omega), on2.2.trans ks, os, q4l, fun k hk => (q4 k hk).trans (by rw [hN]; exact (zcp_at hk).symm)⟩
            exact (sz.fr (st3.fr (r := rg 6 Ss.length) (by show ¬ _ = _; unfold rg; omega))).fr (st4.fr (r := rg 6 Ss.length) (by show ¬ _ = _; unfold rg; omega))
          have fq3 : fi_ h4 sa 3 = 1440 * S.1 1 + c := by obtain ⟨sg9, z1, z2, z3, z4, z5, z6, z7⟩ := siN; rw [z6]; have hN : (S.1 31).toNat = Ss.length := (by omega); unfold zmin; simp [zu2, hN]
          have siF : ∀ s a : Nat, Ss[s]? = some a → SiRep o4 (rg 6 s) h4 a S s := fun s a hs => (siE s a hs).fr (st4.fr (r := rg 6 s) (by show ¬ _ = _; unfold rg; omega))
          obtain ⟨ok1, ok2, ok3, ok4, ok5⟩ := id y.ok
          dsimp only [zCont, Option.toList, List.cons_append, List.nil_append]
          refine r_pop rfl 102 rfl (dd_X11_sight 49 _ _ _ rfl) ?_
          refine r_aload_0 103 rfl (dd_X11_sight 50 _ _ _ rfl) ?_
          refine r_aload_3 104 rfl (dd_X11_sight 51 _ _ _ rfl) ?_
          refine r_callV1 (lvl := 17) (mc1 := 1) (ms1 := 100) 10 92 hg rfl md_X11_fileByTime zc_X11 mn4.1 wi_X11_fileByTime wv_X11_fileByTime (tb_5 138 _ rfl) (by decide) (by decide) rfl (Nat.le_of_ble_eq_true rfl) (Nat.le_of_ble_eq_true rfl) (Nat.le_of_ble_eq_true rfl) 107 rfl (dd_X11_sight 52 _ _ _ rfl) ?_
          refine c_X11_fileByTime hg hm (Tn := Tn) (M := 1440 * S.1 1 + c) hI mn4.1 mn4.2.2.2.2.2.2.2.2.2.2.1 lt4 (by omega) ka4 fq3 (by omega) (by omega) (fun i s hs => by obtain ⟨g1, g2⟩ := ok3 i s hs; obtain ⟨a9, ha9⟩ : ∃ a, Ss[s]? = some a := ⟨Ss[s], List.getElem?_eq_getElem g1⟩; obtain ⟨sg9, z1, z2, z3, z4, z5, z6, z7⟩ := siF s a9 ha9; exact ⟨a9, g2.trans ha9, z1, z6⟩) (fun z hz => by obtain ⟨i, hi⟩ := List.getElem?_of_mem hz; obtain ⟨s, hs⟩ : ∃ s, Tn[i]? = some s := ⟨Tn[i]'(by have := (List.getElem?_eq_some_iff.mp hi).1; omega), List.getElem?_eq_getElem _⟩; obtain ⟨g1, g2⟩ := ok3 i s hs; obtain ⟨sg9, z9⟩ := siF s z (g2.symm.trans hi); exact z9.1) (fun o5 h5 hT5 st5 => ?_)
          have mn5 := mn4.fr (st5.fr (r := 1) (by show ¬ _ = _; decide))
          have hL5 := hL4.fr (st5.fr (r := 7) (by show ¬ _ = _; decide))
          dsimp only [zCont, Option.toList, List.cons_append, List.nil_append]
          refine r_aload_0 108 rfl (dd_X11_sight 53 _ _ _ rfl) ?_
          refine r_getr hg zc_X11 7 (by decide) (fun _ _ _ => rfl) mn5.2.2.2.2.2.2.2.2.2.1 mn5.1 (Or.inl rfl) (tb_1 128 _ rfl) 111 rfl (dd_X11_sight 54 _ _ _ rfl) ?_
          refine r_callV0 (lvl := 10) (mc1 := 0) (ms1 := 0) 10 92 hg rfl md_Jx4a65c_size_8abf5 zc_Jx4a65c hL5.1 wi_Jx4a65c_size_8abf5 wv_Jx4a65c_size_8abf5 (tb_2 8 _ rfl) (by decide) (by decide) rfl (Nat.le_of_ble_eq_true rfl) (Nat.le_of_ble_eq_true rfl) (Nat.le_of_ble_eq_true rfl) 114 rfl (dd_X11_sight 55 _ _ _ rfl) ?_
          refine c_Jx4a65c_size_8abf5 hg hL5 ?_
          dsimp only [zCont, Option.toList, List.cons_append, List.nil_append]
          refine r_iconst 115 rfl (dd_X11_sight 56 _ _ _ rfl) ?_
          refine r_isub 116 rfl (dd_X11_sight 57 _ _ _ rfl) ?_
          refine r_ireturn rfl rfl (dd_X11_sight 58 _ _ _ rfl) ?_
          have hN : (S.1 31).toNat = Ss.length := by omega
          have st : zStep (fun q => q = 2 ∨ q = 7 ∨ q = 8 ∨ q = rg 6 Ss.length) o h o5 h5 := (st14.mono (fun q hq => by rcases hq with hq | hq | hq; exact Or.inl hq; exact Or.inr (Or.inl hq); exact Or.inr (Or.inr (Or.inr hq)))).trans (st5.mono (fun _ q => Or.inr (Or.inr (Or.inl q))))
          have zc : ∀ k i, k ≠ 32 → zcp S.2 (S.1 31).toNat 4 k i = S.2 k i := fun k i hk => zcp_other hk 4
          have z := y.addSi (S2 := (zu1 (zu1 S.1 2 0) 31 (S.1 31 + 1), zu2 (zu2 (zu2 (zcp S.2 (S.1 31).toNat 4) 33 (S.1 31).toNat a) 34 (S.1 31).toNat (S.1 1)) 35 (S.1 31).toNat c)) (n2 := n + 1) (Nat.le_succ n) (Tn2 := Tn.take (zfp S Tn (1440 * S.1 1 + c) Ts.length) ++ Ss.length :: Tn.drop (zfp S Tn (1440 * S.1 1 + c) Ts.length)) st (fun k i hk => (zu2_ne (fun q => hk (by omega))).trans ((zu2_ne (fun q => hk (by omega))).trans ((zu2_ne (fun q => hk (by omega))).trans (zc k i (fun q => hk (by omega)))))) (fun k hk => ((zu1_ne (fun q => hk (by omega))).trans (zu1_ne (fun q => hk (by omega))))) (((hb3.fr (st4.fr (r := 2) (by show ¬ _ = _; decide))).fr (st5.fr (r := 2) (by show ¬ _ = _; decide))).cg rfl (fun i => (zc 3 i (by decide)))) hL5 (show zu1 (zu1 S.1 2 0) 31 (S.1 31 + 1) 31 = S.1 31 + 1 from zu1_at) hT5 (y.ok.ins (fun s hs => by unfold zmin; simp [zu2, hN, Nat.ne_of_lt hs, zcp_other]) (by unfold zmin; simp [zu2, hN]) rfl) (fun k i hi h32 => (zu2_ne (fun q => by omega)).trans ((zu2_ne (fun q => by omega)).trans ((zu2_ne (fun q => by omega)).trans (zc k i h32)))) (fun u i hu hi => by rw [hN]; exact zcp_off hu hi) (siN.fr (st5.fr (r := rg 6 Ss.length) (by show ¬ _ = _; unfold rg; omega)))
          have k := k0 (by omega) hpl (by omega) _ _ z.ex (st.mono (fun q hq => by rcases hq with hq | hq | hq | hq <;> (show _ ≠ 0; rw [hq]; first | decide | (unfold rg; omega))))
          rw [show (((Ss ++ [sa]).length : Nat) : Int) - 1 = S.1 31 by simp; omega]
          exact k
        · refine r_throw hg zt_ISE rfl (by decide) (Nat.le_of_ble_eq_true rfl) (Nat.le_of_ble_eq_true rfl) (Nat.le_of_ble_eq_true rfl) (pc3 := 55) (pc4 := 56) (pc7 := 59) rfl rfl rfl (dd_X11_sight 24 _ _ _ rfl) (dd_X11_sight 25 _ _ _ rfl) (dd_X11_sight 26 _ _ _ rfl) (dd_X11_sight 27 _ _ _ rfl) ?_
          exact k2 (by omega) (by first | exact Or.inl hpl | exact Or.inr (by omega))
      · rw [zpl_sight] at hpl
        dsimp only [zCont, Option.toList, List.cons_append, List.nil_append]
        refine r_ifeq (by omega) 40 rfl 52 rfl (dd_X11_sight 18 _ _ _ rfl) (fun _ => ?_) (fun q => absurd q (by decide))
        refine r_throw hg zt_ISE rfl (by decide) (Nat.le_of_ble_eq_true rfl) (Nat.le_of_ble_eq_true rfl) (Nat.le_of_ble_eq_true rfl) (pc3 := 55) (pc4 := 56) (pc7 := 59) rfl rfl rfl (dd_X11_sight 24 _ _ _ rfl) (dd_X11_sight 25 _ _ _ rfl) (dd_X11_sight 26 _ _ _ rfl) (dd_X11_sight 27 _ _ _ rfl) ?_
        exact k2 (by omega) (by first | exact Or.inl hpl | exact Or.inr (by omega))
    · dsimp only [zCont, Option.toList, List.cons_append, List.nil_append]
      refine r_ifne (by omega) 21 rfl 29 rfl (dd_X11_sight 9 _ _ _ rfl) (fun q => absurd q (by decide)) (fun _ => ?_)
      refine r_throw hg zt_IAE rfl (by decide) (Nat.le_of_ble_eq_true rfl) (Nat.le_of_ble_eq_true rfl) (Nat.le_of_ble_eq_true rfl) (pc3 := 24) (pc4 := 25) (pc7 := 28) rfl rfl rfl (dd_X11_sight 10 _ _ _ rfl) (dd_X11_sight 11 _ _ _ rfl) (dd_X11_sight 12 _ _ _ rfl) (dd_X11_sight 13 _ _ _ rfl) ?_
      exact kE (by omega)
  · dsimp only [zCont, Option.toList, List.cons_append, List.nil_append]
    refine r_ifeq (by omega) 10 rfl 21 rfl (dd_X11_sight 4 _ _ _ rfl) (fun _ => ?_) (fun q => absurd q (by decide))
    refine r_throw hg zt_IAE rfl (by decide) (Nat.le_of_ble_eq_true rfl) (Nat.le_of_ble_eq_true rfl) (Nat.le_of_ble_eq_true rfl) (pc3 := 24) (pc4 := 25) (pc7 := 28) rfl rfl rfl (dd_X11_sight 10 _ _ _ rfl) (dd_X11_sight 11 _ _ _ rfl) (dd_X11_sight 12 _ _ _ rfl) (dd_X11_sight 13 _ _ _ rfl) ?_
    exact kE (by omega)
