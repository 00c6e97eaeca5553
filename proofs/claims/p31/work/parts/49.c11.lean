theorem zsb_mono {S : zS} {s : Nat} {j : Nat} : ∀ k, j ≤ k → (zsb S s j).2 ≤ (zsb S s k).2
  | 0, h => by rw [show j = 0 by omega]; exact Int.le_refl _
  | k + 1, h => by
    by_cases hq : j = k + 1
    · rw [hq]; exact Int.le_refl _
    · have := zsb_mono (S := S) (s := s) (j := j) k (by omega)
      by_cases hz : zagr S.2 s (zplate S k (S.2 34 s))
      · rw [zsb_yes hz]; show _ ≤ (zsb S s k).2 + 1; omega
      · rw [zsb_no hz]; exact this
theorem zseen_two {S : zS} {s j : Nat} (h : 2 ≤ (zsb S s j).2) (hj : (j : Int) ≤ S.1 4) : zseen S s = -1 := by
  have := zsb_mono (S := S) (s := s) (j := j) (S.1 4).toNat (by omega)
  unfold zseen
  rw [if_neg (by omega)]
/-- clones, told along the sightings by time -/
def zfold (S : zS) (v : Int) : List Nat → Option Nat → Int
  | [], _ => 0
  | s :: L, e => if zseen S s = v then (match e with | some t => if zmin S s - zmin S t < 10 * zfar S s t then 1 else 0 | none => 0) + zfold S v L (some s) else zfold S v L e
def zfirst (S : zS) (v : Int) : List Nat → Option Nat
  | [] => none
  | s :: L => if zseen S s = v then some s else zfirst S v L
def zct (S : zS) (e : Option Nat) (t : Nat) : Int := match e with | some s => if zmin S s - zmin S t < 10 * zfar S s t then 1 else 0 | none => 0
theorem zfold_some {S : zS} {v : Int} {t : Nat} : ∀ L, zfold S v L (some t) = zct S (zfirst S v L) t + zfold S v L none
  | [] => by simp [zfold, zfirst, zct]
  | s :: L => by
    unfold zfold zfirst
    by_cases h : zseen S s = v
    · rw [if_pos h, if_pos h, if_pos h]; simp [zct]
    · rw [if_neg h, if_neg h, if_neg h]; exact zfold_some L
theorem znx_char (S : zS) (v : Int) (s : Nat) : ∀ m, (znx S v s m = -1 ∧ ∀ o, o < m → zseen S o = v → ¬ zbeh S o s) ∨ ∃ t : Nat, t < m ∧ znx S v s m = t ∧ zseen S t = v ∧ zbeh S t s ∧ ∀ o, o < m → zseen S o = v → zbeh S o s → o = t ∨ zbeh S o t
  | 0 => Or.inl ⟨rfl, fun o h => absurd h (by omega)⟩
  | m + 1 => by
    rcases znx_char S v s m with ⟨h1, h2⟩ | ⟨t, h1, h2, h3, h4, h5⟩
    · by_cases hc : zseen S m = v ∧ zbeh S m s
      · refine Or.inr ⟨m, by omega, znx_yes ⟨hc, Or.inl h1⟩, hc.1, hc.2, fun o ho hv hb => ?_⟩
        by_cases hq : o = m
        · exact Or.inl hq
        · exact absurd hb (h2 o (by omega) hv)
      · refine Or.inl ⟨(znx_no (fun q => hc q.1)).trans h1, fun o ho hv hb => ?_⟩
        by_cases hq : o = m
        · subst hq; exact hc ⟨hv, hb⟩
        · exact h2 o (by omega) hv hb
    · by_cases hc : (zseen S m = v ∧ zbeh S m s) ∧ zbeh S t m
      · refine Or.inr ⟨m, by omega, znx_yes ⟨hc.1, Or.inr (by rw [h2]; exact hc.2)⟩, hc.1.1, hc.1.2, fun o ho hv hb => ?_⟩
        by_cases hq : o = m
        · exact Or.inl hq
        · refine Or.inr ?_
          have hc2 := hc.2
          rcases h5 o (by omega) hv hb with q | q
          · subst q; exact hc2
          · unfold zbeh at *; omega
      · refine Or.inr ⟨t, by omega, (znx_no (fun q => hc ⟨q.1, by rcases q.2 with q2 | q2; (rw [h2] at q2; omega); (rw [h2] at q2; exact q2)⟩)).trans h2, h3, h4, fun o ho hv hb => ?_⟩
        by_cases hq : o = m
        · subst hq
          by_cases ht : o = t
          · exact Or.inl ht
          · refine Or.inr ?_
            have : ¬ zbeh S t o := fun q => hc ⟨⟨hv, hb⟩, q⟩
            unfold zbeh at *
            omega
        · exact h5 o (by omega) hv hb
theorem zfirst_char (S : zS) (v : Int) : ∀ L : List Nat, (zfirst S v L = none ∧ ∀ o, o ∈ L → zseen S o ≠ v) ∨ ∃ A t B, L = A ++ t :: B ∧ zfirst S v L = some t ∧ zseen S t = v ∧ ∀ o, o ∈ A → zseen S o ≠ v
  | [] => Or.inl ⟨rfl, fun o h => by simp at h⟩
  | s :: L => by
    unfold zfirst
    by_cases h : zseen S s = v
    · rw [if_pos h]; exact Or.inr ⟨[], s, L, rfl, rfl, h, fun o ho => by simp at ho⟩
    · rw [if_neg h]
      rcases zfirst_char S v L with ⟨q1, q2⟩ | ⟨A, t, B, q1, q2, q3, q4⟩
      · exact Or.inl ⟨q1, fun o ho => by rcases List.mem_cons.mp ho with rfl | q; exact h; exact q2 o q⟩
      · exact Or.inr ⟨s :: A, t, B, by rw [q1]; rfl, q2, q3, fun o ho => by rcases List.mem_cons.mp ho with rfl | q; exact h; exact q4 o q⟩
/-- what the reference tells of s, by what stands behind s in time -/
theorem zcl1_eq {S : zS} {v : Int} {s m : Nat} {L : List Nat} (hm : (S.1 31).toNat = m) (hs : zseen S s = v) (hb : ∀ o, o ∈ L → o < m ∧ zbeh S o s) (ha : ∀ o, o < m → zbeh S o s → o ∈ L) (hp : L.Pairwise (fun a b => zbeh S b a)) : zcl1 S v s = zct S (zfirst S v L) s := by
  unfold zcl1
  rw [hm]
  rcases znx_char S v s m with ⟨h1, h2⟩ | ⟨t, h1, h2, h3, h4, h5⟩
  · rw [h1, if_neg (by omega)]
    rcases zfirst_char S v L with ⟨q1, -⟩ | ⟨A, t, B, q1, q2, q3, -⟩
    · rw [q1]; rfl
    · have ht := hb t (by rw [q1]; simp)
      exact absurd ht.2 (h2 t ht.1 q3)
  · have htL := ha t h1 h4
    rcases zfirst_char S v L with ⟨-, q2⟩ | ⟨A, u, B, q1, q2, q3, q4⟩
    · exact absurd h3 (q2 t htL)
    · have hu := hb u (by rw [q1]; simp)
      have hut : u = t := by
        rcases h5 u hu.1 q3 hu.2 with q | q
        · exact q
        · rw [q1] at htL
          rcases List.mem_append.mp htL with r | r
          · exact absurd h3 (q4 t r)
          · rcases List.mem_cons.mp r with r | r
            · exact r.symm
            · rw [q1, List.pairwise_append] at hp
              have := (List.pairwise_cons.mp hp.2.1).1 t r
              unfold zbeh at *
              omega
      subst hut
      rw [q2, h2]
      show _ = if zmin S u - zmin S s < 10 * zfar S u s then (1 : Int) else 0
      have e9 : ((u : Int)).toNat = u := by omega
      rw [e9]
      by_cases hc : zmin S u - zmin S s < 10 * zfar S u s
      · rw [if_pos hc, if_pos ⟨hs, by omega, hc⟩]
      · rw [if_neg hc, if_neg (fun q => hc q.2.2)]
def zlsum (f : Nat → Int) : List Nat → Int
  | [] => 0
  | s :: L => f s + zlsum f L
theorem zlsum_app {f : Nat → Int} : ∀ A B, zlsum f (A ++ B) = zlsum f A + zlsum f B
  | [], B => by simp [zlsum]
  | a :: A, B => by show f a + zlsum f (A ++ B) = f a + zlsum f A + zlsum f B; rw [zlsum_app A B]; omega
theorem zfold_sum {S : zS} {v : Int} {m : Nat} (hm : (S.1 31).toNat = m) : ∀ (D L : List Nat), (∀ o, o ∈ L → o < m) → (∀ o, o < m → o ∈ D ++ L) → (D ++ L).Pairwise (fun a b => zbeh S b a) → zfold S v L none = zlsum (zcl1 S v) L
  | _, [], _, _, _ => rfl
  | D, s :: L, h1, h2, h3 => by
    have ih := zfold_sum (v := v) hm (D ++ [s]) L (fun o ho => h1 o (List.mem_cons_of_mem _ ho)) (fun o ho => by have := h2 o ho; simpa using this) (by simpa using h3)
    unfold zfold
    show _ = zcl1 S v s + zlsum (zcl1 S v) L
    by_cases hs : zseen S s = v
    · rw [if_pos hs, zfold_some, ← ih]
      rw [List.pairwise_append] at h3
      have h4 := List.pairwise_cons.mp h3.2.1
      rw [zcl1_eq (L := L) hm hs (fun o ho => ⟨h1 o (List.mem_cons_of_mem _ ho), h4.1 o ho⟩) (fun o ho hb => ?_) h4.2]
      · dsimp only; omega
      · rcases List.mem_append.mp (h2 o ho) with q | q
        · have := h3.2.2 o q s (by simp)
          unfold zbeh at *
          omega
        · rcases List.mem_cons.mp q with rfl | q
          · unfold zbeh at hb; omega
          · exact q
    · rw [if_neg hs, ih]
      have : zcl1 S v s = 0 := by unfold zcl1; rw [if_neg (fun q => hs q.1)]
      omega
theorem zlsum_all {f : Nat → Int} {F : Nat → Int} (hF0 : F 0 = 0) (hF : ∀ k, F (k + 1) = F k + f k) : ∀ (m : Nat) (L : List Nat), L.Nodup → (∀ o, o ∈ L → o < m) → (∀ o, o < m → o ∈ L) → zlsum f L = F m
  | 0, L, _, h1, _ => by
    cases L with
    | nil => rw [hF0]; rfl
    | cons a L => exact absurd (h1 a (by simp)) (by omega)
  | m + 1, L, hn, h1, h2 => by
    obtain ⟨A, B, rfl⟩ := List.append_of_mem (h2 m (by omega))
    have hsub : (A ++ B).Sublist (A ++ m :: B) := (List.sublist_cons_self m B).append_left A
    have hn2 := hn
    rw [List.nodup_append] at hn2
    have hmA : m ∉ A := fun q => hn2.2.2 m q m (by simp) rfl
    have hmB : m ∉ B := (List.nodup_cons.mp hn2.2.1).1
    have ih := zlsum_all hF0 hF m (A ++ B) (hn.sublist hsub) (fun o ho => by
      have h3 := h1 o (hsub.subset ho)
      have : o ≠ m := fun q => by
        subst q
        rcases List.mem_append.mp ho with r | r
        · exact hmA r
        · exact hmB r
      omega) (fun o ho => by
      have := h2 o (by omega)
      rcases List.mem_append.mp this with r | r
      · exact List.mem_append.mpr (Or.inl r)
      · rcases List.mem_cons.mp r with r | r
        · omega
        · exact List.mem_append.mpr (Or.inr r))
    rw [zlsum_app] at ih ⊢
    show zlsum f A + (f m + zlsum f B) = _
    rw [hF m]
    omega
theorem TsOK.pair {S : zS} {Ss Ts Tn : List Nat} (x : TsOK S Ss Ts Tn) : Tn.Pairwise (fun a b => zbeh S b a) := by
  rw [List.pairwise_iff_getElem]
  intro i j hi hj hij
  exact x.2.2.2.1 i j _ _ hij (List.getElem?_eq_getElem hi) (List.getElem?_eq_getElem hj)
theorem TsOK.clones {S : zS} {Ss Ts Tn : List Nat} {v : Int} (x : TsOK S Ss Ts Tn) (hs : (Ss.length : Int) = S.1 31) : zfold S v Tn none = zclones S v (S.1 31).toNat := by
  have hp := x.pair
  have h1 : ∀ o, o ∈ Tn → o < Ss.length := fun o ho => by
    obtain ⟨i, hi⟩ := List.getElem?_of_mem ho
    exact (x.2.2.1 i o hi).1
  have h2 : ∀ o, o < Ss.length → o ∈ Tn := fun o ho => by
    obtain ⟨i, hi⟩ := x.2.2.2.2 o ho
    exact List.mem_of_getElem? hi
  rw [zfold_sum (m := Ss.length) (by omega) [] Tn h1 (fun o ho => h2 o ho) hp]
  rw [show (S.1 31).toNat = Ss.length by omega]
  refine zlsum_all (F := zclones S v) rfl (fun k => rfl) Ss.length Tn ?_ h1 h2
  exact hp.imp fun {a b} hab q => by subst q; unfold zbeh at hab; omega
abbrev mX11_vehicleSeen : zM := (RX11, cX11_vehicleSeen, 5, (Option.some Jvm.ClassFile.FieldType.int), [], "vehicleSeen", 15)
set_option maxRecDepth 20000 in
theorem c_X11_vehicleSeen {g : zGT} {Q : zO → zH → Prop} {h : zH} (hg : zG g) {o : Nat → Nat} {x : Nat} {S : zS} {n : Nat} {Vs Ps Ss Ts Fs Tn : List Nat} {A : Nat → Nat} {G : Nat → Nat → Nat} {Rc : Nat → Nat} (hI : MInv n S) (y : CRep g o h x S n Vs Ps Ss Ts Fs Tn A G Rc) {s sa : Nat} (hS : Ss[s]? = some sa) (k : Q (.inl (some (.int (zI (zseen S s))))) h) : zC g (.code yX11_vehicleSeen cX11_vehicleSeen 5 (Option.some Jvm.ClassFile.FieldType.int)) yX11_vehicleSeen 15 0 0 [.ref x, .ref sa] h Q := by
  refine zC_of (M := mX11_vehicleSeen) (lv := [some (.ref x), some (.ref sa), none, none, none]) (by decide) rfl rfl (Nat.le_of_ble_eq_true rfl) rfl rfl ?_
  have e1 := hI.vehicles
  have e2 := hI.today
  have e3 := hI.people
  have e4 := hI.sightings
  have e5 := hI.fines
  have e6 := hI.calls
  have nv := y.nv
  have np := y.np
  have ns := y.ns
  have nf := y.nf
  have hsL := (List.getElem?_eq_some_iff.mp hS).1
  obtain ⟨sg, w1, w2, w3, w4, w5, w6, w7, w8, w9, w10⟩ := y.si s sa hS
  have hsd := hI.sightDay s
  refine r_iconst 1 rfl (dd_X11_vehicleSeen 0 _ _ _ rfl) ?_
  refine r_istore_2 2 rfl (by decide) rfl (dd_X11_vehicleSeen 1 _ _ _ rfl) ?_
  refine r_iconst 3 rfl (dd_X11_vehicleSeen 2 _ _ _ rfl) ?_
  refine r_istore_3 4 rfl (by decide) rfl (dd_X11_vehicleSeen 3 _ _ _ rfl) ?_
  have L4 : ∀ (tt : Nat), ∀ (j : Nat) (b f : Int), 100 - j < tt → (j ≤ Vs.length) → (b = j) → (f = -1 ∧ (zsb S s j).2 = 0 ∨ 0 ≤ f ∧ zsb S s j = (f, 1)) → (-1 ≤ f ∧ f < 12) → zX g mX11_vehicleSeen 0 0 Q 4 [some (.ref x), some (.ref sa), some (.int (zI f)), some (.int (zI b)), none] [] h 0 0 := by
    intro tt4
    induction tt4 with
    | zero => intros; exfalso; omega
    | succ tt4 ih4 =>
      intro j b f hlt4 hj hb hf hf2
      subst hb
      refine r_iload_3 5 rfl (dd_X11_vehicleSeen 4 _ _ _ rfl) ?_
      refine r_aload_0 6 rfl (dd_X11_vehicleSeen 5 _ _ _ rfl) ?_
      refine r_getr hg zc_X11 3 (by decide) (fun _ _ _ => rfl) y.mn.2.2.2.2.2.2.1 y.mn.1 (Or.inl rfl) (tb_1 124 _ rfl) 9 rfl (dd_X11_vehicleSeen 6 _ _ _ rfl) ?_
      refine r_callV0 (lvl := 10) (mc1 := 0) (ms1 := 0) 0 0 hg rfl md_Jx4a65c_size_8abf5 zc_Jx4a65c y.lv.1 wi_Jx4a65c_size_8abf5 wv_Jx4a65c_size_8abf5 (tb_2 8 _ rfl) (by decide) (by decide) rfl (Nat.le_of_ble_eq_true rfl) (Nat.le_of_ble_eq_true rfl) (Nat.le_of_ble_eq_true rfl) 12 rfl (dd_X11_vehicleSeen 7 _ _ _ rfl) ?_
      refine c_Jx4a65c_size_8abf5 hg y.lv ?_
      dsimp only [zCont, Option.toList, List.cons_append, List.nil_append]
      refine r_if_icmpge (by omega) (by omega) 15 rfl 69 rfl (dd_X11_vehicleSeen 8 _ _ _ rfl) (fun hc1 => ?_) (fun hc1 => ?_)
      · refine r_iload_2 70 rfl (dd_X11_vehicleSeen 36 _ _ _ rfl) ?_
        refine r_ireturn rfl rfl (dd_X11_vehicleSeen 37 _ _ _ rfl) ?_
        have hz : zseen S s = f := by unfold zseen; rw [show (S.1 4).toNat = j by omega]; rcases hf with q | q; (rw [if_neg (by omega)]; omega); (rw [q.2]; exact if_pos rfl)
        rw [hz] at k
        exact k
      · obtain ⟨va, hV⟩ : ∃ a, Vs[j]? = some a := ⟨Vs[j], List.getElem?_eq_getElem (by omega)⟩
        obtain ⟨R, hR, hRp, hRt⟩ := y.pl j (by omega)
        have hpr := zplate_range (S := S) (v := (j : Int)) (w := S.2 34 s) hI
        refine r_aload_0 16 rfl (dd_X11_vehicleSeen 9 _ _ _ rfl) ?_
        refine r_getr hg zc_X11 3 (by decide) (fun _ _ _ => rfl) y.mn.2.2.2.2.2.2.1 y.mn.1 (Or.inl rfl) (tb_1 124 _ rfl) 19 rfl (dd_X11_vehicleSeen 10 _ _ _ rfl) ?_
        refine r_iload_3 20 rfl (dd_X11_vehicleSeen 11 _ _ _ rfl) ?_
        refine r_callV1 (lvl := 12) (mc1 := 0) (ms1 := 0) 0 0 hg rfl md_Jx4a65c_get_915e3 zc_Jx4a65c y.lv.1 wi_Jx4a65c_get_915e3 wv_Jx4a65c_get_915e3 (tb_2 12 _ rfl) (by decide) (by decide) rfl (Nat.le_of_ble_eq_true rfl) (Nat.le_of_ble_eq_true rfl) (Nat.le_of_ble_eq_true rfl) 23 rfl (dd_X11_vehicleSeen 12 _ _ _ rfl) ?_
        refine c_Jx4a65c_get_915e3 hg y.lv (i := j) (y := va) hV ?_
        dsimp only [zCont, Option.toList, List.cons_append, List.nil_append]
        refine r_checkcastS hg zc_X10 (y.vo j va hV).1 (tb_2 26 _ rfl) 26 rfl (dd_X11_vehicleSeen 13 _ _ _ rfl) ?_
        refine r_getr hg zc_X10 4 (by decide) (fun _ _ _ => rfl) (y.vo j va hV).2.2.2.2.2.2.1 (y.vo j va hV).1 (Or.inl rfl) (tb_2 127 _ rfl) 29 rfl (dd_X11_vehicleSeen 14 _ _ _ rfl) ?_
        refine r_aload_1 30 rfl (dd_X11_vehicleSeen 15 _ _ _ rfl) ?_
        refine r_geti hg zc_X7 2 (by decide) (fun _ _ _ => rfl) w5 w1 (Or.inl rfl) (tb_5 122 _ rfl) 33 rfl (dd_X11_vehicleSeen 16 _ _ _ rfl) ?_
        refine r_iconst 34 rfl (dd_X11_vehicleSeen 17 _ _ _ rfl) ?_
        refine r_callV2 (lvl := 11) (mc1 := 0) (ms1 := 0) 0 0 hg rfl md_X1_valueOn zc_X1 hR.own.1 wi_X1_valueOn wv_X1_valueOn (tb_4 229 _ rfl) (by decide) (by decide) rfl (Nat.le_of_ble_eq_true rfl) (Nat.le_of_ble_eq_true rfl) (Nat.le_of_ble_eq_true rfl) 37 rfl (dd_X11_vehicleSeen 18 _ _ _ rfl) ?_
        refine c_X1_valueOnS hg hR (by omega) (by omega) ?_
        rw [hRp]
        dsimp only [zCont, Option.toList, List.cons_append, List.nil_append]
        refine r_istore_4 39 rfl (by decide) rfl (dd_X11_vehicleSeen 19 _ _ _ rfl) ?_
        refine r_iload_4 41 rfl (dd_X11_vehicleSeen 20 _ _ _ rfl) ?_
        refine r_iconst 42 rfl (dd_X11_vehicleSeen 21 _ _ _ rfl) ?_
        refine r_if_icmpeq (by omega) (by omega) 45 rfl 63 rfl (dd_X11_vehicleSeen 22 _ _ _ rfl) (fun hc2 => ?_) (fun hc2 => ?_)
        · refine r_iinc_3 66 rfl (by decide) rfl (dd_X11_vehicleSeen 34 _ _ _ rfl) ?_
          refine r_goto 4 rfl (dd_X11_vehicleSeen 35 _ _ _ rfl) ?_
          exact r_sub _ (z_s1 (z_s1 (z_s1 (z_s1 (z_s0 z_sN))))) (ih4 (j + 1) _ _ (by omega) (by omega) (by omega) (by first | (right; rw [zsb_yes hag]; refine ⟨by omega, Prod.ext rfl ?_⟩; show _ + 1 = (1 : Int); omega) | (rw [zsb_no hag]; exact hf) | (rw [zsb_no (fun q => q.1 (by assumption))]; exact hf)) (by omega))
        · refine r_aload_1 46 rfl (dd_X11_vehicleSeen 23 _ _ _ rfl) ?_
          refine r_iload_4 48 rfl (dd_X11_vehicleSeen 24 _ _ _ rfl) ?_
          refine r_callV1 (lvl := 11) (mc1 := 0) (ms1 := 0) 0 0 hg rfl md_X7_agreesWith zc_X7 w1 wi_X7_agreesWith wv_X7_agreesWith (tb_5 92 _ rfl) (by decide) (by decide) rfl (Nat.le_of_ble_eq_true rfl) (Nat.le_of_ble_eq_true rfl) (Nat.le_of_ble_eq_true rfl) 51 rfl (dd_X11_vehicleSeen 25 _ _ _ rfl) ?_
          refine c_X7_agreesWith hg hI (y.si s sa hS) (by omega) (fun hag => ?_) (fun hag => ?_)
          · dsimp only [zCont, Option.toList, List.cons_append, List.nil_append]
            refine r_ifeq (by omega) 54 rfl 63 rfl (dd_X11_vehicleSeen 26 _ _ _ rfl) (fun q => absurd q (by decide)) (fun _ => ?_)
            refine r_iload_2 55 rfl (dd_X11_vehicleSeen 27 _ _ _ rfl) ?_
            refine r_iconst 56 rfl (dd_X11_vehicleSeen 28 _ _ _ rfl) ?_
            refine r_if_icmpeq (by omega) (by omega) 59 rfl 61 rfl (dd_X11_vehicleSeen 29 _ _ _ rfl) (fun hc3 => ?_) (fun hc3 => ?_)
            · refine r_iload_3 62 rfl (dd_X11_vehicleSeen 32 _ _ _ rfl) ?_
              refine r_istore_2 63 rfl (by decide) rfl (dd_X11_vehicleSeen 33 _ _ _ rfl) ?_
              refine r_iinc_3 66 rfl (by decide) rfl (dd_X11_vehicleSeen 34 _ _ _ rfl) ?_
              refine r_goto 4 rfl (dd_X11_vehicleSeen 35 _ _ _ rfl) ?_
              exact r_sub _ (z_s1 (z_s1 (z_s1 (z_s1 (z_s0 z_sN))))) (ih4 (j + 1) _ _ (by omega) (by omega) (by omega) (by first | (right; rw [zsb_yes hag]; refine ⟨by omega, Prod.ext rfl ?_⟩; show _ + 1 = (1 : Int); omega) | (rw [zsb_no hag]; exact hf) | (rw [zsb_no (fun q => q.1 (by assumption))]; exact hf)) (by omega))
            · refine r_iconst 60 rfl (dd_X11_vehicleSeen 30 _ _ _ rfl) ?_
              refine r_ireturn rfl rfl (dd_X11_vehicleSeen 31 _ _ _ rfl) ?_
              have hz : zseen S s = -1 := zseen_two (j := j + 1) (by rw [zsb_yes hag]; rcases hf with q | q; omega; (rw [q.2]; show (2 : Int) ≤ 1 + 1; omega)) (by omega)
              rw [hz] at k
              exact k
          · dsimp only [zCont, Option.toList, List.cons_append, List.nil_append]
            refine r_ifeq (by omega) 54 rfl 63 rfl (dd_X11_vehicleSeen 26 _ _ _ rfl) (fun _ => ?_) (fun q => absurd q (by decide))
            refine r_iinc_3 66 rfl (by decide) rfl (dd_X11_vehicleSeen 34 _ _ _ rfl) ?_
            refine r_goto 4 rfl (dd_X11_vehicleSeen 35 _ _ _ rfl) ?_
            exact r_sub _ (z_s1 (z_s1 (z_s1 (z_s1 (z_s0 z_sN))))) (ih4 (j + 1) _ _ (by omega) (by omega) (by omega) (by first | (right; rw [zsb_yes hag]; refine ⟨by omega, Prod.ext rfl ?_⟩; show _ + 1 = (1 : Int); omega) | (rw [zsb_no hag]; exact hf) | (rw [zsb_no (fun q => q.1 (by assumption))]; exact hf)) (by omega))
  exact r_sub _ (z_s1 (z_s1 (z_s1 (z_s1 (z_s0 z_sN))))) (L4 1000000 0 _ _ (by omega) (by omega) rfl (Or.inl ⟨rfl, rfl⟩) (by omega))

abbrev mX11_seen : zM := (RX11, cX11_seen, 2, (Option.some Jvm.ClassFile.FieldType.int), [], "seen", 16)
set_option maxRecDepth 20000 in
theorem c_X11_seen {g : zGT} {Q : zO → zH → Prop} {h : zH} (hg : zG g) {o : Nat → Nat} {x : Nat} {S : zS} {n : Nat} {Vs Ps Ss Ts Fs Tn : List Nat} {A : Nat → Nat} {G : Nat → Nat → Nat} {Rc : Nat → Nat} (hI : MInv n S) (y : CRep g o h x S n Vs Ps Ss Ts Fs Tn A G Rc) {v : Int} (hv : zR v) (kE : ¬ (0 ≤ v ∧ v < S.1 31) → Q (.inr "java/lang/IndexOutOfBoundsException") h) (k : ∀ s : Nat, v = s → v < S.1 31 → Q (.inl (some (.int (zI (zseen S s))))) h) : zC g (.code yX11_seen cX11_seen 2 (Option.some Jvm.ClassFile.FieldType.int)) yX11_seen 16 4 40 [.ref x, .int (zI v)] h Q := by
  refine zC_of (M := mX11_seen) (lv := [some (.ref x), some (.int (zI v))]) (by decide) rfl rfl (Nat.le_of_ble_eq_true rfl) rfl rfl ?_
  have e1 := hI.vehicles
  have e2 := hI.today
  have e3 := hI.people
  have e4 := hI.sightings
  have e5 := hI.fines
  have e6 := hI.calls
  have nv := y.nv
  have np := y.np
  have ns := y.ns
  have nf := y.nf
  refine r_aload_0 1 rfl (dd_X11_seen 0 _ _ _ rfl) ?_
  refine r_aload_0 2 rfl (dd_X11_seen 1 _ _ _ rfl) ?_
  refine r_iload_1 3 rfl (dd_X11_seen 2 _ _ _ rfl) ?_
  refine r_callV1 (lvl := 13) (mc1 := 1) (ms1 := 6) 3 34 hg rfl md_X11_sightingAt zc_X11 y.mn.1 wi_X11_sightingAt wv_X11_sightingAt (tb_5 150 _ rfl) (by decide) (by decide) rfl (Nat.le_of_ble_eq_true rfl) (Nat.le_of_ble_eq_true rfl) (Nat.le_of_ble_eq_true rfl) 6 rfl (dd_X11_seen 3 _ _ _ rfl) ?_
  refine c_X11_sightingAt hg hI y (by omega) (fun hE => ?_) (fun s sa hs hS hs4 => ?_)
  · dsimp only [zCont]
    exact kE hE
  · dsimp only [zCont, Option.toList, List.cons_append, List.nil_append]
    refine r_callV1 (lvl := 15) (mc1 := 0) (ms1 := 0) 3 34 hg rfl md_X11_vehicleSeen zc_X11 y.mn.1 wi_X11_vehicleSeen wv_X11_vehicleSeen (tb_5 88 _ rfl) (by decide) (by decide) rfl (Nat.le_of_ble_eq_true rfl) (Nat.le_of_ble_eq_true rfl) (Nat.le_of_ble_eq_true rfl) 9 rfl (dd_X11_seen 4 _ _ _ rfl) ?_
    refine c_X11_vehicleSeen hg hI y hS ?_
    dsimp only [zCont, Option.toList, List.cons_append, List.nil_append]
    have hzn := zseen_range (s := s) hI
    refine r_ireturn rfl rfl (dd_X11_seen 5 _ _ _ rfl) ?_
    exact k s hs (by omega)

abbrev mX11_payerOf : zM := (RX11, cX11_payerOf, 3, (Option.some Jvm.ClassFile.FieldType.int), [], "payerOf", 16)
set_option maxRecDepth 20000 in
theorem c_X11_payerOf {g : zGT} {Q : zO → zH → Prop} {h : zH} (hg : zG g) {o : Nat → Nat} {x : Nat} {S : zS} {n : Nat} {Vs Ps Ss Ts Fs Tn : List Nat} {A : Nat → Nat} {G : Nat → Nat → Nat} {Rc : Nat → Nat} (hI : MInv n S) (y : CRep g o h x S n Vs Ps Ss Ts Fs Tn A G Rc) {f fa : Nat} (hF : Fs[f]? = some fa) (k : Q (.inl (some (.int (zI (zwhose S f))))) h) : zC g (.code yX11_payerOf cX11_payerOf 3 (Option.some Jvm.ClassFile.FieldType.int)) yX11_payerOf 16 0 0 [.ref x, .ref fa] h Q := by
  refine zC_of (M := mX11_payerOf) (lv := [some (.ref x), some (.ref fa), none]) (by decide) rfl rfl (Nat.le_of_ble_eq_true rfl) rfl rfl ?_
  have e1 := hI.vehicles
  have e2 := hI.today
  have e3 := hI.people
  have e4 := hI.sightings
  have e5 := hI.fines
  have e6 := hI.calls
  have nv := y.nv
  have np := y.np
  have ns := y.ns
  have nf := y.nf
  obtain ⟨p1, p2, p3, p4, p5, p6, sa, p7, hSf⟩ := y.fi f fa hF
  obtain ⟨sg, w1, w2, w3, w4, w5, w6, w7, w8, w9, w10⟩ := y.si _ sa hSf
  have hnm := hI.names f
  have hsd := hI.sightDay (S.2 37 f).toNat
  refine r_aload_1 1 rfl (dd_X11_payerOf 0 _ _ _ rfl) ?_
  refine r_geti hg zc_X3 3 (by decide) (fun _ _ _ => rfl) p4 p1 (Or.inl rfl) (tb_5 174 _ rfl) 4 rfl (dd_X11_payerOf 1 _ _ _ rfl) ?_
  refine r_ifle (by omega) 7 rfl 12 rfl (dd_X11_payerOf 2 _ _ _ rfl) (fun hc1 => ?_) (fun hc1 => ?_)
  · refine r_aload_0 13 rfl (dd_X11_payerOf 6 _ _ _ rfl) ?_
    refine r_aload_1 14 rfl (dd_X11_payerOf 7 _ _ _ rfl) ?_
    refine r_getr hg zc_X3 0 (by decide) (fun _ _ _ => rfl) p7 p1 (Or.inl rfl) (tb_5 168 _ rfl) 17 rfl (dd_X11_payerOf 8 _ _ _ rfl) ?_
    refine r_callV1 (lvl := 15) (mc1 := 0) (ms1 := 0) 0 0 hg rfl md_X11_vehicleSeen zc_X11 y.mn.1 wi_X11_vehicleSeen wv_X11_vehicleSeen (tb_5 88 _ rfl) (by decide) (by decide) rfl (Nat.le_of_ble_eq_true rfl) (Nat.le_of_ble_eq_true rfl) (Nat.le_of_ble_eq_true rfl) 20 rfl (dd_X11_payerOf 9 _ _ _ rfl) ?_
    refine c_X11_vehicleSeen hg hI y hSf ?_
    dsimp only [zCont, Option.toList, List.cons_append, List.nil_append]
    have hzn := zseen_range (s := (S.2 37 f).toNat) hI
    refine r_istore_2 21 rfl (by decide) rfl (dd_X11_payerOf 10 _ _ _ rfl) ?_
    refine r_iload_2 22 rfl (dd_X11_payerOf 11 _ _ _ rfl) ?_
    refine r_iflt (by omega) 25 rfl 36 rfl (dd_X11_payerOf 12 _ _ _ rfl) (fun hc2 => ?_) (fun hc2 => ?_)
    · refine r_iconst 37 rfl (dd_X11_payerOf 18 _ _ _ rfl) ?_
      refine r_ireturn rfl rfl (dd_X11_payerOf 19 _ _ _ rfl) ?_
      have hz : zwhose S f = -1 := by unfold zwhose; rw [if_neg (by omega), if_pos (by omega)]
      rw [hz] at k
      exact k
    · refine r_iload_2 26 rfl (dd_X11_payerOf 13 _ _ _ rfl) ?_
      refine r_aload_0 27 rfl (dd_X11_payerOf 14 _ _ _ rfl) ?_
      refine r_getr hg zc_X11 3 (by decide) (fun _ _ _ => rfl) y.mn.2.2.2.2.2.2.1 y.mn.1 (Or.inl rfl) (tb_1 124 _ rfl) 30 rfl (dd_X11_payerOf 15 _ _ _ rfl) ?_
      refine r_callV0 (lvl := 10) (mc1 := 0) (ms1 := 0) 0 0 hg rfl md_Jx4a65c_size_8abf5 zc_Jx4a65c y.lv.1 wi_Jx4a65c_size_8abf5 wv_Jx4a65c_size_8abf5 (tb_2 8 _ rfl) (by decide) (by decide) rfl (Nat.le_of_ble_eq_true rfl) (Nat.le_of_ble_eq_true rfl) (Nat.le_of_ble_eq_true rfl) 33 rfl (dd_X11_payerOf 16 _ _ _ rfl) ?_
      refine c_Jx4a65c_size_8abf5 hg y.lv ?_
      dsimp only [zCont, Option.toList, List.cons_append, List.nil_append]
      refine r_if_icmplt (by omega) (by omega) 36 rfl 38 rfl (dd_X11_payerOf 17 _ _ _ rfl) (fun hc3 => ?_) (fun hc3 => ?_)
      · obtain ⟨u, hu⟩ := Int.eq_ofNat_of_zero_le (show 0 ≤ zseen S (S.2 37 f).toNat by omega)
        obtain ⟨va, hV⟩ : ∃ a, Vs[u]? = some a := ⟨Vs[u], List.getElem?_eq_getElem (by omega)⟩
        have hul : u < Vs.length := by omega
        have hu12 : u < 12 := by omega
        obtain ⟨⟨t, l, L, B, hp⟩, hsd⟩ := id (y.hi u hul)
        obtain ⟨hp1, hp2, hp3, hp4, hp5, hp6, hp7, hp8, hp9, hp10, hp11, hp12⟩ := id hp
        refine r_aload_0 39 rfl (dd_X11_payerOf 20 _ _ _ rfl) ?_
        refine r_getr hg zc_X11 3 (by decide) (fun _ _ _ => rfl) y.mn.2.2.2.2.2.2.1 y.mn.1 (Or.inl rfl) (tb_1 124 _ rfl) 42 rfl (dd_X11_payerOf 21 _ _ _ rfl) ?_
        refine r_iload_2 43 rfl (dd_X11_payerOf 22 _ _ _ rfl) ?_
        rw [hu]
        refine r_callV1 (lvl := 12) (mc1 := 0) (ms1 := 0) 0 0 hg rfl md_Jx4a65c_get_915e3 zc_Jx4a65c y.lv.1 wi_Jx4a65c_get_915e3 wv_Jx4a65c_get_915e3 (tb_2 12 _ rfl) (by decide) (by decide) rfl (Nat.le_of_ble_eq_true rfl) (Nat.le_of_ble_eq_true rfl) (Nat.le_of_ble_eq_true rfl) 46 rfl (dd_X11_payerOf 23 _ _ _ rfl) ?_
        refine c_Jx4a65c_get_915e3 hg y.lv (i := u) (y := va) hV ?_
        dsimp only [zCont, Option.toList, List.cons_append, List.nil_append]
        refine r_checkcastS hg zc_X10 (y.vo u va hV).1 (tb_2 26 _ rfl) 49 rfl (dd_X11_payerOf 24 _ _ _ rfl) ?_
        refine r_getr hg zc_X10 2 (by decide) (fun _ _ _ => rfl) (y.vo u va hV).2.2.2.2.1 (y.vo u va hV).1 (Or.inl rfl) (tb_2 123 _ rfl) 52 rfl (dd_X11_payerOf 25 _ _ _ rfl) ?_
        refine r_aload_1 53 rfl (dd_X11_payerOf 26 _ _ _ rfl) ?_
        refine r_getr hg zc_X3 0 (by decide) (fun _ _ _ => rfl) p7 p1 (Or.inl rfl) (tb_5 168 _ rfl) 56 rfl (dd_X11_payerOf 27 _ _ _ rfl) ?_
        refine r_geti hg zc_X7 2 (by decide) (fun _ _ _ => rfl) w5 w1 (Or.inl rfl) (tb_5 122 _ rfl) 59 rfl (dd_X11_payerOf 28 _ _ _ rfl) ?_
        refine r_callV1 (lvl := 13) (mc1 := 0) (ms1 := 0) 0 0 hg rfl md_X4_standingOn zc_X4 hp1 wi_X4_standingOn wv_X4_standingOn (tb_4 145 _ rfl) (by decide) (by decide) rfl (Nat.le_of_ble_eq_true rfl) (Nat.le_of_ble_eq_true rfl) (Nat.le_of_ble_eq_true rfl) 62 rfl (dd_X11_payerOf 29 _ _ _ rfl) ?_
        refine c_X4_standingOn hg hI hsd hp (by omega) (fun sb hsb => ?_)
        dsimp only [zCont, Option.toList, List.cons_append, List.nil_append]
        refine r_geti hg zc_X8 2 (by decide) (fun _ _ _ => rfl) hsb.2.2.2.2.1 hsb.1 (Or.inl rfl) (tb_2 67 _ rfl) 65 rfl (dd_X11_payerOf 30 _ _ _ rfl) ?_
        refine r_ireturn rfl rfl (dd_X11_payerOf 31 _ _ _ rfl) ?_
        have hz : zwhose S f = zlat S u 0 (-1) (zev S u (S.2 34 (S.2 37 f).toNat)) := by unfold zwhose; rw [if_neg (by omega), if_neg (by omega), hu]; rfl
        rw [hz] at k
        exact k
      · refine r_iconst 37 rfl (dd_X11_payerOf 18 _ _ _ rfl) ?_
        refine r_ireturn rfl rfl (dd_X11_payerOf 19 _ _ _ rfl) ?_
        have hz : zwhose S f = -1 := by unfold zwhose; rw [if_neg (by omega), if_pos (by omega)]
        rw [hz] at k
        exact k
  · refine r_aload_1 8 rfl (dd_X11_payerOf 3 _ _ _ rfl) ?_
    refine r_geti hg zc_X3 2 (by decide) (fun _ _ _ => rfl) (p6 (by omega)) p1 (Or.inl rfl) (tb_5 172 _ rfl) 11 rfl (dd_X11_payerOf 4 _ _ _ rfl) ?_
    refine r_ireturn rfl rfl (dd_X11_payerOf 5 _ _ _ rfl) ?_
    have hz : zwhose S f = S.2 41 f := if_pos (by omega)
    rw [hz] at k
    exact k

abbrev mX11_whose : zM := (RX11, cX11_whose, 2, (Option.some Jvm.ClassFile.FieldType.int), [], "whose", 17)
set_option maxRecDepth 20000 in
theorem c_X11_whose {g : zGT} {Q : zO → zH → Prop} {h : zH} (hg : zG g) {o : Nat → Nat} {x : Nat} {S : zS} {n : Nat} {Vs Ps Ss Ts Fs Tn : List Nat} {A : Nat → Nat} {G : Nat → Nat → Nat} {Rc : Nat → Nat} (hI : MInv n S) (y : CRep g o h x S n Vs Ps Ss Ts Fs Tn A G Rc) {v : Int} (hv : zR v) (kE : ¬ (0 ≤ v ∧ v < S.1 36) → Q (.inr "java/lang/IndexOutOfBoundsException") h) (k : ∀ f : Nat, v = f → v < S.1 36 → Q (.inl (some (.int (zI (zwhose S f))))) h) : zC g (.code yX11_whose cX11_whose 2 (Option.some Jvm.ClassFile.FieldType.int)) yX11_whose 17 4 40 [.ref x, .int (zI v)] h Q := by
  refine zC_of (M := mX11_whose) (lv := [some (.ref x), some (.int (zI v))]) (by decide) rfl rfl (Nat.le_of_ble_eq_true rfl) rfl rfl ?_
  have e1 := hI.vehicles
  have e2 := hI.today
  have e3 := hI.people
  have e4 := hI.sightings
  have e5 := hI.fines
  have e6 := hI.calls
  have nv := y.nv
  have np := y.np
  have ns := y.ns
  have nf := y.nf
  refine r_aload_0 1 rfl (dd_X11_whose 0 _ _ _ rfl) ?_
  refine r_aload_0 2 rfl (dd_X11_whose 1 _ _ _ rfl) ?_
  refine r_iload_1 3 rfl (dd_X11_whose 2 _ _ _ rfl) ?_
  refine r_callV1 (lvl := 13) (mc1 := 1) (ms1 := 6) 3 34 hg rfl md_X11_fineAt zc_X11 y.mn.1 wi_X11_fineAt wv_X11_fineAt (tb_5 195 _ rfl) (by decide) (by decide) rfl (Nat.le_of_ble_eq_true rfl) (Nat.le_of_ble_eq_true rfl) (Nat.le_of_ble_eq_true rfl) 6 rfl (dd_X11_whose 3 _ _ _ rfl) ?_
  refine c_X11_fineAt hg hI y (by omega) (fun hE => ?_) (fun f fa hf hF hf4 => ?_)
  · dsimp only [zCont]
    exact kE hE
  · dsimp only [zCont, Option.toList, List.cons_append, List.nil_append]
    refine r_callV1 (lvl := 16) (mc1 := 0) (ms1 := 0) 3 34 hg rfl md_X11_payerOf zc_X11 y.mn.1 wi_X11_payerOf wv_X11_payerOf (tb_5 199 _ rfl) (by decide) (by decide) rfl (Nat.le_of_ble_eq_true rfl) (Nat.le_of_ble_eq_true rfl) (Nat.le_of_ble_eq_true rfl) 9 rfl (dd_X11_whose 4 _ _ _ rfl) ?_
    refine c_X11_payerOf hg hI y hF ?_
    dsimp only [zCont, Option.toList, List.cons_append, List.nil_append]
    have hwn := zwhose_range (f := f) hI
    refine r_ireturn rfl rfl (dd_X11_whose 5 _ _ _ rfl) ?_
    exact k f hf (by omega)

abbrev mX11_fines : zM := (RX11, cX11_fines, 4, (Option.some Jvm.ClassFile.FieldType.int), [], "fines", 17)
set_option maxRecDepth 20000 in
theorem c_X11_fines {g : zGT} {Q : zO → zH → Prop} {h : zH} (hg : zG g) {o : Nat → Nat} {x : Nat} {S : zS} {n : Nat} {Vs Ps Ss Ts Fs Tn : List Nat} {A : Nat → Nat} {G : Nat → Nat → Nat} {Rc : Nat → Nat} (hI : MInv n S) (y : CRep g o h x S n Vs Ps Ss Ts Fs Tn A G Rc) {v : Int} (hv : zR v) (kE : ¬ (0 ≤ v ∧ v < S.1 12) → Q (.inr "java/lang/IndexOutOfBoundsException") h) (k : (0 ≤ v ∧ v < S.1 12) → Q (.inl (some (.int (zI (zsum S v (S.1 36).toNat))))) h) : zC g (.code yX11_fines cX11_fines 4 (Option.some Jvm.ClassFile.FieldType.int)) yX11_fines 17 4 40 [.ref x, .int (zI v)] h Q := by
  refine zC_of (M := mX11_fines) (lv := [some (.ref x), some (.int (zI v)), none, none]) (by decide) rfl rfl (Nat.le_of_ble_eq_true rfl) rfl rfl ?_
  have e1 := hI.vehicles
  have e2 := hI.today
  have e3 := hI.people
  have e4 := hI.sightings
  have e5 := hI.fines
  have e6 := hI.calls
  have nv := y.nv
  have np := y.np
  have ns := y.ns
  have nf := y.nf
  refine r_aload_0 1 rfl (dd_X11_fines 0 _ _ _ rfl) ?_
  refine r_iload_1 2 rfl (dd_X11_fines 1 _ _ _ rfl) ?_
  refine r_callV1 (lvl := 13) (mc1 := 1) (ms1 := 6) 3 34 hg rfl md_X11_personAt zc_X11 y.mn.1 wi_X11_personAt wv_X11_personAt (tb_3 3 _ rfl) (by decide) (by decide) rfl (Nat.le_of_ble_eq_true rfl) (Nat.le_of_ble_eq_true rfl) (Nat.le_of_ble_eq_true rfl) 5 rfl (dd_X11_fines 2 _ _ _ rfl) ?_
  refine c_X11_personAt hg hI y (by omega) (fun hE => ?_) (fun p pa hp hP hp4 => ?_)
  · dsimp only [zCont]
    exact kE hE
  · dsimp only [zCont, Option.toList, List.cons_append, List.nil_append]
    refine r_pop rfl 6 rfl (dd_X11_fines 3 _ _ _ rfl) ?_
    refine r_iconst 7 rfl (dd_X11_fines 4 _ _ _ rfl) ?_
    refine r_istore_2 8 rfl (by decide) rfl (dd_X11_fines 5 _ _ _ rfl) ?_
    refine r_iconst 9 rfl (dd_X11_fines 6 _ _ _ rfl) ?_
    refine r_istore_3 10 rfl (by decide) rfl (dd_X11_fines 7 _ _ _ rfl) ?_
    have L10 : ∀ (tt : Nat), ∀ (f : Nat) (b t : Int), 100 - f < tt → (f ≤ Fs.length) → (b = f) → (t = zsum S v f) → zX g mX11_fines 4 40 Q 10 [some (.ref x), some (.int (zI v)), some (.int (zI t)), some (.int (zI b))] [] h 3 34 := by
      intro tt10
      induction tt10 with
      | zero => intros; exfalso; omega
      | succ tt10 ih10 =>
        intro f b t hlt10 hj hb ht
        subst hb
        refine r_iload_3 11 rfl (dd_X11_fines 8 _ _ _ rfl) ?_
        refine r_aload_0 12 rfl (dd_X11_fines 9 _ _ _ rfl) ?_
        refine r_getr hg zc_X11 9 (by decide) (fun _ _ _ => rfl) y.mn.2.2.2.2.2.2.2.2.2.2.2 y.mn.1 (Or.inl rfl) (tb_1 130 _ rfl) 15 rfl (dd_X11_fines 10 _ _ _ rfl) ?_
        refine r_callV0 (lvl := 10) (mc1 := 0) (ms1 := 0) 3 34 hg rfl md_Jx4a65c_size_8abf5 zc_Jx4a65c y.lf.1 wi_Jx4a65c_size_8abf5 wv_Jx4a65c_size_8abf5 (tb_2 8 _ rfl) (by decide) (by decide) rfl (Nat.le_of_ble_eq_true rfl) (Nat.le_of_ble_eq_true rfl) (Nat.le_of_ble_eq_true rfl) 18 rfl (dd_X11_fines 11 _ _ _ rfl) ?_
        refine c_Jx4a65c_size_8abf5 hg y.lf ?_
        dsimp only [zCont, Option.toList, List.cons_append, List.nil_append]
        refine r_if_icmpge (by omega) (by omega) 21 rfl 63 rfl (dd_X11_fines 12 _ _ _ rfl) (fun hc1 => ?_) (fun hc1 => ?_)
        · refine r_iload_2 64 rfl (dd_X11_fines 33 _ _ _ rfl) ?_
          refine r_ireturn rfl rfl (dd_X11_fines 34 _ _ _ rfl) ?_
          have hz : zsum S v (S.1 36).toNat = t := by rw [show (S.1 36).toNat = f by omega, ht]
          rw [hz] at k
          exact k (by omega)
        · obtain ⟨fa, hF⟩ : ∃ a, Fs[f]? = some a := ⟨Fs[f], List.getElem?_eq_getElem (by omega)⟩
          have ham := hI.amount f
          have hsr := zsum_range (p := v) hI f
          refine r_aload_0 22 rfl (dd_X11_fines 13 _ _ _ rfl) ?_
          refine r_aload_0 23 rfl (dd_X11_fines 14 _ _ _ rfl) ?_
          refine r_getr hg zc_X11 9 (by decide) (fun _ _ _ => rfl) y.mn.2.2.2.2.2.2.2.2.2.2.2 y.mn.1 (Or.inl rfl) (tb_1 130 _ rfl) 26 rfl (dd_X11_fines 15 _ _ _ rfl) ?_
          refine r_iload_3 27 rfl (dd_X11_fines 16 _ _ _ rfl) ?_
          refine r_callV1 (lvl := 12) (mc1 := 0) (ms1 := 0) 3 34 hg rfl md_Jx4a65c_get_915e3 zc_Jx4a65c y.lf.1 wi_Jx4a65c_get_915e3 wv_Jx4a65c_get_915e3 (tb_2 12 _ rfl) (by decide) (by decide) rfl (Nat.le_of_ble_eq_true rfl) (Nat.le_of_ble_eq_true rfl) (Nat.le_of_ble_eq_true rfl) 30 rfl (dd_X11_fines 17 _ _ _ rfl) ?_
          refine c_Jx4a65c_get_915e3 hg y.lf (i := f) (y := fa) hF ?_
          dsimp only [zCont, Option.toList, List.cons_append, List.nil_append]
          refine r_checkcastS hg zc_X3 (y.fi f fa hF).1 (tb_5 161 _ rfl) 33 rfl (dd_X11_fines 18 _ _ _ rfl) ?_
          refine r_callV1 (lvl := 16) (mc1 := 0) (ms1 := 0) 3 34 hg rfl md_X11_payerOf zc_X11 y.mn.1 wi_X11_payerOf wv_X11_payerOf (tb_5 199 _ rfl) (by decide) (by decide) rfl (Nat.le_of_ble_eq_true rfl) (Nat.le_of_ble_eq_true rfl) (Nat.le_of_ble_eq_true rfl) 36 rfl (dd_X11_fines 19 _ _ _ rfl) ?_
          refine c_X11_payerOf hg hI y hF ?_
          dsimp only [zCont, Option.toList, List.cons_append, List.nil_append]
          have hwn := zwhose_range (f := f) hI
          refine r_iload_1 37 rfl (dd_X11_fines 20 _ _ _ rfl) ?_
          refine r_if_icmpne (by omega) (by omega) 40 rfl 57 rfl (dd_X11_fines 21 _ _ _ rfl) (fun hc2 => ?_) (fun hc2 => ?_)
          · refine r_iinc_3 60 rfl (by decide) rfl (dd_X11_fines 31 _ _ _ rfl) ?_
            refine r_goto 10 rfl (dd_X11_fines 32 _ _ _ rfl) ?_
            exact r_sub _ (z_s1 (z_s1 (z_s1 (z_s1 z_sN)))) (ih10 (f + 1) _ _ (by omega) (by omega) (by omega) (by unfold zsum; first | (rw [if_pos (by omega)]; omega) | (rw [if_neg (by omega)]; omega)))
          · refine r_iload_2 41 rfl (dd_X11_fines 22 _ _ _ rfl) ?_
            refine r_aload_0 42 rfl (dd_X11_fines 23 _ _ _ rfl) ?_
            refine r_getr hg zc_X11 9 (by decide) (fun _ _ _ => rfl) y.mn.2.2.2.2.2.2.2.2.2.2.2 y.mn.1 (Or.inl rfl) (tb_1 130 _ rfl) 45 rfl (dd_X11_fines 24 _ _ _ rfl) ?_
            refine r_iload_3 46 rfl (dd_X11_fines 25 _ _ _ rfl) ?_
            refine r_callV1 (lvl := 12) (mc1 := 0) (ms1 := 0) 3 34 hg rfl md_Jx4a65c_get_915e3 zc_Jx4a65c y.lf.1 wi_Jx4a65c_get_915e3 wv_Jx4a65c_get_915e3 (tb_2 12 _ rfl) (by decide) (by decide) rfl (Nat.le_of_ble_eq_true rfl) (Nat.le_of_ble_eq_true rfl) (Nat.le_of_ble_eq_true rfl) 49 rfl (dd_X11_fines 26 _ _ _ rfl) ?_
            refine c_Jx4a65c_get_915e3 hg y.lf (i := f) (y := fa) hF ?_
            dsimp only [zCont, Option.toList, List.cons_append, List.nil_append]
            refine r_checkcastS hg zc_X3 (y.fi f fa hF).1 (tb_5 161 _ rfl) 52 rfl (dd_X11_fines 27 _ _ _ rfl) ?_
            refine r_geti hg zc_X3 1 (by decide) (fun _ _ _ => rfl) (y.fi f fa hF).2.2.1 (y.fi f fa hF).1 (Or.inl rfl) (tb_5 170 _ rfl) 55 rfl (dd_X11_fines 28 _ _ _ rfl) ?_
            refine r_iadd 56 rfl (dd_X11_fines 29 _ _ _ rfl) ?_
            refine r_istore_2 57 rfl (by decide) rfl (dd_X11_fines 30 _ _ _ rfl) ?_
            refine r_iinc_3 60 rfl (by decide) rfl (dd_X11_fines 31 _ _ _ rfl) ?_
            refine r_goto 10 rfl (dd_X11_fines 32 _ _ _ rfl) ?_
            exact r_sub _ (z_s1 (z_s1 (z_s1 (z_s1 z_sN)))) (ih10 (f + 1) _ _ (by omega) (by omega) (by omega) (by unfold zsum; first | (rw [if_pos (by omega)]; omega) | (rw [if_neg (by omega)]; omega)))
    exact r_sub _ (z_s1 (z_s1 (z_s1 (z_s1 z_sN)))) (L10 1000000 0 _ _ (by omega) (by omega) rfl rfl)

theorem zfarE {S : zS} {s t : Nat} : (if 0 ≤ S.2 33 s - S.2 33 t then S.2 33 s - S.2 33 t else 0 - (S.2 33 s - S.2 33 t)) = zfar S s t := by
  unfold zfar
  split <;> split <;> omega
abbrev mX11_clonesOf : zM := (RX11, cX11_clonesOf, 6, (Option.some Jvm.ClassFile.FieldType.int), [], "clonesOf", 16)
set_option maxRecDepth 20000 in
theorem c_X11_clonesOf {g : zGT} {Q : zO → zH → Prop} {h : zH} (hg : zG g) {o : Nat → Nat} {x : Nat} {S : zS} {n : Nat} {Vs Ps Ss Ts Fs Tn : List Nat} {A : Nat → Nat} {G : Nat → Nat → Nat} {Rc : Nat → Nat} (hI : MInv n S) (y : CRep g o h x S n Vs Ps Ss Ts Fs Tn A G Rc) {u : Nat} (hu4 : (u : Int) < S.1 4) (k : Q (.inl (some (.int (zI (zclones S u (S.1 31).toNat))))) h) : zC g (.code yX11_clonesOf cX11_clonesOf 6 (Option.some Jvm.ClassFile.FieldType.int)) yX11_clonesOf 16 0 0 [.ref x, .int (zI (u : Int))] h Q := by
  refine zC_of (M := mX11_clonesOf) (lv := [some (.ref x), some (.int (zI (u : Int))), none, none, none, none]) (by decide) rfl rfl (Nat.le_of_ble_eq_true rfl) rfl rfl ?_
  have e1 := hI.vehicles
  have e2 := hI.today
  have e3 := hI.people
  have e4 := hI.sightings
  have e5 := hI.fines
  have e6 := hI.calls
  have nv := y.nv
  have np := y.np
  have ns := y.ns
  have nf := y.nf
  obtain ⟨ok1, ok2, ok3, ok4, ok5⟩ := y.ok
  obtain ⟨TT, hTT⟩ : ∃ t, t = zfold S u Tn none := ⟨_, rfl⟩
  refine r_null 1 rfl (dd_X11_clonesOf 0 _ _ _ rfl) ?_
  refine r_astoreN_2 2 rfl (by decide) rfl (dd_X11_clonesOf 1 _ _ _ rfl) ?_
  refine r_iconst 3 rfl (dd_X11_clonesOf 2 _ _ _ rfl) ?_
  refine r_istore_3 4 rfl (by decide) rfl (dd_X11_clonesOf 3 _ _ _ rfl) ?_
  refine r_iconst 5 rfl (dd_X11_clonesOf 4 _ _ _ rfl) ?_
  refine r_istore_4 7 rfl (by decide) rfl (dd_X11_clonesOf 5 _ _ _ rfl) ?_
  have L7 : ∀ (tt : Nat), ∀ (j : Nat) (b cl : Int) (ea et : Option Nat), 100 - j < tt → (j ≤ Ts.length) → (b = j) → (ea = none ∧ et = none ∨ ∃ t a, ea = some a ∧ et = some t ∧ Ss[t]? = some a) → (cl + zfold S u (Tn.drop j) et = TT) → (0 ≤ cl ∧ cl ≤ j) → zX g mX11_clonesOf 0 0 Q 7 [some (.ref x), some (.int (zI (u : Int))), some (va_rf ea), some (.int (zI cl)), some (.int (zI b)), none] [] h 0 0 := by
    intro tt7
    induction tt7 with
    | zero => intros; exfalso; omega
    | succ tt7 ih7 =>
      intro j b cl ea et hlt7 hj hb het hcl hc9
      subst hb
      refine r_iload_4 9 rfl (dd_X11_clonesOf 6 _ _ _ rfl) ?_
      refine r_aload_0 10 rfl (dd_X11_clonesOf 7 _ _ _ rfl) ?_
      refine r_getr hg zc_X11 8 (by decide) (fun _ _ _ => rfl) y.mn.2.2.2.2.2.2.2.2.2.2.1 y.mn.1 (Or.inl rfl) (tb_1 129 _ rfl) 13 rfl (dd_X11_clonesOf 8 _ _ _ rfl) ?_
      refine r_callV0 (lvl := 10) (mc1 := 0) (ms1 := 0) 0 0 hg rfl md_Jx4a65c_size_8abf5 zc_Jx4a65c y.lt.1 wi_Jx4a65c_size_8abf5 wv_Jx4a65c_size_8abf5 (tb_2 8 _ rfl) (by decide) (by decide) rfl (Nat.le_of_ble_eq_true rfl) (Nat.le_of_ble_eq_true rfl) (Nat.le_of_ble_eq_true rfl) 16 rfl (dd_X11_clonesOf 9 _ _ _ rfl) ?_
      refine c_Jx4a65c_size_8abf5 hg y.lt ?_
      dsimp only [zCont, Option.toList, List.cons_append, List.nil_append]
      refine r_if_icmpge (by omega) (by omega) 19 rfl 68 rfl (dd_X11_clonesOf 10 _ _ _ rfl) (fun hc1 => ?_) (fun hc1 => ?_)
      · refine r_iload_3 69 rfl (dd_X11_clonesOf 33 _ _ _ rfl) ?_
        refine r_ireturn rfl rfl (dd_X11_clonesOf 34 _ _ _ rfl) ?_
        have hz : zclones S u (S.1 31).toNat = cl := by rw [← y.ok.clones y.ns, ← hTT, ← hcl, List.drop_eq_nil_of_le (by omega)]; show cl + 0 = cl; omega
        rw [hz] at k
        exact k
      · obtain ⟨s, hTn⟩ : ∃ s, Tn[j]? = some s := ⟨Tn[j], List.getElem?_eq_getElem (by omega)⟩
        obtain ⟨hsL, hTs0⟩ := ok3 j s hTn
        obtain ⟨sa, hS⟩ : ∃ a, Ss[s]? = some a := ⟨Ss[s], List.getElem?_eq_getElem hsL⟩
        have hTs : Ts[j]? = some sa := hTs0.trans hS
        obtain ⟨sg, w1, w2, w3, w4, w5, w6, w7, w8, w9, w10⟩ := y.si s sa hS
        have hdrop : Tn.drop j = s :: Tn.drop (j + 1) := by rw [List.drop_eq_getElem_cons (by omega)]; congr 1; exact Option.some.inj ((List.getElem?_eq_getElem (by omega)).symm.trans hTn)
        rw [hdrop] at hcl
        unfold zfold at hcl
        refine r_aload_0 20 rfl (dd_X11_clonesOf 11 _ _ _ rfl) ?_
        refine r_getr hg zc_X11 8 (by decide) (fun _ _ _ => rfl) y.mn.2.2.2.2.2.2.2.2.2.2.1 y.mn.1 (Or.inl rfl) (tb_1 129 _ rfl) 23 rfl (dd_X11_clonesOf 12 _ _ _ rfl) ?_
        refine r_iload_4 25 rfl (dd_X11_clonesOf 13 _ _ _ rfl) ?_
        refine r_callV1 (lvl := 12) (mc1 := 0) (ms1 := 0) 0 0 hg rfl md_Jx4a65c_get_915e3 zc_Jx4a65c y.lt.1 wi_Jx4a65c_get_915e3 wv_Jx4a65c_get_915e3 (tb_2 12 _ rfl) (by decide) (by decide) rfl (Nat.le_of_ble_eq_true rfl) (Nat.le_of_ble_eq_true rfl) (Nat.le_of_ble_eq_true rfl) 28 rfl (dd_X11_clonesOf 14 _ _ _ rfl) ?_
        refine c_Jx4a65c_get_915e3 hg y.lt (i := j) (y := sa) hTs ?_
        dsimp only [zCont, Option.toList, List.cons_append, List.nil_append]
        refine r_checkcastS hg zc_X7 w1 (tb_5 87 _ rfl) 31 rfl (dd_X11_clonesOf 15 _ _ _ rfl) ?_
        refine r_astore_5 33 rfl (by decide) rfl (dd_X11_clonesOf 16 _ _ _ rfl) ?_
        refine r_aload_0 34 rfl (dd_X11_clonesOf 17 _ _ _ rfl) ?_
        refine r_aload_5 36 rfl (dd_X11_clonesOf 18 _ _ _ rfl) ?_
        refine r_callV1 (lvl := 15) (mc1 := 0) (ms1 := 0) 0 0 hg rfl md_X11_vehicleSeen zc_X11 y.mn.1 wi_X11_vehicleSeen wv_X11_vehicleSeen (tb_5 88 _ rfl) (by decide) (by decide) rfl (Nat.le_of_ble_eq_true rfl) (Nat.le_of_ble_eq_true rfl) (Nat.le_of_ble_eq_true rfl) 39 rfl (dd_X11_clonesOf 19 _ _ _ rfl) ?_
        refine c_X11_vehicleSeen hg hI y hS ?_
        dsimp only [zCont, Option.toList, List.cons_append, List.nil_append]
        have hzn := zseen_range (s := s) hI
        refine r_iload_1 40 rfl (dd_X11_clonesOf 20 _ _ _ rfl) ?_
        refine r_if_icmpne (by omega) (by omega) 43 rfl 62 rfl (dd_X11_clonesOf 21 _ _ _ rfl) (fun hc2 => ?_) (fun hc2 => ?_)
        · refine r_iinc_4 65 rfl (by decide) rfl (dd_X11_clonesOf 31 _ _ _ rfl) ?_
          refine r_goto 7 rfl (dd_X11_clonesOf 32 _ _ _ rfl) ?_
          exact r_sub _ (z_s1 (z_s1 (z_s1 (z_s1 (z_s1 (z_s0 z_sN)))))) (ih7 (j + 1) _ _ ea et (by omega) (by omega) (by omega) het (by rw [if_neg (by omega)] at hcl; exact hcl) (by omega))
        · rw [if_pos (by omega)] at hcl
          by_cases hen : ea = none
          · obtain ⟨rfl, rfl⟩ : ea = none ∧ et = none := by rcases het with q | ⟨t, a, q, _, _⟩; exact q; (rw [hen] at q; cases q)
            refine r_aloadN_2 44 rfl (dd_X11_clonesOf 22 _ _ _ rfl) ?_
            refine r_ifnullN 59 rfl (dd_X11_clonesOf 23 _ _ _ rfl) ?_
            refine r_aload_5 61 rfl (dd_X11_clonesOf 29 _ _ _ rfl) ?_
            refine r_astore_2 62 rfl (by decide) rfl (dd_X11_clonesOf 30 _ _ _ rfl) ?_
            refine r_iinc_4 65 rfl (by decide) rfl (dd_X11_clonesOf 31 _ _ _ rfl) ?_
            refine r_goto 7 rfl (dd_X11_clonesOf 32 _ _ _ rfl) ?_
            exact r_sub _ (z_s1 (z_s1 (z_s1 (z_s1 (z_s1 (z_s0 z_sN)))))) (ih7 (j + 1) _ _ (some sa) (some s) (by omega) (by omega) (by omega) (Or.inr ⟨s, sa, rfl, rfl, hS⟩) (by first | (rw [← hcl]; omega) | (rw [← hcl]; dsimp only; omega)) (by omega))
          · obtain ⟨et0, ea0, rfl, rfl, hE⟩ : ∃ t a, et = some t ∧ ea = some a ∧ Ss[t]? = some a := by rcases het with q | ⟨t, a, q1, q2, q3⟩; exact absurd q.1 hen; exact ⟨t, a, q2, q1, q3⟩
            obtain ⟨vg, v1, v2, v3, v4, v5, v6, v7, v8, v9, v10⟩ := y.si et0 ea0 hE
            refine r_aload_2 44 rfl (dd_X11_clonesOf 22 _ _ _ rfl) ?_
            refine r_ifnull 47 rfl (dd_X11_clonesOf 23 _ _ _ rfl) ?_
            refine r_aload_5 49 rfl (dd_X11_clonesOf 24 _ _ _ rfl) ?_
            refine r_aload_2 50 rfl (dd_X11_clonesOf 25 _ _ _ rfl) ?_
            refine r_callV1 (lvl := 10) (mc1 := 0) (ms1 := 0) 0 0 hg rfl md_X7_isTooSoonBehind zc_X7 w1 wi_X7_isTooSoonBehind wv_X7_isTooSoonBehind (tb_5 97 _ rfl) (by decide) (by decide) rfl (Nat.le_of_ble_eq_true rfl) (Nat.le_of_ble_eq_true rfl) (Nat.le_of_ble_eq_true rfl) 53 rfl (dd_X11_clonesOf 26 _ _ _ rfl) ?_
            refine c_X7_isTooSoonBehind hg hI (y.si s sa hS) (y.si et0 ea0 hE) (fun hts => ?_) (fun hts => ?_)
            · rw [zfarE] at hts
              dsimp only at hcl
              rw [if_pos hts] at hcl
              dsimp only [zCont, Option.toList, List.cons_append, List.nil_append]
              refine r_ifeq (by omega) 56 rfl 59 rfl (dd_X11_clonesOf 27 _ _ _ rfl) (fun q => absurd q (by decide)) (fun _ => ?_)
              refine r_iinc_3 59 rfl (by decide) rfl (dd_X11_clonesOf 28 _ _ _ rfl) ?_
              refine r_aload_5 61 rfl (dd_X11_clonesOf 29 _ _ _ rfl) ?_
              refine r_astore_2 62 rfl (by decide) rfl (dd_X11_clonesOf 30 _ _ _ rfl) ?_
              refine r_iinc_4 65 rfl (by decide) rfl (dd_X11_clonesOf 31 _ _ _ rfl) ?_
              refine r_goto 7 rfl (dd_X11_clonesOf 32 _ _ _ rfl) ?_
              exact r_sub _ (z_s1 (z_s1 (z_s1 (z_s1 (z_s1 (z_s0 z_sN)))))) (ih7 (j + 1) _ _ (some sa) (some s) (by omega) (by omega) (by omega) (Or.inr ⟨s, sa, rfl, rfl, hS⟩) (by first | (rw [← hcl]; omega) | (rw [← hcl]; dsimp only; omega)) (by omega))
            · rw [zfarE] at hts
              dsimp only at hcl
              rw [if_neg hts] at hcl
              dsimp only [zCont, Option.toList, List.cons_append, List.nil_append]
              refine r_ifeq (by omega) 56 rfl 59 rfl (dd_X11_clonesOf 27 _ _ _ rfl) (fun _ => ?_) (fun q => absurd q (by decide))
              refine r_aload_5 61 rfl (dd_X11_clonesOf 29 _ _ _ rfl) ?_
              refine r_astore_2 62 rfl (by decide) rfl (dd_X11_clonesOf 30 _ _ _ rfl) ?_
              refine r_iinc_4 65 rfl (by decide) rfl (dd_X11_clonesOf 31 _ _ _ rfl) ?_
              refine r_goto 7 rfl (dd_X11_clonesOf 32 _ _ _ rfl) ?_
              exact r_sub _ (z_s1 (z_s1 (z_s1 (z_s1 (z_s1 (z_s0 z_sN)))))) (ih7 (j + 1) _ _ (some sa) (some s) (by omega) (by omega) (by omega) (Or.inr ⟨s, sa, rfl, rfl, hS⟩) (by first | (rw [← hcl]; omega) | (rw [← hcl]; dsimp only; omega)) (by omega))
  exact r_sub _ (z_s1 (z_s1 (z_s1 (z_s1 (z_s1 (z_s0 z_sN)))))) (L7 1000000 0 _ _ none none (by omega) (by omega) rfl (Or.inl ⟨rfl, rfl⟩) (by rw [hTT]; simp) (by omega))

abbrev mX11_ofVehicle : zM := (RX11, cX11_ofVehicle, 4, (Option.some Jvm.ClassFile.FieldType.int), [], "ofVehicle", 17)
set_option maxRecDepth 20000 in
theorem c_X11_ofVehicle {g : zGT} {Q : zO → zH → Prop} {h : zH} (hg : zG g) {o : Nat → Nat} {x : Nat} {S : zS} {n : Nat} {Vs Ps Ss Ts Fs Tn : List Nat} {A : Nat → Nat} {G : Nat → Nat → Nat} {Rc : Nat → Nat} (hI : MInv n S) (y : CRep g o h x S n Vs Ps Ss Ts Fs Tn A G Rc) {v q : Int} (hv : zR v) (hq : zR q) (kE : ¬ (0 ≤ v ∧ v < S.1 4) → Q (.inr "java/lang/IndexOutOfBoundsException") h) (k2 : ∀ u : Nat, v = u → v < S.1 4 → ¬ (0 ≤ q ∧ q ≤ 4) → Q (.inr "java/lang/IllegalArgumentException") h) (k10 : ∀ u : Nat, v = u → v < S.1 4 → q = 0 → Q (.inl (some (.int (zI (if zdigit (S.2 5 u) = 10 then -1 else S.2 5 u * 10 + zdigit (S.2 5 u)))))) h) (k11 : ∀ u : Nat, v = u → v < S.1 4 → q = 1 → Q (.inl (some (.int (zI (S.2 29 u))))) h) (k12 : ∀ u : Nat, v = u → v < S.1 4 → q = 2 → Q (.inl (some (.int (zI (S.2 28 u))))) h) (k13 : ∀ u : Nat, v = u → v < S.1 4 → q = 3 → Q (.inl (some (.int (zI (zgap S u (S.1 1 + 1).toNat))))) h) (k14 : ∀ u : Nat, v = u → v < S.1 4 → q = 4 → Q (.inl (some (.int (zI (zclones S u (S.1 31).toNat))))) h) : zC g (.code yX11_ofVehicle cX11_ofVehicle 4 (Option.some Jvm.ClassFile.FieldType.int)) yX11_ofVehicle 17 4 40 [.ref x, .int (zI v), .int (zI q)] h Q := by
  refine zC_of (M := mX11_ofVehicle) (lv := [some (.ref x), some (.int (zI v)), some (.int (zI q)), none]) (by decide) rfl rfl (Nat.le_of_ble_eq_true rfl) rfl rfl ?_
  have e1 := hI.vehicles
  have e2 := hI.today
  have e3 := hI.people
  have e4 := hI.sightings
  have e5 := hI.fines
  have e6 := hI.calls
  have nv := y.nv
  have np := y.np
  have ns := y.ns
  have nf := y.nf
  refine r_aload_0 1 rfl (dd_X11_ofVehicle 0 _ _ _ rfl) ?_
  refine r_iload_1 2 rfl (dd_X11_ofVehicle 1 _ _ _ rfl) ?_
  refine r_callV1 (lvl := 13) (mc1 := 1) (ms1 := 6) 3 34 hg rfl md_X11_vehicleAt zc_X11 y.mn.1 wi_X11_vehicleAt wv_X11_vehicleAt (tb_3 29 _ rfl) (by decide) (by decide) rfl (Nat.le_of_ble_eq_true rfl) (Nat.le_of_ble_eq_true rfl) (Nat.le_of_ble_eq_true rfl) 5 rfl (dd_X11_ofVehicle 2 _ _ _ rfl) ?_
  refine c_X11_vehicleAt hg hI y (by omega) (fun hE => ?_) (fun u va hu hV hu4 => ?_)
  · dsimp only [zCont]
    exact kE hE
  · dsimp only [zCont, Option.toList, List.cons_append, List.nil_append]
    refine r_astore_3 6 rfl (by decide) rfl (dd_X11_ofVehicle 3 _ _ _ rfl) ?_
    refine r_iload_2 7 rfl (dd_X11_ofVehicle 4 _ _ _ rfl) ?_
    refine r_iconst 8 rfl (dd_X11_ofVehicle 5 _ _ _ rfl) ?_
    refine r_iconst 9 rfl (dd_X11_ofVehicle 6 _ _ _ rfl) ?_
    refine r_callS3 (lvl := 10) (mc1 := 0) (ms1 := 0) 3 34 hg rfl md_X11_isWithin ws_X11_isWithin (tb_1 171 _ rfl) (by decide) (by decide) rfl (Nat.le_of_ble_eq_true rfl) (Nat.le_of_ble_eq_true rfl) (Nat.le_of_ble_eq_true rfl) 12 rfl (dd_X11_ofVehicle 7 _ _ _ rfl) ?_
    refine c_X11_isWithin hg (by omega) (by omega) (by omega) (fun hb1 => ?_) (fun hb1 => ?_)
    · dsimp only [zCont, Option.toList, List.cons_append, List.nil_append]
      refine r_ifne (by omega) 15 rfl 23 rfl (dd_X11_ofVehicle 8 _ _ _ rfl) (fun _ => ?_) (fun q => absurd q (by decide))
      have hul : u < Vs.length := by omega
      have hu12 : u < 12 := by omega
      obtain ⟨⟨t, l, L, B, hp⟩, hsd⟩ := id (y.hi u hul)
      obtain ⟨hp1, hp2, hp3, hp4, hp5, hp6, hp7, hp8, hp9, hp10, hp11, hp12⟩ := id hp
      have hsr := hI.serial u
      refine r_iload_2 24 rfl (dd_X11_ofVehicle 13 _ _ _ rfl) ?_
      refine r_ifne (by omega) 27 rfl 35 rfl (dd_X11_ofVehicle 14 _ _ _ rfl) (fun hc2 => ?_) (fun hc2 => ?_)
      · refine r_iload_2 36 rfl (dd_X11_ofVehicle 19 _ _ _ rfl) ?_
        refine r_iconst 37 rfl (dd_X11_ofVehicle 20 _ _ _ rfl) ?_
        refine r_if_icmpne (by omega) (by omega) 40 rfl 48 rfl (dd_X11_ofVehicle 21 _ _ _ rfl) (fun hc3 => ?_) (fun hc3 => ?_)
        · refine r_iload_2 49 rfl (dd_X11_ofVehicle 26 _ _ _ rfl) ?_
          refine r_iconst 50 rfl (dd_X11_ofVehicle 27 _ _ _ rfl) ?_
          refine r_if_icmpne (by omega) (by omega) 53 rfl 61 rfl (dd_X11_ofVehicle 28 _ _ _ rfl) (fun hc4 => ?_) (fun hc4 => ?_)
          · refine r_iload_2 62 rfl (dd_X11_ofVehicle 33 _ _ _ rfl) ?_
            refine r_iconst 63 rfl (dd_X11_ofVehicle 34 _ _ _ rfl) ?_
            refine r_if_icmpne (by omega) (by omega) 66 rfl 74 rfl (dd_X11_ofVehicle 35 _ _ _ rfl) (fun hc5 => ?_) (fun hc5 => ?_)
            · refine r_aload_0 75 rfl (dd_X11_ofVehicle 40 _ _ _ rfl) ?_
              refine r_iload_1 76 rfl (dd_X11_ofVehicle 41 _ _ _ rfl) ?_
              rw [hu]
              refine r_callV1 (lvl := 16) (mc1 := 0) (ms1 := 0) 3 34 hg rfl md_X11_clonesOf zc_X11 y.mn.1 wi_X11_clonesOf wv_X11_clonesOf (tb_5 83 _ rfl) (by decide) (by decide) rfl (Nat.le_of_ble_eq_true rfl) (Nat.le_of_ble_eq_true rfl) (Nat.le_of_ble_eq_true rfl) 79 rfl (dd_X11_ofVehicle 42 _ _ _ rfl) ?_
              refine c_X11_clonesOf hg hI y (u := u) (by omega) ?_
              dsimp only [zCont, Option.toList, List.cons_append, List.nil_append]
              refine r_ireturn rfl rfl (dd_X11_ofVehicle 43 _ _ _ rfl) ?_
              exact k14 u hu (by omega) (by omega)
            · refine r_aload_0 67 rfl (dd_X11_ofVehicle 36 _ _ _ rfl) ?_
              refine r_aload_3 68 rfl (dd_X11_ofVehicle 37 _ _ _ rfl) ?_
              refine r_callV1 (lvl := 14) (mc1 := 0) (ms1 := 0) 3 34 hg rfl md_X11_gapOf zc_X11 y.mn.1 wi_X11_gapOf wv_X11_gapOf (tb_5 73 _ rfl) (by decide) (by decide) rfl (Nat.le_of_ble_eq_true rfl) (Nat.le_of_ble_eq_true rfl) (Nat.le_of_ble_eq_true rfl) 71 rfl (dd_X11_ofVehicle 38 _ _ _ rfl) ?_
              refine c_X11_gapOf hg hI y hV ?_
              dsimp only [zCont, Option.toList, List.cons_append, List.nil_append]
              refine r_goto 79 rfl (dd_X11_ofVehicle 39 _ _ _ rfl) ?_
              refine r_ireturn rfl rfl (dd_X11_ofVehicle 43 _ _ _ rfl) ?_
              exact k13 u hu (by omega) (by omega)
          · refine r_aload_3 54 rfl (dd_X11_ofVehicle 29 _ _ _ rfl) ?_
            refine r_getr hg zc_X10 3 (by decide) (fun _ _ _ => rfl) (y.vo u va hV).2.2.2.2.2.1 (y.vo u va hV).1 (Or.inl rfl) (tb_2 125 _ rfl) 57 rfl (dd_X11_ofVehicle 30 _ _ _ rfl) ?_
            refine r_geti hg zc_X9 4 (by decide) (fun _ _ _ => rfl) (y.te u hul).2.2.2.2.2.2 (y.te u hul).1 (Or.inl rfl) (tb_2 106 _ rfl) 60 rfl (dd_X11_ofVehicle 31 _ _ _ rfl) ?_
            refine r_ireturn rfl rfl (dd_X11_ofVehicle 32 _ _ _ rfl) ?_
            exact k12 u hu (by omega) (by omega)
        · refine r_aload_3 41 rfl (dd_X11_ofVehicle 22 _ _ _ rfl) ?_
          refine r_getr hg zc_X10 3 (by decide) (fun _ _ _ => rfl) (y.vo u va hV).2.2.2.2.2.1 (y.vo u va hV).1 (Or.inl rfl) (tb_2 125 _ rfl) 44 rfl (dd_X11_ofVehicle 23 _ _ _ rfl) ?_
          refine r_geti hg zc_X9 3 (by decide) (fun _ _ _ => rfl) (y.te u hul).2.2.2.2.2.1 (y.te u hul).1 (Or.inl rfl) (tb_2 104 _ rfl) 47 rfl (dd_X11_ofVehicle 24 _ _ _ rfl) ?_
          refine r_ireturn rfl rfl (dd_X11_ofVehicle 25 _ _ _ rfl) ?_
          exact k11 u hu (by omega) (by omega)
      · refine r_aload_3 28 rfl (dd_X11_ofVehicle 15 _ _ _ rfl) ?_
        refine r_geti hg zc_X10 0 (by decide) (fun _ _ _ => rfl) (y.vo u va hV).2.2.1 (y.vo u va hV).1 (Or.inl rfl) (tb_2 119 _ rfl) 31 rfl (dd_X11_ofVehicle 16 _ _ _ rfl) ?_
        refine r_callS1 (lvl := 11) (mc1 := 0) (ms1 := 0) 3 34 hg rfl md_X11_stampedNumber ws_X11_stampedNumber (tb_5 70 _ rfl) (by decide) (by decide) rfl (Nat.le_of_ble_eq_true rfl) (Nat.le_of_ble_eq_true rfl) (Nat.le_of_ble_eq_true rfl) 34 rfl (dd_X11_ofVehicle 17 _ _ _ rfl) ?_
        refine c_X11_stampedNumber hg (by omega) (by omega) ?_
        dsimp only [zCont, Option.toList, List.cons_append, List.nil_append]
        refine r_ireturn rfl rfl (dd_X11_ofVehicle 18 _ _ _ rfl) ?_
        exact k10 u hu (by omega) (by omega)
    · dsimp only [zCont, Option.toList, List.cons_append, List.nil_append]
      refine r_ifne (by omega) 15 rfl 23 rfl (dd_X11_ofVehicle 8 _ _ _ rfl) (fun q => absurd q (by decide)) (fun _ => ?_)
      refine r_throw hg zt_IAE rfl (by decide) (Nat.le_of_ble_eq_true rfl) (Nat.le_of_ble_eq_true rfl) (Nat.le_of_ble_eq_true rfl) (pc3 := 18) (pc4 := 19) (pc7 := 22) rfl rfl rfl (dd_X11_ofVehicle 9 _ _ _ rfl) (dd_X11_ofVehicle 10 _ _ _ rfl) (dd_X11_ofVehicle 11 _ _ _ rfl) (dd_X11_ofVehicle 12 _ _ _ rfl) ?_
      exact k2 u hu (by omega) (by omega)
