theorem list_new {g : zGT} {o : Nat → Nat} {h : zH} {l r : Nat} (hl : kd_ h l = 0) : LRep g (zu1 o l r) r (sfr (sfi (nob h l 2) l 0 0) l 1 (some (ge_ g))) l [] ∧ zStep (fun q => q = r) o h (zu1 o l r) (sfr (sfi (nob h l 2) l 0 0) l 1 (some (ge_ g))) := by
  have ho : zu1 o l r l = r := zu1_at
  refine ⟨⟨zu1_at, zu1_at, by simp (decide := true) [zhs], by simp, Or.inl ⟨rfl, zu2_at⟩⟩, (step_nob hl).trans ((step_sfi (R := fun q => q = r) ho).trans (step_sfr (R := fun q => q = r) ho))⟩
theorem zbit0 (b : Int) : zbit 0 b = false := by
  unfold zbit
  have e : (zL 0).toBitVec = 0#64 := by decide
  rw [e]
  simp
theorem RaRep.dummy : True := trivial
/-- an array of courses, filled up to j -/
def RaP (o : Nat → Nat) (r : Nat) (h : zH) (a : Nat) (Rc : Nat → Nat) (j : Nat) : Prop := kd_ h a = 26 ∧ o a = r ∧ ln_ h a = 4 ∧ ∀ i, i < j → ar_ h a i = some (Rc i)
theorem RaP.fr {o o1 : Nat → Nat} {r : Nat} {h h1 : zH} {a j : Nat} {Rc : Nat → Nat} (x : RaP o r h a Rc j) (f : zFr r o h o1 h1) : RaP o1 r h1 a Rc j := by
  obtain ⟨x1, x2, x3, x4⟩ := x
  obtain ⟨f1, f2, f3, -, -, -, -, -, f9⟩ := f a x2 (by omega)
  exact ⟨f2.trans x1, f1, f3.trans x3, fun i hi => (f9 i).trans (x4 i hi)⟩
theorem RaP.push {o : Nat → Nat} {r : Nat} {h : zH} {a j c : Nat} {Rc : Nat → Nat} (x : RaP o r h a Rc j) : RaP o r (sar h a j (some c)) a (zu1 Rc j c) (j + 1) := by
  obtain ⟨x1, x2, x3, x4⟩ := x
  refine ⟨x1, x2, x3, fun i hi => ?_⟩
  show zu2 (ar_ h) a j (some c) a i = _
  by_cases hq : i = j
  · subst hq; rw [zu2_at, zu1_at]
  · rw [zu2_ne (fun q => hq q.2), zu1_ne hq]; exact x4 i (by omega)
abbrev mX11_init : zM := (RX11, cX11_init, 2, (Option.none : Option Jvm.ClassFile.FieldType), [], "<init>", 14)
set_option maxRecDepth 20000 in
theorem c_X11_init {g : zGT} {Q : zO → zH → Prop} {h : zH} (hg : zG g) {o : Nat → Nat} {x : Nat} (kx : kd_ h x = 15) (ox : o x = 1) (k : ∀ o1 h1, CEx g o1 h1 x zS0 0 → zStep zOwn o h o1 h1 → Q (.inl none) h1) : zC g (.code yX11_init cX11_init 2 (Option.none : Option Jvm.ClassFile.FieldType)) yX11_init 14 23 1809 [.ref x] h Q := by
  refine zC_of (M := mX11_init) (lv := [some (.ref x), none]) (by decide) rfl rfl (Nat.le_of_ble_eq_true rfl) rfl rfl ?_
  have ss : zStep zOwn o h o h := .refl
  refine r_aload_0 1 rfl (dd_X11_init_0 0 _ _ _ rfl) ?_
  refine r_objInit hg (tb_1 40 _ rfl) (tb_1 41 _ rfl) (tb_1 42 _ rfl) (Nat.le_of_ble_eq_true rfl) (by decide) 4 rfl (dd_X11_init_0 1 _ _ _ rfl) ?_
  refine r_aload_0 5 rfl (dd_X11_init_0 2 _ _ _ rfl) ?_
  refine r_iconst 6 rfl (dd_X11_init_0 3 _ _ _ rfl) ?_
  refine r_puti hg zc_X11 0 (by decide) rfl (fun _ _ _ => rfl) rfl rfl (by decide) kx (Or.inl rfl) (tb_1 121 _ rfl) 9 rfl (dd_X11_init_0 4 _ _ _ rfl) ?_
  have pp : zStep (fun q => q = 1) o h o (sfi h x 0 0) := step_sfi (R := fun q => q = 1) ox
  have f0 : fi_ (sfi h x 0 0) x 0 = 0 := zu2_at
  replace kx : kd_ (sfi h x 0 0) x = 15 := kx
  replace ss : zStep zOwn o h o (sfi h x 0 0) := ss.trans (pp.mono (fun q hq => by show q ≠ 0; rw [show q = _ from hq]; first | decide | (unfold rg; omega)))
  clear pp
  generalize (sfi h x 0 0) = g1 at f0 kx ss ⊢
  refine r_aload_0 10 rfl (dd_X11_init_0 5 _ _ _ rfl) ?_
  refine r_new 22 1807 hg zc_X0 (tb_1 43 _ rfl) (tb_1 44 _ rfl) (tb_1 2 _ rfl) (Nat.le_of_ble_eq_true rfl) (Nat.le_of_ble_eq_true rfl) zd_X0 13 rfl (dd_X11_init_0 6 _ _ _ rfl) (fun bu hz_bu => ?_)
  refine r_dup rfl 14 rfl (dd_X11_init_0 7 _ _ _ rfl) ?_
  refine r_callIN0 (lvl := 10) (mc1 := 1) (ms1 := 8) 21 1799 hg rfl md_X0_init wi_X0_init rfl rfl (tb_1 45 _ rfl) (by decide) (by decide) rfl (Nat.le_of_ble_eq_true rfl) (Nat.le_of_ble_eq_true rfl) (Nat.le_of_ble_eq_true rfl) 17 rfl (dd_X11_init_0 8 _ _ _ rfl) ?_
  refine c_X0_init (o := zu1 o bu 2) (r := 2) hg zu1_at zu1_at (fun obu hbu qq tt0 => ?_)
  have sbu : zStep (fun q => q = 2) o g1 obu hbu := (step_nob hz_bu).trans tt0
  have ubu := qq zS0 rfl (fun _ => rfl)
  dsimp only [zCont, Option.toList, List.cons_append, List.nil_append]
  have fx := sbu.fr (r := 1) (by show ¬ _ = _; decide) x ox (by rw [kx]; decide)
  replace f0 : fi_ hbu x 0 = 0 := (fx.2.2.2.1 0).trans f0
  replace ox : obu x = 1 := sbu.own (by rw [kx]; decide) ox
  replace kx : kd_ hbu x = 15 := sbu.kd kx (by decide)
  replace ss : zStep zOwn o h obu hbu := ss.trans (sbu.mono (fun q hq => by show q ≠ 0; rw [show q = _ from hq]; first | decide | (unfold rg; omega)))
  clear sbu
  refine r_putrF hg zc_X11 1 (by decide) rfl (fun _ _ _ => rfl) rfl rfl (by decide) kx rfl rfl (Or.inl rfl) (tb_1 122 _ rfl) 20 rfl (dd_X11_init_0 9 _ _ _ rfl) ?_
  have pp : zStep (fun q => q = 1) obu hbu obu (sfr hbu x 1 (some bu)) := step_sfr (R := fun q => q = 1) ox
  replace ubu := ubu.fr (pp.fr (r := 2) (by show ¬ _ = _; decide))
  replace f0 : fi_ (sfr hbu x 1 (some bu)) x 0 = 0 := f0
  have f1 : fr_ (sfr hbu x 1 (some bu)) x 1 = some bu := zu2_at
  replace kx : kd_ (sfr hbu x 1 (some bu)) x = 15 := kx
  replace ss : zStep zOwn o h obu (sfr hbu x 1 (some bu)) := ss.trans (pp.mono (fun q hq => by show q ≠ 0; rw [show q = _ from hq]; first | decide | (unfold rg; omega)))
  clear pp
  generalize (sfr hbu x 1 (some bu)) = g2 at ubu f0 f1 kx ss ⊢
  refine r_aload_0 21 rfl (dd_X11_init_0 10 _ _ _ rfl) ?_
  refine r_new 20 1796 hg zc_X6 (tb_1 58 _ rfl) (tb_1 59 _ rfl) (tb_1 3 _ rfl) (Nat.le_of_ble_eq_true rfl) (Nat.le_of_ble_eq_true rfl) zd_X6 24 rfl (dd_X11_init_0 11 _ _ _ rfl) (fun se hz_se => ?_)
  refine r_dup rfl 25 rfl (dd_X11_init_0 12 _ _ _ rfl) ?_
  refine r_callIN0 (lvl := 10) (mc1 := 2) (ms1 := 1733) 18 63 hg rfl md_X6_init wi_X6_init rfl rfl (tb_1 60 _ rfl) (by decide) (by decide) rfl (Nat.le_of_ble_eq_true rfl) (Nat.le_of_ble_eq_true rfl) (Nat.le_of_ble_eq_true rfl) 28 rfl (dd_X11_init_0 13 _ _ _ rfl) ?_
  refine c_X6_init (o := zu1 obu se 3) (r := 3) hg zu1_at zu1_at (fun ose hse qq tt0 => ?_)
  have sse : zStep (fun q => q = 3) obu g2 ose hse := (step_nob hz_se).trans tt0
  have use := qq zS0 rfl (fun _ => rfl) (fun _ => rfl)
  dsimp only [zCont, Option.toList, List.cons_append, List.nil_append]
  have fx := sse.fr (r := 1) (by show ¬ _ = _; decide) x ox (by rw [kx]; decide)
  replace f0 : fi_ hse x 0 = 0 := (fx.2.2.2.1 0).trans f0
  replace f1 : fr_ hse x 1 = some bu := (fx.2.2.2.2.2.1 1).trans f1
  replace ubu := ubu.fr (sse.fr (r := 2) (by show ¬ _ = _; decide))
  replace ox : ose x = 1 := sse.own (by rw [kx]; decide) ox
  replace kx : kd_ hse x = 15 := sse.kd kx (by decide)
  replace ss : zStep zOwn o h ose hse := ss.trans (sse.mono (fun q hq => by show q ≠ 0; rw [show q = _ from hq]; first | decide | (unfold rg; omega)))
  clear sse
  refine r_putrF hg zc_X11 2 (by decide) rfl (fun _ _ _ => rfl) rfl rfl (by decide) kx rfl rfl (Or.inl rfl) (tb_1 123 _ rfl) 31 rfl (dd_X11_init_0 14 _ _ _ rfl) ?_
  have pp : zStep (fun q => q = 1) ose hse ose (sfr hse x 2 (some se)) := step_sfr (R := fun q => q = 1) ox
  replace ubu := ubu.fr (pp.fr (r := 2) (by show ¬ _ = _; decide))
  replace use := use.fr (pp.fr (r := 3) (by show ¬ _ = _; decide))
  replace f0 : fi_ (sfr hse x 2 (some se)) x 0 = 0 := f0
  replace f1 : fr_ (sfr hse x 2 (some se)) x 1 = some bu := (zu2_ne (fun q => by omega)).trans f1
  have f2 : fr_ (sfr hse x 2 (some se)) x 2 = some se := zu2_at
  replace kx : kd_ (sfr hse x 2 (some se)) x = 15 := kx
  replace ss : zStep zOwn o h ose (sfr hse x 2 (some se)) := ss.trans (pp.mono (fun q hq => by show q ≠ 0; rw [show q = _ from hq]; first | decide | (unfold rg; omega)))
  clear pp
  generalize (sfr hse x 2 (some se)) = g3 at ubu use f0 f1 f2 kx ss ⊢
  refine r_aload_0 32 rfl (dd_X11_init_0 15 _ _ _ rfl) ?_
  refine r_new 17 60 hg zc_Jx4a65c (tb_1 77 _ rfl) (tb_1 78 _ rfl) (tb_1 6 _ rfl) (Nat.le_of_ble_eq_true rfl) (Nat.le_of_ble_eq_true rfl) zd_Jx4a65c 35 rfl (dd_X11_init_0 16 _ _ _ rfl) (fun lv hz_lv => ?_)
  refine r_dup rfl 36 rfl (dd_X11_init_0 17 _ _ _ rfl) ?_
  refine r_callI0 (lvl := 12) (mc1 := 0) (ms1 := 0) 17 60 hg rfl md_Jx4a65c_init_da8c8 wi_Jx4a65c_init_da8c8 rfl rfl (tb_1 79 _ rfl) (by decide) (by decide) rfl (Nat.le_of_ble_eq_true rfl) (Nat.le_of_ble_eq_true rfl) (Nat.le_of_ble_eq_true rfl) 39 rfl (dd_X11_init_0 18 _ _ _ rfl) ?_
  refine c_Jx4a65c_init_da8c8 hg zu1_at ?_
  obtain ⟨ulv, slv⟩ := list_new (g := g) (o := ose) (r := 4) hz_lv
  dsimp only [zCont, Option.toList, List.cons_append, List.nil_append]
  have fx := slv.fr (r := 1) (by show ¬ _ = _; decide) x ox (by rw [kx]; decide)
  replace f0 : fi_ (sfr (sfi (nob g3 lv 2) lv 0 0) lv 1 (some (ge_ g))) x 0 = 0 := (fx.2.2.2.1 0).trans f0
  replace f1 : fr_ (sfr (sfi (nob g3 lv 2) lv 0 0) lv 1 (some (ge_ g))) x 1 = some bu := (fx.2.2.2.2.2.1 1).trans f1
  replace f2 : fr_ (sfr (sfi (nob g3 lv 2) lv 0 0) lv 1 (some (ge_ g))) x 2 = some se := (fx.2.2.2.2.2.1 2).trans f2
  replace ubu := ubu.fr (slv.fr (r := 2) (by show ¬ _ = _; decide))
  replace use := use.fr (slv.fr (r := 3) (by show ¬ _ = _; decide))
  replace ox : (zu1 ose lv 4) x = 1 := slv.own (by rw [kx]; decide) ox
  replace kx : kd_ (sfr (sfi (nob g3 lv 2) lv 0 0) lv 1 (some (ge_ g))) x = 15 := slv.kd kx (by decide)
  replace ss : zStep zOwn o h (zu1 ose lv 4) (sfr (sfi (nob g3 lv 2) lv 0 0) lv 1 (some (ge_ g))) := ss.trans (slv.mono (fun q hq => by show q ≠ 0; rw [show q = _ from hq]; first | decide | (unfold rg; omega)))
  skip
  refine r_putrF hg zc_X11 3 (by decide) rfl (fun _ _ _ => rfl) rfl rfl (by decide) kx rfl rfl (Or.inl rfl) (tb_1 124 _ rfl) 42 rfl (dd_X11_init_0 19 _ _ _ rfl) ?_
  have pp : zStep (fun q => q = 1) (zu1 ose lv 4) (sfr (sfi (nob g3 lv 2) lv 0 0) lv 1 (some (ge_ g))) (zu1 ose lv 4) (sfr (sfr (sfi (nob g3 lv 2) lv 0 0) lv 1 (some (ge_ g))) x 3 (some lv)) := step_sfr (R := fun q => q = 1) ox
  replace ubu := ubu.fr (pp.fr (r := 2) (by show ¬ _ = _; decide))
  replace use := use.fr (pp.fr (r := 3) (by show ¬ _ = _; decide))
  replace ulv := ulv.fr (pp.fr (r := 4) (by show ¬ _ = _; decide))
  replace f0 : fi_ (sfr (sfr (sfi (nob g3 lv 2) lv 0 0) lv 1 (some (ge_ g))) x 3 (some lv)) x 0 = 0 := f0
  replace f1 : fr_ (sfr (sfr (sfi (nob g3 lv 2) lv 0 0) lv 1 (some (ge_ g))) x 3 (some lv)) x 1 = some bu := (zu2_ne (fun q => by omega)).trans f1
  replace f2 : fr_ (sfr (sfr (sfi (nob g3 lv 2) lv 0 0) lv 1 (some (ge_ g))) x 3 (some lv)) x 2 = some se := (zu2_ne (fun q => by omega)).trans f2
  have f3 : fr_ (sfr (sfr (sfi (nob g3 lv 2) lv 0 0) lv 1 (some (ge_ g))) x 3 (some lv)) x 3 = some lv := zu2_at
  replace kx : kd_ (sfr (sfr (sfi (nob g3 lv 2) lv 0 0) lv 1 (some (ge_ g))) x 3 (some lv)) x = 15 := kx
  replace ss : zStep zOwn o h (zu1 ose lv 4) (sfr (sfr (sfi (nob g3 lv 2) lv 0 0) lv 1 (some (ge_ g))) x 3 (some lv)) := ss.trans (pp.mono (fun q hq => by show q ≠ 0; rw [show q = _ from hq]; first | decide | (unfold rg; omega)))
  clear pp
  generalize (sfr (sfr (sfi (nob g3 lv 2) lv 0 0) lv 1 (some (ge_ g))) x 3 (some lv)) = g4 at ubu use ulv f0 f1 f2 f3 kx ss ⊢
  obtain ⟨olv, holv⟩ : ∃ q, q = (zu1 ose lv 4) := ⟨_, rfl⟩
  rw [← holv] at ox ss ubu use ulv
  refine r_aload_0 43 rfl (dd_X11_init_0 20 _ _ _ rfl) ?_
  refine r_new 16 57 hg zc_Jx4a65c (tb_1 77 _ rfl) (tb_1 78 _ rfl) (tb_1 6 _ rfl) (Nat.le_of_ble_eq_true rfl) (Nat.le_of_ble_eq_true rfl) zd_Jx4a65c 46 rfl (dd_X11_init_0 21 _ _ _ rfl) (fun lp hz_lp => ?_)
  refine r_dup rfl 47 rfl (dd_X11_init_0 22 _ _ _ rfl) ?_
  refine r_callI0 (lvl := 12) (mc1 := 0) (ms1 := 0) 16 57 hg rfl md_Jx4a65c_init_da8c8 wi_Jx4a65c_init_da8c8 rfl rfl (tb_1 79 _ rfl) (by decide) (by decide) rfl (Nat.le_of_ble_eq_true rfl) (Nat.le_of_ble_eq_true rfl) (Nat.le_of_ble_eq_true rfl) 50 rfl (dd_X11_init_0 23 _ _ _ rfl) ?_
  refine c_Jx4a65c_init_da8c8 hg zu1_at ?_
  obtain ⟨ulp, slp⟩ := list_new (g := g) (o := olv) (r := 5) hz_lp
  dsimp only [zCont, Option.toList, List.cons_append, List.nil_append]
  have fx := slp.fr (r := 1) (by show ¬ _ = _; decide) x ox (by rw [kx]; decide)
  replace f0 : fi_ (sfr (sfi (nob g4 lp 2) lp 0 0) lp 1 (some (ge_ g))) x 0 = 0 := (fx.2.2.2.1 0).trans f0
  replace f1 : fr_ (sfr (sfi (nob g4 lp 2) lp 0 0) lp 1 (some (ge_ g))) x 1 = some bu := (fx.2.2.2.2.2.1 1).trans f1
  replace f2 : fr_ (sfr (sfi (nob g4 lp 2) lp 0 0) lp 1 (some (ge_ g))) x 2 = some se := (fx.2.2.2.2.2.1 2).trans f2
  replace f3 : fr_ (sfr (sfi (nob g4 lp 2) lp 0 0) lp 1 (some (ge_ g))) x 3 = some lv := (fx.2.2.2.2.2.1 3).trans f3
  replace ubu := ubu.fr (slp.fr (r := 2) (by show ¬ _ = _; decide))
  replace use := use.fr (slp.fr (r := 3) (by show ¬ _ = _; decide))
  replace ulv := ulv.fr (slp.fr (r := 4) (by show ¬ _ = _; decide))
  replace ox : (zu1 olv lp 5) x = 1 := slp.own (by rw [kx]; decide) ox
  replace kx : kd_ (sfr (sfi (nob g4 lp 2) lp 0 0) lp 1 (some (ge_ g))) x = 15 := slp.kd kx (by decide)
  replace ss : zStep zOwn o h (zu1 olv lp 5) (sfr (sfi (nob g4 lp 2) lp 0 0) lp 1 (some (ge_ g))) := ss.trans (slp.mono (fun q hq => by show q ≠ 0; rw [show q = _ from hq]; first | decide | (unfold rg; omega)))
  skip
  refine r_putrF hg zc_X11 4 (by decide) rfl (fun _ _ _ => rfl) rfl rfl (by decide) kx rfl rfl (Or.inl rfl) (tb_1 125 _ rfl) 53 rfl (dd_X11_init_0 24 _ _ _ rfl) ?_
  have pp : zStep (fun q => q = 1) (zu1 olv lp 5) (sfr (sfi (nob g4 lp 2) lp 0 0) lp 1 (some (ge_ g))) (zu1 olv lp 5) (sfr (sfr (sfi (nob g4 lp 2) lp 0 0) lp 1 (some (ge_ g))) x 4 (some lp)) := step_sfr (R := fun q => q = 1) ox
  replace ubu := ubu.fr (pp.fr (r := 2) (by show ¬ _ = _; decide))
  replace use := use.fr (pp.fr (r := 3) (by show ¬ _ = _; decide))
  replace ulv := ulv.fr (pp.fr (r := 4) (by show ¬ _ = _; decide))
  replace ulp := ulp.fr (pp.fr (r := 5) (by show ¬ _ = _; decide))
  replace f0 : fi_ (sfr (sfr (sfi (nob g4 lp 2) lp 0 0) lp 1 (some (ge_ g))) x 4 (some lp)) x 0 = 0 := f0
  replace f1 : fr_ (sfr (sfr (sfi (nob g4 lp 2) lp 0 0) lp 1 (some (ge_ g))) x 4 (some lp)) x 1 = some bu := (zu2_ne (fun q => by omega)).trans f1
  replace f2 : fr_ (sfr (sfr (sfi (nob g4 lp 2) lp 0 0) lp 1 (some (ge_ g))) x 4 (some lp)) x 2 = some se := (zu2_ne (fun q => by omega)).trans f2
  replace f3 : fr_ (sfr (sfr (sfi (nob g4 lp 2) lp 0 0) lp 1 (some (ge_ g))) x 4 (some lp)) x 3 = some lv := (zu2_ne (fun q => by omega)).trans f3
  have f4 : fr_ (sfr (sfr (sfi (nob g4 lp 2) lp 0 0) lp 1 (some (ge_ g))) x 4 (some lp)) x 4 = some lp := zu2_at
  replace kx : kd_ (sfr (sfr (sfi (nob g4 lp 2) lp 0 0) lp 1 (some (ge_ g))) x 4 (some lp)) x = 15 := kx
  replace ss : zStep zOwn o h (zu1 olv lp 5) (sfr (sfr (sfi (nob g4 lp 2) lp 0 0) lp 1 (some (ge_ g))) x 4 (some lp)) := ss.trans (pp.mono (fun q hq => by show q ≠ 0; rw [show q = _ from hq]; first | decide | (unfold rg; omega)))
  clear pp
  generalize (sfr (sfr (sfi (nob g4 lp 2) lp 0 0) lp 1 (some (ge_ g))) x 4 (some lp)) = g5 at ubu use ulv ulp f0 f1 f2 f3 f4 kx ss ⊢
  obtain ⟨olp, holp⟩ : ∃ q, q = (zu1 olv lp 5) := ⟨_, rfl⟩
  rw [← holp] at ox ss ubu use ulv ulp
  refine r_aload_0 54 rfl (dd_X11_init_0 25 _ _ _ rfl) ?_
  refine r_iconst 55 rfl (dd_X11_init_0 26 _ _ _ rfl) ?_
  refine r_anewarray 26 15 53 hg (Or.inr ⟨rfl, rfl⟩) (tb_1 103 _ rfl) (va_AO.of (hg.2.1 _ (tb_1 104 _ rfl))) (by omega) (by omega) (Nat.le_of_ble_eq_true rfl) (Nat.le_of_ble_eq_true rfl) 58 rfl (dd_X11_init_0 27 _ _ _ rfl) (fun ra hz_ra => ?_)
  have sra : zStep (fun q => q = 6) olp g5 (zu1 olp ra 6) (nar g5 ra 26 (4 : Int).toNat) := step_nar hz_ra
  have fx := sra.fr (r := 1) (by show ¬ _ = _; decide) x ox (by rw [kx]; decide)
  replace f0 : fi_ (nar g5 ra 26 (4 : Int).toNat) x 0 = 0 := (fx.2.2.2.1 0).trans f0
  replace f1 : fr_ (nar g5 ra 26 (4 : Int).toNat) x 1 = some bu := (fx.2.2.2.2.2.1 1).trans f1
  replace f2 : fr_ (nar g5 ra 26 (4 : Int).toNat) x 2 = some se := (fx.2.2.2.2.2.1 2).trans f2
  replace f3 : fr_ (nar g5 ra 26 (4 : Int).toNat) x 3 = some lv := (fx.2.2.2.2.2.1 3).trans f3
  replace f4 : fr_ (nar g5 ra 26 (4 : Int).toNat) x 4 = some lp := (fx.2.2.2.2.2.1 4).trans f4
  replace ubu := ubu.fr (sra.fr (r := 2) (by show ¬ _ = _; decide))
  replace use := use.fr (sra.fr (r := 3) (by show ¬ _ = _; decide))
  replace ulv := ulv.fr (sra.fr (r := 4) (by show ¬ _ = _; decide))
  replace ulp := ulp.fr (sra.fr (r := 5) (by show ¬ _ = _; decide))
  replace ox : (zu1 olp ra 6) x = 1 := sra.own (by rw [kx]; decide) ox
  replace kx : kd_ (nar g5 ra 26 (4 : Int).toNat) x = 15 := sra.kd kx (by decide)
  replace ss : zStep zOwn o h (zu1 olp ra 6) (nar g5 ra 26 (4 : Int).toNat) := ss.trans (sra.mono (fun q hq => by show q ≠ 0; rw [show q = _ from hq]; first | decide | (unfold rg; omega)))
  have ura : RaP (zu1 olp ra 6) 6 (nar g5 ra 26 (4 : Int).toNat) ra (fun _ => 0) 0 := ⟨zu1_at, zu1_at, zu1_at, fun i hi => absurd hi (by omega)⟩
  refine r_putrF hg zc_X11 5 (by decide) rfl (fun _ _ _ => rfl) rfl rfl (by decide) kx rfl rfl (Or.inl rfl) (tb_1 126 _ rfl) 61 rfl (dd_X11_init_0 28 _ _ _ rfl) ?_
  have pp : zStep (fun q => q = 1) (zu1 olp ra 6) (nar g5 ra 26 (4 : Int).toNat) (zu1 olp ra 6) (sfr (nar g5 ra 26 (4 : Int).toNat) x 5 (some ra)) := step_sfr (R := fun q => q = 1) ox
  replace ubu := ubu.fr (pp.fr (r := 2) (by show ¬ _ = _; decide))
  replace use := use.fr (pp.fr (r := 3) (by show ¬ _ = _; decide))
  replace ulv := ulv.fr (pp.fr (r := 4) (by show ¬ _ = _; decide))
  replace ulp := ulp.fr (pp.fr (r := 5) (by show ¬ _ = _; decide))
  replace ura := ura.fr (pp.fr (r := 6) (by show ¬ _ = _; decide))
  replace f0 : fi_ (sfr (nar g5 ra 26 (4 : Int).toNat) x 5 (some ra)) x 0 = 0 := f0
  replace f1 : fr_ (sfr (nar g5 ra 26 (4 : Int).toNat) x 5 (some ra)) x 1 = some bu := (zu2_ne (fun q => by omega)).trans f1
  replace f2 : fr_ (sfr (nar g5 ra 26 (4 : Int).toNat) x 5 (some ra)) x 2 = some se := (zu2_ne (fun q => by omega)).trans f2
  replace f3 : fr_ (sfr (nar g5 ra 26 (4 : Int).toNat) x 5 (some ra)) x 3 = some lv := (zu2_ne (fun q => by omega)).trans f3
  replace f4 : fr_ (sfr (nar g5 ra 26 (4 : Int).toNat) x 5 (some ra)) x 4 = some lp := (zu2_ne (fun q => by omega)).trans f4
  have f5 : fr_ (sfr (nar g5 ra 26 (4 : Int).toNat) x 5 (some ra)) x 5 = some ra := zu2_at
  replace kx : kd_ (sfr (nar g5 ra 26 (4 : Int).toNat) x 5 (some ra)) x = 15 := kx
  replace ss : zStep zOwn o h (zu1 olp ra 6) (sfr (nar g5 ra 26 (4 : Int).toNat) x 5 (some ra)) := ss.trans (pp.mono (fun q hq => by show q ≠ 0; rw [show q = _ from hq]; first | decide | (unfold rg; omega)))
  clear pp
  generalize (sfr (nar g5 ra 26 (4 : Int).toNat) x 5 (some ra)) = g6 at ubu use ulv ulp ura f0 f1 f2 f3 f4 f5 kx ss ⊢
  obtain ⟨ora, hora⟩ : ∃ q, q = (zu1 olp ra 6) := ⟨_, rfl⟩
  rw [← hora] at ox ss ubu use ulv ulp ura
  refine r_aload_0 62 rfl (dd_X11_init_0 29 _ _ _ rfl) ?_
  refine r_iconst 63 rfl (dd_X11_init_0 30 _ _ _ rfl) ?_
  refine r_puti hg zc_X11 6 (by decide) rfl (fun _ _ _ => rfl) rfl rfl (by decide) kx (Or.inl rfl) (tb_1 127 _ rfl) 66 rfl (dd_X11_init_0 31 _ _ _ rfl) ?_
  have pp : zStep (fun q => q = 1) ora g6 ora (sfi g6 x 6 0) := step_sfi (R := fun q => q = 1) ox
  replace ubu := ubu.fr (pp.fr (r := 2) (by show ¬ _ = _; decide))
  replace use := use.fr (pp.fr (r := 3) (by show ¬ _ = _; decide))
  replace ulv := ulv.fr (pp.fr (r := 4) (by show ¬ _ = _; decide))
  replace ulp := ulp.fr (pp.fr (r := 5) (by show ¬ _ = _; decide))
  replace ura := ura.fr (pp.fr (r := 6) (by show ¬ _ = _; decide))
  replace f0 : fi_ (sfi g6 x 6 0) x 0 = 0 := (zu2_ne (fun q => by omega)).trans f0
  replace f1 : fr_ (sfi g6 x 6 0) x 1 = some bu := f1
  replace f2 : fr_ (sfi g6 x 6 0) x 2 = some se := f2
  replace f3 : fr_ (sfi g6 x 6 0) x 3 = some lv := f3
  replace f4 : fr_ (sfi g6 x 6 0) x 4 = some lp := f4
  replace f5 : fr_ (sfi g6 x 6 0) x 5 = some ra := f5
  have f6 : fi_ (sfi g6 x 6 0) x 6 = 0 := zu2_at
  replace kx : kd_ (sfi g6 x 6 0) x = 15 := kx
  replace ss : zStep zOwn o h ora (sfi g6 x 6 0) := ss.trans (pp.mono (fun q hq => by show q ≠ 0; rw [show q = _ from hq]; first | decide | (unfold rg; omega)))
  clear pp
  generalize (sfi g6 x 6 0) = g7 at ubu use ulv ulp ura f0 f1 f2 f3 f4 f5 f6 kx ss ⊢
  refine r_aload_0 67 rfl (dd_X11_init_0 32 _ _ _ rfl) ?_
  refine r_new 14 50 hg zc_Jx4a65c (tb_1 77 _ rfl) (tb_1 78 _ rfl) (tb_1 6 _ rfl) (Nat.le_of_ble_eq_true rfl) (Nat.le_of_ble_eq_true rfl) zd_Jx4a65c 70 rfl (dd_X11_init_0 33 _ _ _ rfl) (fun ls hz_ls => ?_)
  refine r_dup rfl 71 rfl (dd_X11_init_0 34 _ _ _ rfl) ?_
  refine r_callI0 (lvl := 12) (mc1 := 0) (ms1 := 0) 14 50 hg rfl md_Jx4a65c_init_da8c8 wi_Jx4a65c_init_da8c8 rfl rfl (tb_1 79 _ rfl) (by decide) (by decide) rfl (Nat.le_of_ble_eq_true rfl) (Nat.le_of_ble_eq_true rfl) (Nat.le_of_ble_eq_true rfl) 74 rfl (dd_X11_init_0 35 _ _ _ rfl) ?_
  refine c_Jx4a65c_init_da8c8 hg zu1_at ?_
  obtain ⟨uls, sls⟩ := list_new (g := g) (o := ora) (r := 7) hz_ls
  dsimp only [zCont, Option.toList, List.cons_append, List.nil_append]
  have fx := sls.fr (r := 1) (by show ¬ _ = _; decide) x ox (by rw [kx]; decide)
  replace f0 : fi_ (sfr (sfi (nob g7 ls 2) ls 0 0) ls 1 (some (ge_ g))) x 0 = 0 := (fx.2.2.2.1 0).trans f0
  replace f1 : fr_ (sfr (sfi (nob g7 ls 2) ls 0 0) ls 1 (some (ge_ g))) x 1 = some bu := (fx.2.2.2.2.2.1 1).trans f1
  replace f2 : fr_ (sfr (sfi (nob g7 ls 2) ls 0 0) ls 1 (some (ge_ g))) x 2 = some se := (fx.2.2.2.2.2.1 2).trans f2
  replace f3 : fr_ (sfr (sfi (nob g7 ls 2) ls 0 0) ls 1 (some (ge_ g))) x 3 = some lv := (fx.2.2.2.2.2.1 3).trans f3
  replace f4 : fr_ (sfr (sfi (nob g7 ls 2) ls 0 0) ls 1 (some (ge_ g))) x 4 = some lp := (fx.2.2.2.2.2.1 4).trans f4
  replace f5 : fr_ (sfr (sfi (nob g7 ls 2) ls 0 0) ls 1 (some (ge_ g))) x 5 = some ra := (fx.2.2.2.2.2.1 5).trans f5
  replace f6 : fi_ (sfr (sfi (nob g7 ls 2) ls 0 0) ls 1 (some (ge_ g))) x 6 = 0 := (fx.2.2.2.1 6).trans f6
  replace ubu := ubu.fr (sls.fr (r := 2) (by show ¬ _ = _; decide))
  replace use := use.fr (sls.fr (r := 3) (by show ¬ _ = _; decide))
  replace ulv := ulv.fr (sls.fr (r := 4) (by show ¬ _ = _; decide))
  replace ulp := ulp.fr (sls.fr (r := 5) (by show ¬ _ = _; decide))
  replace ura := ura.fr (sls.fr (r := 6) (by show ¬ _ = _; decide))
  replace ox : (zu1 ora ls 7) x = 1 := sls.own (by rw [kx]; decide) ox
  replace kx : kd_ (sfr (sfi (nob g7 ls 2) ls 0 0) ls 1 (some (ge_ g))) x = 15 := sls.kd kx (by decide)
  replace ss : zStep zOwn o h (zu1 ora ls 7) (sfr (sfi (nob g7 ls 2) ls 0 0) ls 1 (some (ge_ g))) := ss.trans (sls.mono (fun q hq => by show q ≠ 0; rw [show q = _ from hq]; first | decide | (unfold rg; omega)))
  skip
  refine r_putrF hg zc_X11 7 (by decide) rfl (fun _ _ _ => rfl) rfl rfl (by decide) kx rfl rfl (Or.inl rfl) (tb_1 128 _ rfl) 77 rfl (dd_X11_init_0 36 _ _ _ rfl) ?_
  have pp : zStep (fun q => q = 1) (zu1 ora ls 7) (sfr (sfi (nob g7 ls 2) ls 0 0) ls 1 (some (ge_ g))) (zu1 ora ls 7) (sfr (sfr (sfi (nob g7 ls 2) ls 0 0) ls 1 (some (ge_ g))) x 7 (some ls)) := step_sfr (R := fun q => q = 1) ox
  replace ubu := ubu.fr (pp.fr (r := 2) (by show ¬ _ = _; decide))
  replace use := use.fr (pp.fr (r := 3) (by show ¬ _ = _; decide))
  replace ulv := ulv.fr (pp.fr (r := 4) (by show ¬ _ = _; decide))
  replace ulp := ulp.fr (pp.fr (r := 5) (by show ¬ _ = _; decide))
  replace ura := ura.fr (pp.fr (r := 6) (by show ¬ _ = _; decide))
  replace uls := uls.fr (pp.fr (r := 7) (by show ¬ _ = _; decide))
  replace f0 : fi_ (sfr (sfr (sfi (nob g7 ls 2) ls 0 0) ls 1 (some (ge_ g))) x 7 (some ls)) x 0 = 0 := f0
  replace f1 : fr_ (sfr (sfr (sfi (nob g7 ls 2) ls 0 0) ls 1 (some (ge_ g))) x 7 (some ls)) x 1 = some bu := (zu2_ne (fun q => by omega)).trans f1
  replace f2 : fr_ (sfr (sfr (sfi (nob g7 ls 2) ls 0 0) ls 1 (some (ge_ g))) x 7 (some ls)) x 2 = some se := (zu2_ne (fun q => by omega)).trans f2
  replace f3 : fr_ (sfr (sfr (sfi (nob g7 ls 2) ls 0 0) ls 1 (some (ge_ g))) x 7 (some ls)) x 3 = some lv := (zu2_ne (fun q => by omega)).trans f3
  replace f4 : fr_ (sfr (sfr (sfi (nob g7 ls 2) ls 0 0) ls 1 (some (ge_ g))) x 7 (some ls)) x 4 = some lp := (zu2_ne (fun q => by omega)).trans f4
  replace f5 : fr_ (sfr (sfr (sfi (nob g7 ls 2) ls 0 0) ls 1 (some (ge_ g))) x 7 (some ls)) x 5 = some ra := (zu2_ne (fun q => by omega)).trans f5
  replace f6 : fi_ (sfr (sfr (sfi (nob g7 ls 2) ls 0 0) ls 1 (some (ge_ g))) x 7 (some ls)) x 6 = 0 := f6
  have f7 : fr_ (sfr (sfr (sfi (nob g7 ls 2) ls 0 0) ls 1 (some (ge_ g))) x 7 (some ls)) x 7 = some ls := zu2_at
  replace kx : kd_ (sfr (sfr (sfi (nob g7 ls 2) ls 0 0) ls 1 (some (ge_ g))) x 7 (some ls)) x = 15 := kx
  replace ss : zStep zOwn o h (zu1 ora ls 7) (sfr (sfr (sfi (nob g7 ls 2) ls 0 0) ls 1 (some (ge_ g))) x 7 (some ls)) := ss.trans (pp.mono (fun q hq => by show q ≠ 0; rw [show q = _ from hq]; first | decide | (unfold rg; omega)))
  clear pp
  generalize (sfr (sfr (sfi (nob g7 ls 2) ls 0 0) ls 1 (some (ge_ g))) x 7 (some ls)) = g8 at ubu use ulv ulp ura uls f0 f1 f2 f3 f4 f5 f6 f7 kx ss ⊢
  obtain ⟨ols, hols⟩ : ∃ q, q = (zu1 ora ls 7) := ⟨_, rfl⟩
  rw [← hols] at ox ss ubu use ulv ulp ura uls
  refine r_aload_0 78 rfl (dd_X11_init_0 37 _ _ _ rfl) ?_
  refine r_new 13 47 hg zc_Jx4a65c (tb_1 77 _ rfl) (tb_1 78 _ rfl) (tb_1 6 _ rfl) (Nat.le_of_ble_eq_true rfl) (Nat.le_of_ble_eq_true rfl) zd_Jx4a65c 81 rfl (dd_X11_init_0 38 _ _ _ rfl) (fun lt hz_lt => ?_)
  refine r_dup rfl 82 rfl (dd_X11_init_0 39 _ _ _ rfl) ?_
  refine r_callI0 (lvl := 12) (mc1 := 0) (ms1 := 0) 13 47 hg rfl md_Jx4a65c_init_da8c8 wi_Jx4a65c_init_da8c8 rfl rfl (tb_1 79 _ rfl) (by decide) (by decide) rfl (Nat.le_of_ble_eq_true rfl) (Nat.le_of_ble_eq_true rfl) (Nat.le_of_ble_eq_true rfl) 85 rfl (dd_X11_init_0 40 _ _ _ rfl) ?_
  refine c_Jx4a65c_init_da8c8 hg zu1_at ?_
  obtain ⟨ult, slt⟩ := list_new (g := g) (o := ols) (r := 8) hz_lt
  dsimp only [zCont, Option.toList, List.cons_append, List.nil_append]
  have fx := slt.fr (r := 1) (by show ¬ _ = _; decide) x ox (by rw [kx]; decide)
  replace f0 : fi_ (sfr (sfi (nob g8 lt 2) lt 0 0) lt 1 (some (ge_ g))) x 0 = 0 := (fx.2.2.2.1 0).trans f0
  replace f1 : fr_ (sfr (sfi (nob g8 lt 2) lt 0 0) lt 1 (some (ge_ g))) x 1 = some bu := (fx.2.2.2.2.2.1 1).trans f1
  replace f2 : fr_ (sfr (sfi (nob g8 lt 2) lt 0 0) lt 1 (some (ge_ g))) x 2 = some se := (fx.2.2.2.2.2.1 2).trans f2
  replace f3 : fr_ (sfr (sfi (nob g8 lt 2) lt 0 0) lt 1 (some (ge_ g))) x 3 = some lv := (fx.2.2.2.2.2.1 3).trans f3
  replace f4 : fr_ (sfr (sfi (nob g8 lt 2) lt 0 0) lt 1 (some (ge_ g))) x 4 = some lp := (fx.2.2.2.2.2.1 4).trans f4
  replace f5 : fr_ (sfr (sfi (nob g8 lt 2) lt 0 0) lt 1 (some (ge_ g))) x 5 = some ra := (fx.2.2.2.2.2.1 5).trans f5
  replace f6 : fi_ (sfr (sfi (nob g8 lt 2) lt 0 0) lt 1 (some (ge_ g))) x 6 = 0 := (fx.2.2.2.1 6).trans f6
  replace f7 : fr_ (sfr (sfi (nob g8 lt 2) lt 0 0) lt 1 (some (ge_ g))) x 7 = some ls := (fx.2.2.2.2.2.1 7).trans f7
  replace ubu := ubu.fr (slt.fr (r := 2) (by show ¬ _ = _; decide))
  replace use := use.fr (slt.fr (r := 3) (by show ¬ _ = _; decide))
  replace ulv := ulv.fr (slt.fr (r := 4) (by show ¬ _ = _; decide))
  replace ulp := ulp.fr (slt.fr (r := 5) (by show ¬ _ = _; decide))
  replace ura := ura.fr (slt.fr (r := 6) (by show ¬ _ = _; decide))
  replace uls := uls.fr (slt.fr (r := 7) (by show ¬ _ = _; decide))
  replace ox : (zu1 ols lt 8) x = 1 := slt.own (by rw [kx]; decide) ox
  replace kx : kd_ (sfr (sfi (nob g8 lt 2) lt 0 0) lt 1 (some (ge_ g))) x = 15 := slt.kd kx (by decide)
  replace ss : zStep zOwn o h (zu1 ols lt 8) (sfr (sfi (nob g8 lt 2) lt 0 0) lt 1 (some (ge_ g))) := ss.trans (slt.mono (fun q hq => by show q ≠ 0; rw [show q = _ from hq]; first | decide | (unfold rg; omega)))
  skip
  refine r_putrF hg zc_X11 8 (by decide) rfl (fun _ _ _ => rfl) rfl rfl (by decide) kx rfl rfl (Or.inl rfl) (tb_1 129 _ rfl) 88 rfl (dd_X11_init_0 41 _ _ _ rfl) ?_
  have pp : zStep (fun q => q = 1) (zu1 ols lt 8) (sfr (sfi (nob g8 lt 2) lt 0 0) lt 1 (some (ge_ g))) (zu1 ols lt 8) (sfr (sfr (sfi (nob g8 lt 2) lt 0 0) lt 1 (some (ge_ g))) x 8 (some lt)) := step_sfr (R := fun q => q = 1) ox
  replace ubu := ubu.fr (pp.fr (r := 2) (by show ¬ _ = _; decide))
  replace use := use.fr (pp.fr (r := 3) (by show ¬ _ = _; decide))
  replace ulv := ulv.fr (pp.fr (r := 4) (by show ¬ _ = _; decide))
  replace ulp := ulp.fr (pp.fr (r := 5) (by show ¬ _ = _; decide))
  replace ura := ura.fr (pp.fr (r := 6) (by show ¬ _ = _; decide))
  replace uls := uls.fr (pp.fr (r := 7) (by show ¬ _ = _; decide))
  replace ult := ult.fr (pp.fr (r := 8) (by show ¬ _ = _; decide))
  replace f0 : fi_ (sfr (sfr (sfi (nob g8 lt 2) lt 0 0) lt 1 (some (ge_ g))) x 8 (some lt)) x 0 = 0 := f0
  replace f1 : fr_ (sfr (sfr (sfi (nob g8 lt 2) lt 0 0) lt 1 (some (ge_ g))) x 8 (some lt)) x 1 = some bu := (zu2_ne (fun q => by omega)).trans f1
  replace f2 : fr_ (sfr (sfr (sfi (nob g8 lt 2) lt 0 0) lt 1 (some (ge_ g))) x 8 (some lt)) x 2 = some se := (zu2_ne (fun q => by omega)).trans f2
  replace f3 : fr_ (sfr (sfr (sfi (nob g8 lt 2) lt 0 0) lt 1 (some (ge_ g))) x 8 (some lt)) x 3 = some lv := (zu2_ne (fun q => by omega)).trans f3
  replace f4 : fr_ (sfr (sfr (sfi (nob g8 lt 2) lt 0 0) lt 1 (some (ge_ g))) x 8 (some lt)) x 4 = some lp := (zu2_ne (fun q => by omega)).trans f4
  replace f5 : fr_ (sfr (sfr (sfi (nob g8 lt 2) lt 0 0) lt 1 (some (ge_ g))) x 8 (some lt)) x 5 = some ra := (zu2_ne (fun q => by omega)).trans f5
  replace f6 : fi_ (sfr (sfr (sfi (nob g8 lt 2) lt 0 0) lt 1 (some (ge_ g))) x 8 (some lt)) x 6 = 0 := f6
  replace f7 : fr_ (sfr (sfr (sfi (nob g8 lt 2) lt 0 0) lt 1 (some (ge_ g))) x 8 (some lt)) x 7 = some ls := (zu2_ne (fun q => by omega)).trans f7
  have f8 : fr_ (sfr (sfr (sfi (nob g8 lt 2) lt 0 0) lt 1 (some (ge_ g))) x 8 (some lt)) x 8 = some lt := zu2_at
  replace kx : kd_ (sfr (sfr (sfi (nob g8 lt 2) lt 0 0) lt 1 (some (ge_ g))) x 8 (some lt)) x = 15 := kx
  replace ss : zStep zOwn o h (zu1 ols lt 8) (sfr (sfr (sfi (nob g8 lt 2) lt 0 0) lt 1 (some (ge_ g))) x 8 (some lt)) := ss.trans (pp.mono (fun q hq => by show q ≠ 0; rw [show q = _ from hq]; first | decide | (unfold rg; omega)))
  clear pp
  generalize (sfr (sfr (sfi (nob g8 lt 2) lt 0 0) lt 1 (some (ge_ g))) x 8 (some lt)) = g9 at ubu use ulv ulp ura uls ult f0 f1 f2 f3 f4 f5 f6 f7 f8 kx ss ⊢
  obtain ⟨olt, holt⟩ : ∃ q, q = (zu1 ols lt 8) := ⟨_, rfl⟩
  rw [← holt] at ox ss ubu use ulv ulp ura uls ult
  refine r_aload_0 89 rfl (dd_X11_init_0 42 _ _ _ rfl) ?_
  refine r_new 12 44 hg zc_Jx4a65c (tb_1 77 _ rfl) (tb_1 78 _ rfl) (tb_1 6 _ rfl) (Nat.le_of_ble_eq_true rfl) (Nat.le_of_ble_eq_true rfl) zd_Jx4a65c 92 rfl (dd_X11_init_0 43 _ _ _ rfl) (fun lf hz_lf => ?_)
  refine r_dup rfl 93 rfl (dd_X11_init_0 44 _ _ _ rfl) ?_
  refine r_callI0 (lvl := 12) (mc1 := 0) (ms1 := 0) 12 44 hg rfl md_Jx4a65c_init_da8c8 wi_Jx4a65c_init_da8c8 rfl rfl (tb_1 79 _ rfl) (by decide) (by decide) rfl (Nat.le_of_ble_eq_true rfl) (Nat.le_of_ble_eq_true rfl) (Nat.le_of_ble_eq_true rfl) 96 rfl (dd_X11_init_0 45 _ _ _ rfl) ?_
  refine c_Jx4a65c_init_da8c8 hg zu1_at ?_
  obtain ⟨ulf, slf⟩ := list_new (g := g) (o := olt) (r := 9) hz_lf
  dsimp only [zCont, Option.toList, List.cons_append, List.nil_append]
  have fx := slf.fr (r := 1) (by show ¬ _ = _; decide) x ox (by rw [kx]; decide)
  replace f0 : fi_ (sfr (sfi (nob g9 lf 2) lf 0 0) lf 1 (some (ge_ g))) x 0 = 0 := (fx.2.2.2.1 0).trans f0
  replace f1 : fr_ (sfr (sfi (nob g9 lf 2) lf 0 0) lf 1 (some (ge_ g))) x 1 = some bu := (fx.2.2.2.2.2.1 1).trans f1
  replace f2 : fr_ (sfr (sfi (nob g9 lf 2) lf 0 0) lf 1 (some (ge_ g))) x 2 = some se := (fx.2.2.2.2.2.1 2).trans f2
  replace f3 : fr_ (sfr (sfi (nob g9 lf 2) lf 0 0) lf 1 (some (ge_ g))) x 3 = some lv := (fx.2.2.2.2.2.1 3).trans f3
  replace f4 : fr_ (sfr (sfi (nob g9 lf 2) lf 0 0) lf 1 (some (ge_ g))) x 4 = some lp := (fx.2.2.2.2.2.1 4).trans f4
  replace f5 : fr_ (sfr (sfi (nob g9 lf 2) lf 0 0) lf 1 (some (ge_ g))) x 5 = some ra := (fx.2.2.2.2.2.1 5).trans f5
  replace f6 : fi_ (sfr (sfi (nob g9 lf 2) lf 0 0) lf 1 (some (ge_ g))) x 6 = 0 := (fx.2.2.2.1 6).trans f6
  replace f7 : fr_ (sfr (sfi (nob g9 lf 2) lf 0 0) lf 1 (some (ge_ g))) x 7 = some ls := (fx.2.2.2.2.2.1 7).trans f7
  replace f8 : fr_ (sfr (sfi (nob g9 lf 2) lf 0 0) lf 1 (some (ge_ g))) x 8 = some lt := (fx.2.2.2.2.2.1 8).trans f8
  replace ubu := ubu.fr (slf.fr (r := 2) (by show ¬ _ = _; decide))
  replace use := use.fr (slf.fr (r := 3) (by show ¬ _ = _; decide))
  replace ulv := ulv.fr (slf.fr (r := 4) (by show ¬ _ = _; decide))
  replace ulp := ulp.fr (slf.fr (r := 5) (by show ¬ _ = _; decide))
  replace ura := ura.fr (slf.fr (r := 6) (by show ¬ _ = _; decide))
  replace uls := uls.fr (slf.fr (r := 7) (by show ¬ _ = _; decide))
  replace ult := ult.fr (slf.fr (r := 8) (by show ¬ _ = _; decide))
  replace ox : (zu1 olt lf 9) x = 1 := slf.own (by rw [kx]; decide) ox
  replace kx : kd_ (sfr (sfi (nob g9 lf 2) lf 0 0) lf 1 (some (ge_ g))) x = 15 := slf.kd kx (by decide)
  replace ss : zStep zOwn o h (zu1 olt lf 9) (sfr (sfi (nob g9 lf 2) lf 0 0) lf 1 (some (ge_ g))) := ss.trans (slf.mono (fun q hq => by show q ≠ 0; rw [show q = _ from hq]; first | decide | (unfold rg; omega)))
  skip
  refine r_putrF hg zc_X11 9 (by decide) rfl (fun _ _ _ => rfl) rfl rfl (by decide) kx rfl rfl (Or.inl rfl) (tb_1 130 _ rfl) 99 rfl (dd_X11_init_0 46 _ _ _ rfl) ?_
  have pp : zStep (fun q => q = 1) (zu1 olt lf 9) (sfr (sfi (nob g9 lf 2) lf 0 0) lf 1 (some (ge_ g))) (zu1 olt lf 9) (sfr (sfr (sfi (nob g9 lf 2) lf 0 0) lf 1 (some (ge_ g))) x 9 (some lf)) := step_sfr (R := fun q => q = 1) ox
  replace ubu := ubu.fr (pp.fr (r := 2) (by show ¬ _ = _; decide))
  replace use := use.fr (pp.fr (r := 3) (by show ¬ _ = _; decide))
  replace ulv := ulv.fr (pp.fr (r := 4) (by show ¬ _ = _; decide))
  replace ulp := ulp.fr (pp.fr (r := 5) (by show ¬ _ = _; decide))
  replace ura := ura.fr (pp.fr (r := 6) (by show ¬ _ = _; decide))
  replace uls := uls.fr (pp.fr (r := 7) (by show ¬ _ = _; decide))
  replace ult := ult.fr (pp.fr (r := 8) (by show ¬ _ = _; decide))
  replace ulf := ulf.fr (pp.fr (r := 9) (by show ¬ _ = _; decide))
  replace f0 : fi_ (sfr (sfr (sfi (nob g9 lf 2) lf 0 0) lf 1 (some (ge_ g))) x 9 (some lf)) x 0 = 0 := f0
  replace f1 : fr_ (sfr (sfr (sfi (nob g9 lf 2) lf 0 0) lf 1 (some (ge_ g))) x 9 (some lf)) x 1 = some bu := (zu2_ne (fun q => by omega)).trans f1
  replace f2 : fr_ (sfr (sfr (sfi (nob g9 lf 2) lf 0 0) lf 1 (some (ge_ g))) x 9 (some lf)) x 2 = some se := (zu2_ne (fun q => by omega)).trans f2
  replace f3 : fr_ (sfr (sfr (sfi (nob g9 lf 2) lf 0 0) lf 1 (some (ge_ g))) x 9 (some lf)) x 3 = some lv := (zu2_ne (fun q => by omega)).trans f3
  replace f4 : fr_ (sfr (sfr (sfi (nob g9 lf 2) lf 0 0) lf 1 (some (ge_ g))) x 9 (some lf)) x 4 = some lp := (zu2_ne (fun q => by omega)).trans f4
  replace f5 : fr_ (sfr (sfr (sfi (nob g9 lf 2) lf 0 0) lf 1 (some (ge_ g))) x 9 (some lf)) x 5 = some ra := (zu2_ne (fun q => by omega)).trans f5
  replace f6 : fi_ (sfr (sfr (sfi (nob g9 lf 2) lf 0 0) lf 1 (some (ge_ g))) x 9 (some lf)) x 6 = 0 := f6
  replace f7 : fr_ (sfr (sfr (sfi (nob g9 lf 2) lf 0 0) lf 1 (some (ge_ g))) x 9 (some lf)) x 7 = some ls := (zu2_ne (fun q => by omega)).trans f7
  replace f8 : fr_ (sfr (sfr (sfi (nob g9 lf 2) lf 0 0) lf 1 (some (ge_ g))) x 9 (some lf)) x 8 = some lt := (zu2_ne (fun q => by omega)).trans f8
  have f9 : fr_ (sfr (sfr (sfi (nob g9 lf 2) lf 0 0) lf 1 (some (ge_ g))) x 9 (some lf)) x 9 = some lf := zu2_at
  replace kx : kd_ (sfr (sfr (sfi (nob g9 lf 2) lf 0 0) lf 1 (some (ge_ g))) x 9 (some lf)) x = 15 := kx
  replace ss : zStep zOwn o h (zu1 olt lf 9) (sfr (sfr (sfi (nob g9 lf 2) lf 0 0) lf 1 (some (ge_ g))) x 9 (some lf)) := ss.trans (pp.mono (fun q hq => by show q ≠ 0; rw [show q = _ from hq]; first | decide | (unfold rg; omega)))
  clear pp
  generalize (sfr (sfr (sfi (nob g9 lf 2) lf 0 0) lf 1 (some (ge_ g))) x 9 (some lf)) = g10 at ubu use ulv ulp ura uls ult ulf f0 f1 f2 f3 f4 f5 f6 f7 f8 f9 kx ss ⊢
  obtain ⟨olf, holf⟩ : ∃ q, q = (zu1 olt lf 9) := ⟨_, rfl⟩
  rw [← holf] at ox ss ubu use ulv ulp ura uls ult ulf
  refine r_iconst 100 rfl (dd_X11_init_0 47 _ _ _ rfl) ?_
  refine r_istore_1 101 rfl (by decide) rfl (dd_X11_init_0 48 _ _ _ rfl) ?_
  refine r_iload_1 102 rfl (dd_X11_init_0 49 _ _ _ rfl) ?_
  refine r_iconst 103 rfl (dd_X11_init_0 50 _ _ _ rfl) ?_
  refine r_if_icmpge (by omega) (by omega) 106 rfl 125 rfl (dd_X11_init_0 51 _ _ _ rfl) (fun q => absurd q (by omega)) (fun _ => ?_)
  refine r_aload_0 107 rfl (dd_X11_init_0 52 _ _ _ rfl) ?_
  refine r_getr hg zc_X11 5 (by decide) (fun _ _ _ => rfl) f5 kx (Or.inl rfl) (tb_1 126 _ rfl) 110 rfl (dd_X11_init_0 53 _ _ _ rfl) ?_
  refine r_iload_1 111 rfl (dd_X11_init_0 54 _ _ _ rfl) ?_
  refine r_new 11 41 hg zc_X1 (tb_1 103 _ rfl) (tb_1 105 _ rfl) (tb_1 7 _ rfl) (Nat.le_of_ble_eq_true rfl) (Nat.le_of_ble_eq_true rfl) zd_X1 114 rfl (dd_X11_init_0 55 _ _ _ rfl) (fun c0 hz_c0 => ?_)
  refine r_dup rfl 115 rfl (dd_X11_init_0 56 _ _ _ rfl) ?_
  refine r_callIN0 (lvl := 10) (mc1 := 2) (ms1 := 8) 9 33 hg rfl md_X1_init wi_X1_init rfl rfl (tb_1 106 _ rfl) (by decide) (by decide) rfl (Nat.le_of_ble_eq_true rfl) (Nat.le_of_ble_eq_true rfl) (Nat.le_of_ble_eq_true rfl) 118 rfl (dd_X11_init_0 57 _ _ _ rfl) ?_
  refine c_X1_init (o := zu1 olf c0 (rg 8 0)) (r := rg 8 0) hg zu1_at zu1_at (fun oc0 hc0 qq tt0 => ?_)
  have sc0 : zStep (fun q => q = rg 8 0) olf g10 oc0 hc0 := (step_nob hz_c0).trans tt0
  have uc0 := qq 0
  dsimp only [zCont, Option.toList, List.cons_append, List.nil_append]
  have fx := sc0.fr (r := 1) (by show ¬ _ = _; unfold rg; omega) x ox (by rw [kx]; decide)
  replace f0 : fi_ hc0 x 0 = 0 := (fx.2.2.2.1 0).trans f0
  replace f1 : fr_ hc0 x 1 = some bu := (fx.2.2.2.2.2.1 1).trans f1
  replace f2 : fr_ hc0 x 2 = some se := (fx.2.2.2.2.2.1 2).trans f2
  replace f3 : fr_ hc0 x 3 = some lv := (fx.2.2.2.2.2.1 3).trans f3
  replace f4 : fr_ hc0 x 4 = some lp := (fx.2.2.2.2.2.1 4).trans f4
  replace f5 : fr_ hc0 x 5 = some ra := (fx.2.2.2.2.2.1 5).trans f5
  replace f6 : fi_ hc0 x 6 = 0 := (fx.2.2.2.1 6).trans f6
  replace f7 : fr_ hc0 x 7 = some ls := (fx.2.2.2.2.2.1 7).trans f7
  replace f8 : fr_ hc0 x 8 = some lt := (fx.2.2.2.2.2.1 8).trans f8
  replace f9 : fr_ hc0 x 9 = some lf := (fx.2.2.2.2.2.1 9).trans f9
  replace ubu := ubu.fr (sc0.fr (r := 2) (by show ¬ _ = _; unfold rg; omega))
  replace use := use.fr (sc0.fr (r := 3) (by show ¬ _ = _; unfold rg; omega))
  replace ulv := ulv.fr (sc0.fr (r := 4) (by show ¬ _ = _; unfold rg; omega))
  replace ulp := ulp.fr (sc0.fr (r := 5) (by show ¬ _ = _; unfold rg; omega))
  replace ura := ura.fr (sc0.fr (r := 6) (by show ¬ _ = _; unfold rg; omega))
  replace uls := uls.fr (sc0.fr (r := 7) (by show ¬ _ = _; unfold rg; omega))
  replace ult := ult.fr (sc0.fr (r := 8) (by show ¬ _ = _; unfold rg; omega))
  replace ulf := ulf.fr (sc0.fr (r := 9) (by show ¬ _ = _; unfold rg; omega))
  replace ox : oc0 x = 1 := sc0.own (by rw [kx]; decide) ox
  replace kx : kd_ hc0 x = 15 := sc0.kd kx (by decide)
  replace ss : zStep zOwn o h oc0 hc0 := ss.trans (sc0.mono (fun q hq => by show q ≠ 0; rw [show q = _ from hq]; first | decide | (unfold rg; omega)))
  refine r_aastoreC hg zc_X1 ura.1 (by omega) (by omega) (by rw [ura.2.2.1]; omega) uc0.own.1 rfl 119 rfl (dd_X11_init_0 58 _ _ _ rfl) ?_
  rw [show (0 : Int).toNat = 0 from rfl]
  have pp : zStep (fun q => q = 6) oc0 hc0 oc0 (sar hc0 ra 0 (some c0)) := step_sar (R := fun q => q = 6) ura.2.1
  replace ubu := ubu.fr (pp.fr (r := 2) (by show ¬ _ = _; decide))
  replace use := use.fr (pp.fr (r := 3) (by show ¬ _ = _; decide))
  replace ulv := ulv.fr (pp.fr (r := 4) (by show ¬ _ = _; decide))
  replace ulp := ulp.fr (pp.fr (r := 5) (by show ¬ _ = _; decide))
  replace uls := uls.fr (pp.fr (r := 7) (by show ¬ _ = _; decide))
  replace ult := ult.fr (pp.fr (r := 8) (by show ¬ _ = _; decide))
  replace ulf := ulf.fr (pp.fr (r := 9) (by show ¬ _ = _; decide))
  replace uc0 := uc0.fr (pp.fr (r := rg 8 0) (by show ¬ _ = _; unfold rg; omega))
  replace ura := ura.push (c := c0)
  replace f0 : fi_ (sar hc0 ra 0 (some c0)) x 0 = 0 := f0
  replace f1 : fr_ (sar hc0 ra 0 (some c0)) x 1 = some bu := f1
  replace f2 : fr_ (sar hc0 ra 0 (some c0)) x 2 = some se := f2
  replace f3 : fr_ (sar hc0 ra 0 (some c0)) x 3 = some lv := f3
  replace f4 : fr_ (sar hc0 ra 0 (some c0)) x 4 = some lp := f4
  replace f5 : fr_ (sar hc0 ra 0 (some c0)) x 5 = some ra := f5
  replace f6 : fi_ (sar hc0 ra 0 (some c0)) x 6 = 0 := f6
  replace f7 : fr_ (sar hc0 ra 0 (some c0)) x 7 = some ls := f7
  replace f8 : fr_ (sar hc0 ra 0 (some c0)) x 8 = some lt := f8
  replace f9 : fr_ (sar hc0 ra 0 (some c0)) x 9 = some lf := f9
  replace kx : kd_ (sar hc0 ra 0 (some c0)) x = 15 := kx
  replace ss : zStep zOwn o h oc0 (sar hc0 ra 0 (some c0)) := ss.trans (pp.mono (fun q hq => by show q ≠ 0; rw [show q = _ from hq]; first | decide | (unfold rg; omega)))
  clear pp sc0
  generalize (sar hc0 ra 0 (some c0)) = g11 at ubu use ulv ulp ura uls ult ulf uc0 f0 f1 f2 f3 f4 f5 f6 f7 f8 f9 kx ss ⊢
  refine r_iinc_1 122 rfl (by decide) rfl (dd_X11_init_0 59 _ _ _ rfl) ?_
  refine r_goto 101 rfl (dd_X11_init_1 0 _ _ _ rfl) ?_
  refine r_iload_1 102 rfl (dd_X11_init_0 49 _ _ _ rfl) ?_
  refine r_iconst 103 rfl (dd_X11_init_0 50 _ _ _ rfl) ?_
  refine r_if_icmpge (by omega) (by omega) 106 rfl 125 rfl (dd_X11_init_0 51 _ _ _ rfl) (fun q => absurd q (by omega)) (fun _ => ?_)
  refine r_aload_0 107 rfl (dd_X11_init_0 52 _ _ _ rfl) ?_
  refine r_getr hg zc_X11 5 (by decide) (fun _ _ _ => rfl) f5 kx (Or.inl rfl) (tb_1 126 _ rfl) 110 rfl (dd_X11_init_0 53 _ _ _ rfl) ?_
  refine r_iload_1 111 rfl (dd_X11_init_0 54 _ _ _ rfl) ?_
  refine r_new 8 30 hg zc_X1 (tb_1 103 _ rfl) (tb_1 105 _ rfl) (tb_1 7 _ rfl) (Nat.le_of_ble_eq_true rfl) (Nat.le_of_ble_eq_true rfl) zd_X1 114 rfl (dd_X11_init_0 55 _ _ _ rfl) (fun c1 hz_c1 => ?_)
  refine r_dup rfl 115 rfl (dd_X11_init_0 56 _ _ _ rfl) ?_
  refine r_callIN0 (lvl := 10) (mc1 := 2) (ms1 := 8) 6 22 hg rfl md_X1_init wi_X1_init rfl rfl (tb_1 106 _ rfl) (by decide) (by decide) rfl (Nat.le_of_ble_eq_true rfl) (Nat.le_of_ble_eq_true rfl) (Nat.le_of_ble_eq_true rfl) 118 rfl (dd_X11_init_0 57 _ _ _ rfl) ?_
  refine c_X1_init (o := zu1 oc0 c1 (rg 8 1)) (r := rg 8 1) hg zu1_at zu1_at (fun oc1 hc1 qq tt0 => ?_)
  have sc1 : zStep (fun q => q = rg 8 1) oc0 g11 oc1 hc1 := (step_nob hz_c1).trans tt0
  have uc1 := qq 0
  dsimp only [zCont, Option.toList, List.cons_append, List.nil_append]
  have fx := sc1.fr (r := 1) (by show ¬ _ = _; unfold rg; omega) x ox (by rw [kx]; decide)
  replace f0 : fi_ hc1 x 0 = 0 := (fx.2.2.2.1 0).trans f0
  replace f1 : fr_ hc1 x 1 = some bu := (fx.2.2.2.2.2.1 1).trans f1
  replace f2 : fr_ hc1 x 2 = some se := (fx.2.2.2.2.2.1 2).trans f2
  replace f3 : fr_ hc1 x 3 = some lv := (fx.2.2.2.2.2.1 3).trans f3
  replace f4 : fr_ hc1 x 4 = some lp := (fx.2.2.2.2.2.1 4).trans f4
  replace f5 : fr_ hc1 x 5 = some ra := (fx.2.2.2.2.2.1 5).trans f5
  replace f6 : fi_ hc1 x 6 = 0 := (fx.2.2.2.1 6).trans f6
  replace f7 : fr_ hc1 x 7 = some ls := (fx.2.2.2.2.2.1 7).trans f7
  replace f8 : fr_ hc1 x 8 = some lt := (fx.2.2.2.2.2.1 8).trans f8
  replace f9 : fr_ hc1 x 9 = some lf := (fx.2.2.2.2.2.1 9).trans f9
  replace ubu := ubu.fr (sc1.fr (r := 2) (by show ¬ _ = _; unfold rg; omega))
  replace use := use.fr (sc1.fr (r := 3) (by show ¬ _ = _; unfold rg; omega))
  replace ulv := ulv.fr (sc1.fr (r := 4) (by show ¬ _ = _; unfold rg; omega))
  replace ulp := ulp.fr (sc1.fr (r := 5) (by show ¬ _ = _; unfold rg; omega))
  replace ura := ura.fr (sc1.fr (r := 6) (by show ¬ _ = _; unfold rg; omega))
  replace uls := uls.fr (sc1.fr (r := 7) (by show ¬ _ = _; unfold rg; omega))
  replace ult := ult.fr (sc1.fr (r := 8) (by show ¬ _ = _; unfold rg; omega))
  replace ulf := ulf.fr (sc1.fr (r := 9) (by show ¬ _ = _; unfold rg; omega))
  replace uc0 := uc0.fr (sc1.fr (r := rg 8 0) (by show ¬ _ = _; unfold rg; omega))
  replace ox : oc1 x = 1 := sc1.own (by rw [kx]; decide) ox
  replace kx : kd_ hc1 x = 15 := sc1.kd kx (by decide)
  replace ss : zStep zOwn o h oc1 hc1 := ss.trans (sc1.mono (fun q hq => by show q ≠ 0; rw [show q = _ from hq]; first | decide | (unfold rg; omega)))
  refine r_aastoreC hg zc_X1 ura.1 (by omega) (by omega) (by rw [ura.2.2.1]; omega) uc1.own.1 rfl 119 rfl (dd_X11_init_0 58 _ _ _ rfl) ?_
  rw [show (0 + 1 : Int).toNat = 1 from rfl]
  have pp : zStep (fun q => q = 6) oc1 hc1 oc1 (sar hc1 ra 1 (some c1)) := step_sar (R := fun q => q = 6) ura.2.1
  replace ubu := ubu.fr (pp.fr (r := 2) (by show ¬ _ = _; decide))
  replace use := use.fr (pp.fr (r := 3) (by show ¬ _ = _; decide))
  replace ulv := ulv.fr (pp.fr (r := 4) (by show ¬ _ = _; decide))
  replace ulp := ulp.fr (pp.fr (r := 5) (by show ¬ _ = _; decide))
  replace uls := uls.fr (pp.fr (r := 7) (by show ¬ _ = _; decide))
  replace ult := ult.fr (pp.fr (r := 8) (by show ¬ _ = _; decide))
  replace ulf := ulf.fr (pp.fr (r := 9) (by show ¬ _ = _; decide))
  replace uc0 := uc0.fr (pp.fr (r := rg 8 0) (by show ¬ _ = _; unfold rg; omega))
  replace uc1 := uc1.fr (pp.fr (r := rg 8 1) (by show ¬ _ = _; unfold rg; omega))
  replace ura := ura.push (c := c1)
  replace f0 : fi_ (sar hc1 ra 1 (some c1)) x 0 = 0 := f0
  replace f1 : fr_ (sar hc1 ra 1 (some c1)) x 1 = some bu := f1
  replace f2 : fr_ (sar hc1 ra 1 (some c1)) x 2 = some se := f2
  replace f3 : fr_ (sar hc1 ra 1 (some c1)) x 3 = some lv := f3
  replace f4 : fr_ (sar hc1 ra 1 (some c1)) x 4 = some lp := f4
  replace f5 : fr_ (sar hc1 ra 1 (some c1)) x 5 = some ra := f5
  replace f6 : fi_ (sar hc1 ra 1 (some c1)) x 6 = 0 := f6
  replace f7 : fr_ (sar hc1 ra 1 (some c1)) x 7 = some ls := f7
  replace f8 : fr_ (sar hc1 ra 1 (some c1)) x 8 = some lt := f8
  replace f9 : fr_ (sar hc1 ra 1 (some c1)) x 9 = some lf := f9
  replace kx : kd_ (sar hc1 ra 1 (some c1)) x = 15 := kx
  replace ss : zStep zOwn o h oc1 (sar hc1 ra 1 (some c1)) := ss.trans (pp.mono (fun q hq => by show q ≠ 0; rw [show q = _ from hq]; first | decide | (unfold rg; omega)))
  clear pp sc1
  generalize (sar hc1 ra 1 (some c1)) = g12 at ubu use ulv ulp ura uls ult ulf uc0 uc1 f0 f1 f2 f3 f4 f5 f6 f7 f8 f9 kx ss ⊢
  refine r_iinc_1 122 rfl (by decide) rfl (dd_X11_init_0 59 _ _ _ rfl) ?_
  refine r_goto 101 rfl (dd_X11_init_1 0 _ _ _ rfl) ?_
  refine r_iload_1 102 rfl (dd_X11_init_0 49 _ _ _ rfl) ?_
  refine r_iconst 103 rfl (dd_X11_init_0 50 _ _ _ rfl) ?_
  refine r_if_icmpge (by omega) (by omega) 106 rfl 125 rfl (dd_X11_init_0 51 _ _ _ rfl) (fun q => absurd q (by omega)) (fun _ => ?_)
  refine r_aload_0 107 rfl (dd_X11_init_0 52 _ _ _ rfl) ?_
  refine r_getr hg zc_X11 5 (by decide) (fun _ _ _ => rfl) f5 kx (Or.inl rfl) (tb_1 126 _ rfl) 110 rfl (dd_X11_init_0 53 _ _ _ rfl) ?_
  refine r_iload_1 111 rfl (dd_X11_init_0 54 _ _ _ rfl) ?_
  refine r_new 5 19 hg zc_X1 (tb_1 103 _ rfl) (tb_1 105 _ rfl) (tb_1 7 _ rfl) (Nat.le_of_ble_eq_true rfl) (Nat.le_of_ble_eq_true rfl) zd_X1 114 rfl (dd_X11_init_0 55 _ _ _ rfl) (fun c2 hz_c2 => ?_)
  refine r_dup rfl 115 rfl (dd_X11_init_0 56 _ _ _ rfl) ?_
  refine r_callIN0 (lvl := 10) (mc1 := 2) (ms1 := 8) 3 11 hg rfl md_X1_init wi_X1_init rfl rfl (tb_1 106 _ rfl) (by decide) (by decide) rfl (Nat.le_of_ble_eq_true rfl) (Nat.le_of_ble_eq_true rfl) (Nat.le_of_ble_eq_true rfl) 118 rfl (dd_X11_init_0 57 _ _ _ rfl) ?_
  refine c_X1_init (o := zu1 oc1 c2 (rg 8 2)) (r := rg 8 2) hg zu1_at zu1_at (fun oc2 hc2 qq tt0 => ?_)
  have sc2 : zStep (fun q => q = rg 8 2) oc1 g12 oc2 hc2 := (step_nob hz_c2).trans tt0
  have uc2 := qq 0
  dsimp only [zCont, Option.toList, List.cons_append, List.nil_append]
  have fx := sc2.fr (r := 1) (by show ¬ _ = _; unfold rg; omega) x ox (by rw [kx]; decide)
  replace f0 : fi_ hc2 x 0 = 0 := (fx.2.2.2.1 0).trans f0
  replace f1 : fr_ hc2 x 1 = some bu := (fx.2.2.2.2.2.1 1).trans f1
  replace f2 : fr_ hc2 x 2 = some se := (fx.2.2.2.2.2.1 2).trans f2
  replace f3 : fr_ hc2 x 3 = some lv := (fx.2.2.2.2.2.1 3).trans f3
  replace f4 : fr_ hc2 x 4 = some lp := (fx.2.2.2.2.2.1 4).trans f4
  replace f5 : fr_ hc2 x 5 = some ra := (fx.2.2.2.2.2.1 5).trans f5
  replace f6 : fi_ hc2 x 6 = 0 := (fx.2.2.2.1 6).trans f6
  replace f7 : fr_ hc2 x 7 = some ls := (fx.2.2.2.2.2.1 7).trans f7
  replace f8 : fr_ hc2 x 8 = some lt := (fx.2.2.2.2.2.1 8).trans f8
  replace f9 : fr_ hc2 x 9 = some lf := (fx.2.2.2.2.2.1 9).trans f9
  replace ubu := ubu.fr (sc2.fr (r := 2) (by show ¬ _ = _; unfold rg; omega))
  replace use := use.fr (sc2.fr (r := 3) (by show ¬ _ = _; unfold rg; omega))
  replace ulv := ulv.fr (sc2.fr (r := 4) (by show ¬ _ = _; unfold rg; omega))
  replace ulp := ulp.fr (sc2.fr (r := 5) (by show ¬ _ = _; unfold rg; omega))
  replace ura := ura.fr (sc2.fr (r := 6) (by show ¬ _ = _; unfold rg; omega))
  replace uls := uls.fr (sc2.fr (r := 7) (by show ¬ _ = _; unfold rg; omega))
  replace ult := ult.fr (sc2.fr (r := 8) (by show ¬ _ = _; unfold rg; omega))
  replace ulf := ulf.fr (sc2.fr (r := 9) (by show ¬ _ = _; unfold rg; omega))
  replace uc0 := uc0.fr (sc2.fr (r := rg 8 0) (by show ¬ _ = _; unfold rg; omega))
  replace uc1 := uc1.fr (sc2.fr (r := rg 8 1) (by show ¬ _ = _; unfold rg; omega))
  replace ox : oc2 x = 1 := sc2.own (by rw [kx]; decide) ox
  replace kx : kd_ hc2 x = 15 := sc2.kd kx (by decide)
  replace ss : zStep zOwn o h oc2 hc2 := ss.trans (sc2.mono (fun q hq => by show q ≠ 0; rw [show q = _ from hq]; first | decide | (unfold rg; omega)))
  refine r_aastoreC hg zc_X1 ura.1 (by omega) (by omega) (by rw [ura.2.2.1]; omega) uc2.own.1 rfl 119 rfl (dd_X11_init_0 58 _ _ _ rfl) ?_
  rw [show (0 + 1 + 1 : Int).toNat = 2 from rfl]
  have pp : zStep (fun q => q = 6) oc2 hc2 oc2 (sar hc2 ra 2 (some c2)) := step_sar (R := fun q => q = 6) ura.2.1
  replace ubu := ubu.fr (pp.fr (r := 2) (by show ¬ _ = _; decide))
  replace use := use.fr (pp.fr (r := 3) (by show ¬ _ = _; decide))
  replace ulv := ulv.fr (pp.fr (r := 4) (by show ¬ _ = _; decide))
  replace ulp := ulp.fr (pp.fr (r := 5) (by show ¬ _ = _; decide))
  replace uls := uls.fr (pp.fr (r := 7) (by show ¬ _ = _; decide))
  replace ult := ult.fr (pp.fr (r := 8) (by show ¬ _ = _; decide))
  replace ulf := ulf.fr (pp.fr (r := 9) (by show ¬ _ = _; decide))
  replace uc0 := uc0.fr (pp.fr (r := rg 8 0) (by show ¬ _ = _; unfold rg; omega))
  replace uc1 := uc1.fr (pp.fr (r := rg 8 1) (by show ¬ _ = _; unfold rg; omega))
  replace uc2 := uc2.fr (pp.fr (r := rg 8 2) (by show ¬ _ = _; unfold rg; omega))
  replace ura := ura.push (c := c2)
  replace f0 : fi_ (sar hc2 ra 2 (some c2)) x 0 = 0 := f0
  replace f1 : fr_ (sar hc2 ra 2 (some c2)) x 1 = some bu := f1
  replace f2 : fr_ (sar hc2 ra 2 (some c2)) x 2 = some se := f2
  replace f3 : fr_ (sar hc2 ra 2 (some c2)) x 3 = some lv := f3
  replace f4 : fr_ (sar hc2 ra 2 (some c2)) x 4 = some lp := f4
  replace f5 : fr_ (sar hc2 ra 2 (some c2)) x 5 = some ra := f5
  replace f6 : fi_ (sar hc2 ra 2 (some c2)) x 6 = 0 := f6
  replace f7 : fr_ (sar hc2 ra 2 (some c2)) x 7 = some ls := f7
  replace f8 : fr_ (sar hc2 ra 2 (some c2)) x 8 = some lt := f8
  replace f9 : fr_ (sar hc2 ra 2 (some c2)) x 9 = some lf := f9
  replace kx : kd_ (sar hc2 ra 2 (some c2)) x = 15 := kx
  replace ss : zStep zOwn o h oc2 (sar hc2 ra 2 (some c2)) := ss.trans (pp.mono (fun q hq => by show q ≠ 0; rw [show q = _ from hq]; first | decide | (unfold rg; omega)))
  clear pp sc2
  generalize (sar hc2 ra 2 (some c2)) = g13 at ubu use ulv ulp ura uls ult ulf uc0 uc1 uc2 f0 f1 f2 f3 f4 f5 f6 f7 f8 f9 kx ss ⊢
  refine r_iinc_1 122 rfl (by decide) rfl (dd_X11_init_0 59 _ _ _ rfl) ?_
  refine r_goto 101 rfl (dd_X11_init_1 0 _ _ _ rfl) ?_
  refine r_iload_1 102 rfl (dd_X11_init_0 49 _ _ _ rfl) ?_
  refine r_iconst 103 rfl (dd_X11_init_0 50 _ _ _ rfl) ?_
  refine r_if_icmpge (by omega) (by omega) 106 rfl 125 rfl (dd_X11_init_0 51 _ _ _ rfl) (fun q => absurd q (by omega)) (fun _ => ?_)
  refine r_aload_0 107 rfl (dd_X11_init_0 52 _ _ _ rfl) ?_
  refine r_getr hg zc_X11 5 (by decide) (fun _ _ _ => rfl) f5 kx (Or.inl rfl) (tb_1 126 _ rfl) 110 rfl (dd_X11_init_0 53 _ _ _ rfl) ?_
  refine r_iload_1 111 rfl (dd_X11_init_0 54 _ _ _ rfl) ?_
  refine r_new 2 8 hg zc_X1 (tb_1 103 _ rfl) (tb_1 105 _ rfl) (tb_1 7 _ rfl) (Nat.le_of_ble_eq_true rfl) (Nat.le_of_ble_eq_true rfl) zd_X1 114 rfl (dd_X11_init_0 55 _ _ _ rfl) (fun c3 hz_c3 => ?_)
  refine r_dup rfl 115 rfl (dd_X11_init_0 56 _ _ _ rfl) ?_
  refine r_callIN0 (lvl := 10) (mc1 := 2) (ms1 := 8) 0 0 hg rfl md_X1_init wi_X1_init rfl rfl (tb_1 106 _ rfl) (by decide) (by decide) rfl (Nat.le_of_ble_eq_true rfl) (Nat.le_of_ble_eq_true rfl) (Nat.le_of_ble_eq_true rfl) 118 rfl (dd_X11_init_0 57 _ _ _ rfl) ?_
  refine c_X1_init (o := zu1 oc2 c3 (rg 8 3)) (r := rg 8 3) hg zu1_at zu1_at (fun oc3 hc3 qq tt0 => ?_)
  have sc3 : zStep (fun q => q = rg 8 3) oc2 g13 oc3 hc3 := (step_nob hz_c3).trans tt0
  have uc3 := qq 0
  dsimp only [zCont, Option.toList, List.cons_append, List.nil_append]
  have fx := sc3.fr (r := 1) (by show ¬ _ = _; unfold rg; omega) x ox (by rw [kx]; decide)
  replace f0 : fi_ hc3 x 0 = 0 := (fx.2.2.2.1 0).trans f0
  replace f1 : fr_ hc3 x 1 = some bu := (fx.2.2.2.2.2.1 1).trans f1
  replace f2 : fr_ hc3 x 2 = some se := (fx.2.2.2.2.2.1 2).trans f2
  replace f3 : fr_ hc3 x 3 = some lv := (fx.2.2.2.2.2.1 3).trans f3
  replace f4 : fr_ hc3 x 4 = some lp := (fx.2.2.2.2.2.1 4).trans f4
  replace f5 : fr_ hc3 x 5 = some ra := (fx.2.2.2.2.2.1 5).trans f5
  replace f6 : fi_ hc3 x 6 = 0 := (fx.2.2.2.1 6).trans f6
  replace f7 : fr_ hc3 x 7 = some ls := (fx.2.2.2.2.2.1 7).trans f7
  replace f8 : fr_ hc3 x 8 = some lt := (fx.2.2.2.2.2.1 8).trans f8
  replace f9 : fr_ hc3 x 9 = some lf := (fx.2.2.2.2.2.1 9).trans f9
  replace ubu := ubu.fr (sc3.fr (r := 2) (by show ¬ _ = _; unfold rg; omega))
  replace use := use.fr (sc3.fr (r := 3) (by show ¬ _ = _; unfold rg; omega))
  replace ulv := ulv.fr (sc3.fr (r := 4) (by show ¬ _ = _; unfold rg; omega))
  replace ulp := ulp.fr (sc3.fr (r := 5) (by show ¬ _ = _; unfold rg; omega))
  replace ura := ura.fr (sc3.fr (r := 6) (by show ¬ _ = _; unfold rg; omega))
  replace uls := uls.fr (sc3.fr (r := 7) (by show ¬ _ = _; unfold rg; omega))
  replace ult := ult.fr (sc3.fr (r := 8) (by show ¬ _ = _; unfold rg; omega))
  replace ulf := ulf.fr (sc3.fr (r := 9) (by show ¬ _ = _; unfold rg; omega))
  replace uc0 := uc0.fr (sc3.fr (r := rg 8 0) (by show ¬ _ = _; unfold rg; omega))
  replace uc1 := uc1.fr (sc3.fr (r := rg 8 1) (by show ¬ _ = _; unfold rg; omega))
  replace uc2 := uc2.fr (sc3.fr (r := rg 8 2) (by show ¬ _ = _; unfold rg; omega))
  replace ox : oc3 x = 1 := sc3.own (by rw [kx]; decide) ox
  replace kx : kd_ hc3 x = 15 := sc3.kd kx (by decide)
  replace ss : zStep zOwn o h oc3 hc3 := ss.trans (sc3.mono (fun q hq => by show q ≠ 0; rw [show q = _ from hq]; first | decide | (unfold rg; omega)))
  refine r_aastoreC hg zc_X1 ura.1 (by omega) (by omega) (by rw [ura.2.2.1]; omega) uc3.own.1 rfl 119 rfl (dd_X11_init_0 58 _ _ _ rfl) ?_
  rw [show (0 + 1 + 1 + 1 : Int).toNat = 3 from rfl]
  have pp : zStep (fun q => q = 6) oc3 hc3 oc3 (sar hc3 ra 3 (some c3)) := step_sar (R := fun q => q = 6) ura.2.1
  replace ubu := ubu.fr (pp.fr (r := 2) (by show ¬ _ = _; decide))
  replace use := use.fr (pp.fr (r := 3) (by show ¬ _ = _; decide))
  replace ulv := ulv.fr (pp.fr (r := 4) (by show ¬ _ = _; decide))
  replace ulp := ulp.fr (pp.fr (r := 5) (by show ¬ _ = _; decide))
  replace uls := uls.fr (pp.fr (r := 7) (by show ¬ _ = _; decide))
  replace ult := ult.fr (pp.fr (r := 8) (by show ¬ _ = _; decide))
  replace ulf := ulf.fr (pp.fr (r := 9) (by show ¬ _ = _; decide))
  replace uc0 := uc0.fr (pp.fr (r := rg 8 0) (by show ¬ _ = _; unfold rg; omega))
  replace uc1 := uc1.fr (pp.fr (r := rg 8 1) (by show ¬ _ = _; unfold rg; omega))
  replace uc2 := uc2.fr (pp.fr (r := rg 8 2) (by show ¬ _ = _; unfold rg; omega))
  replace uc3 := uc3.fr (pp.fr (r := rg 8 3) (by show ¬ _ = _; unfold rg; omega))
  replace ura := ura.push (c := c3)
  replace f0 : fi_ (sar hc3 ra 3 (some c3)) x 0 = 0 := f0
  replace f1 : fr_ (sar hc3 ra 3 (some c3)) x 1 = some bu := f1
  replace f2 : fr_ (sar hc3 ra 3 (some c3)) x 2 = some se := f2
  replace f3 : fr_ (sar hc3 ra 3 (some c3)) x 3 = some lv := f3
  replace f4 : fr_ (sar hc3 ra 3 (some c3)) x 4 = some lp := f4
  replace f5 : fr_ (sar hc3 ra 3 (some c3)) x 5 = some ra := f5
  replace f6 : fi_ (sar hc3 ra 3 (some c3)) x 6 = 0 := f6
  replace f7 : fr_ (sar hc3 ra 3 (some c3)) x 7 = some ls := f7
  replace f8 : fr_ (sar hc3 ra 3 (some c3)) x 8 = some lt := f8
  replace f9 : fr_ (sar hc3 ra 3 (some c3)) x 9 = some lf := f9
  replace kx : kd_ (sar hc3 ra 3 (some c3)) x = 15 := kx
  replace ss : zStep zOwn o h oc3 (sar hc3 ra 3 (some c3)) := ss.trans (pp.mono (fun q hq => by show q ≠ 0; rw [show q = _ from hq]; first | decide | (unfold rg; omega)))
  clear pp sc3
  generalize (sar hc3 ra 3 (some c3)) = g14 at ubu use ulv ulp ura uls ult ulf uc0 uc1 uc2 uc3 f0 f1 f2 f3 f4 f5 f6 f7 f8 f9 kx ss ⊢
  refine r_iinc_1 122 rfl (by decide) rfl (dd_X11_init_0 59 _ _ _ rfl) ?_
  refine r_goto 101 rfl (dd_X11_init_1 0 _ _ _ rfl) ?_
  refine r_iload_1 102 rfl (dd_X11_init_0 49 _ _ _ rfl) ?_
  refine r_iconst 103 rfl (dd_X11_init_0 50 _ _ _ rfl) ?_
  refine r_if_icmpge (by omega) (by omega) 106 rfl 125 rfl (dd_X11_init_0 51 _ _ _ rfl) (fun _ => ?_) (fun q => by exfalso; omega)
  refine r_vreturn rfl (dd_X11_init_1 1 _ _ _ rfl) ?_
  exact k _ _ ⟨[], [], [], [], [], [], (fun k => if k = 1 then bu else if k = 2 then se else if k = 3 then lv else if k = 4 then lp else if k = 5 then ra else if k = 7 then ls else if k = 8 then lt else lf), fun _ _ => 0, (zu1 (zu1 (zu1 (zu1 (fun _ => 0) 0 c0) 1 c1) 2 c2) 3 c3), ⟨kx, ox, f0, f6, f1, f2, f3, f4, f5, f7, f8, f9⟩, ubu, use, ulv, rfl, ulp, rfl, ura, (fun c hc => by rcases (show c = 0 ∨ c = 1 ∨ c = 2 ∨ c = 3 by omega) with rfl | rfl | rfl | rfl; exact uc0; exact uc1; exact uc2; exact uc3), uls, rfl, ult, ⟨rfl, rfl, fun i s hh => by simp at hh, fun i j s t _ hh => by simp at hh, fun s hh => by simp at hh⟩, ulf, rfl, (fun v a hh => by simp at hh), (fun v hh => by simp at hh), (fun v hh => by simp at hh), (fun v hh => by simp at hh), (fun v hh => by simp at hh), (fun v a hh => by simp at hh), (fun v a hh => by simp at hh), (fun v a hh => by simp at hh), (fun v j h1 h2 => by have h3 : (j : Int) < 0 := h2; omega), (fun v j h1 h2 => by have h3 : (j : Int) < 0 := h2; omega), (fun v h1 h2 => ⟨rfl, rfl, rfl, rfl, fun w _ _ => zbit0 _, fun w => rfl⟩), (fun u v h1 h2 => by have h3 : (v : Int) < 0 := h2; omega), (fun p h1 => ⟨rfl, rfl⟩), (fun f h1 => rfl)⟩ ss
