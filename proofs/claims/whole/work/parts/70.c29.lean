set_option maxRecDepth 20000
theorem law_birth {g : zGT} {x m : Nat} {A : Nat → Nat} {out : Nat} {h0 h2 h4 : zH} {o1 : Nat → Nat} (hx : kd_ h0 x = 0) (cx : CEx g o1 h2 x zS0 0) (st : zStep zOwn (fun b => if b = x then 1 else 0) (nob h0 x 14) o1 h2) (hm : kd_ h2 m = 0) (hM : MRep h4 m A zS0) (ag : z_agree (fun b => b = m) (nob h2 m 15) h4) (hf : ∀ j, z_mk j ≠ 0 → kd_ (nob h2 m 15) (A j) = 0) (ho : kd_ h4 out = 0) :
    zLF m A out (fun b => kd_ h0 b ≠ 0) h0 ∧ zLS g x m A out (fun b => kd_ h0 b ≠ 0) h0 (fun b => if kd_ h2 b = 0 then 0 else o1 b) 0 zS0 zS0 (nar h4 out 23 1) := by
  have a24 : z_agree (fun b => b = m) h2 h4 := (agree_nob hm).trans ag
  have a25 : z_agree (fun b => b = m) h2 (nar h4 out 23 1) := a24.trans (agree_nar ho)
  have k02 : ∀ b, kd_ h0 b ≠ 0 → kd_ h2 b ≠ 0 := fun b hb => by
    have hbx : ¬ b = x := fun q => hb (by rw [q]; exact hx)
    have e : kd_ (nob h0 x 14) b = kd_ h0 b := zu1_ne hbx
    rw [(st.2 b (by rw [e]; exact hb)).2, e]
    exact hb
  have hA2 : ∀ b, MOwn m A b → kd_ h2 b = 0 := fun b hb => by
    rcases hb with rfl | ⟨k, hk, rfl⟩
    · exact hm
    · have e := hf k hk
      by_cases q : A k = m
      · rw [q]; exact hm
      · rwa [show kd_ (nob h2 m 15) (A k) = kd_ h2 (A k) from zu1_ne q] at e
  have hom : ¬ out = m := fun q => by
    have := hM.1.1
    rw [← q, ho] at this
    cases this
  have ho2 : kd_ h2 out = 0 := by
    by_cases q : kd_ h2 out = 0
    · exact q
    · have e := (a24 out hom q).1
      rw [ho] at e
      exact e.symm
  have hmo : ¬ MOwn m A out := fun q => hM.kne q ho
  refine ⟨⟨fun b hb => ⟨hb, fun q => k02 b hb (hA2 b q), fun q => k02 b hb (by rw [q]; exact ho2)⟩, hmo⟩, ?_⟩
  obtain ⟨Vs, Ps, Ss, Ts, Fs, Tn, A9, G, Rc, c⟩ := cx
  have kx1 : kd_ (nob h0 x 14) x = 15 := zu1_at
  have kx2 : kd_ h2 x = 15 := st.kd kx1 (by decide)
  refine ⟨⟨Vs, Ps, Ss, Ts, Fs, Tn, A9, G, Rc, c.fr (fun r _ _ b hb hk => ⟨(if_neg hk).trans hb, a25 b (fun q => hk (by rw [q]; exact hm)) hk⟩)⟩, hM.keep (P := fun _ => False) (agree_nar ho) (fun _ _ => id), fun b hb => if_pos (hA2 b hb), fun b hb => ?_, if_pos ho2, ?_, zu1_at, zu1_at, ?_⟩
  · have hbx : ¬ b = x := fun q => hb (by rw [q]; exact hx)
    have e : kd_ (nob h0 x 14) b = kd_ h0 b := zu1_ne hbx
    show (if kd_ h2 b = 0 then 0 else o1 b) = 0
    have e1 : o1 b = 0 := ((st.2 b (by rw [e]; exact hb)).1).trans (if_neg hbx)
    rw [e1]
    split <;> rfl
  · refine z_agree.trans (P := fun b => ¬ (fun b => kd_ h0 b ≠ 0) b) (z_agree.trans (agree_nob hx) (st.1.mono (fun b hb q => ?_))) (a25.mono (fun b hb q => ?_))
    · exact hb (if_neg (fun e => q (by rw [e]; exact hx)))
    · exact k02 b q (by rw [hb]; exact hm)
  · exact ((a25 x (fun q => by rw [q, hm] at kx2; cases kx2) (by rw [kx2]; decide)).1).trans kx2
theorem law_all {g : zGT} {Q : zO → zH → Prop} (hg : zG g) (hnx : zNX g) {a L : Nat} {sv : Nat → Int} (hA : zLA g a sv L) {mi : Nat} (hm : zMi g mi) (hcs : zCS g) {p0 p1 p2 : Nat} (g0 : zSR g 360 "police" p0) (g1 : zSR g 372 "insurer" p1) (g2 : zSR g 374 "clamper" p2) {h0 : zH} (w0 : zWd g p0 [112, 111, 108, 105, 99, 101]) (w1 : zWd g p1 [105, 110, 115, 117, 114, 101, 114]) (w2 : zWd g p2 [99, 108, 97, 109, 112, 101, 114]) (kQ : ∀ h, Q (.inl (some (.int (zI 1)))) h) : zX g mL_law 601024 7293034 Q 0 [some (.ref a), none, none, none, none, none, none, none] [] h0 601024 7293034 := by
  refine r_new 601023 7293024 hg zc_X11 (tb_1 36 _ rfl) (tb_1 37 _ rfl) (tb_1 1 _ rfl) (Nat.le_of_ble_eq_true rfl) (Nat.le_of_ble_eq_true rfl) zd_X11 3 rfl (dd_L_law_0 0 _ _ _ rfl) (fun x hx => ?_)
  refine r_dup rfl 4 rfl (dd_L_law_0 1 _ _ _ rfl) ?_
  refine r_callI0 (lvl := 14) (mc1 := 23) (ms1 := 1809) 601000 7291215 hg rfl md_X11_init wi_X11_init rfl rfl (tb_1 38 _ rfl) (by decide) (by decide) rfl (Nat.le_of_ble_eq_true rfl) (Nat.le_of_ble_eq_true rfl) (Nat.le_of_ble_eq_true rfl) 7 rfl (dd_L_law_0 2 _ _ _ rfl) ?_
  refine c_X11_init hg (o := fun b => if b = x then 1 else 0) zu1_at (if_pos rfl) (fun o1 h2 cx st => ?_)
  dsimp only [zCont, Option.toList, List.cons_append, List.nil_append]
  refine r_astore_1 8 rfl (by decide) rfl (dd_L_law_0 3 _ _ _ rfl) ?_
  refine r_new 600999 7291171 hg zc_X12 (tb_6 49 _ rfl) (tb_6 50 _ rfl) (tb_1 8 _ rfl) (Nat.le_of_ble_eq_true rfl) (Nat.le_of_ble_eq_true rfl) zd_X12 11 rfl (dd_L_law_0 4 _ _ _ rfl) (fun m hm2 => ?_)
  refine r_dup rfl 12 rfl (dd_L_law_0 5 _ _ _ rfl) ?_
  refine r_callI0 (lvl := 10) (mc1 := 32) (ms1 := 74817) 600967 7216354 hg rfl md_X12_init wi_X12_init rfl rfl (tb_6 51 _ rfl) (by decide) (by decide) rfl (Nat.le_of_ble_eq_true rfl) (Nat.le_of_ble_eq_true rfl) (Nat.le_of_ble_eq_true rfl) 15 rfl (dd_L_law_0 6 _ _ _ rfl) ?_
  refine c_X12_ini2 hg zu1_at (fun k => if_pos rfl) (fun A h4 hM ag hf => ?_)
  dsimp only [zCont, Option.toList, List.cons_append, List.nil_append]
  refine r_astore_2 16 rfl (by decide) rfl (dd_L_law_0 7 _ _ _ rfl) ?_
  refine r_iconst 17 rfl (dd_L_law_0 8 _ _ _ rfl) ?_
  refine r_newarray 23 600966 7216353 hg (by decide) (by decide) rfl (tb_1 77 _ rfl) (by decide) (by decide) (Nat.le_of_ble_eq_true rfl) (Nat.le_of_ble_eq_true rfl) 19 rfl (dd_L_law_0 9 _ _ _ rfl) (fun out ho => ?_)
  refine r_astore_3 20 rfl (by decide) rfl (dd_L_law_0 10 _ _ _ rfl) ?_
  refine r_iconst 21 rfl (dd_L_law_0 11 _ _ _ rfl) ?_
  refine r_istore_4 23 rfl (by decide) rfl (dd_L_law_0 12 _ _ _ rfl) ?_
  obtain ⟨hF, y⟩ := law_birth hx cx st hm2 hM ag hf ho
  exact law_loop hg hnx hF hA hm hcs g0 w0 g1 w1 g2 w2 kQ 512 0 rfl _ _ _ y ok_0 _ _ (by decide) (by decide)
