set_option maxRecDepth 20000
set_option maxHeartbeats 1600000
theorem it_clear {g : zGT} {Q : zO → zH → Prop} (hg : zG g) {x m : Nat} {A : Nat → Nat} {out : Nat} {F : Nat → Prop} {hB : zH} {a : Nat} (hF : zLF m A out F hB) {o : Nat → Nat} {n : Nat} {S : zS} {h : zH} (y : zLS g x m A out F hB o n S S h) (hS : MOk n S) (hn : n < 512) {i : Int} {mc ms bc bs bc2 bs2 : Nat} (hb : bc2 + 20 ≤ bc) (hb2 : bs2 + 4300 ≤ bs) (k : ∀ o2 S2 h2, zLS g x m A out F hB o2 (n + 1) S2 S2 h2 → MOk (n + 1) S2 → zX g mL_law mc ms Q 2034 [some (.ref a), some (.ref x), some (.ref m), some (.ref out), some (.int (zI i)), none, none, none] [] h2 bc2 bs2) : zX g mL_law mc ms Q 222 [some (.ref a), some (.ref x), some (.ref m), some (.ref out), some (.int (zI i)), none, none, none] [] h bc bs := by
  have e2 := hS.1.signs
  obtain ⟨⟨Vs, Ps, Ss, Ts, Fs, Tn, A9, G, Rc, yc⟩, yM, -⟩ := id y
  refine r_aload_1 223 rfl (dd_L_law_1 2 _ _ _ rfl) ?_
  refine r_callV0 (lvl := 14) (mc1 := 0) (ms1 := 0) bc2 bs2 hg rfl md_X11_clear zc_X11 y.2.2.2.2.2.2.2.2 wi_X11_clear wv_X11_clear (tb_1 153 _ rfl) (by decide) (by decide) rfl (Nat.le_of_ble_eq_true rfl) (by omega) (by omega) 226 rfl (dd_L_law_1 3 _ _ _ rfl) ?_
  refine c_X11_clear hg hS.1 yc (fun o1 h1 cx st => ?_)
  have y1 := y.cls hF cx st
  dsimp only [zCont, Option.toList, List.cons_append, List.nil_append]
  refine r_aload_2 227 rfl (dd_L_law_1 4 _ _ _ rfl) ?_
  refine r_callV0 (lvl := 10) (mc1 := 0) (ms1 := 0) bc2 bs2 hg rfl md_X12_clear zc_X12 y1.2.1.1.1 wi_X12_clear wv_X12_clear (tb_6 201 _ rfl) (by decide) (by decide) rfl (Nat.le_of_ble_eq_true rfl) (Nat.le_refl _) (Nat.le_refl _) 230 rfl (dd_L_law_1 5 _ _ _ rfl) ?_
  refine c_X12_clear hg hS.1 (MI.refl y1.2.1) (fun h2 z => ?_)
  dsimp only [zCont, Option.toList, List.cons_append, List.nil_append]
  refine r_if_icmpeq (by omega) (by omega) 233 rfl 2034 rfl (dd_L_law_1 6 _ _ _ rfl) (fun _ => ?_) (fun q => absurd rfl q)
  exact k o1 _ h2 (y1.mod hF z).1 (ok_clear hS hn)
theorem z31 (w : Int32) : ∃ k : Nat, k ≤ 31 ∧ (w &&& zI 31).toInt = k := by
  have h : (w &&& zI 31).toBitVec.toNat ≤ 31 := by
    rw [Int32.toBitVec_and, BitVec.toNat_and]
    exact Nat.and_le_right
  refine ⟨_, h, ?_⟩
  show (w &&& zI 31).toBitVec.toInt = _
  rw [BitVec.toInt_eq_toNat_cond]
  split <;> omega
theorem law_loop {g : zGT} {Q : zO → zH → Prop} (hg : zG g) (hnx : zNX g) {x m : Nat} {A : Nat → Nat} {out : Nat} {F : Nat → Prop} {hB : zH} {a L : Nat} (hF : zLF m A out F hB) {sv : Nat → Int} (hA : zLA g a sv L) {mi : Nat} (hm : zMi g mi) (hcs : zCS g) {p0 p1 p2 : Nat} (g0 : zSR g 360 "police" p0) (w0 : zWd g p0 [112, 111, 108, 105, 99, 101]) (g1 : zSR g 372 "insurer" p1) (w1 : zWd g p1 [105, 110, 115, 117, 114, 101, 114]) (g2 : zSR g 374 "clamper" p2) (w2 : zWd g p2 [99, 108, 97, 109, 112, 101, 114]) {mc ms : Nat} (kQ : ∀ h, Q (.inl (some (.int (zI 1)))) h) : ∀ (r n : Nat), n + r = 512 → ∀ (o : Nat → Nat) (S : zS) (h : zH), zLS g x m A out F hB o n S S h → MOk n S → ∀ bc bs, 20 * r ≤ bc → 4300 * r ≤ bs → zX g mL_law mc ms Q 23 [some (.ref a), some (.ref x), some (.ref m), some (.ref out), some (.int (zI (5 * (n : Int)))), none, none, none] [] h bc bs := by
  intro r
  have hL := hA.2.2.1
  have hz := hA.2.2.2
  induction r with
  | zero =>
    intro n hr o S h y hS bc bs hb hb2
    refine r_iload_4 25 rfl (dd_L_law_0 13 _ _ _ rfl) ?_
    refine r_aload_0 26 rfl (dd_L_law_0 14 _ _ _ rfl) ?_
    refine r_slen hA 27 rfl (dd_L_law_0 15 _ _ _ rfl) ?_
    refine r_iconst 28 rfl (dd_L_law_0 16 _ _ _ rfl) ?_
    refine r_isub 29 rfl (dd_L_law_0 17 _ _ _ rfl) ?_
    refine r_if_icmpgt (by omega) (by omega) 32 rfl 2040 rfl (dd_L_law_0 18 _ _ _ rfl) (fun hc => ?_) (fun hc => ?_)
    · refine r_iconst 2041 rfl (dd_L_law_20 48 _ _ _ rfl) ?_
      refine r_ireturn rfl rfl (dd_L_law_20 49 _ _ _ rfl) ?_
      exact kQ _
    · exfalso; omega
  | succ r ih =>
    intro n hr o S h y hS bc bs hb hb2
    refine r_iload_4 25 rfl (dd_L_law_0 13 _ _ _ rfl) ?_
    refine r_aload_0 26 rfl (dd_L_law_0 14 _ _ _ rfl) ?_
    refine r_slen hA 27 rfl (dd_L_law_0 15 _ _ _ rfl) ?_
    refine r_iconst 28 rfl (dd_L_law_0 16 _ _ _ rfl) ?_
    refine r_isub 29 rfl (dd_L_law_0 17 _ _ _ rfl) ?_
    refine r_if_icmpgt (by omega) (by omega) 32 rfl 2040 rfl (dd_L_law_0 18 _ _ _ rfl) (fun hc => ?_) (fun hc => ?_)
    · refine r_iconst 2041 rfl (dd_L_law_20 48 _ _ _ rfl) ?_
      refine r_ireturn rfl rfl (dd_L_law_20 49 _ _ _ rfl) ?_
      exact kQ _
    · have hn : n < 512 := by omega
      have kk : ∀ o2 S2 h2, zLS g x m A out F hB o2 (n + 1) S2 S2 h2 → MOk (n + 1) S2 → zX g mL_law mc ms Q 2034 [some (.ref a), some (.ref x), some (.ref m), some (.ref out), some (.int (zI (5 * (n : Int)))), none, none, none] [] h2 (20 * r) (4300 * r) := by
        intro o2 S2 h2 y2 hS2
        refine r_iinc_4 2037 rfl (by decide) rfl (dd_L_law_20 46 _ _ _ rfl) ?_
        refine r_goto 23 rfl (dd_L_law_20 47 _ _ _ rfl) ?_
        have := ih (n + 1) (by omega) o2 S2 h2 y2 hS2 _ _ (Nat.le_refl _) (Nat.le_refl _)
        rw [show (5 : Int) * ((n + 1 : Nat) : Int) = 5 * (n : Int) + 5 by omega] at this
        exact this
      refine r_aload_0 33 rfl (dd_L_law_0 19 _ _ _ rfl) ?_
      refine r_iload_4 35 rfl (dd_L_law_0 20 _ _ _ rfl) ?_
      refine r_scr hA (by omega) (by omega) 36 rfl (dd_L_law_0 21 _ _ _ rfl) ?_
      refine r_bipush (by decide) 38 rfl (dd_L_law_0 22 _ _ _ rfl) ?_
      refine r_iand 39 rfl (dd_L_law_0 23 _ _ _ rfl) ?_
      obtain ⟨c, c31, ec⟩ := z31 (zI (sv (5 * (n : Int)).toNat))
      by_cases q : 27 < c
      · refine r_tsOut 2034 (by rw [ec]; exact Or.inr (by omega)) rfl (dd_L_law_0 24 _ _ _ rfl) ?_
        exact r_room (by omega) (by omega) (kk o S h y.next (hS.next hn))
      have q2 : c = 0 ∨ c = 1 ∨ c = 2 ∨ c = 3 ∨ c = 4 ∨ c = 5 ∨ c = 6 ∨ c = 7 ∨ c = 8 ∨ c = 9 ∨ c = 10 ∨ c = 11 ∨ c = 12 ∨ c = 13 ∨ c = 14 ∨ c = 15 ∨ c = 16 ∨ c = 17 ∨ c = 18 ∨ c = 19 ∨ c = 20 ∨ c = 21 ∨ c = 22 ∨ c = 23 ∨ c = 24 ∨ c = 25 ∨ c = 26 ∨ c = 27 := by omega
      rcases q2 with rfl | rfl | rfl | rfl | rfl | rfl | rfl | rfl | rfl | rfl | rfl | rfl | rfl | rfl | rfl | rfl | rfl | rfl | rfl | rfl | rfl | rfl | rfl | rfl | rfl | rfl | rfl | rfl
      · refine r_tsIn 164 (by rw [ec]; decide) (by rw [ec]; decide) (by rw [ec]; rfl) rfl (dd_L_law_0 24 _ _ _ rfl) ?_
        exact it_type hg hnx hF hA y hS hn (by omega) (by omega) (by omega) (by omega) kk
      · refine r_tsIn 222 (by rw [ec]; decide) (by rw [ec]; decide) (by rw [ec]; rfl) rfl (dd_L_law_0 24 _ _ _ rfl) ?_
        exact it_clear hg hF y hS hn (by omega) (by omega) kk
      · refine r_tsIn 235 (by rw [ec]; decide) (by rw [ec]; decide) (by rw [ec]; rfl) rfl (dd_L_law_0 24 _ _ _ rfl) ?_
        exact it_vehicle hg hnx hF hA hm y hS hn (by omega) (by omega) (by omega) (by omega) kk
      · refine r_tsIn 315 (by rw [ec]; decide) (by rw [ec]; decide) (by rw [ec]; rfl) rfl (dd_L_law_0 24 _ _ _ rfl) ?_
        exact it_stamped hg hnx hF hA y hS hn (by omega) (by omega) (by omega) (by omega) kk
      · refine r_tsIn 371 (by rw [ec]; decide) (by rw [ec]; decide) (by rw [ec]; rfl) rfl (dd_L_law_0 24 _ _ _ rfl) ?_
        exact it_person hg hnx hF hA hm y hS hn (by omega) (by omega) (by omega) (by omega) kk
      · refine r_tsIn 415 (by rw [ec]; decide) (by rw [ec]; decide) (by rw [ec]; rfl) rfl (dd_L_law_0 24 _ _ _ rfl) ?_
        exact it_protect hg hnx hF hA y hS hn (by omega) (by omega) (by omega) (by omega) kk
      · refine r_tsIn 506 (by rw [ec]; decide) (by rw [ec]; decide) (by rw [ec]; rfl) rfl (dd_L_law_0 24 _ _ _ rfl) ?_
        exact it_tell hg hnx hF hA hm y hS hn (by omega) (by omega) (by omega) (by omega) kk
      · refine r_tsIn 598 (by rw [ec]; decide) (by rw [ec]; decide) (by rw [ec]; rfl) rfl (dd_L_law_0 24 _ _ _ rfl) ?_
        exact it_on hg hnx hF hA y hS hn (by omega) (by omega) (by omega) (by omega) kk
      · refine r_tsIn 678 (by rw [ec]; decide) (by rw [ec]; decide) (by rw [ec]; rfl) rfl (dd_L_law_0 24 _ _ _ rfl) ?_
        exact it_onAnew hg hnx hF hA y hS hn (by omega) (by omega) (by omega) (by omega) kk
      · refine r_tsIn 758 (by rw [ec]; decide) (by rw [ec]; decide) (by rw [ec]; rfl) rfl (dd_L_law_0 24 _ _ _ rfl) ?_
        exact it_bar hg hnx hF hA y hS hn (by omega) (by omega) (by omega) (by omega) kk
      · refine r_tsIn 865 (by rw [ec]; decide) (by rw [ec]; decide) (by rw [ec]; rfl) rfl (dd_L_law_0 24 _ _ _ rfl) ?_
        exact it_allot hg hnx hF hA y hS hn (by omega) (by omega) (by omega) (by omega) kk
      · refine r_tsIn 921 (by rw [ec]; decide) (by rw [ec]; decide) (by rw [ec]; rfl) rfl (dd_L_law_0 24 _ _ _ rfl) ?_
        exact it_wish hg hnx hF hA y hS hn (by omega) (by omega) (by omega) (by omega) kk
      · refine r_tsIn 977 (by rw [ec]; decide) (by rw [ec]; decide) (by rw [ec]; rfl) rfl (dd_L_law_0 24 _ _ _ rfl) ?_
        exact it_plate hg hnx hF hA y hS hn (by omega) (by omega) (by omega) (by omega) kk
      · refine r_tsIn 1057 (by rw [ec]; decide) (by rw [ec]; decide) (by rw [ec]; rfl) rfl (dd_L_law_0 24 _ _ _ rfl) ?_
        exact it_rate hg hnx hF hA y hS hn (by omega) (by omega) (by omega) (by omega) kk
      · refine r_tsIn 1137 (by rw [ec]; decide) (by rw [ec]; decide) (by rw [ec]; rfl) rfl (dd_L_law_0 24 _ _ _ rfl) ?_
        exact it_pay hg hnx hF hA y hS hn (by omega) (by omega) (by omega) (by omega) kk
      · refine r_tsIn 1204 (by rw [ec]; decide) (by rw [ec]; decide) (by rw [ec]; rfl) rfl (dd_L_law_0 24 _ _ _ rfl) ?_
        exact it_owes hg hnx hF hA y hS hn (by omega) (by omega) (by omega) (by omega) kk
      · refine r_tsIn 1259 (by rw [ec]; decide) (by rw [ec]; decide) (by rw [ec]; rfl) rfl (dd_L_law_0 24 _ _ _ rfl) ?_
        exact it_test hg hnx hF hA y hS hn (by omega) (by omega) (by omega) (by omega) kk
      · refine r_tsIn 1351 (by rw [ec]; decide) (by rw [ec]; decide) (by rw [ec]; rfl) rfl (dd_L_law_0 24 _ _ _ rfl) ?_
        exact it_insure hg hnx hF hA y hS hn (by omega) (by omega) (by omega) (by omega) kk
      · refine r_tsIn 1426 (by rw [ec]; decide) (by rw [ec]; decide) (by rw [ec]; rfl) rfl (dd_L_law_0 24 _ _ _ rfl) ?_
        exact it_ofVehicle hg hnx hF hA y hS hn (by omega) (by omega) (by omega) (by omega) kk
      · refine r_tsIn 1494 (by rw [ec]; decide) (by rw [ec]; decide) (by rw [ec]; rfl) rfl (dd_L_law_0 24 _ _ _ rfl) ?_
        exact it_sight hg hnx hF hA hm y hS hn (by omega) (by omega) (by omega) (by omega) kk
      · refine r_tsIn 1562 (by rw [ec]; decide) (by rw [ec]; decide) (by rw [ec]; rfl) rfl (dd_L_law_0 24 _ _ _ rfl) ?_
        exact it_seen hg hnx hF hA y hS hn (by omega) (by omega) (by omega) (by omega) kk
      · refine r_tsIn 1618 (by rw [ec]; decide) (by rw [ec]; decide) (by rw [ec]; rfl) rfl (dd_L_law_0 24 _ _ _ rfl) ?_
        exact it_fine hg hnx hF hA hm y hS hn (by omega) (by omega) (by omega) (by omega) kk
      · refine r_tsIn 1686 (by rw [ec]; decide) (by rw [ec]; decide) (by rw [ec]; rfl) rfl (dd_L_law_0 24 _ _ _ rfl) ?_
        exact it_name hg hnx hF hA y hS hn (by omega) (by omega) (by omega) (by omega) kk
      · refine r_tsIn 1754 (by rw [ec]; decide) (by rw [ec]; decide) (by rw [ec]; rfl) rfl (dd_L_law_0 24 _ _ _ rfl) ?_
        exact it_whose hg hnx hF hA y hS hn (by omega) (by omega) (by omega) (by omega) kk
      · refine r_tsIn 1810 (by rw [ec]; decide) (by rw [ec]; decide) (by rw [ec]; rfl) rfl (dd_L_law_0 24 _ _ _ rfl) ?_
        exact it_fines hg hnx hF hA y hS hn (by omega) (by omega) (by omega) (by omega) kk
      · refine r_tsIn 1866 (by rw [ec]; decide) (by rw [ec]; decide) (by rw [ec]; rfl) rfl (dd_L_law_0 24 _ _ _ rfl) ?_
        exact it_look hg hnx hF hA hcs g0 w0 g1 w1 g2 w2 y hS hn (by omega) (by omega) (by omega) (by omega) kk
      · refine r_tsIn 1922 (by rw [ec]; decide) (by rw [ec]; decide) (by rw [ec]; rfl) rfl (dd_L_law_0 24 _ _ _ rfl) ?_
        exact it_looked hg hnx hF hA y hS hn (by omega) (by omega) (by omega) (by omega) kk
      · refine r_tsIn 1978 (by rw [ec]; decide) (by rw [ec]; decide) (by rw [ec]; rfl) rfl (dd_L_law_0 24 _ _ _ rfl) ?_
        exact it_pass hg hnx hF hA y hS hn (by omega) (by omega) (by omega) (by omega) kk
