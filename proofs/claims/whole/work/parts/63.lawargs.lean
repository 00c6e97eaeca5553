abbrev mL_law : zM := (RL, cL_law, 8, ret, [], "law", 20)
/-- law's script: a row of L ints, below the start's size -/
def zLA (g : zGT) (a : Nat) (sv : Nat → Int) (L : Nat) : Prop := va_X a L (fun j => zI (sv j)) (gS_ g) (gS_ g).heap ∧ a < (gS_ g).heap.size ∧ L ≤ 2560 ∧ ∀ j, zR (sv j)
theorem zI_c {v : Int} (hv : zR v) : ((zI v).toUInt32 % 65536).toInt32 = zI (v % 65536) := by
  apply Int32.toBitVec_inj.mp
  apply BitVec.eq_of_toNat_eq
  unfold zI
  simp
  omega
section LawArgs
variable {g : zGT} {x m : Nat} {A : Nat → Nat} {out : Nat} {F : Nat → Prop} {hB : zH} {o : Nat → Nat} {n : Nat} {SC SM : zS} {h : zH} {a L : Nat}
variable {M : zM} {mc ms : Nat} {Q : zO → zH → Prop} {pc : Nat} {lv : List (Option Value)} {st : List Value} {bc bs : Nat}
theorem zLS.next (y : zLS g x m A out F hB o n SC SM h) : zLS g x m A out F hB o (n + 1) SC SM h := by
  obtain ⟨⟨Vs, Ps, Ss, Ts, Fs, Tn, A9, G, Rc, c⟩, y2⟩ := y
  exact ⟨⟨Vs, Ps, Ss, Ts, Fs, Tn, A9, G, Rc, c.mono (Nat.le_succ n)⟩, y2⟩
theorem r_scr {sv : Nat → Int} (hA : zLA g a sv L) {i : Int} (h0 : 0 ≤ i) (h1 : i < L) (pc' : Nat) (hp : pc + 1 = pc') (d : decode M.2.1 pc = .ok (.iaload, 1)) (k : zX g M mc ms Q pc' lv (.int (zI (sv i.toNat)) :: st) h bc bs) : zX g M mc ms Q pc lv (.int (zI i) :: .ref a :: st) h bc bs := by
  subst hp
  obtain ⟨a1, a2, a3, a4⟩ := hA
  intro p e s m args below meth c F H locs cells slots ls hP hs hL hc hsl hl
  have ek := zI_clamp (i := i) h0 (by omega)
  refine va_sld F.1 F.2.1 (A := fun q => (gS_ g).heap.size ≤ q) (va_X.moved F.2.2.2.2.2.2.2.1.alike a1) a2 (Nat.not_le.mpr a2) ⟨hP.2.2.2.1, fun q hq _ => hP.2.2.1 q hq, hL⟩ (z_in2 h0 (by omega) h1) d ?_
  rw [ek]
  exact k p e s m args below meth c F H locs cells slots ls hP hs hL hc hsl hl
theorem r_slen {sv : Nat → Int} (hA : zLA g a sv L) (pc' : Nat) (hp : pc + 1 = pc') (d : decode M.2.1 pc = .ok (.arraylength, 1)) (k : zX g M mc ms Q pc' lv (.int (zI L) :: st) h bc bs) : zX g M mc ms Q pc lv (.ref a :: st) h bc bs := by
  subst hp
  obtain ⟨a1, a2, a3, a4⟩ := hA
  intro p e s m args below meth c F H locs cells slots ls hP hs hL hc hsl hl
  refine va_slen F.1 F.2.1 (A := fun q => (gS_ g).heap.size ≤ q) (va_X.moved F.2.2.2.2.2.2.2.1.alike a1) a2 (Nat.not_le.mpr a2) ⟨hP.2.2.2.1, fun q hq _ => hP.2.2.1 q hq, hL⟩ d ?_
  rw [show Int32.ofNat L = zI (L : Int) by unfold zI; rw [← Int32.ofInt_eq_ofNat]]
  exact k p e s m args below meth c F H locs cells slots ls hP hs hL hc hsl hl
abbrev zTrue (v : Int) : Int := if v = 0 then 0 else 1
theorem zTrue_01 (v : Int) : zTrue v = 0 ∨ zTrue v = 1 := by unfold zTrue; split <;> simp
theorem r_bool {v : Int} (hv : zR v) {pc3 pc4 pc7 : Nat} (pc8 : Nat) (e3 : pc + 3 = pc3) (e4 : pc3 + 1 = pc4) (e7 : pc4 + 3 = pc7) (e8 : pc7 + 1 = pc8) (d0 : decode M.2.1 pc = .ok (.ifCond .eq 7, 3)) (d3 : decode M.2.1 pc3 = .ok (.iconst 1, 1)) (d4 : decode M.2.1 pc4 = .ok (.goto 4, 3)) (d7 : decode M.2.1 pc7 = .ok (.iconst 0, 1)) (k : zX g M mc ms Q pc8 lv (.int (zI (zTrue v)) :: st) h bc bs) : zX g M mc ms Q pc lv (.int (zI v) :: st) h bc bs := by
  refine r_ifeq hv pc3 e3 pc7 (by omega) d0 (fun hc => ?_) (fun hc => ?_)
  · refine r_iconst pc8 e8 d7 ?_
    rw [show zTrue v = 0 from if_pos hc] at k; exact k
  · refine r_iconst pc4 e4 d3 ?_
    refine r_goto pc8 (by omega) d4 ?_
    rw [show zTrue v = 1 from if_neg hc] at k; exact k
theorem r_boolL {v : Int} (hv : v = 0 ∨ v = 1) {pc3 pc4 pc7 : Nat} (pc8 : Nat) (e3 : pc + 3 = pc3) (e4 : pc3 + 1 = pc4) (e7 : pc4 + 3 = pc7) (e8 : pc7 + 1 = pc8) (d0 : decode M.2.1 pc = .ok (.ifCond .eq 7, 3)) (d3 : decode M.2.1 pc3 = .ok (.lconst 1, 1)) (d4 : decode M.2.1 pc4 = .ok (.goto 4, 3)) (d7 : decode M.2.1 pc7 = .ok (.lconst 0, 1)) (k : zX g M mc ms Q pc8 lv (.long (zL v) :: st) h bc bs) : zX g M mc ms Q pc lv (.int (zI v) :: st) h bc bs := by
  refine r_ifeq (by omega) pc3 e3 pc7 (by omega) d0 (fun hc => ?_) (fun hc => ?_)
  · refine r_lconst0 pc8 e8 d7 ?_
    rw [hc] at k; exact k
  · refine r_lconst1 pc4 e4 d3 ?_
    refine r_goto pc8 (by omega) d4 ?_
    rw [show v = 1 by omega] at k; exact k
theorem r_lcmpe {a : Int} (pc' : Nat) (hp : pc + 1 = pc') (d : decode M.2.1 pc = .ok (.lcmp, 1)) (k : zX g M mc ms Q pc' lv (.int (zI 0) :: st) h bc bs) : zX g M mc ms Q pc lv (.long (zL a) :: .long (zL a) :: st) h bc bs := by
  refine r_lcmp_any pc' hp d ?_
  have : lg_cmp (zL a) (zL a) = zI 0 := by unfold lg_cmp; simp; rfl
  rw [this]; exact k
end LawArgs
