theorem zvof_R {n : Nat} {S : zS} (hI : MInv n S) {s : Int} : zR (zvof S s (S.1 4).toNat) := by
  have e := hI.vehicles
  have := zvof_range (S := S) (s := s) (S.1 4).toNat
  omega
theorem zon_R {n : Nat} {S : zS} (hI : MInv n S) {u : Nat} {w q : Int} : zR (if q = 0 then zstate S u w else if q = 1 then zlast S u w 0 (-1) else if q = 2 then zlast S u w 1 (-1) else zlast S u w 7 (S.2 7 u)) := by
  have h1 := zstate_range S u w
  have h2 := zlast_range (v := u) (w := w) (its := 0) (wo := -1) hI (by omega)
  have h3 := zlast_range (v := u) (w := w) (its := 1) (wo := -1) hI (by omega)
  have h5 := hI.ofClass u
  have h4 := zlast_range (v := u) (w := w) (its := 7) (wo := S.2 7 u) hI (by omega)
  split
  · omega
  split
  · omega
  split <;> omega
theorem zuntil_R {n : Nat} {S : zS} (hI : MInv n S) {u : Nat} {w gr far U : Int} (h : ztestOK S u w gr far) (hU : U = zuntil S u w gr) : zR U := by
  have e1 := hI.today
  have e29 := hI.until u
  have e6 := hI.built u
  have e26 := hI.testDay u
  have h1 := h.1
  have h2 := h.2.1
  have hw : 0 ≤ w := by split at h1 <;> omega
  subst hU
  unfold zuntil
  split <;> split <;> omega
theorem zsign0_R {n : Nat} {S : zS} (hI : MInv n S) {u : Int} {w q : Int} : zR (if zplate S u w = -1 then 0 else zsign (zplate S u w) q) := by
  have e := zplate_range (v := u) (w := w) hI
  split
  · omega
  · have := zsign_range (p := zplate S u w) (q := q) (by omega) (by omega); omega
def zOK (n : Nat) (S : zS) : Prop := MOk n S ∧ ∀ i : Nat, S.2 34 i ≤ S.1 1
theorem zOK.next {n : Nat} {S : zS} (x : zOK n S) (hn : n < 512) : zOK (n + 1) S := ⟨x.1.next hn, x.2⟩
theorem zOK.of {n n2 : Nat} {S S2 : zS} (x : zOK n S) (h : MOk n2 S2) (h1 : S.1 1 ≤ S2.1 1) (h34 : ∀ i : Nat, S2.2 34 i = S.2 34 i) : zOK n2 S2 := ⟨h, fun i => by rw [h34 i]; exact Int.le_trans (x.2 i) h1⟩
theorem zil_34 {ar : Nat → Nat → Int} {v : Nat} {to t0 : Int} (i : Nat) : ∀ j, zil ar v to t0 j 34 i = ar 34 i
  | 0 => rfl
  | j + 1 => (zu2_ne (fun q => absurd q.1 (by decide))).trans (zil_34 i j)
theorem zsh_34 (ar : Nat → Nat → Int) (b a e : Nat) (i : Nat) : zsh ar b a e 34 i = ar 34 i := by unfold zsh; simp
theorem zins2_34 {S : zS} {u p : Nat} {K W w : Int} (i : Nat) : (zins2 S u p K W w).2 34 i = S.2 34 i := by
  unfold zins2
  simp [zu2, zsh_34]
theorem nNine {t : Int} {P : Prop} (q : t = zNine) (h : -9000000000000000 < t) : P := by
  have q : t = -9000000000000000 := q
  omega
abbrev zBd (t : Int) : Prop := -9000000000000000 ≤ t ∧ t ≤ 9000000000000000
theorem CEx.kd {g : zGT} {o : Nat → Nat} {h : zH} {x : Nat} {S : zS} {n : Nat} (c : CEx g o h x S n) : kd_ h x = 15 := by
  obtain ⟨Vs, Ps, Ss, Ts, Fs, Tn, A, G, Rc, y⟩ := c
  exact y.mn.1
theorem CEx.up {g : zGT} {o : Nat → Nat} {h : zH} {x : Nat} {S : zS} {n : Nat} (c : CEx g o h x S n) : CEx g o h x S (n + 1) := by
  obtain ⟨Vs, Ps, Ss, Ts, Fs, Tn, A, G, Rc, y⟩ := c
  exact ⟨Vs, Ps, Ss, Ts, Fs, Tn, A, G, Rc, y.mono (Nat.le_succ n)⟩
/-- a query's wrapper: it answers t and changes nothing -/
def dQ (g : zGT) (S : zS) (n : Nat) (W : Cond) (y : MethodName) (lvl mc ms : Nat) (avs : List Value) (t : Int) : Prop := ∀ (x : Nat) (o : Nat → Nat) (h : zH) (Q : zO → zH → Prop), CEx g o h x S n → Q (.inl (some (.long (zL t)))) h → zC g W y lvl mc ms (.ref x :: avs) h Q
/-- it answers t and brings the state S2 -/
def dM (g : zGT) (S : zS) (n : Nat) (W : Cond) (y : MethodName) (lvl mc ms : Nat) (avs : List Value) (t : Int) (S2 : zS) : Prop := ∀ (x : Nat) (o : Nat → Nat) (h : zH) (Q : zO → zH → Prop), CEx g o h x S n → (∀ o1 h1, CEx g o1 h1 x S2 (n + 1) → zStep zOwn o h o1 h1 → Q (.inl (some (.long (zL t)))) h1) → zC g W y lvl mc ms (.ref x :: avs) h Q
def zRes (n : Nat) (S : zS) (t : Int) (S2 : zS) : Prop := zOK (n + 1) S2 ∧ S2.1 1 = S.1 1 ∧ (t = zNine → S2 = S) ∧ zBd t
theorem zRes.no {n : Nat} {S : zS} (x : zOK n S) (hn : n < 512) : zRes n S zNine S := ⟨x.next hn, rfl, fun _ => rfl, by decide⟩
set_option maxRecDepth 20000
theorem zsight34 {n : Nat} {S : zS} (hS : zOK n S) {a c : Int} (i : Nat) : zu2 (zu2 (zu2 (zcp S.2 (S.1 31).toNat 4) 33 (S.1 31).toNat a) 34 (S.1 31).toNat (S.1 1)) 35 (S.1 31).toNat c 34 i ≤ zu1 (zu1 S.1 2 0) 31 (S.1 31 + 1) 1 := by
  rw [zu1_ne (by decide), zu1_ne (by decide), zu2_ne (fun q => absurd q.1 (by decide))]
  by_cases hq : i = (S.1 31).toNat
  · rw [hq, zu2_at]; exact Int.le_refl _
  · rw [zu2_ne (fun q => hq q.2), zu2_ne (fun q => absurd q.1 (by decide)), zcp_other (by decide) 4]
    exact hS.2 i
theorem d_vehicle {g : zGT} (hg : zG g) (hnx : zNX g) {mi : Nat} (hm : zMi g mi) {n : Nat} {S : zS} (hS : zOK n S) (hn : n < 512) {a b c : Int} (ha : zR a) (hb : zR b) (hc : zR c) : ∃ (t : Int) (S2 : zS), (zRes n S t S2) ∧ dM g S n (.codeWith yL_vehicle cL_vehicle 5 (Option.some Jvm.ClassFile.FieldType.long) [(0, 8, 9, 22), (0, 8, 15, 14)]) yL_vehicle 18 20 300 [.int (zI a), .int (zI b), .int (zI c)] t S2 := by
  have hI := hS.1.1
  by_cases t1 : ¬ (0 ≤ a ∧ a ≤ 9999 ∧ 0 ≤ b ∧ b ≤ S.1 1 ∧ 0 ≤ c ∧ c ≤ 3 ∧ zdigit a < 10)
  · refine ⟨zNine, S, zRes.no hS hn, fun x o h Q cx hE => ?_⟩
    obtain ⟨Vs, Ps, Ss, Ts, Fs, Tn, A, G, Rc, y⟩ := id cx
    refine w_vehicle hg hnx cx.kd (fun Q1 hQ => ?_)
    refine c_X11_vehicle hg hm hI y ha hb hc (fun e20 => ?_) (fun e20 e21 => ?_) (fun e20 e21 o1 h1 c9 st => ?_)
    · exact hQ _ _ (Or.inl ⟨rfl, hE _ _ cx.up .refl⟩)
    · first | contradiction | (exfalso; omega) | (exfalso; rcases t1 with q | q | q <;> first | contradiction | omega) | (exfalso; rcases t1 with q | q <;> first | contradiction | omega)
    · first | contradiction | (exfalso; omega) | (exfalso; rcases t1 with q | q | q <;> first | contradiction | omega) | (exfalso; rcases t1 with q | q <;> first | contradiction | omega)
  replace t1 := Classical.not_not.mp t1
  by_cases t2 : (zvof S a (S.1 4).toNat ≠ -1 ∨ S.1 4 = 12)
  · refine ⟨zNine, S, zRes.no hS hn, fun x o h Q cx hE => ?_⟩
    obtain ⟨Vs, Ps, Ss, Ts, Fs, Tn, A, G, Rc, y⟩ := id cx
    refine w_vehicle hg hnx cx.kd (fun Q1 hQ => ?_)
    refine c_X11_vehicle hg hm hI y ha hb hc (fun e20 => ?_) (fun e20 e21 => ?_) (fun e20 e21 o1 h1 c9 st => ?_)
    · first | contradiction | (exfalso; omega) | (exfalso; rcases t2 with q | q | q <;> first | contradiction | omega) | (exfalso; rcases t2 with q | q <;> first | contradiction | omega)
    · exact hQ _ _ (Or.inr (Or.inl ⟨rfl, hE _ _ cx.up .refl⟩))
    · first | contradiction | (exfalso; omega) | (exfalso; rcases t2 with q | q | q <;> first | contradiction | omega) | (exfalso; rcases t2 with q | q <;> first | contradiction | omega)
  have e := hI.vehicles
  refine ⟨(S.1 4), (zu1 S.1 4 (S.1 4 + 1), zu2 (zu2 (zu2 (zu2 S.2 5 (S.1 4).toNat a) 6 (S.1 4).toNat b) 7 (S.1 4).toNat c) 29 (S.1 4).toNat (b + 1080)), ⟨hS.of (ok_vehicle hS.1 hn t1 (fun q => t2 (Or.inr q))) (by first | exact Int.le_refl _ | (show S.1 1 ≤ zu1 _ _ _ 1; rw [zu1_ne (by decide)]; first | exact Int.le_refl _ | (rw [zu1_ne (by decide)]; exact Int.le_refl _))) (fun i => by first | rfl | simp [zu2]), (by first | rfl | exact zu1_ne (by decide) | exact (zu1_ne (by decide)).trans (zu1_ne (by decide))), fun q => nNine q (by omega), ⟨by omega, by omega⟩⟩, fun x o h Q cx hE => ?_⟩
  obtain ⟨Vs, Ps, Ss, Ts, Fs, Tn, A, G, Rc, y⟩ := id cx
  refine w_vehicle hg hnx cx.kd (fun Q1 hQ => ?_)
  refine c_X11_vehicle hg hm hI y ha hb hc (fun e20 => ?_) (fun e20 e21 => ?_) (fun e20 e21 o1 h1 c9 st => ?_)
  · first | contradiction | (exfalso; omega) | (exfalso; rcases t2 with q | q | q <;> first | contradiction | omega) | (exfalso; rcases t2 with q | q <;> first | contradiction | omega)
  · first | contradiction | (exfalso; omega) | (exfalso; rcases t2 with q | q | q <;> first | contradiction | omega) | (exfalso; rcases t2 with q | q <;> first | contradiction | omega)
  · exact hQ _ _ ⟨_, rfl, (by omega), hE _ _ c9 st⟩
theorem d_person {g : zGT} (hg : zG g) (hnx : zNX g) {mi : Nat} (hm : zMi g mi) {n : Nat} {S : zS} (hS : zOK n S) (hn : n < 512)  : ∃ (t : Int) (S2 : zS), (zRes n S t S2) ∧ dM g S n (.codeWith yL_person cL_person 2 (Option.some Jvm.ClassFile.FieldType.long) [(0, 5, 6, 14)]) yL_person 18 6 150 [] t S2 := by
  have hI := hS.1.1
  by_cases t1 : S.1 12 = 10
  · refine ⟨zNine, S, zRes.no hS hn, fun x o h Q cx hE => ?_⟩
    obtain ⟨Vs, Ps, Ss, Ts, Fs, Tn, A, G, Rc, y⟩ := id cx
    refine w_person hg hnx cx.kd (fun Q1 hQ => ?_)
    refine c_X11_person hg hm hI y  (fun e20 => ?_) (fun e20 o1 h1 c9 st => ?_)
    · exact hQ _ _ (Or.inl ⟨rfl, hE _ _ cx.up .refl⟩)
    · first | contradiction | (exfalso; omega) | (exfalso; rcases t1 with q | q | q <;> first | contradiction | omega) | (exfalso; rcases t1 with q | q <;> first | contradiction | omega)
  have e := hI.people
  refine ⟨(S.1 12), (zu1 S.1 12 (S.1 12 + 1), S.2), ⟨hS.of (ok_person hS.1 hn t1) (by first | exact Int.le_refl _ | (show S.1 1 ≤ zu1 _ _ _ 1; rw [zu1_ne (by decide)]; first | exact Int.le_refl _ | (rw [zu1_ne (by decide)]; exact Int.le_refl _))) (fun i => by first | rfl | simp [zu2]), (by first | rfl | exact zu1_ne (by decide) | exact (zu1_ne (by decide)).trans (zu1_ne (by decide))), fun q => nNine q (by omega), ⟨by omega, by omega⟩⟩, fun x o h Q cx hE => ?_⟩
  obtain ⟨Vs, Ps, Ss, Ts, Fs, Tn, A, G, Rc, y⟩ := id cx
  refine w_person hg hnx cx.kd (fun Q1 hQ => ?_)
  refine c_X11_person hg hm hI y  (fun e20 => ?_) (fun e20 o1 h1 c9 st => ?_)
  · first | contradiction | (exfalso; omega) | (exfalso; rcases t1 with q | q | q <;> first | contradiction | omega) | (exfalso; rcases t1 with q | q <;> first | contradiction | omega)
  · exact hQ _ _ ⟨_, rfl, (by omega), hE _ _ c9 st⟩
theorem d_protect {g : zGT} (hg : zG g) (hnx : zNX g) {n : Nat} {S : zS} (hS : zOK n S) (hn : n < 512) {v is : Int} (hv : zR v) (his : is = 0 ∨ is = 1) : ∃ (t : Int) (S2 : zS), (zRes n S t S2) ∧ dM g S n (.codeWith yL_protect cL_protect 4 (Option.some Jvm.ClassFile.FieldType.long) [(0, 14, 15, 36)]) yL_protect 15 4 40 [.int (zI v), .int (zI is)] t S2 := by
  have hI := hS.1.1
  by_cases t1 : ¬ (0 ≤ v ∧ v < S.1 12)
  · refine ⟨zNine, S, zRes.no hS hn, fun x o h Q cx hE => ?_⟩
    obtain ⟨Vs, Ps, Ss, Ts, Fs, Tn, A, G, Rc, y⟩ := id cx
    refine w_protect hg hnx cx.kd (fun Q1 hQ => ?_)
    refine c_X11_protect hg hI y hv his (fun e20 => ?_) (fun p9 e20 e21 o1 h1 c9 st => ?_)
    · exact hQ _ _ (Or.inl ⟨rfl, hE _ _ cx.up .refl⟩)
    · first | contradiction | (exfalso; omega) | (exfalso; rcases t1 with q | q | q <;> first | contradiction | omega) | (exfalso; rcases t1 with q | q <;> first | contradiction | omega)
  replace t1 := Classical.not_not.mp t1
  obtain ⟨u, rfl⟩ : ∃ u : Nat, v = (u : Int) := ⟨v.toNat, by omega⟩
  have e := hI.prot u
  refine ⟨(S.2 13 u), (S.1, zu2 S.2 13 u is), ⟨hS.of (ok_protect hS.1 hn his) (by first | exact Int.le_refl _ | (show S.1 1 ≤ zu1 _ _ _ 1; rw [zu1_ne (by decide)]; first | exact Int.le_refl _ | (rw [zu1_ne (by decide)]; exact Int.le_refl _))) (fun i => by first | rfl | simp [zu2]), (by first | rfl | exact zu1_ne (by decide) | exact (zu1_ne (by decide)).trans (zu1_ne (by decide))), fun q => nNine q (by omega), ⟨by omega, by omega⟩⟩, fun x o h Q cx hE => ?_⟩
  obtain ⟨Vs, Ps, Ss, Ts, Fs, Tn, A, G, Rc, y⟩ := id cx
  refine w_protect hg hnx cx.kd (fun Q1 hQ => ?_)
  refine c_X11_protect hg hI y hv his (fun e20 => ?_) (fun p9 e20 e21 o1 h1 c9 st => ?_)
  · first | contradiction | (exfalso; omega) | (exfalso; rcases t1 with q | q | q <;> first | contradiction | omega) | (exfalso; rcases t1 with q | q <;> first | contradiction | omega)
  · obtain rfl : u = p9 := by omega
    exact hQ _ _ ⟨_, rfl, (by first | omega | simp), hE _ _ c9 st⟩
theorem d_tell {g : zGT} (hg : zG g) (hnx : zNX g) {mi : Nat} (hm : zMi g mi) {n : Nat} {S : zS} (hS : zOK n S) (hn : n < 512) {v its what w : Int} (hv : zR v) (hi9 : zR its) (ha9 : zR what) (hw : zR w) : ∃ (t : Int) (S2 : zS), (zRes n S t S2) ∧ dM g S n (.codeWith yL_tell cL_tell 6 (Option.some Jvm.ClassFile.FieldType.long) [(0, 10, 11, 36), (0, 10, 17, 22), (0, 10, 23, 14)]) yL_tell 19 12 200 [.int (zI v), .int (zI its), .int (zI what), .int (zI w)] t S2 := by
  have hI := hS.1.1
  by_cases t1 : ¬ (0 ≤ v ∧ v < S.1 4 ∧ (0 ≤ its ∧ its ≤ 1 → 0 ≤ what ∧ what < S.1 12))
  · refine ⟨zNine, S, zRes.no hS hn, fun x o h Q cx hE => ?_⟩
    obtain ⟨Vs, Ps, Ss, Ts, Fs, Tn, A, G, Rc, y⟩ := id cx
    refine w_tell hg hnx cx.kd (fun Q1 hQ => ?_)
    refine c_X11_tell hg hm hI y hn hv hi9 ha9 hw (fun e20 => ?_) (fun u9 e20 e21 e22 => ?_) (fun u9 e20 e21 e22 e23 => ?_) (fun u9 p9 e20 e21 e22 e23 e24 o1 h1 c9 st => ?_)
    · exact hQ _ _ (Or.inl ⟨rfl, hE _ _ cx.up .refl⟩)
    · first | contradiction | (exfalso; omega) | (exfalso; rcases t1 with q | q | q <;> first | contradiction | omega) | (exfalso; rcases t1 with q | q <;> first | contradiction | omega)
    · first | contradiction | (exfalso; omega) | (exfalso; rcases t1 with q | q | q <;> first | contradiction | omega) | (exfalso; rcases t1 with q | q <;> first | contradiction | omega)
    · first | contradiction | (exfalso; omega) | (exfalso; rcases t1 with q | q | q <;> first | contradiction | omega) | (exfalso; rcases t1 with q | q <;> first | contradiction | omega)
  replace t1 := Classical.not_not.mp t1
  obtain ⟨u, rfl⟩ : ∃ u : Nat, v = (u : Int) := ⟨v.toNat, by omega⟩
  by_cases t2 : ¬ (0 ≤ its ∧ its ≤ 7 ∧ (its ≤ 1 ∨ its = 7 ∧ 0 ≤ what ∧ what ≤ 3 ∨ its ≠ 7 ∧ what = 0) ∧ S.2 6 u ≤ w ∧ w ≤ S.1 1)
  · refine ⟨zNine, S, zRes.no hS hn, fun x o h Q cx hE => ?_⟩
    obtain ⟨Vs, Ps, Ss, Ts, Fs, Tn, A, G, Rc, y⟩ := id cx
    refine w_tell hg hnx cx.kd (fun Q1 hQ => ?_)
    refine c_X11_tell hg hm hI y hn hv hi9 ha9 hw (fun e20 => ?_) (fun u9 e20 e21 e22 => ?_) (fun u9 e20 e21 e22 e23 => ?_) (fun u9 p9 e20 e21 e22 e23 e24 o1 h1 c9 st => ?_)
    · first | contradiction | (exfalso; omega) | (exfalso; rcases t2 with q | q | q <;> first | contradiction | omega) | (exfalso; rcases t2 with q | q <;> first | contradiction | omega)
    · obtain rfl : u = u9 := by omega
      exact hQ _ _ (Or.inr (Or.inl ⟨rfl, hE _ _ cx.up .refl⟩))
    · obtain rfl : u = u9 := by omega
      first | contradiction | (exfalso; omega) | (exfalso; rcases t2 with q | q | q <;> first | contradiction | omega) | (exfalso; rcases t2 with q | q <;> first | contradiction | omega)
    · obtain rfl : u = u9 := by omega
      subst e24
      first | contradiction | (exfalso; omega) | (exfalso; rcases t2 with q | q | q <;> first | contradiction | omega) | (exfalso; rcases t2 with q | q <;> first | contradiction | omega)
  replace t2 := Classical.not_not.mp t2
  by_cases t3 : S.2 8 u = 30
  · refine ⟨zNine, S, zRes.no hS hn, fun x o h Q cx hE => ?_⟩
    obtain ⟨Vs, Ps, Ss, Ts, Fs, Tn, A, G, Rc, y⟩ := id cx
    refine w_tell hg hnx cx.kd (fun Q1 hQ => ?_)
    refine c_X11_tell hg hm hI y hn hv hi9 ha9 hw (fun e20 => ?_) (fun u9 e20 e21 e22 => ?_) (fun u9 e20 e21 e22 e23 => ?_) (fun u9 p9 e20 e21 e22 e23 e24 o1 h1 c9 st => ?_)
    · first | contradiction | (exfalso; omega) | (exfalso; rcases t3 with q | q | q <;> first | contradiction | omega) | (exfalso; rcases t3 with q | q <;> first | contradiction | omega)
    · obtain rfl : u = u9 := by omega
      first | contradiction | (exfalso; omega) | (exfalso; rcases t3 with q | q | q <;> first | contradiction | omega) | (exfalso; rcases t3 with q | q <;> first | contradiction | omega)
    · obtain rfl : u = u9 := by omega
      exact hQ _ _ (Or.inr (Or.inr (Or.inl ⟨rfl, hE _ _ cx.up .refl⟩)))
    · obtain rfl : u = u9 := by omega
      subst e24
      first | contradiction | (exfalso; omega) | (exfalso; rcases t3 with q | q | q <;> first | contradiction | omega) | (exfalso; rcases t3 with q | q <;> first | contradiction | omega)
  have e := hI.events u
  have e2 := zpos_le (ar := S.2) (b := 30 * u) (w := w) (S.2 8 u).toNat
  refine ⟨((S.2 8 u).toNat - ((zpos S.2 (30 * u) w (S.2 8 u).toNat) : Int)), (zins2 S u (zpos S.2 (30 * u) w (S.2 8 u).toNat) its what w), ⟨hS.of (ok_tell hS.1 hn t3 (by omega) (by have := hI.people; omega) (by have := hI.built u; have := hI.today; omega)) (by first | exact Int.le_refl _ | (show S.1 1 ≤ zu1 _ _ _ 1; rw [zu1_ne (by decide)]; first | exact Int.le_refl _ | (rw [zu1_ne (by decide)]; exact Int.le_refl _))) (fun i => zins2_34 i), (by first | rfl | exact zu1_ne (by decide) | exact (zu1_ne (by decide)).trans (zu1_ne (by decide))), fun q => nNine q (by omega), ⟨by omega, by omega⟩⟩, fun x o h Q cx hE => ?_⟩
  obtain ⟨Vs, Ps, Ss, Ts, Fs, Tn, A, G, Rc, y⟩ := id cx
  refine w_tell hg hnx cx.kd (fun Q1 hQ => ?_)
  refine c_X11_tell hg hm hI y hn hv hi9 ha9 hw (fun e20 => ?_) (fun u9 e20 e21 e22 => ?_) (fun u9 e20 e21 e22 e23 => ?_) (fun u9 p9 e20 e21 e22 e23 e24 o1 h1 c9 st => ?_)
  · first | contradiction | (exfalso; omega) | (exfalso; rcases t3 with q | q | q <;> first | contradiction | omega) | (exfalso; rcases t3 with q | q <;> first | contradiction | omega)
  · obtain rfl : u = u9 := by omega
    first | contradiction | (exfalso; omega) | (exfalso; rcases t3 with q | q | q <;> first | contradiction | omega) | (exfalso; rcases t3 with q | q <;> first | contradiction | omega)
  · obtain rfl : u = u9 := by omega
    first | contradiction | (exfalso; omega) | (exfalso; rcases t3 with q | q | q <;> first | contradiction | omega) | (exfalso; rcases t3 with q | q <;> first | contradiction | omega)
  · obtain rfl : u = u9 := by omega
    subst e24
    exact hQ _ _ ⟨_, rfl, (by omega), hE _ _ c9 st⟩
theorem d_on {g : zGT} (hg : zG g) (hnx : zNX g) {n : Nat} {S : zS} (hS : zOK n S) {v w q : Int} (hv : zR v) (hw : zR w) (hq : zR q) : ∃ t : Int, (zBd t) ∧ dQ g S n (.codeWith yL_on cL_on 5 (Option.some Jvm.ClassFile.FieldType.long) [(0, 8, 9, 36), (0, 8, 15, 22)]) yL_on 16 4 40 [.int (zI v), .int (zI w), .int (zI q)] t := by
  have hI := hS.1.1
  by_cases t1 : ¬ (0 ≤ v ∧ v < S.1 4)
  · refine ⟨zNine, (by decide), fun x o h Q cx hE => ?_⟩
    obtain ⟨Vs, Ps, Ss, Ts, Fs, Tn, A, G, Rc, y⟩ := id cx
    refine w_on hg hnx cx.kd (fun Q1 hQ => ?_)
    refine c_X11_on hg hI y hv hw hq (fun e20 => ?_) (fun u9 e20 e21 e22 => ?_) (fun u9 e20 e21 e22 => ?_)
    · exact hQ _ _ (Or.inl ⟨rfl, hE⟩)
    · first | contradiction | (exfalso; omega) | (exfalso; rcases t1 with q | q | q <;> first | contradiction | omega) | (exfalso; rcases t1 with q | q <;> first | contradiction | omega)
    · first | contradiction | (exfalso; omega) | (exfalso; rcases t1 with q | q | q <;> first | contradiction | omega) | (exfalso; rcases t1 with q | q <;> first | contradiction | omega)
  replace t1 := Classical.not_not.mp t1
  obtain ⟨u, rfl⟩ : ∃ u : Nat, v = (u : Int) := ⟨v.toNat, by omega⟩
  by_cases t2 : ¬ (0 ≤ w ∧ w ≤ S.1 1 ∧ 0 ≤ q ∧ q ≤ 3)
  · refine ⟨zNine, (by decide), fun x o h Q cx hE => ?_⟩
    obtain ⟨Vs, Ps, Ss, Ts, Fs, Tn, A, G, Rc, y⟩ := id cx
    refine w_on hg hnx cx.kd (fun Q1 hQ => ?_)
    refine c_X11_on hg hI y hv hw hq (fun e20 => ?_) (fun u9 e20 e21 e22 => ?_) (fun u9 e20 e21 e22 => ?_)
    · first | contradiction | (exfalso; omega) | (exfalso; rcases t2 with q | q | q <;> first | contradiction | omega) | (exfalso; rcases t2 with q | q <;> first | contradiction | omega)
    · obtain rfl : u = u9 := by omega
      exact hQ _ _ (Or.inr (Or.inl ⟨rfl, hE⟩))
    · obtain rfl : u = u9 := by omega
      first | contradiction | (exfalso; omega) | (exfalso; rcases t2 with q | q | q <;> first | contradiction | omega) | (exfalso; rcases t2 with q | q <;> first | contradiction | omega)
  replace t2 := Classical.not_not.mp t2
  have e := zon_R (u := u) (w := w) (q := q) hI
  refine ⟨(if q = 0 then zstate S u w else if q = 1 then zlast S u w 0 (-1) else if q = 2 then zlast S u w 1 (-1) else zlast S u w 7 (S.2 7 u)), ⟨by omega, by omega⟩, fun x o h Q cx hE => ?_⟩
  obtain ⟨Vs, Ps, Ss, Ts, Fs, Tn, A, G, Rc, y⟩ := id cx
  refine w_on hg hnx cx.kd (fun Q1 hQ => ?_)
  refine c_X11_on hg hI y hv hw hq (fun e20 => ?_) (fun u9 e20 e21 e22 => ?_) (fun u9 e20 e21 e22 => ?_)
  · first | contradiction | (exfalso; omega) | (exfalso; rcases t2 with q | q | q <;> first | contradiction | omega) | (exfalso; rcases t2 with q | q <;> first | contradiction | omega)
  · obtain rfl : u = u9 := by omega
    first | contradiction | (exfalso; omega) | (exfalso; rcases t2 with q | q | q <;> first | contradiction | omega) | (exfalso; rcases t2 with q | q <;> first | contradiction | omega)
  · obtain rfl : u = u9 := by omega
    exact hQ _ _ ⟨_, rfl, (by omega), hE⟩
theorem d_bar {g : zGT} (hg : zG g) (hnx : zNX g) {n : Nat} {S : zS} (hS : zOK n S) (hn : n < 512) {a b is : Int} (ha : zR a) (hb : zR b) (his : is = 0 ∨ is = 1) : ∃ (t : Int) (S2 : zS), (zRes n S t S2) ∧ dM g S n (.codeWith yL_bar cL_bar 5 (Option.some Jvm.ClassFile.FieldType.long) [(0, 15, 16, 22)]) yL_bar 15 4 40 [.int (zI a), .int (zI b), .int (zI is)] t S2 := by
  have hI := hS.1.1
  by_cases t1 : ¬ (65 ≤ a ∧ a ≤ 90 ∧ 65 ≤ b ∧ b ≤ 90)
  · refine ⟨zNine, S, zRes.no hS hn, fun x o h Q cx hE => ?_⟩
    obtain ⟨Vs, Ps, Ss, Ts, Fs, Tn, A, G, Rc, y⟩ := id cx
    refine w_bar hg hnx cx.kd (fun Q1 hQ => ?_)
    refine c_X11_bar hg hI y ha hb his (fun e20 => ?_) (fun e20 o1 h1 c9 st => ?_)
    · exact hQ _ _ (Or.inl ⟨rfl, hE _ _ cx.up .refl⟩)
    · first | contradiction | (exfalso; omega) | (exfalso; rcases t1 with q | q | q <;> first | contradiction | omega) | (exfalso; rcases t1 with q | q <;> first | contradiction | omega)
  replace t1 := Classical.not_not.mp t1
  have e := hI.barred (26 * (a - 65) + b - 65).toNat
  refine ⟨(S.2 15 (26 * (a - 65) + b - 65).toNat), (S.1, zu2 S.2 15 (26 * (a - 65) + b - 65).toNat is), ⟨hS.of (ok_bar hS.1 hn his) (by first | exact Int.le_refl _ | (show S.1 1 ≤ zu1 _ _ _ 1; rw [zu1_ne (by decide)]; first | exact Int.le_refl _ | (rw [zu1_ne (by decide)]; exact Int.le_refl _))) (fun i => by first | rfl | simp [zu2]), (by first | rfl | exact zu1_ne (by decide) | exact (zu1_ne (by decide)).trans (zu1_ne (by decide))), fun q => nNine q (by omega), ⟨by omega, by omega⟩⟩, fun x o h Q cx hE => ?_⟩
  obtain ⟨Vs, Ps, Ss, Ts, Fs, Tn, A, G, Rc, y⟩ := id cx
  refine w_bar hg hnx cx.kd (fun Q1 hQ => ?_)
  refine c_X11_bar hg hI y ha hb his (fun e20 => ?_) (fun e20 o1 h1 c9 st => ?_)
  · first | contradiction | (exfalso; omega) | (exfalso; rcases t1 with q | q | q <;> first | contradiction | omega) | (exfalso; rcases t1 with q | q <;> first | contradiction | omega)
  · exact hQ _ _ ⟨_, rfl, (by first | omega | simp), hE _ _ c9 st⟩
theorem d_allot {g : zGT} (hg : zG g) (hnx : zNX g) {n : Nat} {S : zS} (hS : zOK n S) (hn : n < 512) {v : Int} (hv : zR v) : ∃ (t : Int) (S2 : zS), (zRes n S t S2) ∧ dM g S n (.codeWith yL_allot cL_allot 3 (Option.some Jvm.ClassFile.FieldType.long) [(0, 6, 7, 36), (0, 6, 12, 14)]) yL_allot 16 8 4300 [.int (zI v)] t S2 := by
  have hI := hS.1.1
  by_cases t1 : ¬ (0 ≤ v ∧ v < S.1 4)
  · refine ⟨zNine, S, zRes.no hS hn, fun x o h Q cx hE => ?_⟩
    obtain ⟨Vs, Ps, Ss, Ts, Fs, Tn, A, G, Rc, y⟩ := id cx
    refine w_allot hg hnx cx.kd (fun Q1 hQ => ?_)
    refine c_X11_allot hg hI y hn hv (fun e20 => ?_) (fun u9 e20 e21 e22 => ?_) (fun u9 e20 e21 e22 e23 o1 h1 c9 st => ?_)
    · exact hQ _ _ (Or.inl ⟨rfl, hE _ _ cx.up .refl⟩)
    · first | contradiction | (exfalso; omega) | (exfalso; rcases t1 with q | q | q <;> first | contradiction | omega) | (exfalso; rcases t1 with q | q <;> first | contradiction | omega)
    · first | contradiction | (exfalso; omega) | (exfalso; rcases t1 with q | q | q <;> first | contradiction | omega) | (exfalso; rcases t1 with q | q <;> first | contradiction | omega)
  replace t1 := Classical.not_not.mp t1
  obtain ⟨u, rfl⟩ : ∃ u : Nat, v = (u : Int) := ⟨v.toNat, by omega⟩
  by_cases t2 : (zstate S u (S.1 1) = 4 ∨ znext S = 67600)
  · refine ⟨zNine, S, zRes.no hS hn, fun x o h Q cx hE => ?_⟩
    obtain ⟨Vs, Ps, Ss, Ts, Fs, Tn, A, G, Rc, y⟩ := id cx
    refine w_allot hg hnx cx.kd (fun Q1 hQ => ?_)
    refine c_X11_allot hg hI y hn hv (fun e20 => ?_) (fun u9 e20 e21 e22 => ?_) (fun u9 e20 e21 e22 e23 o1 h1 c9 st => ?_)
    · first | contradiction | (exfalso; omega) | (exfalso; rcases t2 with q | q | q <;> first | contradiction | omega) | (exfalso; rcases t2 with q | q <;> first | contradiction | omega)
    · obtain rfl : u = u9 := by omega
      exact hQ _ _ (Or.inr (Or.inl ⟨rfl, hE _ _ cx.up .refl⟩))
    · obtain rfl : u = u9 := by omega
      first | contradiction | (exfalso; omega) | (exfalso; rcases t2 with q | q | q <;> first | contradiction | omega) | (exfalso; rcases t2 with q | q <;> first | contradiction | omega)
  have e := znext_range hI
  refine ⟨(znext S), (zu1 (zu1 S.1 16 (znext S)) 18 (S.1 18 + 1), zu2 (zu2 S.2 17 ((znext S) / 64).toNat (zset (S.2 17 ((znext S) / 64).toNat) ((znext S) % 64))) 19 (S.1 18).toNat (zpack (znext S) u (S.1 1))), ⟨hS.of (ok_allot hS.1 hn t1.2 (by omega)) (by first | exact Int.le_refl _ | (show S.1 1 ≤ zu1 _ _ _ 1; rw [zu1_ne (by decide)]; first | exact Int.le_refl _ | (rw [zu1_ne (by decide)]; exact Int.le_refl _))) (fun i => by first | rfl | simp [zu2]), (by first | rfl | exact zu1_ne (by decide) | exact (zu1_ne (by decide)).trans (zu1_ne (by decide))), fun q => nNine q (by omega), ⟨by omega, by omega⟩⟩, fun x o h Q cx hE => ?_⟩
  obtain ⟨Vs, Ps, Ss, Ts, Fs, Tn, A, G, Rc, y⟩ := id cx
  refine w_allot hg hnx cx.kd (fun Q1 hQ => ?_)
  refine c_X11_allot hg hI y hn hv (fun e20 => ?_) (fun u9 e20 e21 e22 => ?_) (fun u9 e20 e21 e22 e23 o1 h1 c9 st => ?_)
  · first | contradiction | (exfalso; omega) | (exfalso; rcases t2 with q | q | q <;> first | contradiction | omega) | (exfalso; rcases t2 with q | q <;> first | contradiction | omega)
  · obtain rfl : u = u9 := by omega
    first | contradiction | (exfalso; omega) | (exfalso; rcases t2 with q | q | q <;> first | contradiction | omega) | (exfalso; rcases t2 with q | q <;> first | contradiction | omega)
  · obtain rfl : u = u9 := by omega
    exact hQ _ _ ⟨_, rfl, (by omega), hE _ _ c9 st⟩
theorem d_wish {g : zGT} (hg : zG g) (hnx : zNX g) {n : Nat} {S : zS} (hS : zOK n S) (hn : n < 512) {v : Int} (hv : zR v) : ∃ (t : Int) (S2 : zS), (zRes n S t S2) ∧ dM g S n (.codeWith yL_wish cL_wish 3 (Option.some Jvm.ClassFile.FieldType.long) [(0, 6, 7, 36), (0, 6, 12, 14)]) yL_wish 16 8 4300 [.int (zI v)] t S2 := by
  have hI := hS.1.1
  by_cases t1 : ¬ (0 ≤ v ∧ v < S.1 4)
  · refine ⟨zNine, S, zRes.no hS hn, fun x o h Q cx hE => ?_⟩
    obtain ⟨Vs, Ps, Ss, Ts, Fs, Tn, A, G, Rc, y⟩ := id cx
    refine w_wish hg hnx cx.kd (fun Q1 hQ => ?_)
    refine c_X11_wish hg hI y hn hv (fun e20 => ?_) (fun u9 e20 e21 e22 => ?_) (fun u9 e20 e21 e22 e23 e24 o1 h1 c9 st => ?_)
    · exact hQ _ _ (Or.inl ⟨rfl, hE _ _ cx.up .refl⟩)
    · first | contradiction | (exfalso; omega) | (exfalso; rcases t1 with q | q | q <;> first | contradiction | omega) | (exfalso; rcases t1 with q | q <;> first | contradiction | omega)
    · first | contradiction | (exfalso; omega) | (exfalso; rcases t1 with q | q | q <;> first | contradiction | omega) | (exfalso; rcases t1 with q | q <;> first | contradiction | omega)
  replace t1 := Classical.not_not.mp t1
  obtain ⟨u, rfl⟩ : ∃ u : Nat, v = (u : Int) := ⟨v.toNat, by omega⟩
  by_cases t2 : (zstate S u (S.1 1) = 4 ∨ ¬ zplateOK S ∨ ¬ zfree S.2 (zplateV S))
  · refine ⟨zNine, S, zRes.no hS hn, fun x o h Q cx hE => ?_⟩
    obtain ⟨Vs, Ps, Ss, Ts, Fs, Tn, A, G, Rc, y⟩ := id cx
    refine w_wish hg hnx cx.kd (fun Q1 hQ => ?_)
    refine c_X11_wish hg hI y hn hv (fun e20 => ?_) (fun u9 e20 e21 e22 => ?_) (fun u9 e20 e21 e22 e23 e24 o1 h1 c9 st => ?_)
    · first | contradiction | (exfalso; omega) | (exfalso; rcases t2 with q | q | q <;> first | contradiction | omega) | (exfalso; rcases t2 with q | q <;> first | contradiction | omega)
    · obtain rfl : u = u9 := by omega
      exact hQ _ _ (Or.inr (Or.inl ⟨rfl, hE _ _ cx.up .refl⟩))
    · obtain rfl : u = u9 := by omega
      first | contradiction | (exfalso; omega) | (exfalso; rcases t2 with q | q | q <;> first | contradiction | omega) | (exfalso; rcases t2 with q | q <;> first | contradiction | omega)
  have c2 : zplateOK S := Classical.byContradiction fun q => t2 (Or.inr (Or.inl q))
  have c3 := c2
  unfold zplateOK at c3
  have e : 0 ≤ zplateV S ∧ zplateV S < 67600 := by unfold zplateV; omega
  refine ⟨(zplateV S), (zu1 (zu1 S.1 2 0) 18 (S.1 18 + 1), zu2 (zu2 S.2 17 ((zplateV S) / 64).toNat (zset (S.2 17 ((zplateV S) / 64).toNat) ((zplateV S) % 64))) 19 (S.1 18).toNat (zpack (zplateV S) u (S.1 1))), ⟨hS.of (ok_wish hS.1 hn t1.2 c2) (by first | exact Int.le_refl _ | (show S.1 1 ≤ zu1 _ _ _ 1; rw [zu1_ne (by decide)]; first | exact Int.le_refl _ | (rw [zu1_ne (by decide)]; exact Int.le_refl _))) (fun i => by first | rfl | simp [zu2]), (by first | rfl | exact zu1_ne (by decide) | exact (zu1_ne (by decide)).trans (zu1_ne (by decide))), fun q => nNine q (by omega), ⟨by omega, by omega⟩⟩, fun x o h Q cx hE => ?_⟩
  obtain ⟨Vs, Ps, Ss, Ts, Fs, Tn, A, G, Rc, y⟩ := id cx
  refine w_wish hg hnx cx.kd (fun Q1 hQ => ?_)
  refine c_X11_wish hg hI y hn hv (fun e20 => ?_) (fun u9 e20 e21 e22 => ?_) (fun u9 e20 e21 e22 e23 e24 o1 h1 c9 st => ?_)
  · first | contradiction | (exfalso; omega) | (exfalso; rcases t2 with q | q | q <;> first | contradiction | omega) | (exfalso; rcases t2 with q | q <;> first | contradiction | omega)
  · obtain rfl : u = u9 := by omega
    first | contradiction | (exfalso; omega) | (exfalso; rcases t2 with q | q | q <;> first | contradiction | omega) | (exfalso; rcases t2 with q | q <;> first | contradiction | omega)
  · obtain rfl : u = u9 := by omega
    exact hQ _ _ ⟨_, rfl, (by omega), hE _ _ c9 st⟩
theorem d_plate {g : zGT} (hg : zG g) (hnx : zNX g) {n : Nat} {S : zS} (hS : zOK n S) {v w q : Int} (hv : zR v) (hw : zR w) (hq : zR q) : ∃ t : Int, (zBd t ∧ (∀ u : Nat, v = u → v < S.1 4 → (0 ≤ q ∧ q ≤ 3) → (0 ≤ w ∧ w ≤ S.1 1) → t = if zplate S u w = -1 then 0 else zsign (zplate S u w) q)) ∧ dQ g S n (.codeWith yL_plate cL_plate 5 (Option.some Jvm.ClassFile.FieldType.long) [(0, 8, 9, 36), (0, 8, 15, 22)]) yL_plate 16 4 40 [.int (zI v), .int (zI w), .int (zI q)] t := by
  have hI := hS.1.1
  by_cases t1 : ¬ (0 ≤ v ∧ v < S.1 4 ∧ 0 ≤ q ∧ q ≤ 3)
  · refine ⟨zNine, ⟨(by decide), fun u2 hu h9 ha hb => by exfalso; omega⟩, fun x o h Q cx hE => ?_⟩
    obtain ⟨Vs, Ps, Ss, Ts, Fs, Tn, A, G, Rc, y⟩ := id cx
    refine w_plate hg hnx cx.kd (fun Q1 hQ => ?_)
    refine c_X11_plate hg hI y hv hw hq (fun e20 => ?_) (fun u9 e20 e21 e22 e23 => ?_) (fun u9 e20 e21 e22 e23 => ?_)
    · exact hQ _ _ (Or.inl ⟨rfl, hE⟩)
    · first | contradiction | (exfalso; omega) | (exfalso; rcases t1 with q | q | q <;> first | contradiction | omega) | (exfalso; rcases t1 with q | q <;> first | contradiction | omega)
    · first | contradiction | (exfalso; omega) | (exfalso; rcases t1 with q | q | q <;> first | contradiction | omega) | (exfalso; rcases t1 with q | q <;> first | contradiction | omega)
  replace t1 := Classical.not_not.mp t1
  obtain ⟨u, rfl⟩ : ∃ u : Nat, v = (u : Int) := ⟨v.toNat, by omega⟩
  by_cases t2 : ¬ (0 ≤ w ∧ w ≤ S.1 1)
  · refine ⟨zNine, ⟨(by decide), fun u2 hu h9 ha hb => by exfalso; omega⟩, fun x o h Q cx hE => ?_⟩
    obtain ⟨Vs, Ps, Ss, Ts, Fs, Tn, A, G, Rc, y⟩ := id cx
    refine w_plate hg hnx cx.kd (fun Q1 hQ => ?_)
    refine c_X11_plate hg hI y hv hw hq (fun e20 => ?_) (fun u9 e20 e21 e22 e23 => ?_) (fun u9 e20 e21 e22 e23 => ?_)
    · first | contradiction | (exfalso; omega) | (exfalso; rcases t2 with q | q | q <;> first | contradiction | omega) | (exfalso; rcases t2 with q | q <;> first | contradiction | omega)
    · obtain rfl : u = u9 := by omega
      exact hQ _ _ (Or.inr (Or.inl ⟨rfl, hE⟩))
    · obtain rfl : u = u9 := by omega
      first | contradiction | (exfalso; omega) | (exfalso; rcases t2 with q | q | q <;> first | contradiction | omega) | (exfalso; rcases t2 with q | q <;> first | contradiction | omega)
  replace t2 := Classical.not_not.mp t2
  have e := zsign0_R (u := u) (w := w) (q := q) hI
  refine ⟨(if zplate S u w = -1 then 0 else zsign (zplate S u w) q), ⟨⟨by omega, by omega⟩, fun u2 hu h9 ha hb => by obtain rfl : u = u2 := (by omega); rfl⟩, fun x o h Q cx hE => ?_⟩
  obtain ⟨Vs, Ps, Ss, Ts, Fs, Tn, A, G, Rc, y⟩ := id cx
  refine w_plate hg hnx cx.kd (fun Q1 hQ => ?_)
  refine c_X11_plate hg hI y hv hw hq (fun e20 => ?_) (fun u9 e20 e21 e22 e23 => ?_) (fun u9 e20 e21 e22 e23 => ?_)
  · first | contradiction | (exfalso; omega) | (exfalso; rcases t2 with q | q | q <;> first | contradiction | omega) | (exfalso; rcases t2 with q | q <;> first | contradiction | omega)
  · obtain rfl : u = u9 := by omega
    first | contradiction | (exfalso; omega) | (exfalso; rcases t2 with q | q | q <;> first | contradiction | omega) | (exfalso; rcases t2 with q | q <;> first | contradiction | omega)
  · obtain rfl : u = u9 := by omega
    exact hQ _ _ ⟨_, rfl, (by omega), hE⟩
theorem d_rate {g : zGT} (hg : zG g) (hnx : zNX g) {n : Nat} {S : zS} (hS : zOK n S) (hn : n < 512) {a b c9 : Int} (ha : zR a) (hb : zR b) (hc : zR c9) : ∃ (t : Int) (S2 : zS), (zRes n S t S2) ∧ dM g S n (.codeWith yL_rate cL_rate 5 (Option.some Jvm.ClassFile.FieldType.long) [(0, 8, 9, 22), (0, 8, 15, 14)]) yL_rate 16 6 4300 [.int (zI a), .int (zI b), .int (zI c9)] t S2 := by
  have hI := hS.1.1
  by_cases t1 : ¬ (0 ≤ a ∧ a ≤ 3 ∧ 0 ≤ b ∧ b ≤ 20000 ∧ 0 ≤ c9 ∧ c9 ≤ 100000)
  · refine ⟨zNine, S, zRes.no hS hn, fun x o h Q cx hE => ?_⟩
    obtain ⟨Vs, Ps, Ss, Ts, Fs, Tn, A, G, Rc, y⟩ := id cx
    refine w_rate hg hnx cx.kd (fun Q1 hQ => ?_)
    refine c_X11_rate hg hI y ha hb hc (fun e20 => ?_) (fun e20 e21 => ?_) (fun e20 e21 o1 h1 c9 st => ?_)
    · exact hQ _ _ (Or.inl ⟨rfl, hE _ _ cx.up .refl⟩)
    · first | contradiction | (exfalso; omega) | (exfalso; rcases t1 with q | q | q <;> first | contradiction | omega) | (exfalso; rcases t1 with q | q <;> first | contradiction | omega)
    · first | contradiction | (exfalso; omega) | (exfalso; rcases t1 with q | q | q <;> first | contradiction | omega) | (exfalso; rcases t1 with q | q <;> first | contradiction | omega)
  replace t1 := Classical.not_not.mp t1
  by_cases t2 : S.1 20 = 40
  · refine ⟨zNine, S, zRes.no hS hn, fun x o h Q cx hE => ?_⟩
    obtain ⟨Vs, Ps, Ss, Ts, Fs, Tn, A, G, Rc, y⟩ := id cx
    refine w_rate hg hnx cx.kd (fun Q1 hQ => ?_)
    refine c_X11_rate hg hI y ha hb hc (fun e20 => ?_) (fun e20 e21 => ?_) (fun e20 e21 o1 h1 c9 st => ?_)
    · first | contradiction | (exfalso; omega) | (exfalso; rcases t2 with q | q | q <;> first | contradiction | omega) | (exfalso; rcases t2 with q | q <;> first | contradiction | omega)
    · exact hQ _ _ (Or.inr (Or.inl ⟨rfl, hE _ _ cx.up .refl⟩))
    · first | contradiction | (exfalso; omega) | (exfalso; rcases t2 with q | q | q <;> first | contradiction | omega) | (exfalso; rcases t2 with q | q <;> first | contradiction | omega)
  have e := hI.rates
  refine ⟨(S.1 20 + 1), (zu1 S.1 20 (S.1 20 + 1), zu2 (zu2 (zu2 S.2 21 (S.1 20).toNat a) 22 (S.1 20).toNat b) 23 (S.1 20).toNat c9), ⟨hS.of (ok_rate hS.1 hn t1 t2) (by first | exact Int.le_refl _ | (show S.1 1 ≤ zu1 _ _ _ 1; rw [zu1_ne (by decide)]; first | exact Int.le_refl _ | (rw [zu1_ne (by decide)]; exact Int.le_refl _))) (fun i => by first | rfl | simp [zu2]), (by first | rfl | exact zu1_ne (by decide) | exact (zu1_ne (by decide)).trans (zu1_ne (by decide))), fun q => nNine q (by omega), ⟨by omega, by omega⟩⟩, fun x o h Q cx hE => ?_⟩
  obtain ⟨Vs, Ps, Ss, Ts, Fs, Tn, A, G, Rc, y⟩ := id cx
  refine w_rate hg hnx cx.kd (fun Q1 hQ => ?_)
  refine c_X11_rate hg hI y ha hb hc (fun e20 => ?_) (fun e20 e21 => ?_) (fun e20 e21 o1 h1 c9 st => ?_)
  · first | contradiction | (exfalso; omega) | (exfalso; rcases t2 with q | q | q <;> first | contradiction | omega) | (exfalso; rcases t2 with q | q <;> first | contradiction | omega)
  · first | contradiction | (exfalso; omega) | (exfalso; rcases t2 with q | q | q <;> first | contradiction | omega) | (exfalso; rcases t2 with q | q <;> first | contradiction | omega)
  · exact hQ _ _ ⟨_, rfl, (by omega), hE _ _ c9 st⟩
theorem d_pay {g : zGT} (hg : zG g) (hnx : zNX g) {n : Nat} {S : zS} (hS : zOK n S) (hn : n < 512) {v b : Int} (hv : zR v) (hb : zR b) : ∃ (t : Int) (S2 : zS), (zRes n S t S2) ∧ dM g S n (.codeWith yL_pay cL_pay 4 (Option.some Jvm.ClassFile.FieldType.long) [(0, 6, 7, 36), (0, 6, 12, 22)]) yL_pay 18 4 40 [.int (zI v), .int (zI b)] t S2 := by
  have hI := hS.1.1
  by_cases t1 : ¬ (0 ≤ v ∧ v < S.1 4)
  · refine ⟨zNine, S, zRes.no hS hn, fun x o h Q cx hE => ?_⟩
    obtain ⟨Vs, Ps, Ss, Ts, Fs, Tn, A, G, Rc, y⟩ := id cx
    refine w_pay hg hnx cx.kd (fun Q1 hQ => ?_)
    refine c_X11_pay hg hI y hn hv hb (fun e20 => ?_) (fun u9 e20 e21 e22 => ?_) (fun u9 e20 e21 e22 o1 h1 c9 st => ?_)
    · exact hQ _ _ (Or.inl ⟨rfl, hE _ _ cx.up .refl⟩)
    · first | contradiction | (exfalso; omega) | (exfalso; rcases t1 with q | q | q <;> first | contradiction | omega) | (exfalso; rcases t1 with q | q <;> first | contradiction | omega)
    · first | contradiction | (exfalso; omega) | (exfalso; rcases t1 with q | q | q <;> first | contradiction | omega) | (exfalso; rcases t1 with q | q <;> first | contradiction | omega)
  replace t1 := Classical.not_not.mp t1
  obtain ⟨u, rfl⟩ : ∃ u : Nat, v = (u : Int) := ⟨v.toNat, by omega⟩
  by_cases t2 : ¬ (1 ≤ b ∧ b ≤ 1000000)
  · refine ⟨zNine, S, zRes.no hS hn, fun x o h Q cx hE => ?_⟩
    obtain ⟨Vs, Ps, Ss, Ts, Fs, Tn, A, G, Rc, y⟩ := id cx
    refine w_pay hg hnx cx.kd (fun Q1 hQ => ?_)
    refine c_X11_pay hg hI y hn hv hb (fun e20 => ?_) (fun u9 e20 e21 e22 => ?_) (fun u9 e20 e21 e22 o1 h1 c9 st => ?_)
    · first | contradiction | (exfalso; omega) | (exfalso; rcases t2 with q | q | q <;> first | contradiction | omega) | (exfalso; rcases t2 with q | q <;> first | contradiction | omega)
    · obtain rfl : u = u9 := by omega
      exact hQ _ _ (Or.inr (Or.inl ⟨rfl, hE _ _ cx.up .refl⟩))
    · obtain rfl : u = u9 := by omega
      first | contradiction | (exfalso; omega) | (exfalso; rcases t2 with q | q | q <;> first | contradiction | omega) | (exfalso; rcases t2 with q | q <;> first | contradiction | omega)
  replace t2 := Classical.not_not.mp t2
  have e := hI.today
  have e1 := zmon_range (S := (S.1, zu2 S.2 24 u (S.2 24 u + b))) (v := u) (ok_pay hS.1 hn t2).1 (S.1 1 / 30 + 1).toNat
  have e2 := hI.paid u
  have e3 : zowed (S.1, zu2 S.2 24 u (S.2 24 u + b)) u = zmon (S.1, zu2 S.2 24 u (S.2 24 u + b)) u (S.1 1 / 30 + 1).toNat - (S.2 24 u + b) := by unfold zowed; show _ - zu2 S.2 24 u _ 24 u = _; rw [zu2_at]
  refine ⟨(zowed (S.1, zu2 S.2 24 u (S.2 24 u + b)) u), (S.1, zu2 S.2 24 u (S.2 24 u + b)), ⟨hS.of (ok_pay hS.1 hn t2) (by first | exact Int.le_refl _ | (show S.1 1 ≤ zu1 _ _ _ 1; rw [zu1_ne (by decide)]; first | exact Int.le_refl _ | (rw [zu1_ne (by decide)]; exact Int.le_refl _))) (fun i => by first | rfl | simp [zu2]), (by first | rfl | exact zu1_ne (by decide) | exact (zu1_ne (by decide)).trans (zu1_ne (by decide))), fun q => nNine q (by omega), ⟨by omega, by omega⟩⟩, fun x o h Q cx hE => ?_⟩
  obtain ⟨Vs, Ps, Ss, Ts, Fs, Tn, A, G, Rc, y⟩ := id cx
  refine w_pay hg hnx cx.kd (fun Q1 hQ => ?_)
  refine c_X11_pay hg hI y hn hv hb (fun e20 => ?_) (fun u9 e20 e21 e22 => ?_) (fun u9 e20 e21 e22 o1 h1 c9 st => ?_)
  · first | contradiction | (exfalso; omega) | (exfalso; rcases t2 with q | q | q <;> first | contradiction | omega) | (exfalso; rcases t2 with q | q <;> first | contradiction | omega)
  · obtain rfl : u = u9 := by omega
    first | contradiction | (exfalso; omega) | (exfalso; rcases t2 with q | q | q <;> first | contradiction | omega) | (exfalso; rcases t2 with q | q <;> first | contradiction | omega)
  · obtain rfl : u = u9 := by omega
    exact hQ _ _ ⟨_, rfl, hE _ _ c9 st⟩
theorem d_owes {g : zGT} (hg : zG g) (hnx : zNX g) {n : Nat} {S : zS} (hS : zOK n S) {v : Int} (hv : zR v) : ∃ t : Int, (zBd t) ∧ dQ g S n (.codeWith yL_owes cL_owes 3 (Option.some Jvm.ClassFile.FieldType.long) [(0, 5, 6, 36)]) yL_owes 17 4 40 [.int (zI v)] t := by
  have hI := hS.1.1
  by_cases t1 : ¬ (0 ≤ v ∧ v < S.1 4)
  · refine ⟨zNine, (by decide), fun x o h Q cx hE => ?_⟩
    obtain ⟨Vs, Ps, Ss, Ts, Fs, Tn, A, G, Rc, y⟩ := id cx
    refine w_owes hg hnx cx.kd (fun Q1 hQ => ?_)
    refine c_X11_owes hg hI y hv (fun e20 => ?_) (fun u9 e20 e21 => ?_)
    · exact hQ _ _ (Or.inl ⟨rfl, hE⟩)
    · first | contradiction | (exfalso; omega) | (exfalso; rcases t1 with q | q | q <;> first | contradiction | omega) | (exfalso; rcases t1 with q | q <;> first | contradiction | omega)
  replace t1 := Classical.not_not.mp t1
  obtain ⟨u, rfl⟩ : ∃ u : Nat, v = (u : Int) := ⟨v.toNat, by omega⟩
  have e := hI.today
  have e1 := zmon_range (v := u) hI (S.1 1 / 30 + 1).toNat
  have e2 := hI.paid u
  have e4 := hI.calls
  have e3 : zowed S u = zmon S u (S.1 1 / 30 + 1).toNat - S.2 24 u := rfl
  refine ⟨(zowed S u), ⟨by omega, by omega⟩, fun x o h Q cx hE => ?_⟩
  obtain ⟨Vs, Ps, Ss, Ts, Fs, Tn, A, G, Rc, y⟩ := id cx
  refine w_owes hg hnx cx.kd (fun Q1 hQ => ?_)
  refine c_X11_owes hg hI y hv (fun e20 => ?_) (fun u9 e20 e21 => ?_)
  · first | contradiction | (exfalso; omega) | (exfalso; rcases t1 with q | q | q <;> first | contradiction | omega) | (exfalso; rcases t1 with q | q <;> first | contradiction | omega)
  · obtain rfl : u = u9 := by omega
    exact hQ _ _ ⟨_, rfl, hE⟩
theorem d_test {g : zGT} (hg : zG g) (hnx : zNX g) {n : Nat} {S : zS} (hS : zOK n S) (hn : n < 512) {v w gr far : Int} (hv : zR v) (hw : zR w) (hg9 : zR gr) (hf : zR far) : ∃ (t : Int) (S2 : zS), (zRes n S t S2) ∧ dM g S n (.codeWith yL_test cL_test 6 (Option.some Jvm.ClassFile.FieldType.long) [(0, 10, 11, 36), (0, 10, 17, 22), (0, 10, 23, 14)]) yL_test 16 4 40 [.int (zI v), .int (zI w), .int (zI gr), .int (zI far)] t S2 := by
  have hI := hS.1.1
  by_cases t1 : ¬ (0 ≤ v ∧ v < S.1 4)
  · refine ⟨zNine, S, zRes.no hS hn, fun x o h Q cx hE => ?_⟩
    obtain ⟨Vs, Ps, Ss, Ts, Fs, Tn, A, G, Rc, y⟩ := id cx
    refine w_test hg hnx cx.kd (fun Q1 hQ => ?_)
    refine c_X11_test hg hI y hv hw hg9 hf (fun e20 => ?_) (fun u9 e20 e21 e22 => ?_) (fun u9 e20 e21 e22 e23 => ?_) (fun u9 B9 U9 e20 e21 e22 e23 e24 e25 o1 h1 c9 st => ?_)
    · exact hQ _ _ (Or.inl ⟨rfl, hE _ _ cx.up .refl⟩)
    · first | contradiction | (exfalso; omega) | (exfalso; rcases t1 with q | q | q <;> first | contradiction | omega) | (exfalso; rcases t1 with q | q <;> first | contradiction | omega)
    · first | contradiction | (exfalso; omega) | (exfalso; rcases t1 with q | q | q <;> first | contradiction | omega) | (exfalso; rcases t1 with q | q <;> first | contradiction | omega)
    · first | contradiction | (exfalso; omega) | (exfalso; rcases t1 with q | q | q <;> first | contradiction | omega) | (exfalso; rcases t1 with q | q <;> first | contradiction | omega)
  replace t1 := Classical.not_not.mp t1
  obtain ⟨u, rfl⟩ : ∃ u : Nat, v = (u : Int) := ⟨v.toNat, by omega⟩
  by_cases t2 : ¬ ztestOK S u w gr far
  · refine ⟨zNine, S, zRes.no hS hn, fun x o h Q cx hE => ?_⟩
    obtain ⟨Vs, Ps, Ss, Ts, Fs, Tn, A, G, Rc, y⟩ := id cx
    refine w_test hg hnx cx.kd (fun Q1 hQ => ?_)
    refine c_X11_test hg hI y hv hw hg9 hf (fun e20 => ?_) (fun u9 e20 e21 e22 => ?_) (fun u9 e20 e21 e22 e23 => ?_) (fun u9 B9 U9 e20 e21 e22 e23 e24 e25 o1 h1 c9 st => ?_)
    · first | contradiction | (exfalso; omega) | (exfalso; rcases t2 with q | q | q <;> first | contradiction | omega) | (exfalso; rcases t2 with q | q <;> first | contradiction | omega)
    · obtain rfl : u = u9 := by omega
      exact hQ _ _ (Or.inr (Or.inl ⟨rfl, hE _ _ cx.up .refl⟩))
    · obtain rfl : u = u9 := by omega
      first | contradiction | (exfalso; omega) | (exfalso; rcases t2 with q | q | q <;> first | contradiction | omega) | (exfalso; rcases t2 with q | q <;> first | contradiction | omega)
    · obtain rfl : u = u9 := by omega
      subst e25
      subst e24
      first | contradiction | (exfalso; omega) | (exfalso; rcases t2 with q | q | q <;> first | contradiction | omega) | (exfalso; rcases t2 with q | q <;> first | contradiction | omega)
  replace t2 := Classical.not_not.mp t2
  by_cases t3 : S.2 25 u = 20
  · refine ⟨zNine, S, zRes.no hS hn, fun x o h Q cx hE => ?_⟩
    obtain ⟨Vs, Ps, Ss, Ts, Fs, Tn, A, G, Rc, y⟩ := id cx
    refine w_test hg hnx cx.kd (fun Q1 hQ => ?_)
    refine c_X11_test hg hI y hv hw hg9 hf (fun e20 => ?_) (fun u9 e20 e21 e22 => ?_) (fun u9 e20 e21 e22 e23 => ?_) (fun u9 B9 U9 e20 e21 e22 e23 e24 e25 o1 h1 c9 st => ?_)
    · first | contradiction | (exfalso; omega) | (exfalso; rcases t3 with q | q | q <;> first | contradiction | omega) | (exfalso; rcases t3 with q | q <;> first | contradiction | omega)
    · obtain rfl : u = u9 := by omega
      first | contradiction | (exfalso; omega) | (exfalso; rcases t3 with q | q | q <;> first | contradiction | omega) | (exfalso; rcases t3 with q | q <;> first | contradiction | omega)
    · obtain rfl : u = u9 := by omega
      exact hQ _ _ (Or.inr (Or.inr (Or.inl ⟨rfl, hE _ _ cx.up .refl⟩)))
    · obtain rfl : u = u9 := by omega
      subst e25
      subst e24
      first | contradiction | (exfalso; omega) | (exfalso; rcases t3 with q | q | q <;> first | contradiction | omega) | (exfalso; rcases t3 with q | q <;> first | contradiction | omega)
  have e := zuntil_R hI t2 rfl
  refine ⟨(zuntil S u w gr), (S.1, zu2 (zu2 (zu2 (zu2 (zu2 S.2 28 u (S.2 28 u + (zback S u far))) 25 u (S.2 25 u + 1)) 26 u w) 27 u far) 29 u (zuntil S u w gr)), ⟨hS.of (ok_test hS.1 hn t2 t3 rfl rfl) (by first | exact Int.le_refl _ | (show S.1 1 ≤ zu1 _ _ _ 1; rw [zu1_ne (by decide)]; first | exact Int.le_refl _ | (rw [zu1_ne (by decide)]; exact Int.le_refl _))) (fun i => by first | rfl | simp [zu2]), (by first | rfl | exact zu1_ne (by decide) | exact (zu1_ne (by decide)).trans (zu1_ne (by decide))), fun q => nNine q (by omega), ⟨by omega, by omega⟩⟩, fun x o h Q cx hE => ?_⟩
  obtain ⟨Vs, Ps, Ss, Ts, Fs, Tn, A, G, Rc, y⟩ := id cx
  refine w_test hg hnx cx.kd (fun Q1 hQ => ?_)
  refine c_X11_test hg hI y hv hw hg9 hf (fun e20 => ?_) (fun u9 e20 e21 e22 => ?_) (fun u9 e20 e21 e22 e23 => ?_) (fun u9 B9 U9 e20 e21 e22 e23 e24 e25 o1 h1 c9 st => ?_)
  · first | contradiction | (exfalso; omega) | (exfalso; rcases t3 with q | q | q <;> first | contradiction | omega) | (exfalso; rcases t3 with q | q <;> first | contradiction | omega)
  · obtain rfl : u = u9 := by omega
    first | contradiction | (exfalso; omega) | (exfalso; rcases t3 with q | q | q <;> first | contradiction | omega) | (exfalso; rcases t3 with q | q <;> first | contradiction | omega)
  · obtain rfl : u = u9 := by omega
    first | contradiction | (exfalso; omega) | (exfalso; rcases t3 with q | q | q <;> first | contradiction | omega) | (exfalso; rcases t3 with q | q <;> first | contradiction | omega)
  · obtain rfl : u = u9 := by omega
    subst e25
    subst e24
    exact hQ _ _ ⟨_, rfl, (by omega), hE _ _ c9 st⟩
theorem d_insure {g : zGT} (hg : zG g) (hnx : zNX g) {n : Nat} {S : zS} (hS : zOK n S) (hn : n < 512) {v to : Int} (hv : zR v) (ht : zR to) : ∃ (t : Int) (S2 : zS), (zRes n S t S2) ∧ dM g S n (.codeWith yL_insure cL_insure 4 (Option.some Jvm.ClassFile.FieldType.long) [(0, 14, 15, 36), (0, 14, 20, 22)]) yL_insure 16 6 4300 [.int (zI v), .int (zI to)] t S2 := by
  have hI := hS.1.1
  by_cases t1 : ¬ (0 ≤ v ∧ v < S.1 4)
  · refine ⟨zNine, S, zRes.no hS hn, fun x o h Q cx hE => ?_⟩
    obtain ⟨Vs, Ps, Ss, Ts, Fs, Tn, A, G, Rc, y⟩ := id cx
    refine w_insure hg hnx cx.kd (fun Q1 hQ => ?_)
    refine c_X11_insure hg hI y hv ht (fun e20 => ?_) (fun u9 e20 e21 e22 => ?_) (fun u9 e20 e21 e22 e23 o1 h1 c9 st => ?_) (fun u9 e20 e21 e22 e23 o1 h1 c9 st => ?_)
    · exact hQ _ _ (Or.inl ⟨rfl, hE _ _ cx.up .refl⟩)
    · first | contradiction | (exfalso; omega) | (exfalso; simp_all)
    · first | contradiction | (exfalso; omega) | (exfalso; simp_all)
    · first | contradiction | (exfalso; omega) | (exfalso; simp_all)
  replace t1 := Classical.not_not.mp t1
  obtain ⟨u, rfl⟩ : ∃ u : Nat, v = (u : Int) := ⟨v.toNat, by omega⟩
  by_cases t2 : ¬ (to = -1 ∨ S.1 1 ≤ to ∧ to ≤ 20000)
  · refine ⟨zNine, S, zRes.no hS hn, fun x o h Q cx hE => ?_⟩
    obtain ⟨Vs, Ps, Ss, Ts, Fs, Tn, A, G, Rc, y⟩ := id cx
    refine w_insure hg hnx cx.kd (fun Q1 hQ => ?_)
    refine c_X11_insure hg hI y hv ht (fun e20 => ?_) (fun u9 e20 e21 e22 => ?_) (fun u9 e20 e21 e22 e23 o1 h1 c9 st => ?_) (fun u9 e20 e21 e22 e23 o1 h1 c9 st => ?_)
    · first | contradiction | (exfalso; omega) | (exfalso; simp_all)
    · obtain rfl : u = u9 := by omega
      exact hQ _ _ (Or.inr (Or.inl ⟨rfl, hE _ _ cx.up .refl⟩))
    · obtain rfl : u = u9 := by omega
      first | contradiction | (exfalso; omega) | (exfalso; simp_all)
    · obtain rfl : u = u9 := by omega
      first | contradiction | (exfalso; omega) | (exfalso; simp_all)
  replace t2 := Classical.not_not.mp t2
  by_cases t3 : zins S.2 u (S.1 1) = true
  · refine ⟨1, (S.1, zil S.2 u to (S.1 1) (20001 - S.1 1).toNat), ⟨hS.of (ok_insure hS.1 hn) (by first | exact Int.le_refl _ | (show S.1 1 ≤ zu1 _ _ _ 1; rw [zu1_ne (by decide)]; first | exact Int.le_refl _ | (rw [zu1_ne (by decide)]; exact Int.le_refl _))) (fun i => zil_34 i _), (by first | rfl | exact zu1_ne (by decide) | exact (zu1_ne (by decide)).trans (zu1_ne (by decide))), fun q => nNine q (by omega), ⟨by omega, by omega⟩⟩, fun x o h Q cx hE => ?_⟩
    obtain ⟨Vs, Ps, Ss, Ts, Fs, Tn, A, G, Rc, y⟩ := id cx
    refine w_insure hg hnx cx.kd (fun Q1 hQ => ?_)
    refine c_X11_insure hg hI y hv ht (fun e20 => ?_) (fun u9 e20 e21 e22 => ?_) (fun u9 e20 e21 e22 e23 o1 h1 c9 st => ?_) (fun u9 e20 e21 e22 e23 o1 h1 c9 st => ?_)
    · first | contradiction | (exfalso; omega) | (exfalso; simp_all)
    · obtain rfl : u = u9 := by omega
      first | contradiction | (exfalso; omega) | (exfalso; simp_all)
    · obtain rfl : u = u9 := by omega
      exact hQ _ _ ⟨_, rfl, (by first | omega | simp), hE _ _ c9 st⟩
    · obtain rfl : u = u9 := by omega
      first | contradiction | (exfalso; omega) | (exfalso; simp_all)
  refine ⟨0, (S.1, zil S.2 u to (S.1 1) (20001 - S.1 1).toNat), ⟨hS.of (ok_insure hS.1 hn) (by first | exact Int.le_refl _ | (show S.1 1 ≤ zu1 _ _ _ 1; rw [zu1_ne (by decide)]; first | exact Int.le_refl _ | (rw [zu1_ne (by decide)]; exact Int.le_refl _))) (fun i => zil_34 i _), (by first | rfl | exact zu1_ne (by decide) | exact (zu1_ne (by decide)).trans (zu1_ne (by decide))), fun q => nNine q (by omega), ⟨by omega, by omega⟩⟩, fun x o h Q cx hE => ?_⟩
  obtain ⟨Vs, Ps, Ss, Ts, Fs, Tn, A, G, Rc, y⟩ := id cx
  refine w_insure hg hnx cx.kd (fun Q1 hQ => ?_)
  refine c_X11_insure hg hI y hv ht (fun e20 => ?_) (fun u9 e20 e21 e22 => ?_) (fun u9 e20 e21 e22 e23 o1 h1 c9 st => ?_) (fun u9 e20 e21 e22 e23 o1 h1 c9 st => ?_)
  · first | contradiction | (exfalso; omega) | (exfalso; simp_all)
  · obtain rfl : u = u9 := by omega
    first | contradiction | (exfalso; omega) | (exfalso; simp_all)
  · obtain rfl : u = u9 := by omega
    first | contradiction | (exfalso; omega) | (exfalso; simp_all)
  · obtain rfl : u = u9 := by omega
    exact hQ _ _ ⟨_, rfl, (by first | omega | simp), hE _ _ c9 st⟩
theorem d_ofVehicle {g : zGT} (hg : zG g) (hnx : zNX g) {n : Nat} {S : zS} (hS : zOK n S) {v q : Int} (hv : zR v) (hq : zR q) : ∃ t : Int, (zBd t ∧ (¬ (0 ≤ v ∧ v < S.1 4) → t = zNine)) ∧ dQ g S n (.codeWith yL_ofVehicle cL_ofVehicle 4 (Option.some Jvm.ClassFile.FieldType.long) [(0, 7, 8, 36), (0, 7, 13, 22)]) yL_ofVehicle 18 4 40 [.int (zI v), .int (zI q)] t := by
  have hI := hS.1.1
  by_cases t1 : ¬ (0 ≤ v ∧ v < S.1 4)
  · refine ⟨zNine, ⟨(by decide), fun _ => rfl⟩, fun x o h Q cx hE => ?_⟩
    obtain ⟨Vs, Ps, Ss, Ts, Fs, Tn, A, G, Rc, y⟩ := id cx
    refine w_ofVehicle hg hnx cx.kd (fun Q1 hQ => ?_)
    refine c_X11_ofVehicle hg hI y hv hq (fun e20 => ?_) (fun u9 e20 e21 e22 => ?_) (fun u9 e20 e21 e22 => ?_) (fun u9 e20 e21 e22 => ?_) (fun u9 e20 e21 e22 => ?_) (fun u9 e20 e21 e22 => ?_) (fun u9 e20 e21 e22 => ?_)
    · exact hQ _ _ (Or.inl ⟨rfl, hE⟩)
    · first | contradiction | (exfalso; omega) | (exfalso; rcases t1 with q | q | q <;> first | contradiction | omega) | (exfalso; rcases t1 with q | q <;> first | contradiction | omega)
    · first | contradiction | (exfalso; omega) | (exfalso; rcases t1 with q | q | q <;> first | contradiction | omega) | (exfalso; rcases t1 with q | q <;> first | contradiction | omega)
    · first | contradiction | (exfalso; omega) | (exfalso; rcases t1 with q | q | q <;> first | contradiction | omega) | (exfalso; rcases t1 with q | q <;> first | contradiction | omega)
    · first | contradiction | (exfalso; omega) | (exfalso; rcases t1 with q | q | q <;> first | contradiction | omega) | (exfalso; rcases t1 with q | q <;> first | contradiction | omega)
    · first | contradiction | (exfalso; omega) | (exfalso; rcases t1 with q | q | q <;> first | contradiction | omega) | (exfalso; rcases t1 with q | q <;> first | contradiction | omega)
    · first | contradiction | (exfalso; omega) | (exfalso; rcases t1 with q | q | q <;> first | contradiction | omega) | (exfalso; rcases t1 with q | q <;> first | contradiction | omega)
  replace t1 := Classical.not_not.mp t1
  obtain ⟨u, rfl⟩ : ∃ u : Nat, v = (u : Int) := ⟨v.toNat, by omega⟩
  by_cases t2 : ¬ (0 ≤ q ∧ q ≤ 4)
  · refine ⟨zNine, ⟨(by decide), fun _ => rfl⟩, fun x o h Q cx hE => ?_⟩
    obtain ⟨Vs, Ps, Ss, Ts, Fs, Tn, A, G, Rc, y⟩ := id cx
    refine w_ofVehicle hg hnx cx.kd (fun Q1 hQ => ?_)
    refine c_X11_ofVehicle hg hI y hv hq (fun e20 => ?_) (fun u9 e20 e21 e22 => ?_) (fun u9 e20 e21 e22 => ?_) (fun u9 e20 e21 e22 => ?_) (fun u9 e20 e21 e22 => ?_) (fun u9 e20 e21 e22 => ?_) (fun u9 e20 e21 e22 => ?_)
    · first | contradiction | (exfalso; omega) | (exfalso; rcases t2 with q | q | q <;> first | contradiction | omega) | (exfalso; rcases t2 with q | q <;> first | contradiction | omega)
    · obtain rfl : u = u9 := by omega
      exact hQ _ _ (Or.inr (Or.inl ⟨rfl, hE⟩))
    · obtain rfl : u = u9 := by omega
      first | contradiction | (exfalso; omega) | (exfalso; rcases t2 with q | q | q <;> first | contradiction | omega) | (exfalso; rcases t2 with q | q <;> first | contradiction | omega)
    · obtain rfl : u = u9 := by omega
      first | contradiction | (exfalso; omega) | (exfalso; rcases t2 with q | q | q <;> first | contradiction | omega) | (exfalso; rcases t2 with q | q <;> first | contradiction | omega)
    · obtain rfl : u = u9 := by omega
      first | contradiction | (exfalso; omega) | (exfalso; rcases t2 with q | q | q <;> first | contradiction | omega) | (exfalso; rcases t2 with q | q <;> first | contradiction | omega)
    · obtain rfl : u = u9 := by omega
      first | contradiction | (exfalso; omega) | (exfalso; rcases t2 with q | q | q <;> first | contradiction | omega) | (exfalso; rcases t2 with q | q <;> first | contradiction | omega)
    · obtain rfl : u = u9 := by omega
      first | contradiction | (exfalso; omega) | (exfalso; rcases t2 with q | q | q <;> first | contradiction | omega) | (exfalso; rcases t2 with q | q <;> first | contradiction | omega)
  replace t2 := Classical.not_not.mp t2
  by_cases t3 : q = 0
  · have e1 := hI.serial u
    have e2 := hI.until u
    have e3 := hI.back u
    have e4 := hI.calls
    have e5 := zgap_range (S := S) (v := u) (S.1 1 + 1).toNat
    have e6 := zclones_range (S := S) (v := u) (S.1 31).toNat
    have e7 := hI.today
    have e8 := hI.sightings
    have e9 := zdigit_range (S.2 5 u)
    have e10 : zR (if zdigit (S.2 5 u) = 10 then -1 else S.2 5 u * 10 + zdigit (S.2 5 u)) := by split <;> omega
    refine ⟨(if zdigit (S.2 5 u) = 10 then -1 else S.2 5 u * 10 + zdigit (S.2 5 u)), ⟨⟨by omega, by omega⟩, fun q => by exfalso; omega⟩, fun x o h Q cx hE => ?_⟩
    obtain ⟨Vs, Ps, Ss, Ts, Fs, Tn, A, G, Rc, y⟩ := id cx
    refine w_ofVehicle hg hnx cx.kd (fun Q1 hQ => ?_)
    refine c_X11_ofVehicle hg hI y hv hq (fun e20 => ?_) (fun u9 e20 e21 e22 => ?_) (fun u9 e20 e21 e22 => ?_) (fun u9 e20 e21 e22 => ?_) (fun u9 e20 e21 e22 => ?_) (fun u9 e20 e21 e22 => ?_) (fun u9 e20 e21 e22 => ?_)
    · first | contradiction | (exfalso; omega) | (exfalso; rcases t3 with q | q | q <;> first | contradiction | omega) | (exfalso; rcases t3 with q | q <;> first | contradiction | omega)
    · obtain rfl : u = u9 := by omega
      first | contradiction | (exfalso; omega) | (exfalso; rcases t3 with q | q | q <;> first | contradiction | omega) | (exfalso; rcases t3 with q | q <;> first | contradiction | omega)
    · obtain rfl : u = u9 := by omega
      exact hQ _ _ ⟨_, rfl, (by omega), hE⟩
    · obtain rfl : u = u9 := by omega
      first | contradiction | (exfalso; omega) | (exfalso; rcases t3 with q | q | q <;> first | contradiction | omega) | (exfalso; rcases t3 with q | q <;> first | contradiction | omega)
    · obtain rfl : u = u9 := by omega
      first | contradiction | (exfalso; omega) | (exfalso; rcases t3 with q | q | q <;> first | contradiction | omega) | (exfalso; rcases t3 with q | q <;> first | contradiction | omega)
    · obtain rfl : u = u9 := by omega
      first | contradiction | (exfalso; omega) | (exfalso; rcases t3 with q | q | q <;> first | contradiction | omega) | (exfalso; rcases t3 with q | q <;> first | contradiction | omega)
    · obtain rfl : u = u9 := by omega
      first | contradiction | (exfalso; omega) | (exfalso; rcases t3 with q | q | q <;> first | contradiction | omega) | (exfalso; rcases t3 with q | q <;> first | contradiction | omega)
  by_cases t4 : q = 1
  · have e1 := hI.serial u
    have e2 := hI.until u
    have e3 := hI.back u
    have e4 := hI.calls
    have e5 := zgap_range (S := S) (v := u) (S.1 1 + 1).toNat
    have e6 := zclones_range (S := S) (v := u) (S.1 31).toNat
    have e7 := hI.today
    have e8 := hI.sightings
    have e9 := zdigit_range (S.2 5 u)
    have e10 : zR (if zdigit (S.2 5 u) = 10 then -1 else S.2 5 u * 10 + zdigit (S.2 5 u)) := by split <;> omega
    refine ⟨(S.2 29 u), ⟨⟨by omega, by omega⟩, fun q => by exfalso; omega⟩, fun x o h Q cx hE => ?_⟩
    obtain ⟨Vs, Ps, Ss, Ts, Fs, Tn, A, G, Rc, y⟩ := id cx
    refine w_ofVehicle hg hnx cx.kd (fun Q1 hQ => ?_)
    refine c_X11_ofVehicle hg hI y hv hq (fun e20 => ?_) (fun u9 e20 e21 e22 => ?_) (fun u9 e20 e21 e22 => ?_) (fun u9 e20 e21 e22 => ?_) (fun u9 e20 e21 e22 => ?_) (fun u9 e20 e21 e22 => ?_) (fun u9 e20 e21 e22 => ?_)
    · first | contradiction | (exfalso; omega) | (exfalso; rcases t4 with q | q | q <;> first | contradiction | omega) | (exfalso; rcases t4 with q | q <;> first | contradiction | omega)
    · obtain rfl : u = u9 := by omega
      first | contradiction | (exfalso; omega) | (exfalso; rcases t4 with q | q | q <;> first | contradiction | omega) | (exfalso; rcases t4 with q | q <;> first | contradiction | omega)
    · obtain rfl : u = u9 := by omega
      first | contradiction | (exfalso; omega) | (exfalso; rcases t4 with q | q | q <;> first | contradiction | omega) | (exfalso; rcases t4 with q | q <;> first | contradiction | omega)
    · obtain rfl : u = u9 := by omega
      exact hQ _ _ ⟨_, rfl, (by omega), hE⟩
    · obtain rfl : u = u9 := by omega
      first | contradiction | (exfalso; omega) | (exfalso; rcases t4 with q | q | q <;> first | contradiction | omega) | (exfalso; rcases t4 with q | q <;> first | contradiction | omega)
    · obtain rfl : u = u9 := by omega
      first | contradiction | (exfalso; omega) | (exfalso; rcases t4 with q | q | q <;> first | contradiction | omega) | (exfalso; rcases t4 with q | q <;> first | contradiction | omega)
    · obtain rfl : u = u9 := by omega
      first | contradiction | (exfalso; omega) | (exfalso; rcases t4 with q | q | q <;> first | contradiction | omega) | (exfalso; rcases t4 with q | q <;> first | contradiction | omega)
  by_cases t5 : q = 2
  · have e1 := hI.serial u
    have e2 := hI.until u
    have e3 := hI.back u
    have e4 := hI.calls
    have e5 := zgap_range (S := S) (v := u) (S.1 1 + 1).toNat
    have e6 := zclones_range (S := S) (v := u) (S.1 31).toNat
    have e7 := hI.today
    have e8 := hI.sightings
    have e9 := zdigit_range (S.2 5 u)
    have e10 : zR (if zdigit (S.2 5 u) = 10 then -1 else S.2 5 u * 10 + zdigit (S.2 5 u)) := by split <;> omega
    refine ⟨(S.2 28 u), ⟨⟨by omega, by omega⟩, fun q => by exfalso; omega⟩, fun x o h Q cx hE => ?_⟩
    obtain ⟨Vs, Ps, Ss, Ts, Fs, Tn, A, G, Rc, y⟩ := id cx
    refine w_ofVehicle hg hnx cx.kd (fun Q1 hQ => ?_)
    refine c_X11_ofVehicle hg hI y hv hq (fun e20 => ?_) (fun u9 e20 e21 e22 => ?_) (fun u9 e20 e21 e22 => ?_) (fun u9 e20 e21 e22 => ?_) (fun u9 e20 e21 e22 => ?_) (fun u9 e20 e21 e22 => ?_) (fun u9 e20 e21 e22 => ?_)
    · first | contradiction | (exfalso; omega) | (exfalso; rcases t5 with q | q | q <;> first | contradiction | omega) | (exfalso; rcases t5 with q | q <;> first | contradiction | omega)
    · obtain rfl : u = u9 := by omega
      first | contradiction | (exfalso; omega) | (exfalso; rcases t5 with q | q | q <;> first | contradiction | omega) | (exfalso; rcases t5 with q | q <;> first | contradiction | omega)
    · obtain rfl : u = u9 := by omega
      first | contradiction | (exfalso; omega) | (exfalso; rcases t5 with q | q | q <;> first | contradiction | omega) | (exfalso; rcases t5 with q | q <;> first | contradiction | omega)
    · obtain rfl : u = u9 := by omega
      first | contradiction | (exfalso; omega) | (exfalso; rcases t5 with q | q | q <;> first | contradiction | omega) | (exfalso; rcases t5 with q | q <;> first | contradiction | omega)
    · obtain rfl : u = u9 := by omega
      exact hQ _ _ ⟨_, rfl, (by omega), hE⟩
    · obtain rfl : u = u9 := by omega
      first | contradiction | (exfalso; omega) | (exfalso; rcases t5 with q | q | q <;> first | contradiction | omega) | (exfalso; rcases t5 with q | q <;> first | contradiction | omega)
    · obtain rfl : u = u9 := by omega
      first | contradiction | (exfalso; omega) | (exfalso; rcases t5 with q | q | q <;> first | contradiction | omega) | (exfalso; rcases t5 with q | q <;> first | contradiction | omega)
  by_cases t6 : q = 3
  · have e1 := hI.serial u
    have e2 := hI.until u
    have e3 := hI.back u
    have e4 := hI.calls
    have e5 := zgap_range (S := S) (v := u) (S.1 1 + 1).toNat
    have e6 := zclones_range (S := S) (v := u) (S.1 31).toNat
    have e7 := hI.today
    have e8 := hI.sightings
    have e9 := zdigit_range (S.2 5 u)
    have e10 : zR (if zdigit (S.2 5 u) = 10 then -1 else S.2 5 u * 10 + zdigit (S.2 5 u)) := by split <;> omega
    refine ⟨(zgap S u (S.1 1 + 1).toNat), ⟨⟨by omega, by omega⟩, fun q => by exfalso; omega⟩, fun x o h Q cx hE => ?_⟩
    obtain ⟨Vs, Ps, Ss, Ts, Fs, Tn, A, G, Rc, y⟩ := id cx
    refine w_ofVehicle hg hnx cx.kd (fun Q1 hQ => ?_)
    refine c_X11_ofVehicle hg hI y hv hq (fun e20 => ?_) (fun u9 e20 e21 e22 => ?_) (fun u9 e20 e21 e22 => ?_) (fun u9 e20 e21 e22 => ?_) (fun u9 e20 e21 e22 => ?_) (fun u9 e20 e21 e22 => ?_) (fun u9 e20 e21 e22 => ?_)
    · first | contradiction | (exfalso; omega) | (exfalso; rcases t6 with q | q | q <;> first | contradiction | omega) | (exfalso; rcases t6 with q | q <;> first | contradiction | omega)
    · obtain rfl : u = u9 := by omega
      first | contradiction | (exfalso; omega) | (exfalso; rcases t6 with q | q | q <;> first | contradiction | omega) | (exfalso; rcases t6 with q | q <;> first | contradiction | omega)
    · obtain rfl : u = u9 := by omega
      first | contradiction | (exfalso; omega) | (exfalso; rcases t6 with q | q | q <;> first | contradiction | omega) | (exfalso; rcases t6 with q | q <;> first | contradiction | omega)
    · obtain rfl : u = u9 := by omega
      first | contradiction | (exfalso; omega) | (exfalso; rcases t6 with q | q | q <;> first | contradiction | omega) | (exfalso; rcases t6 with q | q <;> first | contradiction | omega)
    · obtain rfl : u = u9 := by omega
      first | contradiction | (exfalso; omega) | (exfalso; rcases t6 with q | q | q <;> first | contradiction | omega) | (exfalso; rcases t6 with q | q <;> first | contradiction | omega)
    · obtain rfl : u = u9 := by omega
      exact hQ _ _ ⟨_, rfl, (by omega), hE⟩
    · obtain rfl : u = u9 := by omega
      first | contradiction | (exfalso; omega) | (exfalso; rcases t6 with q | q | q <;> first | contradiction | omega) | (exfalso; rcases t6 with q | q <;> first | contradiction | omega)
  have e1 := hI.serial u
  have e2 := hI.until u
  have e3 := hI.back u
  have e4 := hI.calls
  have e5 := zgap_range (S := S) (v := u) (S.1 1 + 1).toNat
  have e6 := zclones_range (S := S) (v := u) (S.1 31).toNat
  have e7 := hI.today
  have e8 := hI.sightings
  have e9 := zdigit_range (S.2 5 u)
  have e10 : zR (if zdigit (S.2 5 u) = 10 then -1 else S.2 5 u * 10 + zdigit (S.2 5 u)) := by split <;> omega
  refine ⟨(zclones S u (S.1 31).toNat), ⟨⟨by omega, by omega⟩, fun q => by exfalso; omega⟩, fun x o h Q cx hE => ?_⟩
  obtain ⟨Vs, Ps, Ss, Ts, Fs, Tn, A, G, Rc, y⟩ := id cx
  refine w_ofVehicle hg hnx cx.kd (fun Q1 hQ => ?_)
  refine c_X11_ofVehicle hg hI y hv hq (fun e20 => ?_) (fun u9 e20 e21 e22 => ?_) (fun u9 e20 e21 e22 => ?_) (fun u9 e20 e21 e22 => ?_) (fun u9 e20 e21 e22 => ?_) (fun u9 e20 e21 e22 => ?_) (fun u9 e20 e21 e22 => ?_)
  · first | contradiction | (exfalso; omega) | (exfalso; rcases t6 with q | q | q <;> first | contradiction | omega) | (exfalso; rcases t6 with q | q <;> first | contradiction | omega)
  · obtain rfl : u = u9 := by omega
    first | contradiction | (exfalso; omega) | (exfalso; rcases t6 with q | q | q <;> first | contradiction | omega) | (exfalso; rcases t6 with q | q <;> first | contradiction | omega)
  · obtain rfl : u = u9 := by omega
    first | contradiction | (exfalso; omega) | (exfalso; rcases t6 with q | q | q <;> first | contradiction | omega) | (exfalso; rcases t6 with q | q <;> first | contradiction | omega)
  · obtain rfl : u = u9 := by omega
    first | contradiction | (exfalso; omega) | (exfalso; rcases t6 with q | q | q <;> first | contradiction | omega) | (exfalso; rcases t6 with q | q <;> first | contradiction | omega)
  · obtain rfl : u = u9 := by omega
    first | contradiction | (exfalso; omega) | (exfalso; rcases t6 with q | q | q <;> first | contradiction | omega) | (exfalso; rcases t6 with q | q <;> first | contradiction | omega)
  · obtain rfl : u = u9 := by omega
    first | contradiction | (exfalso; omega) | (exfalso; rcases t6 with q | q | q <;> first | contradiction | omega) | (exfalso; rcases t6 with q | q <;> first | contradiction | omega)
  · obtain rfl : u = u9 := by omega
    exact hQ _ _ ⟨_, rfl, (by omega), hE⟩
theorem d_sight {g : zGT} (hg : zG g) (hnx : zNX g) {mi : Nat} (hm : zMi g mi) {n : Nat} {S : zS} (hS : zOK n S) (hn : n < 512) {a c : Int} (ha : zR a) (hc : zR c) : ∃ (t : Int) (S2 : zS), (zRes n S t S2) ∧ dM g S n (.codeWith yL_sight cL_sight 4 (Option.some Jvm.ClassFile.FieldType.long) [(0, 7, 8, 22), (0, 7, 13, 14)]) yL_sight 19 14 300 [.int (zI a), .int (zI c)] t S2 := by
  have hI := hS.1.1
  by_cases t1 : ¬ (0 ≤ a ∧ a ≤ 9 ∧ 0 ≤ c ∧ c ≤ 1439)
  · refine ⟨zNine, S, zRes.no hS hn, fun x o h Q cx hE => ?_⟩
    obtain ⟨Vs, Ps, Ss, Ts, Fs, Tn, A, G, Rc, y⟩ := id cx
    refine w_sight hg hnx cx.kd (fun Q1 hQ => ?_)
    refine c_X11_sight hg hm hI y ha hc (fun e20 => ?_) (fun e20 e21 => ?_) (fun e20 e21 e22 o1 h1 c9 st => ?_)
    · exact hQ _ _ (Or.inl ⟨rfl, hE _ _ cx.up .refl⟩)
    · first | contradiction | (exfalso; omega) | (exfalso; rcases t1 with q | q | q <;> first | contradiction | omega) | (exfalso; rcases t1 with q | q <;> first | contradiction | omega)
    · first | contradiction | (exfalso; omega) | (exfalso; rcases t1 with q | q | q <;> first | contradiction | omega) | (exfalso; rcases t1 with q | q <;> first | contradiction | omega)
  replace t1 := Classical.not_not.mp t1
  by_cases t2 : (¬ zsightOK S ∨ S.1 31 = 40)
  · refine ⟨zNine, S, zRes.no hS hn, fun x o h Q cx hE => ?_⟩
    obtain ⟨Vs, Ps, Ss, Ts, Fs, Tn, A, G, Rc, y⟩ := id cx
    refine w_sight hg hnx cx.kd (fun Q1 hQ => ?_)
    refine c_X11_sight hg hm hI y ha hc (fun e20 => ?_) (fun e20 e21 => ?_) (fun e20 e21 e22 o1 h1 c9 st => ?_)
    · first | contradiction | (exfalso; omega) | (exfalso; rcases t2 with q | q | q <;> first | contradiction | omega) | (exfalso; rcases t2 with q | q <;> first | contradiction | omega)
    · exact hQ _ _ (Or.inr (Or.inl ⟨rfl, hE _ _ cx.up .refl⟩))
    · first | contradiction | (exfalso; omega) | (exfalso; rcases t2 with q | q | q <;> first | contradiction | omega) | (exfalso; rcases t2 with q | q <;> first | contradiction | omega)
  have e := hI.sightings
  refine ⟨(S.1 31), (zu1 (zu1 S.1 2 0) 31 (S.1 31 + 1), zu2 (zu2 (zu2 (zcp S.2 (S.1 31).toNat 4) 33 (S.1 31).toNat a) 34 (S.1 31).toNat (S.1 1)) 35 (S.1 31).toNat c), ⟨⟨ok_sight hS.1 hn t1 (fun q => t2 (Or.inr q)), fun i => zsight34 (a := a) (c := c) hS i⟩, (by first | rfl | exact zu1_ne (by decide) | exact (zu1_ne (by decide)).trans (zu1_ne (by decide))), fun q => nNine q (by omega), ⟨by omega, by omega⟩⟩, fun x o h Q cx hE => ?_⟩
  obtain ⟨Vs, Ps, Ss, Ts, Fs, Tn, A, G, Rc, y⟩ := id cx
  refine w_sight hg hnx cx.kd (fun Q1 hQ => ?_)
  refine c_X11_sight hg hm hI y ha hc (fun e20 => ?_) (fun e20 e21 => ?_) (fun e20 e21 e22 o1 h1 c9 st => ?_)
  · first | contradiction | (exfalso; omega) | (exfalso; rcases t2 with q | q | q <;> first | contradiction | omega) | (exfalso; rcases t2 with q | q <;> first | contradiction | omega)
  · first | contradiction | (exfalso; omega) | (exfalso; rcases t2 with q | q | q <;> first | contradiction | omega) | (exfalso; rcases t2 with q | q <;> first | contradiction | omega)
  · exact hQ _ _ ⟨_, rfl, (by omega), hE _ _ c9 st⟩
theorem d_seen {g : zGT} (hg : zG g) (hnx : zNX g) {n : Nat} {S : zS} (hS : zOK n S) {v : Int} (hv : zR v) : ∃ t : Int, (zBd t ∧ (¬ (0 ≤ v ∧ v < S.1 31) → t = zNine) ∧ (∀ u : Nat, v = u → v < S.1 31 → t = zseen S u)) ∧ dQ g S n (.codeWith yL_seen cL_seen 3 (Option.some Jvm.ClassFile.FieldType.long) [(0, 6, 7, 36)]) yL_seen 17 4 40 [.int (zI v)] t := by
  have hI := hS.1.1
  by_cases t1 : ¬ (0 ≤ v ∧ v < S.1 31)
  · refine ⟨zNine, ⟨(by decide), fun _ => rfl, fun u hu h9 => by exfalso; omega⟩, fun x o h Q cx hE => ?_⟩
    obtain ⟨Vs, Ps, Ss, Ts, Fs, Tn, A, G, Rc, y⟩ := id cx
    refine w_seen hg hnx cx.kd (fun Q1 hQ => ?_)
    refine c_X11_seen hg hI y hv (fun e20 => ?_) (fun s9 e20 e21 => ?_)
    · exact hQ _ _ (Or.inl ⟨rfl, hE⟩)
    · first | contradiction | (exfalso; omega) | (exfalso; rcases t1 with q | q | q <;> first | contradiction | omega) | (exfalso; rcases t1 with q | q <;> first | contradiction | omega)
  replace t1 := Classical.not_not.mp t1
  obtain ⟨u, rfl⟩ : ∃ u : Nat, v = (u : Int) := ⟨v.toNat, by omega⟩
  have e := zseen_range (s := u) hI
  refine ⟨(zseen S u), ⟨⟨by omega, by omega⟩, fun q => by exfalso; omega, fun u2 hu h9 => by obtain rfl : u = u2 := (by omega); rfl⟩, fun x o h Q cx hE => ?_⟩
  obtain ⟨Vs, Ps, Ss, Ts, Fs, Tn, A, G, Rc, y⟩ := id cx
  refine w_seen hg hnx cx.kd (fun Q1 hQ => ?_)
  refine c_X11_seen hg hI y hv (fun e20 => ?_) (fun s9 e20 e21 => ?_)
  · first | contradiction | (exfalso; omega) | (exfalso; rcases t1 with q | q | q <;> first | contradiction | omega) | (exfalso; rcases t1 with q | q <;> first | contradiction | omega)
  · obtain rfl : u = s9 := by omega
    exact hQ _ _ ⟨_, rfl, (by omega), hE⟩
theorem d_fine {g : zGT} (hg : zG g) (hnx : zNX g) {mi : Nat} (hm : zMi g mi) {n : Nat} {S : zS} (hS : zOK n S) (hn : n < 512) {v b : Int} (hv : zR v) (hb : zR b) : ∃ (t : Int) (S2 : zS), (zRes n S t S2) ∧ dM g S n (.codeWith yL_fine cL_fine 4 (Option.some Jvm.ClassFile.FieldType.long) [(0, 7, 8, 36), (0, 7, 13, 22), (0, 7, 18, 14)]) yL_fine 18 6 150 [.int (zI v), .int (zI b)] t S2 := by
  have hI := hS.1.1
  by_cases t1 : ¬ (0 ≤ v ∧ v < S.1 31)
  · refine ⟨zNine, S, zRes.no hS hn, fun x o h Q cx hE => ?_⟩
    obtain ⟨Vs, Ps, Ss, Ts, Fs, Tn, A, G, Rc, y⟩ := id cx
    refine w_fine hg hnx cx.kd (fun Q1 hQ => ?_)
    refine c_X11_fine hg hm hI y hv hb (fun e20 => ?_) (fun s9 e20 e21 e22 => ?_) (fun s9 e20 e21 e22 e23 => ?_) (fun s9 e20 e21 e22 e23 o1 h1 c9 st => ?_)
    · exact hQ _ _ (Or.inl ⟨rfl, hE _ _ cx.up .refl⟩)
    · first | contradiction | (exfalso; omega) | (exfalso; rcases t1 with q | q | q <;> first | contradiction | omega) | (exfalso; rcases t1 with q | q <;> first | contradiction | omega)
    · first | contradiction | (exfalso; omega) | (exfalso; rcases t1 with q | q | q <;> first | contradiction | omega) | (exfalso; rcases t1 with q | q <;> first | contradiction | omega)
    · first | contradiction | (exfalso; omega) | (exfalso; rcases t1 with q | q | q <;> first | contradiction | omega) | (exfalso; rcases t1 with q | q <;> first | contradiction | omega)
  replace t1 := Classical.not_not.mp t1
  obtain ⟨u, rfl⟩ : ∃ u : Nat, v = (u : Int) := ⟨v.toNat, by omega⟩
  by_cases t2 : ¬ (1 ≤ b ∧ b ≤ 100000)
  · refine ⟨zNine, S, zRes.no hS hn, fun x o h Q cx hE => ?_⟩
    obtain ⟨Vs, Ps, Ss, Ts, Fs, Tn, A, G, Rc, y⟩ := id cx
    refine w_fine hg hnx cx.kd (fun Q1 hQ => ?_)
    refine c_X11_fine hg hm hI y hv hb (fun e20 => ?_) (fun s9 e20 e21 e22 => ?_) (fun s9 e20 e21 e22 e23 => ?_) (fun s9 e20 e21 e22 e23 o1 h1 c9 st => ?_)
    · first | contradiction | (exfalso; omega) | (exfalso; rcases t2 with q | q | q <;> first | contradiction | omega) | (exfalso; rcases t2 with q | q <;> first | contradiction | omega)
    · obtain rfl : u = s9 := by omega
      exact hQ _ _ (Or.inr (Or.inl ⟨rfl, hE _ _ cx.up .refl⟩))
    · obtain rfl : u = s9 := by omega
      first | contradiction | (exfalso; omega) | (exfalso; rcases t2 with q | q | q <;> first | contradiction | omega) | (exfalso; rcases t2 with q | q <;> first | contradiction | omega)
    · obtain rfl : u = s9 := by omega
      first | contradiction | (exfalso; omega) | (exfalso; rcases t2 with q | q | q <;> first | contradiction | omega) | (exfalso; rcases t2 with q | q <;> first | contradiction | omega)
  replace t2 := Classical.not_not.mp t2
  by_cases t3 : (zseen S u = -1 ∨ S.1 36 = 20)
  · refine ⟨zNine, S, zRes.no hS hn, fun x o h Q cx hE => ?_⟩
    obtain ⟨Vs, Ps, Ss, Ts, Fs, Tn, A, G, Rc, y⟩ := id cx
    refine w_fine hg hnx cx.kd (fun Q1 hQ => ?_)
    refine c_X11_fine hg hm hI y hv hb (fun e20 => ?_) (fun s9 e20 e21 e22 => ?_) (fun s9 e20 e21 e22 e23 => ?_) (fun s9 e20 e21 e22 e23 o1 h1 c9 st => ?_)
    · first | contradiction | (exfalso; omega) | (exfalso; rcases t3 with q | q | q <;> first | contradiction | omega) | (exfalso; rcases t3 with q | q <;> first | contradiction | omega)
    · obtain rfl : u = s9 := by omega
      first | contradiction | (exfalso; omega) | (exfalso; rcases t3 with q | q | q <;> first | contradiction | omega) | (exfalso; rcases t3 with q | q <;> first | contradiction | omega)
    · obtain rfl : u = s9 := by omega
      exact hQ _ _ (Or.inr (Or.inr (Or.inl ⟨rfl, hE _ _ cx.up .refl⟩)))
    · obtain rfl : u = s9 := by omega
      first | contradiction | (exfalso; omega) | (exfalso; rcases t3 with q | q | q <;> first | contradiction | omega) | (exfalso; rcases t3 with q | q <;> first | contradiction | omega)
  have e := hI.fines
  refine ⟨(S.1 36), (zu1 S.1 36 (S.1 36 + 1), zu2 (zu2 (zu2 S.2 37 (S.1 36).toNat u) 38 (S.1 36).toNat b) 39 (S.1 36).toNat (S.1 1)), ⟨hS.of (ok_fine hS.1 hn t1.2 t2 (fun q => t3 (Or.inr q))) (by first | exact Int.le_refl _ | (show S.1 1 ≤ zu1 _ _ _ 1; rw [zu1_ne (by decide)]; first | exact Int.le_refl _ | (rw [zu1_ne (by decide)]; exact Int.le_refl _))) (fun i => by first | rfl | simp [zu2]), (by first | rfl | exact zu1_ne (by decide) | exact (zu1_ne (by decide)).trans (zu1_ne (by decide))), fun q => nNine q (by omega), ⟨by omega, by omega⟩⟩, fun x o h Q cx hE => ?_⟩
  obtain ⟨Vs, Ps, Ss, Ts, Fs, Tn, A, G, Rc, y⟩ := id cx
  refine w_fine hg hnx cx.kd (fun Q1 hQ => ?_)
  refine c_X11_fine hg hm hI y hv hb (fun e20 => ?_) (fun s9 e20 e21 e22 => ?_) (fun s9 e20 e21 e22 e23 => ?_) (fun s9 e20 e21 e22 e23 o1 h1 c9 st => ?_)
  · first | contradiction | (exfalso; omega) | (exfalso; rcases t3 with q | q | q <;> first | contradiction | omega) | (exfalso; rcases t3 with q | q <;> first | contradiction | omega)
  · obtain rfl : u = s9 := by omega
    first | contradiction | (exfalso; omega) | (exfalso; rcases t3 with q | q | q <;> first | contradiction | omega) | (exfalso; rcases t3 with q | q <;> first | contradiction | omega)
  · obtain rfl : u = s9 := by omega
    first | contradiction | (exfalso; omega) | (exfalso; rcases t3 with q | q | q <;> first | contradiction | omega) | (exfalso; rcases t3 with q | q <;> first | contradiction | omega)
  · obtain rfl : u = s9 := by omega
    exact hQ _ _ ⟨_, rfl, (by omega), hE _ _ c9 st⟩
theorem d_name {g : zGT} (hg : zG g) (hnx : zNX g) {n : Nat} {S : zS} (hS : zOK n S) (hn : n < 512) {v b : Int} (hv : zR v) (hb : zR b) : ∃ (t : Int) (S2 : zS), (zRes n S t S2) ∧ dM g S n (.codeWith yL_name cL_name 4 (Option.some Jvm.ClassFile.FieldType.long) [(0, 7, 8, 36), (0, 7, 13, 14)]) yL_name 18 4 40 [.int (zI v), .int (zI b)] t S2 := by
  have hI := hS.1.1
  by_cases t1 : ¬ (0 ≤ v ∧ v < S.1 36 ∧ 0 ≤ b ∧ b < S.1 12)
  · refine ⟨zNine, S, zRes.no hS hn, fun x o h Q cx hE => ?_⟩
    obtain ⟨Vs, Ps, Ss, Ts, Fs, Tn, A, G, Rc, y⟩ := id cx
    refine w_name hg hnx cx.kd (fun Q1 hQ => ?_)
    refine c_X11_name hg hI y hv hb (fun e20 => ?_) (fun f9 e20 e21 e22 => ?_) (fun f9 e20 e21 e22 o1 h1 c9 st => ?_)
    · exact hQ _ _ (Or.inl ⟨rfl, hE _ _ cx.up .refl⟩)
    · first | contradiction | (exfalso; omega) | (exfalso; rcases t1 with q | q | q <;> first | contradiction | omega) | (exfalso; rcases t1 with q | q <;> first | contradiction | omega)
    · first | contradiction | (exfalso; omega) | (exfalso; rcases t1 with q | q | q <;> first | contradiction | omega) | (exfalso; rcases t1 with q | q <;> first | contradiction | omega)
  replace t1 := Classical.not_not.mp t1
  obtain ⟨u, rfl⟩ : ∃ u : Nat, v = (u : Int) := ⟨v.toNat, by omega⟩
  by_cases t2 : ¬ (zwhose S u ≠ -1 ∧ zwhose S u ≠ b ∧ S.1 1 - S.2 39 u ≤ 14 ∧ S.2 40 u < 3)
  · refine ⟨zNine, S, zRes.no hS hn, fun x o h Q cx hE => ?_⟩
    obtain ⟨Vs, Ps, Ss, Ts, Fs, Tn, A, G, Rc, y⟩ := id cx
    refine w_name hg hnx cx.kd (fun Q1 hQ => ?_)
    refine c_X11_name hg hI y hv hb (fun e20 => ?_) (fun f9 e20 e21 e22 => ?_) (fun f9 e20 e21 e22 o1 h1 c9 st => ?_)
    · first | contradiction | (exfalso; omega) | (exfalso; rcases t2 with q | q | q <;> first | contradiction | omega) | (exfalso; rcases t2 with q | q <;> first | contradiction | omega)
    · obtain rfl : u = f9 := by omega
      exact hQ _ _ (Or.inr (Or.inl ⟨rfl, hE _ _ cx.up .refl⟩))
    · obtain rfl : u = f9 := by omega
      first | contradiction | (exfalso; omega) | (exfalso; rcases t2 with q | q | q <;> first | contradiction | omega) | (exfalso; rcases t2 with q | q <;> first | contradiction | omega)
  replace t2 := Classical.not_not.mp t2
  have e := zwhose_range (f := u) hI
  refine ⟨(zwhose S u), (S.1, zu2 (zu2 (zu2 S.2 40 u (S.2 40 u + 1)) 41 u b) 39 u (S.1 1)), ⟨hS.of (ok_name hS.1 hn t1.2.2 t2.2.2.2) (by first | exact Int.le_refl _ | (show S.1 1 ≤ zu1 _ _ _ 1; rw [zu1_ne (by decide)]; first | exact Int.le_refl _ | (rw [zu1_ne (by decide)]; exact Int.le_refl _))) (fun i => by first | rfl | simp [zu2]), (by first | rfl | exact zu1_ne (by decide) | exact (zu1_ne (by decide)).trans (zu1_ne (by decide))), fun q => nNine q (by omega), ⟨by omega, by omega⟩⟩, fun x o h Q cx hE => ?_⟩
  obtain ⟨Vs, Ps, Ss, Ts, Fs, Tn, A, G, Rc, y⟩ := id cx
  refine w_name hg hnx cx.kd (fun Q1 hQ => ?_)
  refine c_X11_name hg hI y hv hb (fun e20 => ?_) (fun f9 e20 e21 e22 => ?_) (fun f9 e20 e21 e22 o1 h1 c9 st => ?_)
  · first | contradiction | (exfalso; omega) | (exfalso; rcases t2 with q | q | q <;> first | contradiction | omega) | (exfalso; rcases t2 with q | q <;> first | contradiction | omega)
  · obtain rfl : u = f9 := by omega
    first | contradiction | (exfalso; omega) | (exfalso; rcases t2 with q | q | q <;> first | contradiction | omega) | (exfalso; rcases t2 with q | q <;> first | contradiction | omega)
  · obtain rfl : u = f9 := by omega
    exact hQ _ _ ⟨_, rfl, (by omega), hE _ _ c9 st⟩
theorem d_whose {g : zGT} (hg : zG g) (hnx : zNX g) {n : Nat} {S : zS} (hS : zOK n S) {v : Int} (hv : zR v) : ∃ t : Int, (zBd t) ∧ dQ g S n (.codeWith yL_whose cL_whose 3 (Option.some Jvm.ClassFile.FieldType.long) [(0, 6, 7, 36)]) yL_whose 18 4 40 [.int (zI v)] t := by
  have hI := hS.1.1
  by_cases t1 : ¬ (0 ≤ v ∧ v < S.1 36)
  · refine ⟨zNine, (by decide), fun x o h Q cx hE => ?_⟩
    obtain ⟨Vs, Ps, Ss, Ts, Fs, Tn, A, G, Rc, y⟩ := id cx
    refine w_whose hg hnx cx.kd (fun Q1 hQ => ?_)
    refine c_X11_whose hg hI y hv (fun e20 => ?_) (fun f9 e20 e21 => ?_)
    · exact hQ _ _ (Or.inl ⟨rfl, hE⟩)
    · first | contradiction | (exfalso; omega) | (exfalso; rcases t1 with q | q | q <;> first | contradiction | omega) | (exfalso; rcases t1 with q | q <;> first | contradiction | omega)
  replace t1 := Classical.not_not.mp t1
  obtain ⟨u, rfl⟩ : ∃ u : Nat, v = (u : Int) := ⟨v.toNat, by omega⟩
  have e := zwhose_range (f := u) hI
  refine ⟨(zwhose S u), ⟨by omega, by omega⟩, fun x o h Q cx hE => ?_⟩
  obtain ⟨Vs, Ps, Ss, Ts, Fs, Tn, A, G, Rc, y⟩ := id cx
  refine w_whose hg hnx cx.kd (fun Q1 hQ => ?_)
  refine c_X11_whose hg hI y hv (fun e20 => ?_) (fun f9 e20 e21 => ?_)
  · first | contradiction | (exfalso; omega) | (exfalso; rcases t1 with q | q | q <;> first | contradiction | omega) | (exfalso; rcases t1 with q | q <;> first | contradiction | omega)
  · obtain rfl : u = f9 := by omega
    exact hQ _ _ ⟨_, rfl, (by omega), hE⟩
theorem d_fines {g : zGT} (hg : zG g) (hnx : zNX g) {n : Nat} {S : zS} (hS : zOK n S) {v : Int} (hv : zR v) : ∃ t : Int, (zBd t ∧ (¬ (0 ≤ v ∧ v < S.1 12) → t = zNine)) ∧ dQ g S n (.codeWith yL_fines cL_fines 3 (Option.some Jvm.ClassFile.FieldType.long) [(0, 6, 7, 36)]) yL_fines 18 4 40 [.int (zI v)] t := by
  have hI := hS.1.1
  by_cases t1 : ¬ (0 ≤ v ∧ v < S.1 12)
  · refine ⟨zNine, ⟨(by decide), fun _ => rfl⟩, fun x o h Q cx hE => ?_⟩
    obtain ⟨Vs, Ps, Ss, Ts, Fs, Tn, A, G, Rc, y⟩ := id cx
    refine w_fines hg hnx cx.kd (fun Q1 hQ => ?_)
    refine c_X11_fines hg hI y hv (fun e20 => ?_) (fun e20 => ?_)
    · exact hQ _ _ (Or.inl ⟨rfl, hE⟩)
    · first | contradiction | (exfalso; omega) | (exfalso; rcases t1 with q | q | q <;> first | contradiction | omega) | (exfalso; rcases t1 with q | q <;> first | contradiction | omega)
  replace t1 := Classical.not_not.mp t1
  have e := zsum_range (p := v) hI (S.1 36).toNat
  have e2 := hI.fines
  refine ⟨(zsum S v (S.1 36).toNat), ⟨⟨by omega, by omega⟩, fun q => by exfalso; omega⟩, fun x o h Q cx hE => ?_⟩
  obtain ⟨Vs, Ps, Ss, Ts, Fs, Tn, A, G, Rc, y⟩ := id cx
  refine w_fines hg hnx cx.kd (fun Q1 hQ => ?_)
  refine c_X11_fines hg hI y hv (fun e20 => ?_) (fun e20 => ?_)
  · first | contradiction | (exfalso; omega) | (exfalso; rcases t1 with q | q | q <;> first | contradiction | omega) | (exfalso; rcases t1 with q | q <;> first | contradiction | omega)
  · exact hQ _ _ ⟨_, rfl, (by omega), hE⟩
theorem d_look {g : zGT} (hg : zG g) (hnx : zNX g) {n : Nat} {S : zS} (hS : zOK n S) (hn : n < 512) (hcs : zCS g) {p0 p1 p2 : Nat} (g0 : zSR g 360 "police" p0) (w0 : zWd g p0 [112, 111, 108, 105, 99, 101]) (g1 : zSR g 372 "insurer" p1) (w1 : zWd g p1 [105, 110, 115, 117, 114, 101, 114]) (g2 : zSR g 374 "clamper" p2) (w2 : zWd g p2 [99, 108, 97, 109, 112, 101, 114]) {v : Int} (hv : zR v) : ∃ (t : Int) (S2 : zS), (zRes n S t S2) ∧ dM g S n (.codeWith yL_look cL_look 3 (Option.some Jvm.ClassFile.FieldType.long) [(0, 6, 7, 36)]) yL_look 18 4 40 [.int (zI v)] t S2 := by
  have hI := hS.1.1
  by_cases t1 : ¬ (0 ≤ v ∧ v < S.1 4)
  · refine ⟨zNine, S, zRes.no hS hn, fun x o h Q cx hE => ?_⟩
    obtain ⟨Vs, Ps, Ss, Ts, Fs, Tn, A, G, Rc, y⟩ := id cx
    refine w_look hg hnx cx.kd (fun Q1 hQ => ?_)
    refine c_X11_look hg hI y hcs g0 w0 g1 w1 g2 w2 hv (fun e20 => ?_) (fun u9 e20 e21 e22 o1 h1 c9 st => ?_) (fun u9 e20 e21 e22 o1 h1 c9 st => ?_)
    · exact hQ _ _ (Or.inl ⟨rfl, hE _ _ cx.up .refl⟩)
    · first | contradiction | (exfalso; omega) | (exfalso; rcases t1 with q | q | q <;> first | contradiction | omega) | (exfalso; rcases t1 with q | q <;> first | contradiction | omega)
    · first | contradiction | (exfalso; omega) | (exfalso; rcases t1 with q | q | q <;> first | contradiction | omega) | (exfalso; rcases t1 with q | q <;> first | contradiction | omega)
  replace t1 := Classical.not_not.mp t1
  obtain ⟨u, rfl⟩ : ∃ u : Nat, v = (u : Int) := ⟨v.toNat, by omega⟩
  by_cases t2 : ¬ ((zwordOK S 136588751 6 ∨ zwordOK S 18406328744 7 ∧ zstate S u (S.1 1) = 1 ∨ zwordOK S 18403950946 7 ∧ (zstate S u (S.1 1) = 2 ∨ zstate S u (S.1 1) = 0)) ∧ (zlast S u (S.1 1) 0 (-1)) ≠ -1 ∧ (S.2 13 (zlast S u (S.1 1) 0 (-1)).toNat = 0 ∨ zwordOK S 136588751 6))
  · have e := zlast_range (v := u) (w := S.1 1) (its := 0) (wo := -1) hI (by omega)
    refine ⟨(-1), (zu1 S.1 2 0, S.2), ⟨hS.of (ok_clear hS.1 hn) (by first | exact Int.le_refl _ | (show S.1 1 ≤ zu1 _ _ _ 1; rw [zu1_ne (by decide)]; first | exact Int.le_refl _ | (rw [zu1_ne (by decide)]; exact Int.le_refl _))) (fun i => by first | rfl | simp [zu2]), (by first | rfl | exact zu1_ne (by decide) | exact (zu1_ne (by decide)).trans (zu1_ne (by decide))), fun q => nNine q (by omega), ⟨by omega, by omega⟩⟩, fun x o h Q cx hE => ?_⟩
    obtain ⟨Vs, Ps, Ss, Ts, Fs, Tn, A, G, Rc, y⟩ := id cx
    refine w_look hg hnx cx.kd (fun Q1 hQ => ?_)
    refine c_X11_look hg hI y hcs g0 w0 g1 w1 g2 w2 hv (fun e20 => ?_) (fun u9 e20 e21 e22 o1 h1 c9 st => ?_) (fun u9 e20 e21 e22 o1 h1 c9 st => ?_)
    · first | contradiction | (exfalso; omega) | (exfalso; rcases t2 with q | q | q <;> first | contradiction | omega) | (exfalso; rcases t2 with q | q <;> first | contradiction | omega)
    · obtain rfl : u = u9 := by omega
      exact hQ _ _ ⟨_, rfl, (by omega), hE _ _ c9 st⟩
    · obtain rfl : u = u9 := by omega
      first | contradiction | (exfalso; omega) | (exfalso; rcases t2 with q | q | q <;> first | contradiction | omega) | (exfalso; rcases t2 with q | q <;> first | contradiction | omega)
  replace t2 := Classical.not_not.mp t2
  have e := zlast_range (v := u) (w := S.1 1) (its := 0) (wo := -1) hI (by omega)
  refine ⟨(zlast S u (S.1 1) 0 (-1)), (zu1 S.1 2 0, zu2 S.2 14 (zlast S u (S.1 1) 0 (-1)).toNat (S.2 14 (zlast S u (S.1 1) 0 (-1)).toNat + 1)), ⟨hS.of (ok_look hS.1 hn) (by first | exact Int.le_refl _ | (show S.1 1 ≤ zu1 _ _ _ 1; rw [zu1_ne (by decide)]; first | exact Int.le_refl _ | (rw [zu1_ne (by decide)]; exact Int.le_refl _))) (fun i => by first | rfl | simp [zu2]), (by first | rfl | exact zu1_ne (by decide) | exact (zu1_ne (by decide)).trans (zu1_ne (by decide))), fun q => nNine q (by omega), ⟨by omega, by omega⟩⟩, fun x o h Q cx hE => ?_⟩
  obtain ⟨Vs, Ps, Ss, Ts, Fs, Tn, A, G, Rc, y⟩ := id cx
  refine w_look hg hnx cx.kd (fun Q1 hQ => ?_)
  refine c_X11_look hg hI y hcs g0 w0 g1 w1 g2 w2 hv (fun e20 => ?_) (fun u9 e20 e21 e22 o1 h1 c9 st => ?_) (fun u9 e20 e21 e22 o1 h1 c9 st => ?_)
  · first | contradiction | (exfalso; omega) | (exfalso; rcases t2 with q | q | q <;> first | contradiction | omega) | (exfalso; rcases t2 with q | q <;> first | contradiction | omega)
  · obtain rfl : u = u9 := by omega
    first | contradiction | (exfalso; omega) | (exfalso; rcases t2 with q | q | q <;> first | contradiction | omega) | (exfalso; rcases t2 with q | q <;> first | contradiction | omega)
  · obtain rfl : u = u9 := by omega
    exact hQ _ _ ⟨_, rfl, (by omega), hE _ _ c9 st⟩
theorem d_looked {g : zGT} (hg : zG g) (hnx : zNX g) {n : Nat} {S : zS} (hS : zOK n S) {v : Int} (hv : zR v) : ∃ t : Int, (zBd t) ∧ dQ g S n (.codeWith yL_looked cL_looked 3 (Option.some Jvm.ClassFile.FieldType.long) [(0, 6, 7, 36)]) yL_looked 15 4 40 [.int (zI v)] t := by
  have hI := hS.1.1
  by_cases t1 : ¬ (0 ≤ v ∧ v < S.1 12)
  · refine ⟨zNine, (by decide), fun x o h Q cx hE => ?_⟩
    obtain ⟨Vs, Ps, Ss, Ts, Fs, Tn, A, G, Rc, y⟩ := id cx
    refine w_looked hg hnx cx.kd (fun Q1 hQ => ?_)
    refine c_X11_looked hg hI y hv (fun e20 => ?_) (fun p9 e20 e21 => ?_)
    · exact hQ _ _ (Or.inl ⟨rfl, hE⟩)
    · first | contradiction | (exfalso; omega) | (exfalso; rcases t1 with q | q | q <;> first | contradiction | omega) | (exfalso; rcases t1 with q | q <;> first | contradiction | omega)
  replace t1 := Classical.not_not.mp t1
  obtain ⟨u, rfl⟩ : ∃ u : Nat, v = (u : Int) := ⟨v.toNat, by omega⟩
  have e := hI.looked u
  have e2 := hI.calls
  refine ⟨(S.2 14 u), ⟨by omega, by omega⟩, fun x o h Q cx hE => ?_⟩
  obtain ⟨Vs, Ps, Ss, Ts, Fs, Tn, A, G, Rc, y⟩ := id cx
  refine w_looked hg hnx cx.kd (fun Q1 hQ => ?_)
  refine c_X11_looked hg hI y hv (fun e20 => ?_) (fun p9 e20 e21 => ?_)
  · first | contradiction | (exfalso; omega) | (exfalso; rcases t1 with q | q | q <;> first | contradiction | omega) | (exfalso; rcases t1 with q | q <;> first | contradiction | omega)
  · obtain rfl : u = p9 := by omega
    exact hQ _ _ ⟨_, rfl, (by omega), hE⟩
theorem d_pass {g : zGT} (hg : zG g) (hnx : zNX g) {n : Nat} {S : zS} (hS : zOK n S) (hn : n < 512) {v : Int} (hv : zR v) : ∃ (t : Int) (S2 : zS), (zOK (n + 1) S2 ∧ zBd t ∧ (0 ≤ t → t = S2.1 1) ∧ (t < 0 → S2 = S)) ∧ dM g S n (.codeWith yL_pass cL_pass 3 (Option.some Jvm.ClassFile.FieldType.long) [(0, 6, 7, 22), (0, 6, 12, 14)]) yL_pass 15 4 40 [.int (zI v)] t S2 := by
  have hI := hS.1.1
  by_cases t1 : ¬ (1 ≤ v ∧ v ≤ 400)
  · refine ⟨zNine, S, ⟨hS.next hn, by decide, fun q => absurd q (by decide), fun _ => rfl⟩, fun x o h Q cx hE => ?_⟩
    obtain ⟨Vs, Ps, Ss, Ts, Fs, Tn, A, G, Rc, y⟩ := id cx
    refine w_pass hg hnx cx.kd (fun Q1 hQ => ?_)
    refine c_X11_pass hg hI y hv (fun e20 => ?_) (fun e20 e21 => ?_) (fun e20 e21 o1 h1 c9 st => ?_)
    · exact hQ _ _ (Or.inl ⟨rfl, hE _ _ cx.up .refl⟩)
    · first | contradiction | (exfalso; omega) | (exfalso; rcases t1 with q | q | q <;> first | contradiction | omega) | (exfalso; rcases t1 with q | q <;> first | contradiction | omega)
    · first | contradiction | (exfalso; omega) | (exfalso; rcases t1 with q | q | q <;> first | contradiction | omega) | (exfalso; rcases t1 with q | q <;> first | contradiction | omega)
  replace t1 := Classical.not_not.mp t1
  by_cases t2 : 20000 < S.1 1 + v
  · refine ⟨zNine, S, ⟨hS.next hn, by decide, fun q => absurd q (by decide), fun _ => rfl⟩, fun x o h Q cx hE => ?_⟩
    obtain ⟨Vs, Ps, Ss, Ts, Fs, Tn, A, G, Rc, y⟩ := id cx
    refine w_pass hg hnx cx.kd (fun Q1 hQ => ?_)
    refine c_X11_pass hg hI y hv (fun e20 => ?_) (fun e20 e21 => ?_) (fun e20 e21 o1 h1 c9 st => ?_)
    · first | contradiction | (exfalso; omega) | (exfalso; rcases t2 with q | q | q <;> first | contradiction | omega) | (exfalso; rcases t2 with q | q <;> first | contradiction | omega)
    · exact hQ _ _ (Or.inr (Or.inl ⟨rfl, hE _ _ cx.up .refl⟩))
    · first | contradiction | (exfalso; omega) | (exfalso; rcases t2 with q | q | q <;> first | contradiction | omega) | (exfalso; rcases t2 with q | q <;> first | contradiction | omega)
  have e := hI.today
  refine ⟨(S.1 1 + v), (zu1 S.1 1 (S.1 1 + v), S.2), ⟨hS.of (ok_pass hS.1 hn t1 (by omega)) (by show S.1 1 ≤ zu1 S.1 1 (S.1 1 + v) 1; rw [zu1_at]; omega) (fun _ => rfl), ⟨by omega, by omega⟩, fun _ => (by show S.1 1 + v = zu1 S.1 1 (S.1 1 + v) 1; rw [zu1_at]), fun q => by exfalso; omega⟩, fun x o h Q cx hE => ?_⟩
  obtain ⟨Vs, Ps, Ss, Ts, Fs, Tn, A, G, Rc, y⟩ := id cx
  refine w_pass hg hnx cx.kd (fun Q1 hQ => ?_)
  refine c_X11_pass hg hI y hv (fun e20 => ?_) (fun e20 e21 => ?_) (fun e20 e21 o1 h1 c9 st => ?_)
  · first | contradiction | (exfalso; omega) | (exfalso; rcases t2 with q | q | q <;> first | contradiction | omega) | (exfalso; rcases t2 with q | q <;> first | contradiction | omega)
  · first | contradiction | (exfalso; omega) | (exfalso; rcases t2 with q | q | q <;> first | contradiction | omega) | (exfalso; rcases t2 with q | q <;> first | contradiction | omega)
  · exact hQ _ _ ⟨_, rfl, (by omega), hE _ _ c9 st⟩
