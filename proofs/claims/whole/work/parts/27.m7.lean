abbrev mX12_clones : zM := (RX12, cX12_clones, 7, (Option.some Jvm.ClassFile.FieldType.int), [], "clones", 13)
set_option maxRecDepth 20000 in
theorem c_X12_clones {g : zGT} {Q : zO → zH → Prop} {h : zH} (hg : zG g) {h0 : zH} {m : Nat} {A : Nat → Nat} {S : zS} {n : Nat} {t : Int} (hI : MInv n S) (hM : MI h0 m A S t h) {v : Int} (hv : zR v) (k : Q (.inl (some (.int (zI (zclones S v (S.1 31).toNat))))) h) : zC g (.code yX12_clones cX12_clones 7 (Option.some Jvm.ClassFile.FieldType.int)) yX12_clones 13 0 0 [.ref m, .int (zI v)] h Q := by
  refine zC_of (M := mX12_clones) (lv := [some (.ref m), some (.int (zI v)), none, none, none, none, none]) (by decide) rfl rfl (Nat.le_of_ble_eq_true rfl) rfl rfl ?_
  have e1 := hI.sightings
  refine r_iconst 1 rfl (dd_X12_clones_0 0 _ _ _ rfl) ?_
  refine r_istore_2 2 rfl (by decide) rfl (dd_X12_clones_0 1 _ _ _ rfl) ?_
  refine r_iconst 3 rfl (dd_X12_clones_0 2 _ _ _ rfl) ?_
  refine r_istore_3 4 rfl (by decide) rfl (dd_X12_clones_0 3 _ _ _ rfl) ?_
  have L4 : ∀ (tt : Nat), ∀ (s : Nat) (b c : Int), 50 - s < tt → ((s : Int) ≤ S.1 31) → (b = s) → (c = zclones S v s) → zX g mX12_clones 0 0 Q 4 [some (.ref m), some (.int (zI v)), some (.int (zI c)), some (.int (zI b)), none, none, none] [] h 0 0 := by
    intro tt4
    induction tt4 with
    | zero => intros; exfalso; omega
    | succ tt4 ih4 =>
      intro s b c hlt4 hs hb hc
      subst hb
      have e2 := zclones_range (S := S) (v := v) s
      refine r_iload_3 5 rfl (dd_X12_clones_0 4 _ _ _ rfl) ?_
      refine r_aload_0 6 rfl (dd_X12_clones_0 5 _ _ _ rfl) ?_
      refine m_get 31 hg hM (by unfold z_free; decide) rfl (by decide) (tb_6 87 _ rfl) 9 rfl (dd_X12_clones_0 6 _ _ _ rfl) ?_ (fun _ _ _ => rfl)
      refine r_if_icmpge (by omega) (by omega) 12 rfl 189 rfl (dd_X12_clones_0 7 _ _ _ rfl) (fun hc1 => ?_) (fun hc1 => ?_)
      · refine r_iload_2 190 rfl (dd_X12_clones_1 42 _ _ _ rfl) ?_
        refine r_ireturn rfl rfl (dd_X12_clones_1 43 _ _ _ rfl) ?_
        rw [show (S.1 31).toNat = s by omega, ← hc] at k
        exact k
      · refine r_iconst 13 rfl (dd_X12_clones_0 8 _ _ _ rfl) ?_
        refine r_istore_4 15 rfl (by decide) rfl (dd_X12_clones_0 9 _ _ _ rfl) ?_
        refine r_iconst 16 rfl (dd_X12_clones_0 10 _ _ _ rfl) ?_
        refine r_istore_5 18 rfl (by decide) rfl (dd_X12_clones_0 11 _ _ _ rfl) ?_
        have L18 : ∀ (tt : Nat), ∀ (o : Nat) (b x : Int), 50 - o < tt → ((o : Int) ≤ S.1 31) → (b = o) → (x = znx S v s o) → (zseen S s = v ∨ o = 0) → zX g mX12_clones 0 0 Q 18 [some (.ref m), some (.int (zI v)), some (.int (zI c)), some (.int (zI (s : Int))), some (.int (zI x)), some (.int (zI b)), none] [] h 0 0 := by
          intro tt18
          induction tt18 with
          | zero => intros; exfalso; omega
          | succ tt18 ih18 =>
            intro o b x hlt18 ho hb hx hor
            subst hb hx
            have e3 := znx_range (S := S) (v := v) (s := s) o
            refine r_iload_5 20 rfl (dd_X12_clones_0 12 _ _ _ rfl) ?_
            refine r_aload_0 21 rfl (dd_X12_clones_0 13 _ _ _ rfl) ?_
            refine m_get 31 hg hM (by unfold z_free; decide) rfl (by decide) (tb_6 87 _ rfl) 24 rfl (dd_X12_clones_0 14 _ _ _ rfl) ?_ (fun _ _ _ => rfl)
            refine r_if_icmpge (by omega) (by omega) 27 rfl 100 rfl (dd_X12_clones_0 15 _ _ _ rfl) (fun hc2 => ?_) (fun hc2 => ?_)
            · refine r_iload_4 102 rfl (dd_X12_clones_0 51 _ _ _ rfl) ?_
              refine r_iconst 103 rfl (dd_X12_clones_0 52 _ _ _ rfl) ?_
              refine r_if_icmpeq (by omega) (by omega) 106 rfl 183 rfl (dd_X12_clones_0 53 _ _ _ rfl) (fun hc3 => ?_) (fun hc3 => ?_)
              · have e9 : zcl1 S v s = 0 := by unfold zcl1; first | exact if_neg (fun q => absurd q.1 (by omega)) | (rw [show (S.1 31).toNat = o by omega]; first | exact if_neg (fun q => absurd q.2.1 (by omega)) | (rw [hfar]; first | exact if_pos ⟨by omega, by omega, by omega⟩ | exact if_neg (by omega)))
                refine r_iinc_3 186 rfl (by decide) rfl (dd_X12_clones_1 40 _ _ _ rfl) ?_
                refine r_goto 4 rfl (dd_X12_clones_1 41 _ _ _ rfl) ?_
                exact r_sub _ (z_s1 (z_s1 (z_s1 (z_s1 (z_s0 (z_s0 (z_s0 z_sN))))))) (ih4 (s + 1) _ _ (by omega) (by omega) (by omega) (by unfold zclones; omega))
              · have e4 := hI.place s
                have e5 := hI.place (znx S v s o).toNat
                refine r_aload_0 107 rfl (dd_X12_clones_0 54 _ _ _ rfl) ?_
                refine m_arr 33 hg hM (by decide) (by decide) (tb_6 89 _ rfl) 110 rfl (dd_X12_clones_0 55 _ _ _ rfl) ?_ (fun _ _ _ => rfl)
                refine r_iload_4 112 rfl (dd_X12_clones_0 56 _ _ _ rfl) ?_
                refine m_iald 33 ((znx S v s o).toNat) (by omega) hg hM rfl (by omega) (z_lt (n2 := 40) rfl (by omega)) (by decide) 113 rfl (dd_X12_clones_0 57 _ _ _ rfl) ?_
                refine r_aload_0 114 rfl (dd_X12_clones_0 58 _ _ _ rfl) ?_
                refine m_arr 33 hg hM (by decide) (by decide) (tb_6 89 _ rfl) 117 rfl (dd_X12_clones_0 59 _ _ _ rfl) ?_ (fun _ _ _ => rfl)
                refine r_iload_3 118 rfl (dd_X12_clones_1 0 _ _ _ rfl) ?_
                refine m_iald 33 (s) (by omega) hg hM rfl (by omega) (z_lt (n2 := 40) rfl (by omega)) (by decide) 119 rfl (dd_X12_clones_1 1 _ _ _ rfl) ?_
                refine r_if_icmple (by omega) (by omega) 122 rfl 139 rfl (dd_X12_clones_1 2 _ _ _ rfl) (fun hc4 => ?_) (fun hc4 => ?_)
                · have hfar := zfar_neg (S := S) (a := (znx S v s o).toNat) (b := s) (by omega)
                  refine r_aload_0 140 rfl (dd_X12_clones_1 13 _ _ _ rfl) ?_
                  refine m_arr 33 hg hM (by decide) (by decide) (tb_6 89 _ rfl) 143 rfl (dd_X12_clones_1 14 _ _ _ rfl) ?_ (fun _ _ _ => rfl)
                  refine r_iload_3 144 rfl (dd_X12_clones_1 15 _ _ _ rfl) ?_
                  refine m_iald 33 (s) (by omega) hg hM rfl (by omega) (z_lt (n2 := 40) rfl (by omega)) (by decide) 145 rfl (dd_X12_clones_1 16 _ _ _ rfl) ?_
                  refine r_aload_0 146 rfl (dd_X12_clones_1 17 _ _ _ rfl) ?_
                  refine m_arr 33 hg hM (by decide) (by decide) (tb_6 89 _ rfl) 149 rfl (dd_X12_clones_1 18 _ _ _ rfl) ?_ (fun _ _ _ => rfl)
                  refine r_iload_4 151 rfl (dd_X12_clones_1 19 _ _ _ rfl) ?_
                  refine m_iald 33 ((znx S v s o).toNat) (by omega) hg hM rfl (by omega) (z_lt (n2 := 40) rfl (by omega)) (by decide) 152 rfl (dd_X12_clones_1 20 _ _ _ rfl) ?_
                  refine r_isub 153 rfl (dd_X12_clones_1 21 _ _ _ rfl) ?_
                  refine r_istore_5 155 rfl (by decide) rfl (dd_X12_clones_1 22 _ _ _ rfl) ?_
                  refine r_iload_2 156 rfl (dd_X12_clones_1 23 _ _ _ rfl) ?_
                  refine r_aload_0 157 rfl (dd_X12_clones_1 24 _ _ _ rfl) ?_
                  refine r_iload_4 159 rfl (dd_X12_clones_1 25 _ _ _ rfl) ?_
                  refine r_callV1 (lvl := 10) (mc1 := 0) (ms1 := 0) 0 0 hg rfl md_X12_minutes zc_X12 hM.kd wi_X12_minutes wv_X12_minutes (tb_7 132 _ rfl) (by decide) (by decide) rfl (Nat.le_of_ble_eq_true rfl) (by decide) (by decide) 162 rfl (dd_X12_clones_1 26 _ _ _ rfl) ?_
                  refine c_X12_minutesI (s := (znx S v s o).toNat) hg hI hM (by omega) (by omega) ?_
                  dsimp only [zCont, Option.toList, List.cons_append, List.nil_append]
                  have hm1 := zmin_range (s := (znx S v s o).toNat) hI
                  refine r_aload_0 163 rfl (dd_X12_clones_1 27 _ _ _ rfl) ?_
                  refine r_iload_3 164 rfl (dd_X12_clones_1 28 _ _ _ rfl) ?_
                  refine r_callV1 (lvl := 10) (mc1 := 0) (ms1 := 0) 0 0 hg rfl md_X12_minutes zc_X12 hM.kd wi_X12_minutes wv_X12_minutes (tb_7 132 _ rfl) (by decide) (by decide) rfl (Nat.le_of_ble_eq_true rfl) (by decide) (by decide) 167 rfl (dd_X12_clones_1 29 _ _ _ rfl) ?_
                  refine c_X12_minutesI (s := s) hg hI hM (by omega) (by omega) ?_
                  dsimp only [zCont, Option.toList, List.cons_append, List.nil_append]
                  have hm2 := zmin_range (s := s) hI
                  refine r_isub 168 rfl (dd_X12_clones_1 30 _ _ _ rfl) ?_
                  refine r_bipush (by decide) 170 rfl (dd_X12_clones_1 31 _ _ _ rfl) ?_
                  refine r_iload_5 172 rfl (dd_X12_clones_1 32 _ _ _ rfl) ?_
                  refine r_imul 173 rfl (dd_X12_clones_1 33 _ _ _ rfl) ?_
                  refine r_if_icmpge (by omega) (by omega) 176 rfl 180 rfl (dd_X12_clones_1 34 _ _ _ rfl) (fun hc5 => ?_) (fun hc5 => ?_)
                  · refine r_iconst 181 rfl (dd_X12_clones_1 37 _ _ _ rfl) ?_
                    have e9 : zcl1 S v s = 0 := by unfold zcl1; first | exact if_neg (fun q => absurd q.1 (by omega)) | (rw [show (S.1 31).toNat = o by omega]; first | exact if_neg (fun q => absurd q.2.1 (by omega)) | (rw [hfar]; first | exact if_pos ⟨by omega, by omega, by omega⟩ | exact if_neg (by omega)))
                    refine r_iadd 182 rfl (dd_X12_clones_1 38 _ _ _ rfl) ?_
                    refine r_istore_2 183 rfl (by decide) rfl (dd_X12_clones_1 39 _ _ _ rfl) ?_
                    refine r_iinc_3 186 rfl (by decide) rfl (dd_X12_clones_1 40 _ _ _ rfl) ?_
                    refine r_goto 4 rfl (dd_X12_clones_1 41 _ _ _ rfl) ?_
                    exact r_sub _ (z_s1 (z_s1 (z_s1 (z_s1 (z_s0 (z_s0 (z_s0 z_sN))))))) (ih4 (s + 1) _ _ (by omega) (by omega) (by omega) (by unfold zclones; omega))
                  · refine r_iconst 177 rfl (dd_X12_clones_1 35 _ _ _ rfl) ?_
                    refine r_goto 181 rfl (dd_X12_clones_1 36 _ _ _ rfl) ?_
                    have e9 : zcl1 S v s = 1 := by unfold zcl1; first | exact if_neg (fun q => absurd q.1 (by omega)) | (rw [show (S.1 31).toNat = o by omega]; first | exact if_neg (fun q => absurd q.2.1 (by omega)) | (rw [hfar]; first | exact if_pos ⟨by omega, by omega, by omega⟩ | exact if_neg (by omega)))
                    refine r_iadd 182 rfl (dd_X12_clones_1 38 _ _ _ rfl) ?_
                    refine r_istore_2 183 rfl (by decide) rfl (dd_X12_clones_1 39 _ _ _ rfl) ?_
                    refine r_iinc_3 186 rfl (by decide) rfl (dd_X12_clones_1 40 _ _ _ rfl) ?_
                    refine r_goto 4 rfl (dd_X12_clones_1 41 _ _ _ rfl) ?_
                    exact r_sub _ (z_s1 (z_s1 (z_s1 (z_s1 (z_s0 (z_s0 (z_s0 z_sN))))))) (ih4 (s + 1) _ _ (by omega) (by omega) (by omega) (by unfold zclones; omega))
                · have hfar := zfar_pos (S := S) (a := (znx S v s o).toNat) (b := s) (by omega)
                  refine r_aload_0 123 rfl (dd_X12_clones_1 3 _ _ _ rfl) ?_
                  refine m_arr 33 hg hM (by decide) (by decide) (tb_6 89 _ rfl) 126 rfl (dd_X12_clones_1 4 _ _ _ rfl) ?_ (fun _ _ _ => rfl)
                  refine r_iload_4 128 rfl (dd_X12_clones_1 5 _ _ _ rfl) ?_
                  refine m_iald 33 ((znx S v s o).toNat) (by omega) hg hM rfl (by omega) (z_lt (n2 := 40) rfl (by omega)) (by decide) 129 rfl (dd_X12_clones_1 6 _ _ _ rfl) ?_
                  refine r_aload_0 130 rfl (dd_X12_clones_1 7 _ _ _ rfl) ?_
                  refine m_arr 33 hg hM (by decide) (by decide) (tb_6 89 _ rfl) 133 rfl (dd_X12_clones_1 8 _ _ _ rfl) ?_ (fun _ _ _ => rfl)
                  refine r_iload_3 134 rfl (dd_X12_clones_1 9 _ _ _ rfl) ?_
                  refine m_iald 33 (s) (by omega) hg hM rfl (by omega) (z_lt (n2 := 40) rfl (by omega)) (by decide) 135 rfl (dd_X12_clones_1 10 _ _ _ rfl) ?_
                  refine r_isub 136 rfl (dd_X12_clones_1 11 _ _ _ rfl) ?_
                  refine r_goto 153 rfl (dd_X12_clones_1 12 _ _ _ rfl) ?_
                  refine r_istore_5 155 rfl (by decide) rfl (dd_X12_clones_1 22 _ _ _ rfl) ?_
                  refine r_iload_2 156 rfl (dd_X12_clones_1 23 _ _ _ rfl) ?_
                  refine r_aload_0 157 rfl (dd_X12_clones_1 24 _ _ _ rfl) ?_
                  refine r_iload_4 159 rfl (dd_X12_clones_1 25 _ _ _ rfl) ?_
                  refine r_callV1 (lvl := 10) (mc1 := 0) (ms1 := 0) 0 0 hg rfl md_X12_minutes zc_X12 hM.kd wi_X12_minutes wv_X12_minutes (tb_7 132 _ rfl) (by decide) (by decide) rfl (Nat.le_of_ble_eq_true rfl) (by decide) (by decide) 162 rfl (dd_X12_clones_1 26 _ _ _ rfl) ?_
                  refine c_X12_minutesI (s := (znx S v s o).toNat) hg hI hM (by omega) (by omega) ?_
                  dsimp only [zCont, Option.toList, List.cons_append, List.nil_append]
                  have hm3 := zmin_range (s := (znx S v s o).toNat) hI
                  refine r_aload_0 163 rfl (dd_X12_clones_1 27 _ _ _ rfl) ?_
                  refine r_iload_3 164 rfl (dd_X12_clones_1 28 _ _ _ rfl) ?_
                  refine r_callV1 (lvl := 10) (mc1 := 0) (ms1 := 0) 0 0 hg rfl md_X12_minutes zc_X12 hM.kd wi_X12_minutes wv_X12_minutes (tb_7 132 _ rfl) (by decide) (by decide) rfl (Nat.le_of_ble_eq_true rfl) (by decide) (by decide) 167 rfl (dd_X12_clones_1 29 _ _ _ rfl) ?_
                  refine c_X12_minutesI (s := s) hg hI hM (by omega) (by omega) ?_
                  dsimp only [zCont, Option.toList, List.cons_append, List.nil_append]
                  have hm4 := zmin_range (s := s) hI
                  refine r_isub 168 rfl (dd_X12_clones_1 30 _ _ _ rfl) ?_
                  refine r_bipush (by decide) 170 rfl (dd_X12_clones_1 31 _ _ _ rfl) ?_
                  refine r_iload_5 172 rfl (dd_X12_clones_1 32 _ _ _ rfl) ?_
                  refine r_imul 173 rfl (dd_X12_clones_1 33 _ _ _ rfl) ?_
                  refine r_if_icmpge (by omega) (by omega) 176 rfl 180 rfl (dd_X12_clones_1 34 _ _ _ rfl) (fun hc6 => ?_) (fun hc6 => ?_)
                  · refine r_iconst 181 rfl (dd_X12_clones_1 37 _ _ _ rfl) ?_
                    have e9 : zcl1 S v s = 0 := by unfold zcl1; first | exact if_neg (fun q => absurd q.1 (by omega)) | (rw [show (S.1 31).toNat = o by omega]; first | exact if_neg (fun q => absurd q.2.1 (by omega)) | (rw [hfar]; first | exact if_pos ⟨by omega, by omega, by omega⟩ | exact if_neg (by omega)))
                    refine r_iadd 182 rfl (dd_X12_clones_1 38 _ _ _ rfl) ?_
                    refine r_istore_2 183 rfl (by decide) rfl (dd_X12_clones_1 39 _ _ _ rfl) ?_
                    refine r_iinc_3 186 rfl (by decide) rfl (dd_X12_clones_1 40 _ _ _ rfl) ?_
                    refine r_goto 4 rfl (dd_X12_clones_1 41 _ _ _ rfl) ?_
                    exact r_sub _ (z_s1 (z_s1 (z_s1 (z_s1 (z_s0 (z_s0 (z_s0 z_sN))))))) (ih4 (s + 1) _ _ (by omega) (by omega) (by omega) (by unfold zclones; omega))
                  · refine r_iconst 177 rfl (dd_X12_clones_1 35 _ _ _ rfl) ?_
                    refine r_goto 181 rfl (dd_X12_clones_1 36 _ _ _ rfl) ?_
                    have e9 : zcl1 S v s = 1 := by unfold zcl1; first | exact if_neg (fun q => absurd q.1 (by omega)) | (rw [show (S.1 31).toNat = o by omega]; first | exact if_neg (fun q => absurd q.2.1 (by omega)) | (rw [hfar]; first | exact if_pos ⟨by omega, by omega, by omega⟩ | exact if_neg (by omega)))
                    refine r_iadd 182 rfl (dd_X12_clones_1 38 _ _ _ rfl) ?_
                    refine r_istore_2 183 rfl (by decide) rfl (dd_X12_clones_1 39 _ _ _ rfl) ?_
                    refine r_iinc_3 186 rfl (by decide) rfl (dd_X12_clones_1 40 _ _ _ rfl) ?_
                    refine r_goto 4 rfl (dd_X12_clones_1 41 _ _ _ rfl) ?_
                    exact r_sub _ (z_s1 (z_s1 (z_s1 (z_s1 (z_s0 (z_s0 (z_s0 z_sN))))))) (ih4 (s + 1) _ _ (by omega) (by omega) (by omega) (by unfold zclones; omega))
            · refine r_aload_0 28 rfl (dd_X12_clones_0 16 _ _ _ rfl) ?_
              refine r_iload_3 29 rfl (dd_X12_clones_0 17 _ _ _ rfl) ?_
              refine r_callV1 (lvl := 12) (mc1 := 0) (ms1 := 0) 0 0 hg rfl md_X12_seenBy zc_X12 hM.kd wi_X12_seenBy wv_X12_seenBy (tb_7 120 _ rfl) (by decide) (by decide) rfl (Nat.le_of_ble_eq_true rfl) (by decide) (by decide) 32 rfl (dd_X12_clones_0 18 _ _ _ rfl) ?_
              refine c_X12_seenBy (s := s) hg hI hM (by omega) (by omega) ?_
              dsimp only [zCont, Option.toList, List.cons_append, List.nil_append]
              have hz9 := zseen_range (s := s) hI
              refine r_iload_1 33 rfl (dd_X12_clones_0 19 _ _ _ rfl) ?_
              refine r_if_icmpne (by omega) (by omega) 36 rfl 100 rfl (dd_X12_clones_0 20 _ _ _ rfl) (fun hc7 => ?_) (fun hc7 => ?_)
              · refine r_iload_4 102 rfl (dd_X12_clones_0 51 _ _ _ rfl) ?_
                refine r_iconst 103 rfl (dd_X12_clones_0 52 _ _ _ rfl) ?_
                refine r_if_icmpeq (by omega) (by omega) 106 rfl 183 rfl (dd_X12_clones_0 53 _ _ _ rfl) (fun hc8 => ?_) (fun hc8 => ?_)
                · have e9 : zcl1 S v s = 0 := by unfold zcl1; first | exact if_neg (fun q => absurd q.1 (by omega)) | (rw [show (S.1 31).toNat = o by omega]; first | exact if_neg (fun q => absurd q.2.1 (by omega)) | (rw [hfar]; first | exact if_pos ⟨by omega, by omega, by omega⟩ | exact if_neg (by omega)))
                  refine r_iinc_3 186 rfl (by decide) rfl (dd_X12_clones_1 40 _ _ _ rfl) ?_
                  refine r_goto 4 rfl (dd_X12_clones_1 41 _ _ _ rfl) ?_
                  exact r_sub _ (z_s1 (z_s1 (z_s1 (z_s1 (z_s0 (z_s0 (z_s0 z_sN))))))) (ih4 (s + 1) _ _ (by omega) (by omega) (by omega) (by unfold zclones; omega))
                · have e4 := hI.place s
                  have e5 := hI.place (znx S v s o).toNat
                  refine r_aload_0 107 rfl (dd_X12_clones_0 54 _ _ _ rfl) ?_
                  refine m_arr 33 hg hM (by decide) (by decide) (tb_6 89 _ rfl) 110 rfl (dd_X12_clones_0 55 _ _ _ rfl) ?_ (fun _ _ _ => rfl)
                  refine r_iload_4 112 rfl (dd_X12_clones_0 56 _ _ _ rfl) ?_
                  refine m_iald 33 ((znx S v s o).toNat) (by omega) hg hM rfl (by omega) (z_lt (n2 := 40) rfl (by omega)) (by decide) 113 rfl (dd_X12_clones_0 57 _ _ _ rfl) ?_
                  refine r_aload_0 114 rfl (dd_X12_clones_0 58 _ _ _ rfl) ?_
                  refine m_arr 33 hg hM (by decide) (by decide) (tb_6 89 _ rfl) 117 rfl (dd_X12_clones_0 59 _ _ _ rfl) ?_ (fun _ _ _ => rfl)
                  refine r_iload_3 118 rfl (dd_X12_clones_1 0 _ _ _ rfl) ?_
                  refine m_iald 33 (s) (by omega) hg hM rfl (by omega) (z_lt (n2 := 40) rfl (by omega)) (by decide) 119 rfl (dd_X12_clones_1 1 _ _ _ rfl) ?_
                  refine r_if_icmple (by omega) (by omega) 122 rfl 139 rfl (dd_X12_clones_1 2 _ _ _ rfl) (fun hc9 => ?_) (fun hc9 => ?_)
                  · have hfar := zfar_neg (S := S) (a := (znx S v s o).toNat) (b := s) (by omega)
                    refine r_aload_0 140 rfl (dd_X12_clones_1 13 _ _ _ rfl) ?_
                    refine m_arr 33 hg hM (by decide) (by decide) (tb_6 89 _ rfl) 143 rfl (dd_X12_clones_1 14 _ _ _ rfl) ?_ (fun _ _ _ => rfl)
                    refine r_iload_3 144 rfl (dd_X12_clones_1 15 _ _ _ rfl) ?_
                    refine m_iald 33 (s) (by omega) hg hM rfl (by omega) (z_lt (n2 := 40) rfl (by omega)) (by decide) 145 rfl (dd_X12_clones_1 16 _ _ _ rfl) ?_
                    refine r_aload_0 146 rfl (dd_X12_clones_1 17 _ _ _ rfl) ?_
                    refine m_arr 33 hg hM (by decide) (by decide) (tb_6 89 _ rfl) 149 rfl (dd_X12_clones_1 18 _ _ _ rfl) ?_ (fun _ _ _ => rfl)
                    refine r_iload_4 151 rfl (dd_X12_clones_1 19 _ _ _ rfl) ?_
                    refine m_iald 33 ((znx S v s o).toNat) (by omega) hg hM rfl (by omega) (z_lt (n2 := 40) rfl (by omega)) (by decide) 152 rfl (dd_X12_clones_1 20 _ _ _ rfl) ?_
                    refine r_isub 153 rfl (dd_X12_clones_1 21 _ _ _ rfl) ?_
                    refine r_istore_5 155 rfl (by decide) rfl (dd_X12_clones_1 22 _ _ _ rfl) ?_
                    refine r_iload_2 156 rfl (dd_X12_clones_1 23 _ _ _ rfl) ?_
                    refine r_aload_0 157 rfl (dd_X12_clones_1 24 _ _ _ rfl) ?_
                    refine r_iload_4 159 rfl (dd_X12_clones_1 25 _ _ _ rfl) ?_
                    refine r_callV1 (lvl := 10) (mc1 := 0) (ms1 := 0) 0 0 hg rfl md_X12_minutes zc_X12 hM.kd wi_X12_minutes wv_X12_minutes (tb_7 132 _ rfl) (by decide) (by decide) rfl (Nat.le_of_ble_eq_true rfl) (by decide) (by decide) 162 rfl (dd_X12_clones_1 26 _ _ _ rfl) ?_
                    refine c_X12_minutesI (s := (znx S v s o).toNat) hg hI hM (by omega) (by omega) ?_
                    dsimp only [zCont, Option.toList, List.cons_append, List.nil_append]
                    have hm5 := zmin_range (s := (znx S v s o).toNat) hI
                    refine r_aload_0 163 rfl (dd_X12_clones_1 27 _ _ _ rfl) ?_
                    refine r_iload_3 164 rfl (dd_X12_clones_1 28 _ _ _ rfl) ?_
                    refine r_callV1 (lvl := 10) (mc1 := 0) (ms1 := 0) 0 0 hg rfl md_X12_minutes zc_X12 hM.kd wi_X12_minutes wv_X12_minutes (tb_7 132 _ rfl) (by decide) (by decide) rfl (Nat.le_of_ble_eq_true rfl) (by decide) (by decide) 167 rfl (dd_X12_clones_1 29 _ _ _ rfl) ?_
                    refine c_X12_minutesI (s := s) hg hI hM (by omega) (by omega) ?_
                    dsimp only [zCont, Option.toList, List.cons_append, List.nil_append]
                    have hm6 := zmin_range (s := s) hI
                    refine r_isub 168 rfl (dd_X12_clones_1 30 _ _ _ rfl) ?_
                    refine r_bipush (by decide) 170 rfl (dd_X12_clones_1 31 _ _ _ rfl) ?_
                    refine r_iload_5 172 rfl (dd_X12_clones_1 32 _ _ _ rfl) ?_
                    refine r_imul 173 rfl (dd_X12_clones_1 33 _ _ _ rfl) ?_
                    refine r_if_icmpge (by omega) (by omega) 176 rfl 180 rfl (dd_X12_clones_1 34 _ _ _ rfl) (fun hc10 => ?_) (fun hc10 => ?_)
                    · refine r_iconst 181 rfl (dd_X12_clones_1 37 _ _ _ rfl) ?_
                      have e9 : zcl1 S v s = 0 := by unfold zcl1; first | exact if_neg (fun q => absurd q.1 (by omega)) | (rw [show (S.1 31).toNat = o by omega]; first | exact if_neg (fun q => absurd q.2.1 (by omega)) | (rw [hfar]; first | exact if_pos ⟨by omega, by omega, by omega⟩ | exact if_neg (by omega)))
                      refine r_iadd 182 rfl (dd_X12_clones_1 38 _ _ _ rfl) ?_
                      refine r_istore_2 183 rfl (by decide) rfl (dd_X12_clones_1 39 _ _ _ rfl) ?_
                      refine r_iinc_3 186 rfl (by decide) rfl (dd_X12_clones_1 40 _ _ _ rfl) ?_
                      refine r_goto 4 rfl (dd_X12_clones_1 41 _ _ _ rfl) ?_
                      exact r_sub _ (z_s1 (z_s1 (z_s1 (z_s1 (z_s0 (z_s0 (z_s0 z_sN))))))) (ih4 (s + 1) _ _ (by omega) (by omega) (by omega) (by unfold zclones; omega))
                    · refine r_iconst 177 rfl (dd_X12_clones_1 35 _ _ _ rfl) ?_
                      refine r_goto 181 rfl (dd_X12_clones_1 36 _ _ _ rfl) ?_
                      have e9 : zcl1 S v s = 1 := by unfold zcl1; first | exact if_neg (fun q => absurd q.1 (by omega)) | (rw [show (S.1 31).toNat = o by omega]; first | exact if_neg (fun q => absurd q.2.1 (by omega)) | (rw [hfar]; first | exact if_pos ⟨by omega, by omega, by omega⟩ | exact if_neg (by omega)))
                      refine r_iadd 182 rfl (dd_X12_clones_1 38 _ _ _ rfl) ?_
                      refine r_istore_2 183 rfl (by decide) rfl (dd_X12_clones_1 39 _ _ _ rfl) ?_
                      refine r_iinc_3 186 rfl (by decide) rfl (dd_X12_clones_1 40 _ _ _ rfl) ?_
                      refine r_goto 4 rfl (dd_X12_clones_1 41 _ _ _ rfl) ?_
                      exact r_sub _ (z_s1 (z_s1 (z_s1 (z_s1 (z_s0 (z_s0 (z_s0 z_sN))))))) (ih4 (s + 1) _ _ (by omega) (by omega) (by omega) (by unfold zclones; omega))
                  · have hfar := zfar_pos (S := S) (a := (znx S v s o).toNat) (b := s) (by omega)
                    refine r_aload_0 123 rfl (dd_X12_clones_1 3 _ _ _ rfl) ?_
                    refine m_arr 33 hg hM (by decide) (by decide) (tb_6 89 _ rfl) 126 rfl (dd_X12_clones_1 4 _ _ _ rfl) ?_ (fun _ _ _ => rfl)
                    refine r_iload_4 128 rfl (dd_X12_clones_1 5 _ _ _ rfl) ?_
                    refine m_iald 33 ((znx S v s o).toNat) (by omega) hg hM rfl (by omega) (z_lt (n2 := 40) rfl (by omega)) (by decide) 129 rfl (dd_X12_clones_1 6 _ _ _ rfl) ?_
                    refine r_aload_0 130 rfl (dd_X12_clones_1 7 _ _ _ rfl) ?_
                    refine m_arr 33 hg hM (by decide) (by decide) (tb_6 89 _ rfl) 133 rfl (dd_X12_clones_1 8 _ _ _ rfl) ?_ (fun _ _ _ => rfl)
                    refine r_iload_3 134 rfl (dd_X12_clones_1 9 _ _ _ rfl) ?_
                    refine m_iald 33 (s) (by omega) hg hM rfl (by omega) (z_lt (n2 := 40) rfl (by omega)) (by decide) 135 rfl (dd_X12_clones_1 10 _ _ _ rfl) ?_
                    refine r_isub 136 rfl (dd_X12_clones_1 11 _ _ _ rfl) ?_
                    refine r_goto 153 rfl (dd_X12_clones_1 12 _ _ _ rfl) ?_
                    refine r_istore_5 155 rfl (by decide) rfl (dd_X12_clones_1 22 _ _ _ rfl) ?_
                    refine r_iload_2 156 rfl (dd_X12_clones_1 23 _ _ _ rfl) ?_
                    refine r_aload_0 157 rfl (dd_X12_clones_1 24 _ _ _ rfl) ?_
                    refine r_iload_4 159 rfl (dd_X12_clones_1 25 _ _ _ rfl) ?_
                    refine r_callV1 (lvl := 10) (mc1 := 0) (ms1 := 0) 0 0 hg rfl md_X12_minutes zc_X12 hM.kd wi_X12_minutes wv_X12_minutes (tb_7 132 _ rfl) (by decide) (by decide) rfl (Nat.le_of_ble_eq_true rfl) (by decide) (by decide) 162 rfl (dd_X12_clones_1 26 _ _ _ rfl) ?_
                    refine c_X12_minutesI (s := (znx S v s o).toNat) hg hI hM (by omega) (by omega) ?_
                    dsimp only [zCont, Option.toList, List.cons_append, List.nil_append]
                    have hm7 := zmin_range (s := (znx S v s o).toNat) hI
                    refine r_aload_0 163 rfl (dd_X12_clones_1 27 _ _ _ rfl) ?_
                    refine r_iload_3 164 rfl (dd_X12_clones_1 28 _ _ _ rfl) ?_
                    refine r_callV1 (lvl := 10) (mc1 := 0) (ms1 := 0) 0 0 hg rfl md_X12_minutes zc_X12 hM.kd wi_X12_minutes wv_X12_minutes (tb_7 132 _ rfl) (by decide) (by decide) rfl (Nat.le_of_ble_eq_true rfl) (by decide) (by decide) 167 rfl (dd_X12_clones_1 29 _ _ _ rfl) ?_
                    refine c_X12_minutesI (s := s) hg hI hM (by omega) (by omega) ?_
                    dsimp only [zCont, Option.toList, List.cons_append, List.nil_append]
                    have hm8 := zmin_range (s := s) hI
                    refine r_isub 168 rfl (dd_X12_clones_1 30 _ _ _ rfl) ?_
                    refine r_bipush (by decide) 170 rfl (dd_X12_clones_1 31 _ _ _ rfl) ?_
                    refine r_iload_5 172 rfl (dd_X12_clones_1 32 _ _ _ rfl) ?_
                    refine r_imul 173 rfl (dd_X12_clones_1 33 _ _ _ rfl) ?_
                    refine r_if_icmpge (by omega) (by omega) 176 rfl 180 rfl (dd_X12_clones_1 34 _ _ _ rfl) (fun hc11 => ?_) (fun hc11 => ?_)
                    · refine r_iconst 181 rfl (dd_X12_clones_1 37 _ _ _ rfl) ?_
                      have e9 : zcl1 S v s = 0 := by unfold zcl1; first | exact if_neg (fun q => absurd q.1 (by omega)) | (rw [show (S.1 31).toNat = o by omega]; first | exact if_neg (fun q => absurd q.2.1 (by omega)) | (rw [hfar]; first | exact if_pos ⟨by omega, by omega, by omega⟩ | exact if_neg (by omega)))
                      refine r_iadd 182 rfl (dd_X12_clones_1 38 _ _ _ rfl) ?_
                      refine r_istore_2 183 rfl (by decide) rfl (dd_X12_clones_1 39 _ _ _ rfl) ?_
                      refine r_iinc_3 186 rfl (by decide) rfl (dd_X12_clones_1 40 _ _ _ rfl) ?_
                      refine r_goto 4 rfl (dd_X12_clones_1 41 _ _ _ rfl) ?_
                      exact r_sub _ (z_s1 (z_s1 (z_s1 (z_s1 (z_s0 (z_s0 (z_s0 z_sN))))))) (ih4 (s + 1) _ _ (by omega) (by omega) (by omega) (by unfold zclones; omega))
                    · refine r_iconst 177 rfl (dd_X12_clones_1 35 _ _ _ rfl) ?_
                      refine r_goto 181 rfl (dd_X12_clones_1 36 _ _ _ rfl) ?_
                      have e9 : zcl1 S v s = 1 := by unfold zcl1; first | exact if_neg (fun q => absurd q.1 (by omega)) | (rw [show (S.1 31).toNat = o by omega]; first | exact if_neg (fun q => absurd q.2.1 (by omega)) | (rw [hfar]; first | exact if_pos ⟨by omega, by omega, by omega⟩ | exact if_neg (by omega)))
                      refine r_iadd 182 rfl (dd_X12_clones_1 38 _ _ _ rfl) ?_
                      refine r_istore_2 183 rfl (by decide) rfl (dd_X12_clones_1 39 _ _ _ rfl) ?_
                      refine r_iinc_3 186 rfl (by decide) rfl (dd_X12_clones_1 40 _ _ _ rfl) ?_
                      refine r_goto 4 rfl (dd_X12_clones_1 41 _ _ _ rfl) ?_
                      exact r_sub _ (z_s1 (z_s1 (z_s1 (z_s1 (z_s0 (z_s0 (z_s0 z_sN))))))) (ih4 (s + 1) _ _ (by omega) (by omega) (by omega) (by unfold zclones; omega))
              · refine r_aload_0 37 rfl (dd_X12_clones_0 21 _ _ _ rfl) ?_
                refine r_iload_5 39 rfl (dd_X12_clones_0 22 _ _ _ rfl) ?_
                refine r_callV1 (lvl := 12) (mc1 := 0) (ms1 := 0) 0 0 hg rfl md_X12_seenBy zc_X12 hM.kd wi_X12_seenBy wv_X12_seenBy (tb_7 120 _ rfl) (by decide) (by decide) rfl (Nat.le_of_ble_eq_true rfl) (by decide) (by decide) 42 rfl (dd_X12_clones_0 23 _ _ _ rfl) ?_
                refine c_X12_seenBy (s := o) hg hI hM (by omega) (by omega) ?_
                dsimp only [zCont, Option.toList, List.cons_append, List.nil_append]
                have hz9 := zseen_range (s := o) hI
                refine r_iload_1 43 rfl (dd_X12_clones_0 24 _ _ _ rfl) ?_
                refine r_if_icmpne (by omega) (by omega) 46 rfl 60 rfl (dd_X12_clones_0 25 _ _ _ rfl) (fun hc12 => ?_) (fun hc12 => ?_)
                · refine r_iconst 61 rfl (dd_X12_clones_0 33 _ _ _ rfl) ?_
                  refine r_istore_6 63 rfl (by decide) rfl (dd_X12_clones_0 34 _ _ _ rfl) ?_
                  refine r_iload_6 65 rfl (dd_X12_clones_0 35 _ _ _ rfl) ?_
                  refine r_ifeq (by omega) 68 rfl 90 rfl (dd_X12_clones_0 36 _ _ _ rfl) (fun _ => ?_) (fun q => absurd q (by decide))
                  refine r_iload_4 92 rfl (dd_X12_clones_0 47 _ _ _ rfl) ?_
                  refine r_istore_4 94 rfl (by decide) rfl (dd_X12_clones_0 48 _ _ _ rfl) ?_
                  refine r_iinc_5 97 rfl (by decide) rfl (dd_X12_clones_0 49 _ _ _ rfl) ?_
                  refine r_goto 18 rfl (dd_X12_clones_0 50 _ _ _ rfl) ?_
                  exact r_sub _ (z_s1 (z_s1 (z_s1 (z_s1 (z_s1 (z_s1 (z_s0 z_sN))))))) (ih18 (o + 1) _ _ (by omega) (by omega) (by omega) (by first | (rw [znx_yes ⟨⟨by omega, hbe1⟩, by first | exact Or.inl (by omega) | exact Or.inr hbe⟩]) | (rw [znx_no (by first | (intro q; exact absurd q.1.1 (by omega)) | (intro q; exact hbe q.1.2) | (intro q; exact q.2.elim (by omega) hbe))])) (by omega))
                · refine r_aload_0 47 rfl (dd_X12_clones_0 26 _ _ _ rfl) ?_
                  refine r_iload_5 49 rfl (dd_X12_clones_0 27 _ _ _ rfl) ?_
                  refine r_iload_3 50 rfl (dd_X12_clones_0 28 _ _ _ rfl) ?_
                  refine r_callV2 (lvl := 11) (mc1 := 0) (ms1 := 0) 0 0 hg rfl md_X12_isBehind zc_X12 hM.kd wi_X12_isBehind wv_X12_isBehind (tb_7 128 _ rfl) (by decide) (by decide) rfl (Nat.le_of_ble_eq_true rfl) (by decide) (by decide) 53 rfl (dd_X12_clones_0 29 _ _ _ rfl) ?_
                  refine c_X12_isBehind (s := o) (o := s) hg hI hM (by omega) (by omega) (by omega) (by omega) (fun hb13 => ?_) (fun hb13 => ?_)
                  · have hbe := hb13
                    dsimp only [zCont, Option.toList, List.cons_append, List.nil_append]
                    refine r_ifeq (by omega) 56 rfl 60 rfl (dd_X12_clones_0 30 _ _ _ rfl) (fun q => absurd q (by decide)) (fun _ => ?_)
                    refine r_iconst 57 rfl (dd_X12_clones_0 31 _ _ _ rfl) ?_
                    refine r_goto 61 rfl (dd_X12_clones_0 32 _ _ _ rfl) ?_
                    refine r_istore_6 63 rfl (by decide) rfl (dd_X12_clones_0 34 _ _ _ rfl) ?_
                    refine r_iload_6 65 rfl (dd_X12_clones_0 35 _ _ _ rfl) ?_
                    have hbe1 := hbe
                    refine r_ifeq (by omega) 68 rfl 90 rfl (dd_X12_clones_0 36 _ _ _ rfl) (fun q => absurd q (by decide)) (fun _ => ?_)
                    refine r_iload_4 70 rfl (dd_X12_clones_0 37 _ _ _ rfl) ?_
                    refine r_iconst 71 rfl (dd_X12_clones_0 38 _ _ _ rfl) ?_
                    refine r_if_icmpeq (by omega) (by omega) 74 rfl 85 rfl (dd_X12_clones_0 39 _ _ _ rfl) (fun hc14 => ?_) (fun hc14 => ?_)
                    · refine r_iload_5 87 rfl (dd_X12_clones_0 45 _ _ _ rfl) ?_
                      refine r_goto 92 rfl (dd_X12_clones_0 46 _ _ _ rfl) ?_
                      refine r_istore_4 94 rfl (by decide) rfl (dd_X12_clones_0 48 _ _ _ rfl) ?_
                      refine r_iinc_5 97 rfl (by decide) rfl (dd_X12_clones_0 49 _ _ _ rfl) ?_
                      refine r_goto 18 rfl (dd_X12_clones_0 50 _ _ _ rfl) ?_
                      exact r_sub _ (z_s1 (z_s1 (z_s1 (z_s1 (z_s1 (z_s1 (z_s0 z_sN))))))) (ih18 (o + 1) _ _ (by omega) (by omega) (by omega) (by first | (rw [znx_yes ⟨⟨by omega, hbe1⟩, by first | exact Or.inl (by omega) | exact Or.inr hbe⟩]) | (rw [znx_no (by first | (intro q; exact absurd q.1.1 (by omega)) | (intro q; exact hbe q.1.2) | (intro q; exact q.2.elim (by omega) hbe))])) (by omega))
                    · refine r_aload_0 75 rfl (dd_X12_clones_0 40 _ _ _ rfl) ?_
                      refine r_iload_4 77 rfl (dd_X12_clones_0 41 _ _ _ rfl) ?_
                      refine r_iload_5 79 rfl (dd_X12_clones_0 42 _ _ _ rfl) ?_
                      refine r_callV2 (lvl := 11) (mc1 := 0) (ms1 := 0) 0 0 hg rfl md_X12_isBehind zc_X12 hM.kd wi_X12_isBehind wv_X12_isBehind (tb_7 128 _ rfl) (by decide) (by decide) rfl (Nat.le_of_ble_eq_true rfl) (by decide) (by decide) 82 rfl (dd_X12_clones_0 43 _ _ _ rfl) ?_
                      refine c_X12_isBehind (s := (znx S v s o).toNat) (o := o) hg hI hM (by omega) (by omega) (by omega) (by omega) (fun hb15 => ?_) (fun hb15 => ?_)
                      · have hbe := hb15
                        dsimp only [zCont, Option.toList, List.cons_append, List.nil_append]
                        refine r_ifeq (by omega) 85 rfl 90 rfl (dd_X12_clones_0 44 _ _ _ rfl) (fun q => absurd q (by decide)) (fun _ => ?_)
                        refine r_iload_5 87 rfl (dd_X12_clones_0 45 _ _ _ rfl) ?_
                        refine r_goto 92 rfl (dd_X12_clones_0 46 _ _ _ rfl) ?_
                        refine r_istore_4 94 rfl (by decide) rfl (dd_X12_clones_0 48 _ _ _ rfl) ?_
                        refine r_iinc_5 97 rfl (by decide) rfl (dd_X12_clones_0 49 _ _ _ rfl) ?_
                        refine r_goto 18 rfl (dd_X12_clones_0 50 _ _ _ rfl) ?_
                        exact r_sub _ (z_s1 (z_s1 (z_s1 (z_s1 (z_s1 (z_s1 (z_s0 z_sN))))))) (ih18 (o + 1) _ _ (by omega) (by omega) (by omega) (by first | (rw [znx_yes ⟨⟨by omega, hbe1⟩, by first | exact Or.inl (by omega) | exact Or.inr hbe⟩]) | (rw [znx_no (by first | (intro q; exact absurd q.1.1 (by omega)) | (intro q; exact hbe q.1.2) | (intro q; exact q.2.elim (by omega) hbe))])) (by omega))
                      · have hbe := hb15
                        dsimp only [zCont, Option.toList, List.cons_append, List.nil_append]
                        refine r_ifeq (by omega) 85 rfl 90 rfl (dd_X12_clones_0 44 _ _ _ rfl) (fun _ => ?_) (fun q => absurd q (by decide))
                        refine r_iload_4 92 rfl (dd_X12_clones_0 47 _ _ _ rfl) ?_
                        refine r_istore_4 94 rfl (by decide) rfl (dd_X12_clones_0 48 _ _ _ rfl) ?_
                        refine r_iinc_5 97 rfl (by decide) rfl (dd_X12_clones_0 49 _ _ _ rfl) ?_
                        refine r_goto 18 rfl (dd_X12_clones_0 50 _ _ _ rfl) ?_
                        exact r_sub _ (z_s1 (z_s1 (z_s1 (z_s1 (z_s1 (z_s1 (z_s0 z_sN))))))) (ih18 (o + 1) _ _ (by omega) (by omega) (by omega) (by first | (rw [znx_yes ⟨⟨by omega, hbe1⟩, by first | exact Or.inl (by omega) | exact Or.inr hbe⟩]) | (rw [znx_no (by first | (intro q; exact absurd q.1.1 (by omega)) | (intro q; exact hbe q.1.2) | (intro q; exact q.2.elim (by omega) hbe))])) (by omega))
                  · have hbe := hb13
                    dsimp only [zCont, Option.toList, List.cons_append, List.nil_append]
                    refine r_ifeq (by omega) 56 rfl 60 rfl (dd_X12_clones_0 30 _ _ _ rfl) (fun _ => ?_) (fun q => absurd q (by decide))
                    refine r_iconst 61 rfl (dd_X12_clones_0 33 _ _ _ rfl) ?_
                    refine r_istore_6 63 rfl (by decide) rfl (dd_X12_clones_0 34 _ _ _ rfl) ?_
                    refine r_iload_6 65 rfl (dd_X12_clones_0 35 _ _ _ rfl) ?_
                    refine r_ifeq (by omega) 68 rfl 90 rfl (dd_X12_clones_0 36 _ _ _ rfl) (fun _ => ?_) (fun q => absurd q (by decide))
                    refine r_iload_4 92 rfl (dd_X12_clones_0 47 _ _ _ rfl) ?_
                    refine r_istore_4 94 rfl (by decide) rfl (dd_X12_clones_0 48 _ _ _ rfl) ?_
                    refine r_iinc_5 97 rfl (by decide) rfl (dd_X12_clones_0 49 _ _ _ rfl) ?_
                    refine r_goto 18 rfl (dd_X12_clones_0 50 _ _ _ rfl) ?_
                    exact r_sub _ (z_s1 (z_s1 (z_s1 (z_s1 (z_s1 (z_s1 (z_s0 z_sN))))))) (ih18 (o + 1) _ _ (by omega) (by omega) (by omega) (by first | (rw [znx_yes ⟨⟨by omega, hbe1⟩, by first | exact Or.inl (by omega) | exact Or.inr hbe⟩]) | (rw [znx_no (by first | (intro q; exact absurd q.1.1 (by omega)) | (intro q; exact hbe q.1.2) | (intro q; exact q.2.elim (by omega) hbe))])) (by omega))
        exact r_sub _ (z_s1 (z_s1 (z_s1 (z_s1 (z_s1 (z_s1 (z_s0 z_sN))))))) (L18 1000000 0 _ _ (by omega) (by omega) (by omega) rfl (by omega))
  exact r_sub _ (z_s1 (z_s1 (z_s1 (z_s1 (z_s0 (z_s0 (z_s0 z_sN))))))) (L4 1000000 0 _ _ (by omega) (by omega) (by omega) rfl)

abbrev mX12_gap : zM := (RX12, cX12_gap, 5, (Option.some Jvm.ClassFile.FieldType.int), [], "gap", 12)
set_option maxRecDepth 20000 in
theorem c_X12_gap {g : zGT} {Q : zO → zH → Prop} {h : zH} (hg : zG g) {h0 : zH} {m : Nat} {A : Nat → Nat} {S : zS} {n : Nat} {t : Int} (hI : MInv n S) (hM : MI h0 m A S t h) {a9 : Int} {v : Nat} (ha9 : a9 = (v : Int)) (hv : v < 12) (k : ∀ h1, MI h0 m A S t h1 → Q (.inl (some (.int (zI (zgap S v (S.1 1 + 1).toNat))))) h1) : zC g (.code yX12_gap cX12_gap 5 (Option.some Jvm.ClassFile.FieldType.int)) yX12_gap 12 0 0 [.ref m, .int (zI a9)] h Q := by
  refine zC_of (M := mX12_gap) (lv := [some (.ref m), some (.int (zI a9)), none, none, none]) (by decide) rfl rfl (Nat.le_of_ble_eq_true rfl) rfl rfl ?_
  subst ha9
  have e1 := hI.today
  have e6 := hI.events v
  refine r_iconst 1 rfl (dd_X12_gap_0 0 _ _ _ rfl) ?_
  refine r_istore_2 2 rfl (by decide) rfl (dd_X12_gap_0 1 _ _ _ rfl) ?_
  refine r_bipush (by decide) 4 rfl (dd_X12_gap_0 2 _ _ _ rfl) ?_
  refine r_iload_1 5 rfl (dd_X12_gap_0 3 _ _ _ rfl) ?_
  refine r_imul 6 rfl (dd_X12_gap_0 4 _ _ _ rfl) ?_
  refine r_istore_3 7 rfl (by decide) rfl (dd_X12_gap_0 5 _ _ _ rfl) ?_
  refine r_aload_0 8 rfl (dd_X12_gap_0 6 _ _ _ rfl) ?_
  refine r_iconst 9 rfl (dd_X12_gap_0 7 _ _ _ rfl) ?_
  refine m_putx 42 hg hM (by decide) (by decide) rfl (fun _ _ _ => rfl) rfl rfl (tb_6 98 _ rfl) 12 rfl (dd_X12_gap_0 8 _ _ _ rfl) (fun h1 hM hx42 hk => ?_)
  try replace hx43 := (hk 43 (by decide)).trans hx43
  refine r_aload_0 13 rfl (dd_X12_gap_0 9 _ _ _ rfl) ?_
  refine r_iconst 14 rfl (dd_X12_gap_0 10 _ _ _ rfl) ?_
  refine m_putx 43 hg hM (by decide) (by decide) rfl (fun _ _ _ => rfl) rfl rfl (tb_6 99 _ rfl) 17 rfl (dd_X12_gap_0 11 _ _ _ rfl) (fun h2 hM hx43 hk => ?_)
  try replace hx42 := (hk 42 (by decide)).trans hx42
  refine r_iconst 18 rfl (dd_X12_gap_0 12 _ _ _ rfl) ?_
  refine r_istore_4 20 rfl (by decide) rfl (dd_X12_gap_0 13 _ _ _ rfl) ?_
  have L20 : ∀ (tt : Nat), ∀ (d j : Nat) (a b c : Int) (h : zH), 30000 - d < tt → ((d : Int) ≤ S.1 1 + 1) → (b = d) → (c = zgap S v d) → ((j : Int) ≤ S.2 8 v) → (a = 30 * v + j) → (∀ i, i < j → S.2 11 (30 * v + i) ≤ d) → (MI h0 m A S t h) → (fi_ h m 42 = (zst S v j).1) → (fi_ h m 43 = (zst S v j).2) → zX g mX12_gap 0 0 Q 20 [some (.ref m), some (.int (zI v)), some (.int (zI c)), some (.int (zI a)), some (.int (zI b))] [] h 0 0 := by
    intro tt20
    induction tt20 with
    | zero => intros; exfalso; omega
    | succ tt20 ih20 =>
      intro d j a b c h hlt20 hd hb hc hj ha hall hM hx42 hx43
      subst hb
      have e6 := hI.events v
      have e7 := zgap_range (S := S) (v := v) d
      refine r_iload_4 22 rfl (dd_X12_gap_0 14 _ _ _ rfl) ?_
      refine r_aload_0 23 rfl (dd_X12_gap_0 15 _ _ _ rfl) ?_
      refine m_get 1 hg hM (by unfold z_free; decide) rfl (by decide) (tb_6 57 _ rfl) 26 rfl (dd_X12_gap_0 16 _ _ _ rfl) ?_ (fun _ _ _ => rfl)
      refine r_if_icmpgt (by omega) (by omega) 29 rfl 103 rfl (dd_X12_gap_0 17 _ _ _ rfl) (fun hc3 => ?_) (fun hc3 => ?_)
      · refine r_iload_2 104 rfl (dd_X12_gap_0 59 _ _ _ rfl) ?_
        refine r_ireturn rfl rfl (dd_X12_gap_1 0 _ _ _ rfl) ?_
        rw [show (S.1 1 + 1).toNat = d by omega, ← hc] at k
        exact k _ hM
      · have L29 : ∀ (tt : Nat), ∀ (j : Nat) (a : Int) (h : zH), 31 - j < tt → ((j : Int) ≤ S.2 8 v) → (a = 30 * v + j) → (∀ i, i < j → S.2 11 (30 * v + i) ≤ d) → (MI h0 m A S t h) → (fi_ h m 42 = (zst S v j).1) → (fi_ h m 43 = (zst S v j).2) → zX g mX12_gap 0 0 Q 29 [some (.ref m), some (.int (zI v)), some (.int (zI c)), some (.int (zI a)), some (.int (zI (d : Int)))] [] h 0 0 := by
          intro tt29
          induction tt29 with
          | zero => intros; exfalso; omega
          | succ tt29 ih29 =>
            intro j a h hlt29 hj ha hall hM hx42 hx43
            have e4 := hI.day (30 * v + j)
            have e5 := hI.kind (30 * v + j)
            refine r_iload_3 30 rfl (dd_X12_gap_0 18 _ _ _ rfl) ?_
            refine r_bipush (by decide) 32 rfl (dd_X12_gap_0 19 _ _ _ rfl) ?_
            refine r_iload_1 33 rfl (dd_X12_gap_0 20 _ _ _ rfl) ?_
            refine r_imul 34 rfl (dd_X12_gap_0 21 _ _ _ rfl) ?_
            refine r_aload_0 35 rfl (dd_X12_gap_0 22 _ _ _ rfl) ?_
            refine m_arr 8 hg hM (by decide) (by decide) (tb_6 64 _ rfl) 38 rfl (dd_X12_gap_0 23 _ _ _ rfl) ?_ (fun _ _ _ => rfl)
            refine r_iload_1 39 rfl (dd_X12_gap_0 24 _ _ _ rfl) ?_
            refine m_iald 8 (v) (by omega) hg hM rfl (by omega) (z_lt (n2 := 12) rfl (by omega)) (by decide) 40 rfl (dd_X12_gap_0 25 _ _ _ rfl) ?_
            refine r_iadd 41 rfl (dd_X12_gap_0 26 _ _ _ rfl) ?_
            refine r_if_icmpge (by omega) (by omega) 44 rfl 71 rfl (dd_X12_gap_0 27 _ _ _ rfl) (fun hc4 => ?_) (fun hc4 => ?_)
            · have hz : zev S v d = j := zev_eq (by omega) hall (by omega)
              have e8 := (zst_range S v j).1
              refine r_iload_2 72 rfl (dd_X12_gap_0 42 _ _ _ rfl) ?_
              refine r_aload_0 73 rfl (dd_X12_gap_0 43 _ _ _ rfl) ?_
              refine m_getx 42 hg hM hx42 (by decide) (tb_6 98 _ rfl) 76 rfl (dd_X12_gap_0 44 _ _ _ rfl) ?_ (fun _ _ _ => rfl)
              refine r_iconst 77 rfl (dd_X12_gap_0 45 _ _ _ rfl) ?_
              refine r_if_icmpne (by omega) (by omega) 80 rfl 94 rfl (dd_X12_gap_0 46 _ _ _ rfl) (fun hc5 => ?_) (fun hc5 => ?_)
              · refine r_iconst 95 rfl (dd_X12_gap_0 54 _ _ _ rfl) ?_
                refine r_iadd 96 rfl (dd_X12_gap_0 55 _ _ _ rfl) ?_
                refine r_istore_2 97 rfl (by decide) rfl (dd_X12_gap_0 56 _ _ _ rfl) ?_
                refine r_iinc_4 100 rfl (by decide) rfl (dd_X12_gap_0 57 _ _ _ rfl) ?_
                refine r_goto 20 rfl (dd_X12_gap_0 58 _ _ _ rfl) ?_
                exact r_sub _ (z_s1 (z_s1 (z_s1 (z_s1 (z_s1 z_sN))))) (ih20 (d + 1) j _ _ _ _ (by omega) (by omega) (by omega) (by unfold zgap zstate; rw [hz]; first | (rw [if_pos ⟨by omega, by assumption⟩]; omega) | (rw [if_neg (fun q => absurd q.1 (by omega))]; omega) | (rw [if_neg (fun q => by rw [q.2] at hins; cases hins)]; omega)) (by omega) (by omega) (fun i hi => by have := hall i hi; omega) hM hx42 hx43)
              · refine r_aload_0 81 rfl (dd_X12_gap_0 47 _ _ _ rfl) ?_
                refine r_iload_1 82 rfl (dd_X12_gap_0 48 _ _ _ rfl) ?_
                refine r_iload_4 84 rfl (dd_X12_gap_0 49 _ _ _ rfl) ?_
                refine r_callV2 (lvl := 10) (mc1 := 0) (ms1 := 0) 0 0 hg rfl md_X12_isInsured zc_X12 hM.kd wi_X12_isInsured wv_X12_isInsured (tb_7 103 _ rfl) (by decide) (by decide) rfl (Nat.le_of_ble_eq_true rfl) (by decide) (by decide) 87 rfl (dd_X12_gap_0 50 _ _ _ rfl) ?_
                refine c_X12_isInsured (v := v) hg hM (by omega) (by omega) (fun hi6 => ?_) (fun hi6 => ?_)
                · have hins := hi6
                  dsimp only [zCont, Option.toList, List.cons_append, List.nil_append]
                  refine r_ifne (by omega) 90 rfl 94 rfl (dd_X12_gap_0 51 _ _ _ rfl) (fun _ => ?_) (fun q => absurd q (by decide))
                  refine r_iconst 95 rfl (dd_X12_gap_0 54 _ _ _ rfl) ?_
                  refine r_iadd 96 rfl (dd_X12_gap_0 55 _ _ _ rfl) ?_
                  refine r_istore_2 97 rfl (by decide) rfl (dd_X12_gap_0 56 _ _ _ rfl) ?_
                  refine r_iinc_4 100 rfl (by decide) rfl (dd_X12_gap_0 57 _ _ _ rfl) ?_
                  refine r_goto 20 rfl (dd_X12_gap_0 58 _ _ _ rfl) ?_
                  exact r_sub _ (z_s1 (z_s1 (z_s1 (z_s1 (z_s1 z_sN))))) (ih20 (d + 1) j _ _ _ _ (by omega) (by omega) (by omega) (by unfold zgap zstate; rw [hz]; first | (rw [if_pos ⟨by omega, by assumption⟩]; omega) | (rw [if_neg (fun q => absurd q.1 (by omega))]; omega) | (rw [if_neg (fun q => by rw [q.2] at hins; cases hins)]; omega)) (by omega) (by omega) (fun i hi => by have := hall i hi; omega) hM hx42 hx43)
                · have hins := hi6
                  dsimp only [zCont, Option.toList, List.cons_append, List.nil_append]
                  refine r_ifne (by omega) 90 rfl 94 rfl (dd_X12_gap_0 51 _ _ _ rfl) (fun q => absurd q (by decide)) (fun _ => ?_)
                  refine r_iconst 91 rfl (dd_X12_gap_0 52 _ _ _ rfl) ?_
                  refine r_goto 95 rfl (dd_X12_gap_0 53 _ _ _ rfl) ?_
                  refine r_iadd 96 rfl (dd_X12_gap_0 55 _ _ _ rfl) ?_
                  refine r_istore_2 97 rfl (by decide) rfl (dd_X12_gap_0 56 _ _ _ rfl) ?_
                  refine r_iinc_4 100 rfl (by decide) rfl (dd_X12_gap_0 57 _ _ _ rfl) ?_
                  refine r_goto 20 rfl (dd_X12_gap_0 58 _ _ _ rfl) ?_
                  exact r_sub _ (z_s1 (z_s1 (z_s1 (z_s1 (z_s1 z_sN))))) (ih20 (d + 1) j _ _ _ _ (by omega) (by omega) (by omega) (by unfold zgap zstate; rw [hz]; first | (rw [if_pos ⟨by omega, by assumption⟩]; omega) | (rw [if_neg (fun q => absurd q.1 (by omega))]; omega) | (rw [if_neg (fun q => by rw [q.2] at hins; cases hins)]; omega)) (by omega) (by omega) (fun i hi => by have := hall i hi; omega) hM hx42 hx43)
            · refine r_aload_0 45 rfl (dd_X12_gap_0 28 _ _ _ rfl) ?_
              refine m_arr 11 hg hM (by decide) (by decide) (tb_6 67 _ rfl) 48 rfl (dd_X12_gap_0 29 _ _ _ rfl) ?_ (fun _ _ _ => rfl)
              refine r_iload_3 49 rfl (dd_X12_gap_0 30 _ _ _ rfl) ?_
              refine m_iald 11 (30 * v + j) (by omega) hg hM rfl (by omega) (z_lt (n2 := 360) rfl (by omega)) (by decide) 50 rfl (dd_X12_gap_0 31 _ _ _ rfl) ?_
              refine r_iload_4 52 rfl (dd_X12_gap_0 32 _ _ _ rfl) ?_
              refine r_if_icmpgt (by omega) (by omega) 55 rfl 71 rfl (dd_X12_gap_0 33 _ _ _ rfl) (fun hc7 => ?_) (fun hc7 => ?_)
              · have hz : zev S v d = j := zev_eq (by omega) hall (by omega)
                have e8 := (zst_range S v j).1
                refine r_iload_2 72 rfl (dd_X12_gap_0 42 _ _ _ rfl) ?_
                refine r_aload_0 73 rfl (dd_X12_gap_0 43 _ _ _ rfl) ?_
                refine m_getx 42 hg hM hx42 (by decide) (tb_6 98 _ rfl) 76 rfl (dd_X12_gap_0 44 _ _ _ rfl) ?_ (fun _ _ _ => rfl)
                refine r_iconst 77 rfl (dd_X12_gap_0 45 _ _ _ rfl) ?_
                refine r_if_icmpne (by omega) (by omega) 80 rfl 94 rfl (dd_X12_gap_0 46 _ _ _ rfl) (fun hc8 => ?_) (fun hc8 => ?_)
                · refine r_iconst 95 rfl (dd_X12_gap_0 54 _ _ _ rfl) ?_
                  refine r_iadd 96 rfl (dd_X12_gap_0 55 _ _ _ rfl) ?_
                  refine r_istore_2 97 rfl (by decide) rfl (dd_X12_gap_0 56 _ _ _ rfl) ?_
                  refine r_iinc_4 100 rfl (by decide) rfl (dd_X12_gap_0 57 _ _ _ rfl) ?_
                  refine r_goto 20 rfl (dd_X12_gap_0 58 _ _ _ rfl) ?_
                  exact r_sub _ (z_s1 (z_s1 (z_s1 (z_s1 (z_s1 z_sN))))) (ih20 (d + 1) j _ _ _ _ (by omega) (by omega) (by omega) (by unfold zgap zstate; rw [hz]; first | (rw [if_pos ⟨by omega, by assumption⟩]; omega) | (rw [if_neg (fun q => absurd q.1 (by omega))]; omega) | (rw [if_neg (fun q => by rw [q.2] at hins; cases hins)]; omega)) (by omega) (by omega) (fun i hi => by have := hall i hi; omega) hM hx42 hx43)
                · refine r_aload_0 81 rfl (dd_X12_gap_0 47 _ _ _ rfl) ?_
                  refine r_iload_1 82 rfl (dd_X12_gap_0 48 _ _ _ rfl) ?_
                  refine r_iload_4 84 rfl (dd_X12_gap_0 49 _ _ _ rfl) ?_
                  refine r_callV2 (lvl := 10) (mc1 := 0) (ms1 := 0) 0 0 hg rfl md_X12_isInsured zc_X12 hM.kd wi_X12_isInsured wv_X12_isInsured (tb_7 103 _ rfl) (by decide) (by decide) rfl (Nat.le_of_ble_eq_true rfl) (by decide) (by decide) 87 rfl (dd_X12_gap_0 50 _ _ _ rfl) ?_
                  refine c_X12_isInsured (v := v) hg hM (by omega) (by omega) (fun hi9 => ?_) (fun hi9 => ?_)
                  · have hins := hi9
                    dsimp only [zCont, Option.toList, List.cons_append, List.nil_append]
                    refine r_ifne (by omega) 90 rfl 94 rfl (dd_X12_gap_0 51 _ _ _ rfl) (fun _ => ?_) (fun q => absurd q (by decide))
                    refine r_iconst 95 rfl (dd_X12_gap_0 54 _ _ _ rfl) ?_
                    refine r_iadd 96 rfl (dd_X12_gap_0 55 _ _ _ rfl) ?_
                    refine r_istore_2 97 rfl (by decide) rfl (dd_X12_gap_0 56 _ _ _ rfl) ?_
                    refine r_iinc_4 100 rfl (by decide) rfl (dd_X12_gap_0 57 _ _ _ rfl) ?_
                    refine r_goto 20 rfl (dd_X12_gap_0 58 _ _ _ rfl) ?_
                    exact r_sub _ (z_s1 (z_s1 (z_s1 (z_s1 (z_s1 z_sN))))) (ih20 (d + 1) j _ _ _ _ (by omega) (by omega) (by omega) (by unfold zgap zstate; rw [hz]; first | (rw [if_pos ⟨by omega, by assumption⟩]; omega) | (rw [if_neg (fun q => absurd q.1 (by omega))]; omega) | (rw [if_neg (fun q => by rw [q.2] at hins; cases hins)]; omega)) (by omega) (by omega) (fun i hi => by have := hall i hi; omega) hM hx42 hx43)
                  · have hins := hi9
                    dsimp only [zCont, Option.toList, List.cons_append, List.nil_append]
                    refine r_ifne (by omega) 90 rfl 94 rfl (dd_X12_gap_0 51 _ _ _ rfl) (fun q => absurd q (by decide)) (fun _ => ?_)
                    refine r_iconst 91 rfl (dd_X12_gap_0 52 _ _ _ rfl) ?_
                    refine r_goto 95 rfl (dd_X12_gap_0 53 _ _ _ rfl) ?_
                    refine r_iadd 96 rfl (dd_X12_gap_0 55 _ _ _ rfl) ?_
                    refine r_istore_2 97 rfl (by decide) rfl (dd_X12_gap_0 56 _ _ _ rfl) ?_
                    refine r_iinc_4 100 rfl (by decide) rfl (dd_X12_gap_0 57 _ _ _ rfl) ?_
                    refine r_goto 20 rfl (dd_X12_gap_0 58 _ _ _ rfl) ?_
                    exact r_sub _ (z_s1 (z_s1 (z_s1 (z_s1 (z_s1 z_sN))))) (ih20 (d + 1) j _ _ _ _ (by omega) (by omega) (by omega) (by unfold zgap zstate; rw [hz]; first | (rw [if_pos ⟨by omega, by assumption⟩]; omega) | (rw [if_neg (fun q => absurd q.1 (by omega))]; omega) | (rw [if_neg (fun q => by rw [q.2] at hins; cases hins)]; omega)) (by omega) (by omega) (fun i hi => by have := hall i hi; omega) hM hx42 hx43)
              · refine r_aload_0 56 rfl (dd_X12_gap_0 34 _ _ _ rfl) ?_
                refine r_aload_0 57 rfl (dd_X12_gap_0 35 _ _ _ rfl) ?_
                refine m_arr 9 hg hM (by decide) (by decide) (tb_6 65 _ rfl) 60 rfl (dd_X12_gap_0 36 _ _ _ rfl) ?_ (fun _ _ _ => rfl)
                refine r_iload_3 61 rfl (dd_X12_gap_0 37 _ _ _ rfl) ?_
                refine m_iald 9 (30 * v + j) (by omega) hg hM rfl (by omega) (z_lt (n2 := 360) rfl (by omega)) (by decide) 62 rfl (dd_X12_gap_0 38 _ _ _ rfl) ?_
                refine r_callV1 (lvl := 10) (mc1 := 0) (ms1 := 0) 0 0 hg rfl md_X12_change zc_X12 hM.kd wi_X12_change wv_X12_change (tb_7 20 _ rfl) (by decide) (by decide) rfl (Nat.le_of_ble_eq_true rfl) (by decide) (by decide) 65 rfl (dd_X12_gap_0 39 _ _ _ rfl) ?_
                refine c_X12_change hg hM (zst_range S v j).1 (zst_range S v j).2 (by omega) hx42 hx43 (fun h10 hM hx42 hx43 => ?_)
                dsimp only [zCont, Option.toList, List.cons_append, List.nil_append]
                refine r_iinc_3 68 rfl (by decide) rfl (dd_X12_gap_0 40 _ _ _ rfl) ?_
                refine r_goto 29 rfl (dd_X12_gap_0 41 _ _ _ rfl) ?_
                exact r_sub _ (z_s1 (z_s1 (z_s1 (z_s1 (z_s1 z_sN))))) (ih29 (j + 1) _ _ (by omega) (by omega) (by omega) (lt_s hall (by omega)) hM hx42 hx43)
        exact r_sub _ (z_s1 (z_s1 (z_s1 (z_s1 (z_s1 z_sN))))) (L29 1000000 j _ _ (by omega) hj ha hall hM hx42 hx43)
  exact r_sub _ (z_s1 (z_s1 (z_s1 (z_s1 (z_s1 z_sN))))) (L20 1000000 0 0 _ _ _ _ (by omega) (by omega) (by omega) (by unfold zgap; omega) (by omega) (by omega) lt_0 hM hx42 hx43)
