set_option maxHeartbeats 600000 in
set_option maxRecDepth 100000 in
theorem c_X5_readStatement (l : Launch) (G : az_Gh) (d : Nat) (sh : List az_Sh) (sg : Nat → Nat → Int32) (la : Nat → Nat → Int64) (o m e n0 : Nat) (c : CT) (hT : az_at sh o (lyP o)) (hm : sg o 1 = nI m) (hm2 : m ≤ 250) (he : e ≤ m) (hC : az_at sh n0 (lyC n0)) (ho : o + 1 < n0 ∨ n0 + 6 ≤ o) (hO : cOk c) : FM l G (d + 5) mX5_readStatement [.ref o, .ref n0] (sh, (zput (zTs sg o (sg (o + 1)) m e) n0 c), la) (some (.int (b2i ((zstm (sg (o + 1)) m e c).1 = true)))) (sh, zput (zTs sg o (sg (o + 1)) m (zstm (sg (o + 1)) m e c).2.1) n0 (zstm (sg (o + 1)) m e c).2.2, la) := by
  refine az_fm knX5_readStatement (Nat.le_of_ble_eq_true rfl) rfl (fun Post hP => ?_)
  show AW l G mX5_readStatement (d + 5) (az_F G Post) 0 0 0 [some (.ref o), some (.ref n0), none, none] [] (sh, (zput (zTs sg o (sg (o + 1)) m e) n0 c), la)
  refine A_aload_n dX5_readStatement_0 rfl rfl ?_
  refine A_ldcS (n := 0) dX5_readStatement_1 (by decide) ?_
  refine A_callV (n := 0) dX5_readStatement_3 kvX5_isWord mlX5_45 rfl (az_rc_obj clX5 (hT 0 _ rfl)) (p_X5_isWord l G d sh sg la o m e 0 n0 c hT hm hm2 he (by decide) ho) (by omega) (Nat.le_refl _) (Nat.le_refl _) rfl (Nat.le_of_ble_eq_true rfl) (fun r S1 hp => ?_)
  obtain ⟨rfl, rfl⟩ := hp
  show AW l G mX5_readStatement (d + 5) (az_F G Post) 0 0 6 [some (.ref o), some (.ref n0), none, none] [.int (b2i (zwk (sg (o + 1)) m e 0 = true))] (sh, (zput (zTs sg o (sg (o + 1)) m e) n0 c), la)
  refine A_if_eq (tgt := 30) dX5_readStatement_6 rfl (fun h_1 => ?_) (fun h_1 => ?_)
  · skip
    have h_1' := b2i_0.mp h_1
    refine A_aload_n dX5_readStatement_30 rfl rfl ?_
    refine A_ldcS (n := 1) dX5_readStatement_31 (by decide) ?_
    refine A_callV (n := 0) dX5_readStatement_33 kvX5_isWord mlX5_45 rfl (az_rc_obj clX5 (hT 0 _ rfl)) (p_X5_isWord l G d sh sg la o m e 1 n0 c hT hm hm2 he (by decide) ho) (by omega) (Nat.le_refl _) (Nat.le_refl _) rfl (Nat.le_of_ble_eq_true rfl) (fun r S1 hp => ?_)
    obtain ⟨rfl, rfl⟩ := hp
    show AW l G mX5_readStatement (d + 5) (az_F G Post) 0 0 36 [some (.ref o), some (.ref n0), none, none] [.int (b2i (zwk (sg (o + 1)) m e 1 = true))] (sh, (zput (zTs sg o (sg (o + 1)) m e) n0 c), la)
    refine A_if_eq (tgt := 54) dX5_readStatement_36 rfl (fun h_2 => ?_) (fun h_2 => ?_)
    · skip
      have h_2' := b2i_0.mp h_2
      refine A_aload_n dX5_readStatement_54 rfl rfl ?_
      refine A_ldcS (n := 2) dX5_readStatement_55 (by decide) ?_
      refine A_callV (n := 0) dX5_readStatement_57 kvX5_isWord mlX5_45 rfl (az_rc_obj clX5 (hT 0 _ rfl)) (p_X5_isWord l G d sh sg la o m e 2 n0 c hT hm hm2 he (by decide) ho) (by omega) (Nat.le_refl _) (Nat.le_refl _) rfl (Nat.le_of_ble_eq_true rfl) (fun r S1 hp => ?_)
      obtain ⟨rfl, rfl⟩ := hp
      show AW l G mX5_readStatement (d + 5) (az_F G Post) 0 0 60 [some (.ref o), some (.ref n0), none, none] [.int (b2i (zwk (sg (o + 1)) m e 2 = true))] (sh, (zput (zTs sg o (sg (o + 1)) m e) n0 c), la)
      refine A_if_eq (tgt := 78) dX5_readStatement_60 rfl (fun h_3 => ?_) (fun h_3 => ?_)
      · skip
        have h_3' := b2i_0.mp h_3
        refine A_aload_n dX5_readStatement_78 rfl rfl ?_
        refine A_ldcS (n := 3) dX5_readStatement_79 (by decide) ?_
        refine A_callV (n := 0) dX5_readStatement_81 kvX5_isWord mlX5_45 rfl (az_rc_obj clX5 (hT 0 _ rfl)) (p_X5_isWord l G d sh sg la o m e 3 n0 c hT hm hm2 he (by decide) ho) (by omega) (Nat.le_refl _) (Nat.le_refl _) rfl (Nat.le_of_ble_eq_true rfl) (fun r S1 hp => ?_)
        obtain ⟨rfl, rfl⟩ := hp
        show AW l G mX5_readStatement (d + 5) (az_F G Post) 0 0 84 [some (.ref o), some (.ref n0), none, none] [.int (b2i (zwk (sg (o + 1)) m e 3 = true))] (sh, (zput (zTs sg o (sg (o + 1)) m e) n0 c), la)
        refine A_if_eq (tgt := 91) dX5_readStatement_84 rfl (fun h_4 => ?_) (fun h_4 => ?_)
        · skip
          have h_4' := b2i_0.mp h_4
          refine A_aload_n dX5_readStatement_91 rfl rfl ?_
          refine A_ldcS (n := 4) dX5_readStatement_92 (by decide) ?_
          refine A_callV (n := 0) dX5_readStatement_94 kvX5_isWord mlX5_45 rfl (az_rc_obj clX5 (hT 0 _ rfl)) (p_X5_isWord l G d sh sg la o m e 4 n0 c hT hm hm2 he (by decide) ho) (by omega) (Nat.le_refl _) (Nat.le_refl _) rfl (Nat.le_of_ble_eq_true rfl) (fun r S1 hp => ?_)
          obtain ⟨rfl, rfl⟩ := hp
          show AW l G mX5_readStatement (d + 5) (az_F G Post) 0 0 97 [some (.ref o), some (.ref n0), none, none] [.int (b2i (zwk (sg (o + 1)) m e 4 = true))] (sh, (zput (zTs sg o (sg (o + 1)) m e) n0 c), la)
          refine A_if_eq (tgt := 104) dX5_readStatement_97 rfl (fun h_5 => ?_) (fun h_5 => ?_)
          · skip
            have h_5' := b2i_0.mp h_5
            refine A_aload_n dX5_readStatement_104 rfl rfl ?_
            refine A_ldcS (n := 5) dX5_readStatement_105 (by decide) ?_
            refine A_callV (n := 0) dX5_readStatement_107 kvX5_isWord mlX5_45 rfl (az_rc_obj clX5 (hT 0 _ rfl)) (p_X5_isWord l G d sh sg la o m e 5 n0 c hT hm hm2 he (by decide) ho) (by omega) (Nat.le_refl _) (Nat.le_refl _) rfl (Nat.le_of_ble_eq_true rfl) (fun r S1 hp => ?_)
            obtain ⟨rfl, rfl⟩ := hp
            show AW l G mX5_readStatement (d + 5) (az_F G Post) 0 0 110 [some (.ref o), some (.ref n0), none, none] [.int (b2i (zwk (sg (o + 1)) m e 5 = true))] (sh, (zput (zTs sg o (sg (o + 1)) m e) n0 c), la)
            refine A_if_eq (tgt := 117) dX5_readStatement_110 rfl (fun h_6 => ?_) (fun h_6 => ?_)
            · skip
              have h_6' := b2i_0.mp h_6
              refine A_aload_n dX5_readStatement_117 rfl rfl ?_
              refine A_ldcS (n := 6) dX5_readStatement_118 (by decide) ?_
              refine A_callV (n := 0) dX5_readStatement_120 kvX5_isWord mlX5_45 rfl (az_rc_obj clX5 (hT 0 _ rfl)) (p_X5_isWord l G d sh sg la o m e 6 n0 c hT hm hm2 he (by decide) ho) (by omega) (Nat.le_refl _) (Nat.le_refl _) rfl (Nat.le_of_ble_eq_true rfl) (fun r S1 hp => ?_)
              obtain ⟨rfl, rfl⟩ := hp
              show AW l G mX5_readStatement (d + 5) (az_F G Post) 0 0 123 [some (.ref o), some (.ref n0), none, none] [.int (b2i (zwk (sg (o + 1)) m e 6 = true))] (sh, (zput (zTs sg o (sg (o + 1)) m e) n0 c), la)
              refine A_if_eq (tgt := 130) dX5_readStatement_123 rfl (fun h_7 => ?_) (fun h_7 => ?_)
              · skip
                have h_7' := b2i_0.mp h_7
                refine A_iconst (v := (-1)) dX5_readStatement_130 (by decide) ?_
                refine A_istore_n (lo2 := [some (.ref o), some (.ref n0), some (.int (-1)), none]) dX5_readStatement_131 rfl (by decide) rfl ?_
                refine A_iload_n dX5_readStatement_132 rfl rfl ?_
                refine A_iconst (v := (-1)) dX5_readStatement_133 (by decide) ?_
                refine A_icmp_ne (tgt := 141) dX5_readStatement_134 rfl (fun h_8 => ?_) (fun h_8 => ?_)
                · skip
                  exact absurd rfl h_8
                · skip
                  refine A_iconst (v := (-1)) dX5_readStatement_137 (by decide) ?_
                  refine A_goto (tgt := 150) dX5_readStatement_138 rfl ?_
                  refine A_istore_n (lo2 := [some (.ref o), some (.ref n0), some (.int (-1)), some (.int (-1))]) dX5_readStatement_150 rfl (by decide) rfl ?_
                  refine A_iload_n dX5_readStatement_151 rfl rfl ?_
                  refine A_iconst (v := (-1)) dX5_readStatement_152 (by decide) ?_
                  refine A_icmp_eq (tgt := 163) dX5_readStatement_153 rfl (fun h_9 => ?_) (fun h_9 => ?_)
                  · skip
                    refine A_iload_n dX5_readStatement_163 rfl rfl ?_
                    refine A_iconst (v := (-1)) dX5_readStatement_164 (by decide) ?_
                    refine A_icmp_eq (tgt := 172) dX5_readStatement_165 rfl (fun h_10 => ?_) (fun h_10 => ?_)
                    · skip
                      refine A_iconst (v := 0) dX5_readStatement_172 (by decide) ?_
                      refine A_zret dX5_readStatement_173 rfl rfl (az_pi hP ?_ (by unfold zstm; rw [if_neg (b2i_0.mp h_1), if_neg (b2i_0.mp h_2), if_neg (b2i_0.mp h_3), if_neg (b2i_0.mp h_4), if_neg (b2i_0.mp h_5), if_neg (b2i_0.mp h_6), if_neg (b2i_0.mp h_7)]))
                      (unfold zstm; rw [if_neg (b2i_0.mp h_1), if_neg (b2i_0.mp h_2), if_neg (b2i_0.mp h_3), if_neg (b2i_0.mp h_4), if_neg (b2i_0.mp h_5), if_neg (b2i_0.mp h_6), if_neg (b2i_0.mp h_7)]; rfl)
                    · skip
                      exact absurd (by decide) h_10
                  · skip
                    exact absurd (by decide) h_9
              · skip
                have h_7' := b2i_n.mp h_7
                refine A_iconst (v := 3) dX5_readStatement_126 (by decide) ?_
                refine A_goto (tgt := 131) dX5_readStatement_127 rfl ?_
                refine A_istore_n (lo2 := [some (.ref o), some (.ref n0), some (.int 3), none]) dX5_readStatement_131 rfl (by decide) rfl ?_
                refine A_iload_n dX5_readStatement_132 rfl rfl ?_
                refine A_iconst (v := (-1)) dX5_readStatement_133 (by decide) ?_
                refine A_icmp_ne (tgt := 141) dX5_readStatement_134 rfl (fun h_11 => ?_) (fun h_11 => ?_)
                · skip
                  refine A_aload_n dX5_readStatement_141 rfl rfl ?_
                  refine A_gets (k := 1002) dX5_readStatement_142 (by decide) (fun U h => h.2.2.2.2.2.1.2.2) flX5_79 ?_
                  refine A_iload_n dX5_readStatement_145 rfl rfl ?_
                  refine A_eald (i := 3) dX5_readStatement_146 (by decide) (by decide) (show 3 < 4 from by decide) (show 4 < 2 ^ 31 from by decide) (rfl) ?_
                  refine B_top (show (az_ex G 1002).2 3 = zmt 3 from rfl) ?_
                  refine A_callV (n := 0) dX5_readStatement_147 kvX5_readNumber mlX5_82 rfl (az_rc_obj clX5 (hT 0 _ rfl)) (p_X5_readNumber l G (d + 2) sh sg la o m (znx (sg (o + 1)) m e) (zst3 (sg (o + 1)) m e).1 (nI (zss (sg (o + 1)) m e)) (zmt 3) n0 c hT hm hm2 (znx_le he) ho) (by omega) (Nat.le_refl _) (Nat.le_refl _) rfl (Nat.le_of_ble_eq_true rfl) (fun r S1 hp => ?_)
                  obtain ⟨rfl, rfl⟩ := hp
                  show AW l G mX5_readStatement (d + 5) (az_F G Post) 0 0 150 [some (.ref o), some (.ref n0), some (.int 3), none] [.int (znum (sg (o + 1)) m (znx (sg (o + 1)) m e) (zmt 3))] (sh, (zput (zTs sg o (sg (o + 1)) m (znx (sg (o + 1)) m e)) n0 c), la)
                  refine A_istore_n (lo2 := [some (.ref o), some (.ref n0), some (.int 3), some (.int (znum (sg (o + 1)) m (znx (sg (o + 1)) m e) (zmt 3)))]) dX5_readStatement_150 rfl (by decide) rfl ?_
                  refine A_iload_n dX5_readStatement_151 rfl rfl ?_
                  refine A_iconst (v := (-1)) dX5_readStatement_152 (by decide) ?_
                  refine A_icmp_eq (tgt := 163) dX5_readStatement_153 rfl (fun h_12 => ?_) (fun h_12 => ?_)
                  · skip
                    refine A_iload_n dX5_readStatement_163 rfl rfl ?_
                    refine A_iconst (v := (-1)) dX5_readStatement_164 (by decide) ?_
                    refine A_icmp_eq (tgt := 172) dX5_readStatement_165 rfl (fun h_13 => ?_) (fun h_13 => ?_)
                    · skip
                      refine A_iconst (v := 0) dX5_readStatement_172 (by decide) ?_
                      refine A_zret dX5_readStatement_173 rfl rfl (az_pi hP ?_ (by unfold zstm; rw [if_neg (b2i_0.mp h_1), if_neg (b2i_0.mp h_2), if_neg (b2i_0.mp h_3), if_neg (b2i_0.mp h_4), if_neg (b2i_0.mp h_5), if_neg (b2i_0.mp h_6), if_pos (b2i_n.mp h_7)]; unfold zchg; rw [if_pos h_12]))
                      (unfold zstm; rw [if_neg (b2i_0.mp h_1), if_neg (b2i_0.mp h_2), if_neg (b2i_0.mp h_3), if_neg (b2i_0.mp h_4), if_neg (b2i_0.mp h_5), if_neg (b2i_0.mp h_6), if_pos (b2i_n.mp h_7)]; unfold zchg; rw [if_pos h_12]; rfl)
                    · skip
                      exact absurd h_12 h_13
                  · skip
                    refine A_aload_n dX5_readStatement_156 rfl rfl ?_
                    refine A_iload_n dX5_readStatement_157 rfl rfl ?_
                    refine A_iload_n dX5_readStatement_158 rfl rfl ?_
                    refine A_callV (n := 0) dX5_readStatement_159 kvX2_change mlX5_86 rfl (az_rc_obj clX2 (hC 0 _ rfl)) (z_X2_change3 l G (d + 4) sh (zTs sg o (sg (o + 1)) m (znx (sg (o + 1)) m e)) la n0 c (znum (sg (o + 1)) m (znx (sg (o + 1)) m e) (zmt 3)) hC) (by omega) (Nat.le_refl _) (Nat.le_refl _) rfl (Nat.le_of_ble_eq_true rfl) (fun r S1 hp => ?_)
                    obtain ⟨rfl, rfl⟩ := hp
                    show AW l G mX5_readStatement (d + 5) (az_F G Post) 0 0 162 [some (.ref o), some (.ref n0), some (.int 3), some (.int (znum (sg (o + 1)) m (znx (sg (o + 1)) m e) (zmt 3)))] [.int (cCoal c)] (sh, (zput (zTs sg o (sg (o + 1)) m (znx (sg (o + 1)) m e)) n0 (sCoal c (znum (sg (o + 1)) m (znx (sg (o + 1)) m e) (zmt 3)))), la)
                    refine A_pop dX5_readStatement_162 rfl ?_
                    refine A_iload_n dX5_readStatement_163 rfl rfl ?_
                    refine A_iconst (v := (-1)) dX5_readStatement_164 (by decide) ?_
                    refine A_icmp_eq (tgt := 172) dX5_readStatement_165 rfl (fun h_14 => ?_) (fun h_14 => ?_)
                    · skip
                      exact absurd h_14 h_12
                    · skip
                      refine A_iconst (v := 1) dX5_readStatement_168 (by decide) ?_
                      refine A_goto (tgt := 173) dX5_readStatement_169 rfl ?_
                      refine A_zret dX5_readStatement_173 rfl rfl (az_pi hP ?_ (by unfold zstm; rw [if_neg (b2i_0.mp h_1), if_neg (b2i_0.mp h_2), if_neg (b2i_0.mp h_3), if_neg (b2i_0.mp h_4), if_neg (b2i_0.mp h_5), if_neg (b2i_0.mp h_6), if_pos (b2i_n.mp h_7)]; unfold zchg; rw [if_neg h_12]; rfl))
                      (unfold zstm; rw [if_neg (b2i_0.mp h_1), if_neg (b2i_0.mp h_2), if_neg (b2i_0.mp h_3), if_neg (b2i_0.mp h_4), if_neg (b2i_0.mp h_5), if_neg (b2i_0.mp h_6), if_pos (b2i_n.mp h_7)]; unfold zchg; rw [if_neg h_12]; rfl)
                · skip
                  exact absurd h_11 (by decide)
            · skip
              have h_6' := b2i_n.mp h_6
              refine A_iconst (v := 2) dX5_readStatement_113 (by decide) ?_
              refine A_goto (tgt := 131) dX5_readStatement_114 rfl ?_
              refine A_istore_n (lo2 := [some (.ref o), some (.ref n0), some (.int 2), none]) dX5_readStatement_131 rfl (by decide) rfl ?_
              refine A_iload_n dX5_readStatement_132 rfl rfl ?_
              refine A_iconst (v := (-1)) dX5_readStatement_133 (by decide) ?_
              refine A_icmp_ne (tgt := 141) dX5_readStatement_134 rfl (fun h_15 => ?_) (fun h_15 => ?_)
              · skip
                refine A_aload_n dX5_readStatement_141 rfl rfl ?_
                refine A_gets (k := 1002) dX5_readStatement_142 (by decide) (fun U h => h.2.2.2.2.2.1.2.2) flX5_79 ?_
                refine A_iload_n dX5_readStatement_145 rfl rfl ?_
                refine A_eald (i := 2) dX5_readStatement_146 (by decide) (by decide) (show 2 < 4 from by decide) (show 4 < 2 ^ 31 from by decide) (rfl) ?_
                refine B_top (show (az_ex G 1002).2 2 = zmt 2 from rfl) ?_
                refine A_callV (n := 0) dX5_readStatement_147 kvX5_readNumber mlX5_82 rfl (az_rc_obj clX5 (hT 0 _ rfl)) (p_X5_readNumber l G (d + 2) sh sg la o m (znx (sg (o + 1)) m e) (zst3 (sg (o + 1)) m e).1 (nI (zss (sg (o + 1)) m e)) (zmt 2) n0 c hT hm hm2 (znx_le he) ho) (by omega) (Nat.le_refl _) (Nat.le_refl _) rfl (Nat.le_of_ble_eq_true rfl) (fun r S1 hp => ?_)
                obtain ⟨rfl, rfl⟩ := hp
                show AW l G mX5_readStatement (d + 5) (az_F G Post) 0 0 150 [some (.ref o), some (.ref n0), some (.int 2), none] [.int (znum (sg (o + 1)) m (znx (sg (o + 1)) m e) (zmt 2))] (sh, (zput (zTs sg o (sg (o + 1)) m (znx (sg (o + 1)) m e)) n0 c), la)
                refine A_istore_n (lo2 := [some (.ref o), some (.ref n0), some (.int 2), some (.int (znum (sg (o + 1)) m (znx (sg (o + 1)) m e) (zmt 2)))]) dX5_readStatement_150 rfl (by decide) rfl ?_
                refine A_iload_n dX5_readStatement_151 rfl rfl ?_
                refine A_iconst (v := (-1)) dX5_readStatement_152 (by decide) ?_
                refine A_icmp_eq (tgt := 163) dX5_readStatement_153 rfl (fun h_16 => ?_) (fun h_16 => ?_)
                · skip
                  refine A_iload_n dX5_readStatement_163 rfl rfl ?_
                  refine A_iconst (v := (-1)) dX5_readStatement_164 (by decide) ?_
                  refine A_icmp_eq (tgt := 172) dX5_readStatement_165 rfl (fun h_17 => ?_) (fun h_17 => ?_)
                  · skip
                    refine A_iconst (v := 0) dX5_readStatement_172 (by decide) ?_
                    refine A_zret dX5_readStatement_173 rfl rfl (az_pi hP ?_ (by unfold zstm; rw [if_neg (b2i_0.mp h_1), if_neg (b2i_0.mp h_2), if_neg (b2i_0.mp h_3), if_neg (b2i_0.mp h_4), if_neg (b2i_0.mp h_5), if_pos (b2i_n.mp h_6)]; unfold zchg; rw [if_pos h_16]))
                    (unfold zstm; rw [if_neg (b2i_0.mp h_1), if_neg (b2i_0.mp h_2), if_neg (b2i_0.mp h_3), if_neg (b2i_0.mp h_4), if_neg (b2i_0.mp h_5), if_pos (b2i_n.mp h_6)]; unfold zchg; rw [if_pos h_16]; rfl)
                  · skip
                    exact absurd h_16 h_17
                · skip
                  refine A_aload_n dX5_readStatement_156 rfl rfl ?_
                  refine A_iload_n dX5_readStatement_157 rfl rfl ?_
                  refine A_iload_n dX5_readStatement_158 rfl rfl ?_
                  refine A_callV (n := 0) dX5_readStatement_159 kvX2_change mlX5_86 rfl (az_rc_obj clX2 (hC 0 _ rfl)) (z_X2_change2 l G (d + 4) sh (zTs sg o (sg (o + 1)) m (znx (sg (o + 1)) m e)) la n0 c (znum (sg (o + 1)) m (znx (sg (o + 1)) m e) (zmt 2)) hC) (by omega) (Nat.le_refl _) (Nat.le_refl _) rfl (Nat.le_of_ble_eq_true rfl) (fun r S1 hp => ?_)
                  obtain ⟨rfl, rfl⟩ := hp
                  show AW l G mX5_readStatement (d + 5) (az_F G Post) 0 0 162 [some (.ref o), some (.ref n0), some (.int 2), some (.int (znum (sg (o + 1)) m (znx (sg (o + 1)) m e) (zmt 2)))] [.int (cDay c)] (sh, (zput (zTs sg o (sg (o + 1)) m (znx (sg (o + 1)) m e)) n0 (sDay c (znum (sg (o + 1)) m (znx (sg (o + 1)) m e) (zmt 2)))), la)
                  refine A_pop dX5_readStatement_162 rfl ?_
                  refine A_iload_n dX5_readStatement_163 rfl rfl ?_
                  refine A_iconst (v := (-1)) dX5_readStatement_164 (by decide) ?_
                  refine A_icmp_eq (tgt := 172) dX5_readStatement_165 rfl (fun h_18 => ?_) (fun h_18 => ?_)
                  · skip
                    exact absurd h_18 h_16
                  · skip
                    refine A_iconst (v := 1) dX5_readStatement_168 (by decide) ?_
                    refine A_goto (tgt := 173) dX5_readStatement_169 rfl ?_
                    refine A_zret dX5_readStatement_173 rfl rfl (az_pi hP ?_ (by unfold zstm; rw [if_neg (b2i_0.mp h_1), if_neg (b2i_0.mp h_2), if_neg (b2i_0.mp h_3), if_neg (b2i_0.mp h_4), if_neg (b2i_0.mp h_5), if_pos (b2i_n.mp h_6)]; unfold zchg; rw [if_neg h_16]; rfl))
                    (unfold zstm; rw [if_neg (b2i_0.mp h_1), if_neg (b2i_0.mp h_2), if_neg (b2i_0.mp h_3), if_neg (b2i_0.mp h_4), if_neg (b2i_0.mp h_5), if_pos (b2i_n.mp h_6)]; unfold zchg; rw [if_neg h_16]; rfl)
              · skip
                exact absurd h_15 (by decide)
          · skip
            have h_5' := b2i_n.mp h_5
            refine A_iconst (v := 1) dX5_readStatement_100 (by decide) ?_
            refine A_goto (tgt := 131) dX5_readStatement_101 rfl ?_
            refine A_istore_n (lo2 := [some (.ref o), some (.ref n0), some (.int 1), none]) dX5_readStatement_131 rfl (by decide) rfl ?_
            refine A_iload_n dX5_readStatement_132 rfl rfl ?_
            refine A_iconst (v := (-1)) dX5_readStatement_133 (by decide) ?_
            refine A_icmp_ne (tgt := 141) dX5_readStatement_134 rfl (fun h_19 => ?_) (fun h_19 => ?_)
            · skip
              refine A_aload_n dX5_readStatement_141 rfl rfl ?_
              refine A_gets (k := 1002) dX5_readStatement_142 (by decide) (fun U h => h.2.2.2.2.2.1.2.2) flX5_79 ?_
              refine A_iload_n dX5_readStatement_145 rfl rfl ?_
              refine A_eald (i := 1) dX5_readStatement_146 (by decide) (by decide) (show 1 < 4 from by decide) (show 4 < 2 ^ 31 from by decide) (rfl) ?_
              refine B_top (show (az_ex G 1002).2 1 = zmt 1 from rfl) ?_
              refine A_callV (n := 0) dX5_readStatement_147 kvX5_readNumber mlX5_82 rfl (az_rc_obj clX5 (hT 0 _ rfl)) (p_X5_readNumber l G (d + 2) sh sg la o m (znx (sg (o + 1)) m e) (zst3 (sg (o + 1)) m e).1 (nI (zss (sg (o + 1)) m e)) (zmt 1) n0 c hT hm hm2 (znx_le he) ho) (by omega) (Nat.le_refl _) (Nat.le_refl _) rfl (Nat.le_of_ble_eq_true rfl) (fun r S1 hp => ?_)
              obtain ⟨rfl, rfl⟩ := hp
              show AW l G mX5_readStatement (d + 5) (az_F G Post) 0 0 150 [some (.ref o), some (.ref n0), some (.int 1), none] [.int (znum (sg (o + 1)) m (znx (sg (o + 1)) m e) (zmt 1))] (sh, (zput (zTs sg o (sg (o + 1)) m (znx (sg (o + 1)) m e)) n0 c), la)
              refine A_istore_n (lo2 := [some (.ref o), some (.ref n0), some (.int 1), some (.int (znum (sg (o + 1)) m (znx (sg (o + 1)) m e) (zmt 1)))]) dX5_readStatement_150 rfl (by decide) rfl ?_
              refine A_iload_n dX5_readStatement_151 rfl rfl ?_
              refine A_iconst (v := (-1)) dX5_readStatement_152 (by decide) ?_
              refine A_icmp_eq (tgt := 163) dX5_readStatement_153 rfl (fun h_20 => ?_) (fun h_20 => ?_)
              · skip
                refine A_iload_n dX5_readStatement_163 rfl rfl ?_
                refine A_iconst (v := (-1)) dX5_readStatement_164 (by decide) ?_
                refine A_icmp_eq (tgt := 172) dX5_readStatement_165 rfl (fun h_21 => ?_) (fun h_21 => ?_)
                · skip
                  refine A_iconst (v := 0) dX5_readStatement_172 (by decide) ?_
                  refine A_zret dX5_readStatement_173 rfl rfl (az_pi hP ?_ (by unfold zstm; rw [if_neg (b2i_0.mp h_1), if_neg (b2i_0.mp h_2), if_neg (b2i_0.mp h_3), if_neg (b2i_0.mp h_4), if_pos (b2i_n.mp h_5)]; unfold zchg; rw [if_pos h_20]))
                  (unfold zstm; rw [if_neg (b2i_0.mp h_1), if_neg (b2i_0.mp h_2), if_neg (b2i_0.mp h_3), if_neg (b2i_0.mp h_4), if_pos (b2i_n.mp h_5)]; unfold zchg; rw [if_pos h_20]; rfl)
                · skip
                  exact absurd h_20 h_21
              · skip
                refine A_aload_n dX5_readStatement_156 rfl rfl ?_
                refine A_iload_n dX5_readStatement_157 rfl rfl ?_
                refine A_iload_n dX5_readStatement_158 rfl rfl ?_
                refine A_callV (n := 0) dX5_readStatement_159 kvX2_change mlX5_86 rfl (az_rc_obj clX2 (hC 0 _ rfl)) (z_X2_change1 l G (d + 4) sh (zTs sg o (sg (o + 1)) m (znx (sg (o + 1)) m e)) la n0 c (znum (sg (o + 1)) m (znx (sg (o + 1)) m e) (zmt 1)) hC) (by omega) (Nat.le_refl _) (Nat.le_refl _) rfl (Nat.le_of_ble_eq_true rfl) (fun r S1 hp => ?_)
                obtain ⟨rfl, rfl⟩ := hp
                show AW l G mX5_readStatement (d + 5) (az_F G Post) 0 0 162 [some (.ref o), some (.ref n0), some (.int 1), some (.int (znum (sg (o + 1)) m (znx (sg (o + 1)) m e) (zmt 1)))] [.int (cFall c)] (sh, (zput (zTs sg o (sg (o + 1)) m (znx (sg (o + 1)) m e)) n0 (sFall c (znum (sg (o + 1)) m (znx (sg (o + 1)) m e) (zmt 1)))), la)
                refine A_pop dX5_readStatement_162 rfl ?_
                refine A_iload_n dX5_readStatement_163 rfl rfl ?_
                refine A_iconst (v := (-1)) dX5_readStatement_164 (by decide) ?_
                refine A_icmp_eq (tgt := 172) dX5_readStatement_165 rfl (fun h_22 => ?_) (fun h_22 => ?_)
                · skip
                  exact absurd h_22 h_20
                · skip
                  refine A_iconst (v := 1) dX5_readStatement_168 (by decide) ?_
                  refine A_goto (tgt := 173) dX5_readStatement_169 rfl ?_
                  refine A_zret dX5_readStatement_173 rfl rfl (az_pi hP ?_ (by unfold zstm; rw [if_neg (b2i_0.mp h_1), if_neg (b2i_0.mp h_2), if_neg (b2i_0.mp h_3), if_neg (b2i_0.mp h_4), if_pos (b2i_n.mp h_5)]; unfold zchg; rw [if_neg h_20]; rfl))
                  (unfold zstm; rw [if_neg (b2i_0.mp h_1), if_neg (b2i_0.mp h_2), if_neg (b2i_0.mp h_3), if_neg (b2i_0.mp h_4), if_pos (b2i_n.mp h_5)]; unfold zchg; rw [if_neg h_20]; rfl)
            · skip
              exact absurd h_19 (by decide)
        · skip
          have h_4' := b2i_n.mp h_4
          refine A_iconst (v := 0) dX5_readStatement_87 (by decide) ?_
          refine A_goto (tgt := 131) dX5_readStatement_88 rfl ?_
          refine A_istore_n (lo2 := [some (.ref o), some (.ref n0), some (.int 0), none]) dX5_readStatement_131 rfl (by decide) rfl ?_
          refine A_iload_n dX5_readStatement_132 rfl rfl ?_
          refine A_iconst (v := (-1)) dX5_readStatement_133 (by decide) ?_
          refine A_icmp_ne (tgt := 141) dX5_readStatement_134 rfl (fun h_23 => ?_) (fun h_23 => ?_)
          · skip
            refine A_aload_n dX5_readStatement_141 rfl rfl ?_
            refine A_gets (k := 1002) dX5_readStatement_142 (by decide) (fun U h => h.2.2.2.2.2.1.2.2) flX5_79 ?_
            refine A_iload_n dX5_readStatement_145 rfl rfl ?_
            refine A_eald (i := 0) dX5_readStatement_146 (by decide) (by decide) (show 0 < 4 from by decide) (show 4 < 2 ^ 31 from by decide) (rfl) ?_
            refine B_top (show (az_ex G 1002).2 0 = zmt 0 from rfl) ?_
            refine A_callV (n := 0) dX5_readStatement_147 kvX5_readNumber mlX5_82 rfl (az_rc_obj clX5 (hT 0 _ rfl)) (p_X5_readNumber l G (d + 2) sh sg la o m (znx (sg (o + 1)) m e) (zst3 (sg (o + 1)) m e).1 (nI (zss (sg (o + 1)) m e)) (zmt 0) n0 c hT hm hm2 (znx_le he) ho) (by omega) (Nat.le_refl _) (Nat.le_refl _) rfl (Nat.le_of_ble_eq_true rfl) (fun r S1 hp => ?_)
            obtain ⟨rfl, rfl⟩ := hp
            show AW l G mX5_readStatement (d + 5) (az_F G Post) 0 0 150 [some (.ref o), some (.ref n0), some (.int 0), none] [.int (znum (sg (o + 1)) m (znx (sg (o + 1)) m e) (zmt 0))] (sh, (zput (zTs sg o (sg (o + 1)) m (znx (sg (o + 1)) m e)) n0 c), la)
            refine A_istore_n (lo2 := [some (.ref o), some (.ref n0), some (.int 0), some (.int (znum (sg (o + 1)) m (znx (sg (o + 1)) m e) (zmt 0)))]) dX5_readStatement_150 rfl (by decide) rfl ?_
            refine A_iload_n dX5_readStatement_151 rfl rfl ?_
            refine A_iconst (v := (-1)) dX5_readStatement_152 (by decide) ?_
            refine A_icmp_eq (tgt := 163) dX5_readStatement_153 rfl (fun h_24 => ?_) (fun h_24 => ?_)
            · skip
              refine A_iload_n dX5_readStatement_163 rfl rfl ?_
              refine A_iconst (v := (-1)) dX5_readStatement_164 (by decide) ?_
              refine A_icmp_eq (tgt := 172) dX5_readStatement_165 rfl (fun h_25 => ?_) (fun h_25 => ?_)
              · skip
                refine A_iconst (v := 0) dX5_readStatement_172 (by decide) ?_
                refine A_zret dX5_readStatement_173 rfl rfl (az_pi hP ?_ (by unfold zstm; rw [if_neg (b2i_0.mp h_1), if_neg (b2i_0.mp h_2), if_neg (b2i_0.mp h_3), if_pos (b2i_n.mp h_4)]; unfold zchg; rw [if_pos h_24]))
                (unfold zstm; rw [if_neg (b2i_0.mp h_1), if_neg (b2i_0.mp h_2), if_neg (b2i_0.mp h_3), if_pos (b2i_n.mp h_4)]; unfold zchg; rw [if_pos h_24]; rfl)
              · skip
                exact absurd h_24 h_25
            · skip
              refine A_aload_n dX5_readStatement_156 rfl rfl ?_
              refine A_iload_n dX5_readStatement_157 rfl rfl ?_
              refine A_iload_n dX5_readStatement_158 rfl rfl ?_
              refine A_callV (n := 0) dX5_readStatement_159 kvX2_change mlX5_86 rfl (az_rc_obj clX2 (hC 0 _ rfl)) (z_X2_change0 l G (d + 4) sh (zTs sg o (sg (o + 1)) m (znx (sg (o + 1)) m e)) la n0 c (znum (sg (o + 1)) m (znx (sg (o + 1)) m e) (zmt 0)) hC) (by omega) (Nat.le_refl _) (Nat.le_refl _) rfl (Nat.le_of_ble_eq_true rfl) (fun r S1 hp => ?_)
              obtain ⟨rfl, rfl⟩ := hp
              show AW l G mX5_readStatement (d + 5) (az_F G Post) 0 0 162 [some (.ref o), some (.ref n0), some (.int 0), some (.int (znum (sg (o + 1)) m (znx (sg (o + 1)) m e) (zmt 0)))] [.int (cAir c)] (sh, (zput (zTs sg o (sg (o + 1)) m (znx (sg (o + 1)) m e)) n0 (sAir c (znum (sg (o + 1)) m (znx (sg (o + 1)) m e) (zmt 0)))), la)
              refine A_pop dX5_readStatement_162 rfl ?_
              refine A_iload_n dX5_readStatement_163 rfl rfl ?_
              refine A_iconst (v := (-1)) dX5_readStatement_164 (by decide) ?_
              refine A_icmp_eq (tgt := 172) dX5_readStatement_165 rfl (fun h_26 => ?_) (fun h_26 => ?_)
              · skip
                exact absurd h_26 h_24
              · skip
                refine A_iconst (v := 1) dX5_readStatement_168 (by decide) ?_
                refine A_goto (tgt := 173) dX5_readStatement_169 rfl ?_
                refine A_zret dX5_readStatement_173 rfl rfl (az_pi hP ?_ (by unfold zstm; rw [if_neg (b2i_0.mp h_1), if_neg (b2i_0.mp h_2), if_neg (b2i_0.mp h_3), if_pos (b2i_n.mp h_4)]; unfold zchg; rw [if_neg h_24]; rfl))
                (unfold zstm; rw [if_neg (b2i_0.mp h_1), if_neg (b2i_0.mp h_2), if_neg (b2i_0.mp h_3), if_pos (b2i_n.mp h_4)]; unfold zchg; rw [if_neg h_24]; rfl)
          · skip
            exact absurd h_23 (by decide)
      · skip
        have h_3' := b2i_n.mp h_3
        refine A_aload_n dX5_readStatement_63 rfl rfl ?_
        refine A_aload_n dX5_readStatement_64 rfl rfl ?_
        refine B_getR (r := (n0 + 4)) dX5_readStatement_65 flX5_69 (hC 0 _ rfl) rfl ?_
        refine A_aload_n dX5_readStatement_68 rfl rfl ?_
        refine B_getV (nI (cN c)) dX5_readStatement_69 flX5_60 (hC 0 _ rfl) rfl ((zr_5 _ _ _).trans hO.1) ?_
        refine A_bipush (v := 9) dX5_readStatement_72 (by decide) ?_
        refine A_callV (n := 0) dX5_readStatement_74 kvX5_readPortion mlX5_63 rfl (az_rc_obj clX5 (hT 0 _ rfl)) (c_X5_readPortion_B l G (d + 1) sh sg la o m e n0 (cN c) c hT hm hm2 he hC ho hO.2) (by omega) (Nat.le_refl _) (Nat.le_refl _) rfl (Nat.le_of_ble_eq_true rfl) (fun r S1 hp => ?_)
        obtain ⟨rfl, rfl⟩ := hp
        show AW l G mX5_readStatement (d + 5) (az_F G Post) 0 0 77 [some (.ref o), some (.ref n0), none, none] [.int (b2i ((zpor (sg (o + 1)) m (znx (sg (o + 1)) m e) (cBr c) (cN c) 9).1 = true))] (sh, (zput (zTs sg o (sg (o + 1)) m (zpor (sg (o + 1)) m (znx (sg (o + 1)) m e) (cBr c) (cN c) 9).2.1) n0 (sBr c (zpor (sg (o + 1)) m (znx (sg (o + 1)) m e) (cBr c) (cN c) 9).2.2)), la)
        refine A_zret dX5_readStatement_77 rfl (narrow_b2i _) (az_pi hP ?_ (by unfold zstm; rw [if_neg (b2i_0.mp h_1), if_neg (b2i_0.mp h_2), if_pos (b2i_n.mp h_3)]))
        (unfold zstm; rw [if_neg (b2i_0.mp h_1), if_neg (b2i_0.mp h_2), if_pos (b2i_n.mp h_3)])
    · skip
      have h_2' := b2i_n.mp h_2
      refine A_aload_n dX5_readStatement_39 rfl rfl ?_
      refine A_aload_n dX5_readStatement_40 rfl rfl ?_
      refine B_getR (r := (n0 + 5)) dX5_readStatement_41 flX5_57 (hC 0 _ rfl) rfl ?_
      refine A_aload_n dX5_readStatement_44 rfl rfl ?_
      refine B_getV (nI (cN c)) dX5_readStatement_45 flX5_60 (hC 0 _ rfl) rfl ((zr_5 _ _ _).trans hO.1) ?_
      refine A_bipush (v := 40) dX5_readStatement_48 (by decide) ?_
      refine A_callV (n := 0) dX5_readStatement_50 kvX5_readPortion mlX5_63 rfl (az_rc_obj clX5 (hT 0 _ rfl)) (c_X5_readPortion_F l G (d + 1) sh sg la o m e n0 (cN c) c hT hm hm2 he hC ho hO.2) (by omega) (Nat.le_refl _) (Nat.le_refl _) rfl (Nat.le_of_ble_eq_true rfl) (fun r S1 hp => ?_)
      obtain ⟨rfl, rfl⟩ := hp
      show AW l G mX5_readStatement (d + 5) (az_F G Post) 0 0 53 [some (.ref o), some (.ref n0), none, none] [.int (b2i ((zpor (sg (o + 1)) m (znx (sg (o + 1)) m e) (cFe c) (cN c) 40).1 = true))] (sh, (zput (zTs sg o (sg (o + 1)) m (zpor (sg (o + 1)) m (znx (sg (o + 1)) m e) (cFe c) (cN c) 40).2.1) n0 (sFe c (zpor (sg (o + 1)) m (znx (sg (o + 1)) m e) (cFe c) (cN c) 40).2.2)), la)
      refine A_zret dX5_readStatement_53 rfl (narrow_b2i _) (az_pi hP ?_ (by unfold zstm; rw [if_neg (b2i_0.mp h_1), if_pos (b2i_n.mp h_2)]))
      (unfold zstm; rw [if_neg (b2i_0.mp h_1), if_pos (b2i_n.mp h_2)])
  · skip
    have h_1' := b2i_n.mp h_1
    refine A_aload_n dX5_readStatement_9 rfl rfl ?_
    refine A_callV (n := 0) dX5_readStatement_10 kvX2_isFull mlX5_49 rfl (az_rc_obj clX2 (hC 0 _ rfl)) (z_X2_isFull l G (d + 4) sh (zTs sg o (sg (o + 1)) m e) la n0 c hC) (by omega) (Nat.le_refl _) (Nat.le_refl _) rfl (Nat.le_of_ble_eq_true rfl) (fun r S1 hp => ?_)
    obtain ⟨rfl, rfl⟩ := hp
    show AW l G mX5_readStatement (d + 5) (az_F G Post) 0 0 13 [some (.ref o), some (.ref n0), none, none] [.int (b2i (8 ≤ cPp c))] (sh, (zput (zTs sg o (sg (o + 1)) m e) n0 c), la)
    refine A_if_ne (tgt := 28) dX5_readStatement_13 rfl (fun h_27 => ?_) (fun h_27 => ?_)
    · skip
      have h_27' := b2i_n.mp h_27
      have hfull : ¬ cN c < 8 := fun q => absurd (b2i_n.mp h_27) (by rw [hO.1]; exact nI_ge (b := 8) q (by decide))
      refine A_iconst (v := 0) dX5_readStatement_28 (by decide) ?_
      refine A_zret dX5_readStatement_29 rfl rfl (az_pi hP ?_ (by unfold zstm; rw [if_pos (b2i_n.mp h_1), if_neg hfull]))
      (unfold zstm; rw [if_pos (b2i_n.mp h_1), if_neg hfull]; rfl)
    · skip
      have h_27' := b2i_0.mp h_27
      have h7 : cN c < 8 := Nat.lt_of_not_le (fun q => b2i_0.mp h_27 (by rw [hO.1]; exact nI_le (a := 8) q (by have := hO.2; omega)))
      refine A_aload_n dX5_readStatement_16 rfl rfl ?_
      refine A_aload_n dX5_readStatement_17 rfl rfl ?_
      refine A_callV (n := 0) dX5_readStatement_18 kvX5_readPerson mlX5_52 rfl (az_rc_obj clX5 (hT 0 _ rfl)) (c_X5_readPerson l G (d + 1) sh sg la o m e n0 c hT hm hm2 he hC ho hO h7) (by omega) (Nat.le_refl _) (Nat.le_refl _) rfl (Nat.le_of_ble_eq_true rfl) (fun r S1 hp => ?_)
      obtain ⟨rfl, rfl⟩ := hp
      show AW l G mX5_readStatement (d + 5) (az_F G Post) 0 0 21 [some (.ref o), some (.ref n0), none, none] [.int (b2i ((zper (sg (o + 1)) m (znx (sg (o + 1)) m e) c).1 = true))] (sh, (zput (zTs sg o (sg (o + 1)) m (zper (sg (o + 1)) m (znx (sg (o + 1)) m e) c).2.1) n0 ((zper (sg (o + 1)) m (znx (sg (o + 1)) m e) c).2.2)), la)
      refine A_if_eq (tgt := 28) dX5_readStatement_21 rfl (fun h_28 => ?_) (fun h_28 => ?_)
      · skip
        have h_28' := b2i_0.mp h_28
        refine A_iconst (v := 0) dX5_readStatement_28 (by decide) ?_
        refine A_zret dX5_readStatement_29 rfl rfl (az_pi hP ?_ (by unfold zstm; rw [if_pos (b2i_n.mp h_1), if_pos h7]))
        (unfold zstm; rw [if_pos (b2i_n.mp h_1), if_pos h7]; exact b2i_f (b2i_0.mp h_28))
      · skip
        have h_28' := b2i_n.mp h_28
        refine A_iconst (v := 1) dX5_readStatement_24 (by decide) ?_
        refine A_goto (tgt := 29) dX5_readStatement_25 rfl ?_
        refine A_zret dX5_readStatement_29 rfl rfl (az_pi hP ?_ (by unfold zstm; rw [if_pos (b2i_n.mp h_1), if_pos h7]))
        (unfold zstm; rw [if_pos (b2i_n.mp h_1), if_pos h7]; exact b2i_t (b2i_n.mp h_28))
