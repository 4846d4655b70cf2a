set_option maxHeartbeats 1000000 in
set_option maxRecDepth 100000 in
theorem r_look (l : Launch) (G : az_Gh) (d : Nat) (sh : List az_Sh) (u : Nat → Nat → Int32) (la : Nat → Nat → Int64) (kp tr : Option Nat) (c : CT) (T : Nat → Int32) (m e : Nat) (t f g : Int32) (hM : az_at sh 60 (lyM 60 kp tr)) (hO : cOk c) (hT : u 75 = T) (hm : u 60 7 = nI m) (hm2 : m ≤ 250) (he : e ≤ m) : FM l G (d + 1) mX8_look [.ref 60] (sh, (mput (mTk u (nI e) t f g) 60 c), la) (none) (sh, mput (mTk u (nI (znx T m e)) (zst3 T m e).1 (nI (zss T m e)) (zfg T m e)) 60 c, la) := by
  refine az_fm knX8_look (Nat.le_of_ble_eq_true rfl) rfl (fun Post hP => ?_)
  show AW l G mX8_look (d + 1) (az_F G Post) 0 0 0 [some (.ref 60)] [] (sh, (mput (mTk u (nI e) t f g) 60 c), la)
  obtain ⟨hs1, hs2, hs3, hs4⟩ := zrun_facts (zspc T) he
  have hss : zss T m e = zrun (zspc T) m e := rfl
  rw [← hss] at hs1 hs2 hs3 hs4
  have loop : ∀ (q_i9 i9 : Nat), i9 + q_i9 = (zss T m e) → e ≤ i9 → AW l G mX8_look (d + 1) (az_F G Post) 0 0 0 [some (.ref 60)] [] (sh, (mput (mTk u (nI i9) t f g) 60 c), la) := by
    intro q_i9
    induction q_i9 with
    | zero =>
      intro i9  hi_i9 hei 
      have hN_i9 : i9 = (zss T m e) := by omega
      subst i9
      refine A_aload_n dX8_look_0 rfl rfl ?_
      refine B_getV (nI (zss T m e)) dX8_look_1 flX8_147 (hM 0 _ rfl) rfl ((mput_f rfl).trans (mTk_23 _ _ _ _ _)) ?_
      refine A_aload_n dX8_look_4 rfl rfl ?_
      refine B_getV (nI m) dX8_look_5 flX8_144 (hM 0 _ rfl) rfl (((mput_f rfl).trans (mTk_o (by decide))).trans hm) ?_
      refine A_icmp_ge (tgt := 38) dX8_look_8 rfl (fun h_1 => ?_) (fun h_1 => ?_)
      · skip
        refine A_aload_n dX8_look_38 rfl rfl ?_
        refine A_aload_n dX8_look_39 rfl rfl ?_
        refine B_getV (nI (zss T m e)) dX8_look_40 flX8_147 (hM 0 _ rfl) rfl ((mput_f rfl).trans (mTk_23 _ _ _ _ _)) ?_
        refine B_putI dX8_look_43 fwX8_150 (hM 0 _ rfl) rfl ?_
        refine B_sg (show _ = (mput (mTk u (nI (zss T m e)) t (nI (zss T m e)) g) 60 c) from (mput_wj rfl).trans (congrArg (fun z => mput z 60 c) (mTk_w25 _ _ _ _ _ _))) ?_
        refine A_aload_n dX8_look_46 rfl rfl ?_
        refine A_iconst (v := 0) dX8_look_47 (by decide) ?_
        refine B_putI dX8_look_48 fwX8_153 (hM 0 _ rfl) rfl ?_
        refine B_sg (show _ = (mput (mTk u (nI (zss T m e)) t (nI (zss T m e)) 0) 60 c) from (mput_wj rfl).trans (congrArg (fun z => mput z 60 c) (mTk_w26 _ _ _ _ _ _))) ?_
        refine A_aload_n dX8_look_51 rfl rfl ?_
        refine B_getV (nI (zss T m e)) dX8_look_52 flX8_147 (hM 0 _ rfl) rfl ((mput_f rfl).trans (mTk_23 _ _ _ _ _)) ?_
        refine A_aload_n dX8_look_55 rfl rfl ?_
        refine B_getV (nI m) dX8_look_56 flX8_144 (hM 0 _ rfl) rfl (((mput_f rfl).trans (mTk_o (by decide))).trans hm) ?_
        refine A_icmp_ne (tgt := 70) dX8_look_59 rfl (fun h_2 => ?_) (fun h_2 => ?_)
        · skip
          have hlt : ¬ m ≤ zss T m e := fun q => h_2 (congrArg nI (show zss T m e = m by omega))
          refine A_aload_n dX8_look_70 rfl rfl ?_
          refine B_getR (r := 75) dX8_look_71 flX8_31 (hM 0 _ rfl) rfl ?_
          refine A_aload_n dX8_look_74 rfl rfl ?_
          refine B_getV (nI (zss T m e)) dX8_look_75 flX8_147 (hM 0 _ rfl) rfl ((mput_f rfl).trans (mTk_23 _ _ _ _ _)) ?_
          refine B_ialdV (i := (zss T m e)) (T (zss T m e)) dX8_look_78 (hM 15 _ rfl) (by decide) (rfl) (by omega) ((congrFun ((mput_ne (by decide) (by decide)).trans ((mTk_ne (by decide)).trans hT)) _)) ?_
          refine A_callS (n := 0) dX8_look_79 ksX8_isLetter mlX8_159 rfl (c_X8_isLetter l G d sh (mput (mTk u (nI (zss T m e)) t (nI (zss T m e)) 0) 60 c) la (T (zss T m e))) (by omega) (Nat.le_refl _) (Nat.le_refl _) rfl (Nat.le_of_ble_eq_true rfl) (fun r S1 hp => ?_)
          obtain ⟨rfl, rfl⟩ := hp
          show AW l G mX8_look (d + 1) (az_F G Post) 0 0 82 [some (.ref 60)] [.int (b2i (zcr T 97 122 (zss T m e) = true))] (sh, (mput (mTk u (nI (zss T m e)) t (nI (zss T m e)) 0) 60 c), la)
          refine A_if_eq (tgt := 129) dX8_look_82 rfl (fun h_3 => ?_) (fun h_3 => ?_)
          · skip
            have h_3' := b2i_0.mp h_3
            have hL0 : ¬ zss T m e < zsl T m e := by have q : zsl T m e = zss T m e := zrun_f hs2 (Bool.eq_false_iff.mpr h_3'); omega
            refine A_aload_n dX8_look_129 rfl rfl ?_
            refine B_getR (r := 75) dX8_look_130 flX8_31 (hM 0 _ rfl) rfl ?_
            refine A_aload_n dX8_look_133 rfl rfl ?_
            refine B_getV (nI (zss T m e)) dX8_look_134 flX8_147 (hM 0 _ rfl) rfl ((mput_f rfl).trans (mTk_23 _ _ _ _ _)) ?_
            refine B_ialdV (i := (zss T m e)) (T (zss T m e)) dX8_look_137 (hM 15 _ rfl) (by decide) (rfl) (by omega) ((congrFun ((mput_ne (by decide) (by decide)).trans ((mTk_ne (by decide)).trans hT)) _)) ?_
            refine A_callS (n := 0) dX8_look_138 ksX8_isDigit mlX8_163 rfl (c_X8_isDigit l G d sh (mput (mTk u (nI (zss T m e)) t (nI (zss T m e)) 0) 60 c) la (T (zss T m e))) (by omega) (Nat.le_refl _) (Nat.le_refl _) rfl (Nat.le_of_ble_eq_true rfl) (fun r S1 hp => ?_)
            obtain ⟨rfl, rfl⟩ := hp
            show AW l G mX8_look (d + 1) (az_F G Post) 0 0 141 [some (.ref 60)] [.int (b2i (zcr T 48 57 (zss T m e) = true))] (sh, (mput (mTk u (nI (zss T m e)) t (nI (zss T m e)) 0) 60 c), la)
            refine A_if_eq (tgt := 231) dX8_look_141 rfl (fun h_4 => ?_) (fun h_4 => ?_)
            · skip
              have h_4' := b2i_0.mp h_4
              have hD0 : ¬ zss T m e < zsd T m e := by have q : zsd T m e = zss T m e := zrun_f hs2 (Bool.eq_false_iff.mpr h_4'); omega
              refine A_aload_n dX8_look_231 rfl rfl ?_
              refine A_aload_n dX8_look_232 rfl rfl ?_
              refine B_getR (r := 75) dX8_look_233 flX8_31 (hM 0 _ rfl) rfl ?_
              refine A_aload_n dX8_look_236 rfl rfl ?_
              refine B_getV (nI (zss T m e)) dX8_look_237 flX8_147 (hM 0 _ rfl) rfl ((mput_f rfl).trans (mTk_23 _ _ _ _ _)) ?_
              refine B_ialdV (i := (zss T m e)) (T (zss T m e)) dX8_look_240 (hM 15 _ rfl) (by decide) (rfl) (by omega) ((congrFun ((mput_ne (by decide) (by decide)).trans ((mTk_ne (by decide)).trans hT)) _)) ?_
              refine A_bipush (v := 59) dX8_look_241 (by decide) ?_
              refine A_icmp_ne (tgt := 250) dX8_look_243 rfl (fun h_5 => ?_) (fun h_5 => ?_)
              · skip
                refine A_iconst (v := 4) dX8_look_250 (by decide) ?_
                refine B_putI dX8_look_251 fwX8_156 (hM 0 _ rfl) rfl ?_
                refine B_sg (show _ = (mput (mTk u (nI (zss T m e)) 4 (nI (zss T m e)) 0) 60 c) from (mput_wj rfl).trans (congrArg (fun z => mput z 60 c) (mTk_w24 _ _ _ _ _ _))) ?_
                refine A_aload_n dX8_look_254 rfl rfl ?_
                refine A_dup dX8_look_255 rfl ?_
                refine B_getV (nI (zss T m e)) dX8_look_256 flX8_147 (hM 0 _ rfl) rfl ((mput_f rfl).trans (mTk_23 _ _ _ _ _)) ?_
                refine A_iconst (v := 1) dX8_look_259 (by decide) ?_
                refine A_iadd dX8_look_260 ?_
                refine B_putI dX8_look_261 fwX8_147 (hM 0 _ rfl) rfl ?_
                refine B_sg (show _ = (mput (mTk u (nI (zss T m e) + 1) 4 (nI (zss T m e)) 0) 60 c) from (mput_wj rfl).trans (congrArg (fun z => mput z 60 c) (mTk_w23 _ _ _ _ _ _))) ?_
                refine B_sg (congrArg (fun z => mput (mTk u z 4 (nI (zss T m e)) 0) 60 c) (nI_1 (zss T m e))) ?_
                exact A_vret dX8_look_264 rfl (az_pv hP ((by have hz := (zst3_3 hlt hL0 hD0).trans (by rw [if_neg h_5]); unfold znx zfg; rw [hz, if_neg (show ¬ (4 : Int32) = 2 by decide)])))
              · skip
                refine A_iconst (v := 3) dX8_look_246 (by decide) ?_
                refine A_goto (tgt := 251) dX8_look_247 rfl ?_
                refine B_putI dX8_look_251 fwX8_156 (hM 0 _ rfl) rfl ?_
                refine B_sg (show _ = (mput (mTk u (nI (zss T m e)) 3 (nI (zss T m e)) 0) 60 c) from (mput_wj rfl).trans (congrArg (fun z => mput z 60 c) (mTk_w24 _ _ _ _ _ _))) ?_
                refine A_aload_n dX8_look_254 rfl rfl ?_
                refine A_dup dX8_look_255 rfl ?_
                refine B_getV (nI (zss T m e)) dX8_look_256 flX8_147 (hM 0 _ rfl) rfl ((mput_f rfl).trans (mTk_23 _ _ _ _ _)) ?_
                refine A_iconst (v := 1) dX8_look_259 (by decide) ?_
                refine A_iadd dX8_look_260 ?_
                refine B_putI dX8_look_261 fwX8_147 (hM 0 _ rfl) rfl ?_
                refine B_sg (show _ = (mput (mTk u (nI (zss T m e) + 1) 3 (nI (zss T m e)) 0) 60 c) from (mput_wj rfl).trans (congrArg (fun z => mput z 60 c) (mTk_w23 _ _ _ _ _ _))) ?_
                refine B_sg (congrArg (fun z => mput (mTk u z 3 (nI (zss T m e)) 0) 60 c) (nI_1 (zss T m e))) ?_
                exact A_vret dX8_look_264 rfl (az_pv hP ((by have hz := (zst3_3 hlt hL0 hD0).trans (by rw [if_pos h_5]); unfold znx zfg; rw [hz, if_neg (show ¬ (3 : Int32) = 2 by decide)])))
            · skip
              have h_4' := b2i_n.mp h_4
              have hD1 : zss T m e < zsd T m e := zrun_t (by omega) h_4'
              refine A_aload_n dX8_look_144 rfl rfl ?_
              refine A_iconst (v := 2) dX8_look_145 (by decide) ?_
              refine B_putI dX8_look_146 fwX8_156 (hM 0 _ rfl) rfl ?_
              refine B_sg (show _ = (mput (mTk u (nI (zss T m e)) 2 (nI (zss T m e)) 0) 60 c) from (mput_wj rfl).trans (congrArg (fun z => mput z 60 c) (mTk_w24 _ _ _ _ _ _))) ?_
              obtain ⟨hl1, hl2, hl3, hl4⟩ := zrun_facts (zcr T 48 57) hs2
              have hsd : zsd T m e = zrun (zcr T 48 57) m (zss T m e) := rfl
              rw [← hsd] at hl1 hl2 hl3 hl4
              refine B_sg (congrArg (fun z => mput (mTk u (nI (zss T m e)) 2 (nI (zss T m e)) z) 60 c) (show (0 : Int32) = zfk T (zss T m e) ((zss T m e) - (zss T m e)) by rw [Nat.sub_self]; rfl)) ?_
              have loop2 : ∀ (q_j9 j9 : Nat), j9 + q_j9 = (zsd T m e) → (zss T m e) ≤ j9 → AW l G mX8_look (d + 1) (az_F G Post) 0 0 149 [some (.ref 60)] [] (sh, (mput (mTk u (nI j9) 2 (nI (zss T m e)) (zfk T (zss T m e) (j9 - (zss T m e)))) 60 c), la) := by
                intro q_j9
                induction q_j9 with
                | zero =>
                  intro j9  hi_j9 hej 
                  have hN_j9 : j9 = (zsd T m e) := by omega
                  subst j9
                  refine A_aload_n dX8_look_149 rfl rfl ?_
                  refine B_getV (nI (zsd T m e)) dX8_look_150 flX8_147 (hM 0 _ rfl) rfl ((mput_f rfl).trans (mTk_23 _ _ _ _ _)) ?_
                  refine A_aload_n dX8_look_153 rfl rfl ?_
                  refine B_getV (nI m) dX8_look_154 flX8_144 (hM 0 _ rfl) rfl (((mput_f rfl).trans (mTk_o (by decide))).trans hm) ?_
                  refine A_icmp_ge (tgt := 264) dX8_look_157 rfl (fun h_6 => ?_) (fun h_6 => ?_)
                  · skip
                    exact A_vret dX8_look_264 rfl (az_pv hP ((by have hz := zst3_2 hlt hL0 hD1; unfold znx zfg; rw [hz]; rw [if_pos rfl])))
                  · skip
                    refine A_aload_n dX8_look_160 rfl rfl ?_
                    refine B_getR (r := 75) dX8_look_161 flX8_31 (hM 0 _ rfl) rfl ?_
                    refine A_aload_n dX8_look_164 rfl rfl ?_
                    refine B_getV (nI (zsd T m e)) dX8_look_165 flX8_147 (hM 0 _ rfl) rfl ((mput_f rfl).trans (mTk_23 _ _ _ _ _)) ?_
                    refine B_ialdV (i := (zsd T m e)) (T (zsd T m e)) dX8_look_168 (hM 15 _ rfl) (by decide) (rfl) (by have := (nI_ltI (by omega) (by omega)).mp (Int32.not_le.mp h_6); omega) ((congrFun ((mput_ne (by decide) (by decide)).trans ((mTk_ne (by decide)).trans hT)) _)) ?_
                    refine A_callS (n := 0) dX8_look_169 ksX8_isDigit mlX8_163 rfl (c_X8_isDigit l G d sh (mput (mTk u (nI (zsd T m e)) 2 (nI (zss T m e)) (zfk T (zss T m e) ((zsd T m e) - (zss T m e)))) 60 c) la (T (zsd T m e))) (by omega) (Nat.le_refl _) (Nat.le_refl _) rfl (Nat.le_of_ble_eq_true rfl) (fun r S1 hp => ?_)
                    obtain ⟨rfl, rfl⟩ := hp
                    show AW l G mX8_look (d + 1) (az_F G Post) 0 0 172 [some (.ref 60)] [.int (b2i (zcr T 48 57 (zsd T m e) = true))] (sh, (mput (mTk u (nI (zsd T m e)) 2 (nI (zss T m e)) (zfk T (zss T m e) ((zsd T m e) - (zss T m e)))) 60 c), la)
                    refine A_if_eq (tgt := 264) dX8_look_172 rfl (fun h_7 => ?_) (fun h_7 => ?_)
                    · skip
                      have h_7' := b2i_0.mp h_7
                      exact A_vret dX8_look_264 rfl (az_pv hP ((by have hz := zst3_2 hlt hL0 hD1; unfold znx zfg; rw [hz]; rw [if_pos rfl])))
                    · skip
                      have h_7' := b2i_n.mp h_7
                      exact absurd (b2i_n.mp h_7) (by rw [hl4 ((nI_ltI (by omega) (by omega)).mp (Int32.not_le.mp h_6))]; decide)
                | succ q_j9 ih_j9 =>
                  intro j9  hi_j9 hej 
                  refine A_aload_n dX8_look_149 rfl rfl ?_
                  refine B_getV (nI j9) dX8_look_150 flX8_147 (hM 0 _ rfl) rfl ((mput_f rfl).trans (mTk_23 _ _ _ _ _)) ?_
                  refine A_aload_n dX8_look_153 rfl rfl ?_
                  refine B_getV (nI m) dX8_look_154 flX8_144 (hM 0 _ rfl) rfl (((mput_f rfl).trans (mTk_o (by decide))).trans hm) ?_
                  refine A_icmp_ge (tgt := 264) dX8_look_157 rfl (fun h_8 => ?_) (fun h_8 => ?_)
                  · skip
                    exact absurd h_8 (nI_ge (by omega) (by omega))
                  · skip
                    refine A_aload_n dX8_look_160 rfl rfl ?_
                    refine B_getR (r := 75) dX8_look_161 flX8_31 (hM 0 _ rfl) rfl ?_
                    refine A_aload_n dX8_look_164 rfl rfl ?_
                    refine B_getV (nI j9) dX8_look_165 flX8_147 (hM 0 _ rfl) rfl ((mput_f rfl).trans (mTk_23 _ _ _ _ _)) ?_
                    refine B_ialdV (i := j9) (T j9) dX8_look_168 (hM 15 _ rfl) (by decide) (rfl) (by omega) ((congrFun ((mput_ne (by decide) (by decide)).trans ((mTk_ne (by decide)).trans hT)) _)) ?_
                    refine A_callS (n := 0) dX8_look_169 ksX8_isDigit mlX8_163 rfl (c_X8_isDigit l G d sh (mput (mTk u (nI j9) 2 (nI (zss T m e)) (zfk T (zss T m e) (j9 - (zss T m e)))) 60 c) la (T j9)) (by omega) (Nat.le_refl _) (Nat.le_refl _) rfl (Nat.le_of_ble_eq_true rfl) (fun r S1 hp => ?_)
                    obtain ⟨rfl, rfl⟩ := hp
                    show AW l G mX8_look (d + 1) (az_F G Post) 0 0 172 [some (.ref 60)] [.int (b2i (zcr T 48 57 j9 = true))] (sh, (mput (mTk u (nI j9) 2 (nI (zss T m e)) (zfk T (zss T m e) (j9 - (zss T m e)))) 60 c), la)
                    refine A_if_eq (tgt := 264) dX8_look_172 rfl (fun h_9 => ?_) (fun h_9 => ?_)
                    · skip
                      have h_9' := b2i_0.mp h_9
                      exact absurd (hl3 j9 hej (by omega)) (b2i_0.mp h_9)
                    · skip
                      have h_9' := b2i_n.mp h_9
                      refine A_aload_n dX8_look_175 rfl rfl ?_
                      refine A_aload_n dX8_look_176 rfl rfl ?_
                      refine B_getV (nI j9) dX8_look_177 flX8_147 (hM 0 _ rfl) rfl ((mput_f rfl).trans (mTk_23 _ _ _ _ _)) ?_
                      refine A_aload_n dX8_look_180 rfl rfl ?_
                      refine B_getV (nI (zss T m e)) dX8_look_181 flX8_150 (hM 0 _ rfl) rfl ((mput_f rfl).trans (mTk_25 _ _ _ _ _)) ?_
                      refine A_isub dX8_look_184 ?_
                      refine A_iconst (v := 3) dX8_look_185 (by decide) ?_
                      refine A_icmp_ge (tgt := 212) dX8_look_186 rfl (fun h_10 => ?_) (fun h_10 => ?_)
                      · skip
                        refine A_sipush (v := 1000) dX8_look_212 (by decide) ?_
                        refine B_putI dX8_look_215 fwX8_153 (hM 0 _ rfl) rfl ?_
                        refine B_sg (show _ = (mput (mTk u (nI j9) 2 (nI (zss T m e)) 1000) 60 c) from (mput_wj rfl).trans (congrArg (fun z => mput z 60 c) (mTk_w26 _ _ _ _ _ _))) ?_
                        refine B_sg (show _ = mput (mTk u (nI j9) 2 (nI (zss T m e)) (zfk T (zss T m e) (j9 + 1 - (zss T m e)))) 60 c from congrArg (fun z => mput (mTk u (nI j9) 2 (nI (zss T m e)) z) 60 c) ((zfk_t (fun q => absurd h_10 (by rw [nI_sub (by omega) (by omega)]; exact nI_ge (b := 3) q (by decide)))).trans (congrArg (zfk T (zss T m e)) (show j9 - (zss T m e) + 1 = j9 + 1 - (zss T m e) by omega)))) ?_
                        refine A_aload_n dX8_look_218 rfl rfl ?_
                        refine A_dup dX8_look_219 rfl ?_
                        refine B_getV (nI j9) dX8_look_220 flX8_147 (hM 0 _ rfl) rfl ((mput_f rfl).trans (mTk_23 _ _ _ _ _)) ?_
                        refine A_iconst (v := 1) dX8_look_223 (by decide) ?_
                        refine A_iadd dX8_look_224 ?_
                        refine B_putI dX8_look_225 fwX8_147 (hM 0 _ rfl) rfl ?_
                        refine B_sg (show _ = (mput (mTk u (nI j9 + 1) 2 (nI (zss T m e)) (zfk T (zss T m e) (j9 + 1 - (zss T m e)))) 60 c) from (mput_wj rfl).trans (congrArg (fun z => mput z 60 c) (mTk_w23 _ _ _ _ _ _))) ?_
                        refine B_sg (congrArg (fun z => mput (mTk u z 2 (nI (zss T m e)) (zfk T (zss T m e) (j9 + 1 - (zss T m e)))) 60 c) (nI_1 j9)) ?_
                        refine A_goto (tgt := 149) dX8_look_228 rfl ?_
                        refine ih_j9 (j9 + 1) (by omega) (by omega)
                      · skip
                        refine A_aload_n dX8_look_189 rfl rfl ?_
                        refine B_getV (zfk T (zss T m e) (j9 - (zss T m e))) dX8_look_190 flX8_153 (hM 0 _ rfl) rfl ((mput_f rfl).trans (mTk_26 _ _ _ _ _)) ?_
                        refine A_bipush (v := 10) dX8_look_193 (by decide) ?_
                        refine A_imul dX8_look_195 ?_
                        refine A_aload_n dX8_look_196 rfl rfl ?_
                        refine B_getR (r := 75) dX8_look_197 flX8_31 (hM 0 _ rfl) rfl ?_
                        refine A_aload_n dX8_look_200 rfl rfl ?_
                        refine B_getV (nI j9) dX8_look_201 flX8_147 (hM 0 _ rfl) rfl ((mput_f rfl).trans (mTk_23 _ _ _ _ _)) ?_
                        refine B_ialdV (i := j9) (T j9) dX8_look_204 (hM 15 _ rfl) (by decide) (rfl) (by omega) ((congrFun ((mput_ne (by decide) (by decide)).trans ((mTk_ne (by decide)).trans hT)) _)) ?_
                        refine A_iadd dX8_look_205 ?_
                        refine A_bipush (v := 48) dX8_look_206 (by decide) ?_
                        refine A_isub dX8_look_208 ?_
                        refine A_goto (tgt := 215) dX8_look_209 rfl ?_
                        refine B_putI dX8_look_215 fwX8_153 (hM 0 _ rfl) rfl ?_
                        refine B_sg (show _ = (mput (mTk u (nI j9) 2 (nI (zss T m e)) (((zfk T (zss T m e) (j9 - (zss T m e)) * 10) + T j9) - 48)) 60 c) from (mput_wj rfl).trans (congrArg (fun z => mput z 60 c) (mTk_w26 _ _ _ _ _ _))) ?_
                        refine B_sg (show _ = mput (mTk u (nI j9) 2 (nI (zss T m e)) (zfk T (zss T m e) (j9 + 1 - (zss T m e)))) 60 c from congrArg (fun z => mput (mTk u (nI j9) 2 (nI (zss T m e)) z) 60 c) (((congrArg (fun z => zfk T (zss T m e) (j9 - (zss T m e)) * 10 + T z - 48) (show j9 = (zss T m e) + (j9 - (zss T m e)) by omega)).trans (zfk_s ((nI_ltI (b := 3) (by omega) (by decide)).mp (by rw [← nI_sub (by omega) (by omega)]; exact Int32.not_le.mp h_10)))).trans (congrArg (zfk T (zss T m e)) (show j9 - (zss T m e) + 1 = j9 + 1 - (zss T m e) by omega)))) ?_
                        refine A_aload_n dX8_look_218 rfl rfl ?_
                        refine A_dup dX8_look_219 rfl ?_
                        refine B_getV (nI j9) dX8_look_220 flX8_147 (hM 0 _ rfl) rfl ((mput_f rfl).trans (mTk_23 _ _ _ _ _)) ?_
                        refine A_iconst (v := 1) dX8_look_223 (by decide) ?_
                        refine A_iadd dX8_look_224 ?_
                        refine B_putI dX8_look_225 fwX8_147 (hM 0 _ rfl) rfl ?_
                        refine B_sg (show _ = (mput (mTk u (nI j9 + 1) 2 (nI (zss T m e)) (zfk T (zss T m e) (j9 + 1 - (zss T m e)))) 60 c) from (mput_wj rfl).trans (congrArg (fun z => mput z 60 c) (mTk_w23 _ _ _ _ _ _))) ?_
                        refine B_sg (congrArg (fun z => mput (mTk u z 2 (nI (zss T m e)) (zfk T (zss T m e) (j9 + 1 - (zss T m e)))) 60 c) (nI_1 j9)) ?_
                        refine A_goto (tgt := 149) dX8_look_228 rfl ?_
                        refine ih_j9 (j9 + 1) (by omega) (by omega)
              exact loop2 (((zsd T m e)) - ((zss T m e))) (zss T m e) (by omega) (Nat.le_refl _)
          · skip
            have h_3' := b2i_n.mp h_3
            have hL1 : zss T m e < zsl T m e := zrun_t (by omega) h_3'
            refine A_aload_n dX8_look_85 rfl rfl ?_
            refine A_iconst (v := 1) dX8_look_86 (by decide) ?_
            refine B_putI dX8_look_87 fwX8_156 (hM 0 _ rfl) rfl ?_
            refine B_sg (show _ = (mput (mTk u (nI (zss T m e)) 1 (nI (zss T m e)) 0) 60 c) from (mput_wj rfl).trans (congrArg (fun z => mput z 60 c) (mTk_w24 _ _ _ _ _ _))) ?_
            obtain ⟨hl1, hl2, hl3, hl4⟩ := zrun_facts (zcr T 97 122) hs2
            have hsl : zsl T m e = zrun (zcr T 97 122) m (zss T m e) := rfl
            rw [← hsl] at hl1 hl2 hl3 hl4
            have loop2 : ∀ (q_j9 j9 : Nat), j9 + q_j9 = (zsl T m e) → (zss T m e) ≤ j9 → AW l G mX8_look (d + 1) (az_F G Post) 0 0 90 [some (.ref 60)] [] (sh, (mput (mTk u (nI j9) 1 (nI (zss T m e)) 0) 60 c), la) := by
              intro q_j9
              induction q_j9 with
              | zero =>
                intro j9  hi_j9 hej 
                have hN_j9 : j9 = (zsl T m e) := by omega
                subst j9
                refine A_aload_n dX8_look_90 rfl rfl ?_
                refine B_getV (nI (zsl T m e)) dX8_look_91 flX8_147 (hM 0 _ rfl) rfl ((mput_f rfl).trans (mTk_23 _ _ _ _ _)) ?_
                refine A_aload_n dX8_look_94 rfl rfl ?_
                refine B_getV (nI m) dX8_look_95 flX8_144 (hM 0 _ rfl) rfl (((mput_f rfl).trans (mTk_o (by decide))).trans hm) ?_
                refine A_icmp_ge (tgt := 264) dX8_look_98 rfl (fun h_11 => ?_) (fun h_11 => ?_)
                · skip
                  exact A_vret dX8_look_264 rfl (az_pv hP ((by have hz := zst3_1 hlt hL1; unfold znx zfg; rw [hz]; rw [if_neg (show ¬ (1 : Int32) = 2 by decide)])))
                · skip
                  refine A_aload_n dX8_look_101 rfl rfl ?_
                  refine B_getR (r := 75) dX8_look_102 flX8_31 (hM 0 _ rfl) rfl ?_
                  refine A_aload_n dX8_look_105 rfl rfl ?_
                  refine B_getV (nI (zsl T m e)) dX8_look_106 flX8_147 (hM 0 _ rfl) rfl ((mput_f rfl).trans (mTk_23 _ _ _ _ _)) ?_
                  refine B_ialdV (i := (zsl T m e)) (T (zsl T m e)) dX8_look_109 (hM 15 _ rfl) (by decide) (rfl) (by have := (nI_ltI (by omega) (by omega)).mp (Int32.not_le.mp h_11); omega) ((congrFun ((mput_ne (by decide) (by decide)).trans ((mTk_ne (by decide)).trans hT)) _)) ?_
                  refine A_callS (n := 0) dX8_look_110 ksX8_isLetter mlX8_159 rfl (c_X8_isLetter l G d sh (mput (mTk u (nI (zsl T m e)) 1 (nI (zss T m e)) 0) 60 c) la (T (zsl T m e))) (by omega) (Nat.le_refl _) (Nat.le_refl _) rfl (Nat.le_of_ble_eq_true rfl) (fun r S1 hp => ?_)
                  obtain ⟨rfl, rfl⟩ := hp
                  show AW l G mX8_look (d + 1) (az_F G Post) 0 0 113 [some (.ref 60)] [.int (b2i (zcr T 97 122 (zsl T m e) = true))] (sh, (mput (mTk u (nI (zsl T m e)) 1 (nI (zss T m e)) 0) 60 c), la)
                  refine A_if_eq (tgt := 264) dX8_look_113 rfl (fun h_12 => ?_) (fun h_12 => ?_)
                  · skip
                    have h_12' := b2i_0.mp h_12
                    exact A_vret dX8_look_264 rfl (az_pv hP ((by have hz := zst3_1 hlt hL1; unfold znx zfg; rw [hz]; rw [if_neg (show ¬ (1 : Int32) = 2 by decide)])))
                  · skip
                    have h_12' := b2i_n.mp h_12
                    exact absurd (b2i_n.mp h_12) (by rw [hl4 ((nI_ltI (by omega) (by omega)).mp (Int32.not_le.mp h_11))]; decide)
              | succ q_j9 ih_j9 =>
                intro j9  hi_j9 hej 
                refine A_aload_n dX8_look_90 rfl rfl ?_
                refine B_getV (nI j9) dX8_look_91 flX8_147 (hM 0 _ rfl) rfl ((mput_f rfl).trans (mTk_23 _ _ _ _ _)) ?_
                refine A_aload_n dX8_look_94 rfl rfl ?_
                refine B_getV (nI m) dX8_look_95 flX8_144 (hM 0 _ rfl) rfl (((mput_f rfl).trans (mTk_o (by decide))).trans hm) ?_
                refine A_icmp_ge (tgt := 264) dX8_look_98 rfl (fun h_13 => ?_) (fun h_13 => ?_)
                · skip
                  exact absurd h_13 (nI_ge (by omega) (by omega))
                · skip
                  refine A_aload_n dX8_look_101 rfl rfl ?_
                  refine B_getR (r := 75) dX8_look_102 flX8_31 (hM 0 _ rfl) rfl ?_
                  refine A_aload_n dX8_look_105 rfl rfl ?_
                  refine B_getV (nI j9) dX8_look_106 flX8_147 (hM 0 _ rfl) rfl ((mput_f rfl).trans (mTk_23 _ _ _ _ _)) ?_
                  refine B_ialdV (i := j9) (T j9) dX8_look_109 (hM 15 _ rfl) (by decide) (rfl) (by omega) ((congrFun ((mput_ne (by decide) (by decide)).trans ((mTk_ne (by decide)).trans hT)) _)) ?_
                  refine A_callS (n := 0) dX8_look_110 ksX8_isLetter mlX8_159 rfl (c_X8_isLetter l G d sh (mput (mTk u (nI j9) 1 (nI (zss T m e)) 0) 60 c) la (T j9)) (by omega) (Nat.le_refl _) (Nat.le_refl _) rfl (Nat.le_of_ble_eq_true rfl) (fun r S1 hp => ?_)
                  obtain ⟨rfl, rfl⟩ := hp
                  show AW l G mX8_look (d + 1) (az_F G Post) 0 0 113 [some (.ref 60)] [.int (b2i (zcr T 97 122 j9 = true))] (sh, (mput (mTk u (nI j9) 1 (nI (zss T m e)) 0) 60 c), la)
                  refine A_if_eq (tgt := 264) dX8_look_113 rfl (fun h_14 => ?_) (fun h_14 => ?_)
                  · skip
                    have h_14' := b2i_0.mp h_14
                    exact absurd (hl3 j9 hej (by omega)) (b2i_0.mp h_14)
                  · skip
                    have h_14' := b2i_n.mp h_14
                    refine A_aload_n dX8_look_116 rfl rfl ?_
                    refine A_dup dX8_look_117 rfl ?_
                    refine B_getV (nI j9) dX8_look_118 flX8_147 (hM 0 _ rfl) rfl ((mput_f rfl).trans (mTk_23 _ _ _ _ _)) ?_
                    refine A_iconst (v := 1) dX8_look_121 (by decide) ?_
                    refine A_iadd dX8_look_122 ?_
                    refine B_putI dX8_look_123 fwX8_147 (hM 0 _ rfl) rfl ?_
                    refine B_sg (show _ = (mput (mTk u (nI j9 + 1) 1 (nI (zss T m e)) 0) 60 c) from (mput_wj rfl).trans (congrArg (fun z => mput z 60 c) (mTk_w23 _ _ _ _ _ _))) ?_
                    refine B_sg (congrArg (fun z => mput (mTk u z 1 (nI (zss T m e)) 0) 60 c) (nI_1 j9)) ?_
                    refine A_goto (tgt := 90) dX8_look_126 rfl ?_
                    refine ih_j9 (j9 + 1) (by omega) (by omega)
            exact loop2 (((zsl T m e)) - ((zss T m e))) (zss T m e) (by omega) (Nat.le_refl _)
        · skip
          refine A_aload_n dX8_look_62 rfl rfl ?_
          refine A_iconst (v := 0) dX8_look_63 (by decide) ?_
          refine B_putI dX8_look_64 fwX8_156 (hM 0 _ rfl) rfl ?_
          refine B_sg (show _ = (mput (mTk u (nI (zss T m e)) 0 (nI (zss T m e)) 0) 60 c) from (mput_wj rfl).trans (congrArg (fun z => mput z 60 c) (mTk_w24 _ _ _ _ _ _))) ?_
          refine A_goto (tgt := 264) dX8_look_67 rfl ?_
          exact A_vret dX8_look_264 rfl (az_pv hP ((by have hz := zst3_0 (T := T) (m := m) (e := e) (by have := (nI_eq (by omega) (by omega)).mp h_2; omega); unfold znx zfg; rw [hz]; rw [if_neg (show ¬ (0 : Int32) = 2 by decide)])))
      · skip
        refine A_aload_n dX8_look_11 rfl rfl ?_
        refine B_getR (r := 75) dX8_look_12 flX8_31 (hM 0 _ rfl) rfl ?_
        refine A_aload_n dX8_look_15 rfl rfl ?_
        refine B_getV (nI (zss T m e)) dX8_look_16 flX8_147 (hM 0 _ rfl) rfl ((mput_f rfl).trans (mTk_23 _ _ _ _ _)) ?_
        refine B_ialdV (i := (zss T m e)) (T (zss T m e)) dX8_look_19 (hM 15 _ rfl) (by decide) (rfl) (by have := (nI_ltI (by omega) (by omega)).mp (Int32.not_le.mp h_1); omega) ((congrFun ((mput_ne (by decide) (by decide)).trans ((mTk_ne (by decide)).trans hT)) _)) ?_
        refine A_bipush (v := 32) dX8_look_20 (by decide) ?_
        refine A_icmp_ne (tgt := 38) dX8_look_22 rfl (fun h_15 => ?_) (fun h_15 => ?_)
        · skip
          refine A_aload_n dX8_look_38 rfl rfl ?_
          refine A_aload_n dX8_look_39 rfl rfl ?_
          refine B_getV (nI (zss T m e)) dX8_look_40 flX8_147 (hM 0 _ rfl) rfl ((mput_f rfl).trans (mTk_23 _ _ _ _ _)) ?_
          refine B_putI dX8_look_43 fwX8_150 (hM 0 _ rfl) rfl ?_
          refine B_sg (show _ = (mput (mTk u (nI (zss T m e)) t (nI (zss T m e)) g) 60 c) from (mput_wj rfl).trans (congrArg (fun z => mput z 60 c) (mTk_w25 _ _ _ _ _ _))) ?_
          refine A_aload_n dX8_look_46 rfl rfl ?_
          refine A_iconst (v := 0) dX8_look_47 (by decide) ?_
          refine B_putI dX8_look_48 fwX8_153 (hM 0 _ rfl) rfl ?_
          refine B_sg (show _ = (mput (mTk u (nI (zss T m e)) t (nI (zss T m e)) 0) 60 c) from (mput_wj rfl).trans (congrArg (fun z => mput z 60 c) (mTk_w26 _ _ _ _ _ _))) ?_
          refine A_aload_n dX8_look_51 rfl rfl ?_
          refine B_getV (nI (zss T m e)) dX8_look_52 flX8_147 (hM 0 _ rfl) rfl ((mput_f rfl).trans (mTk_23 _ _ _ _ _)) ?_
          refine A_aload_n dX8_look_55 rfl rfl ?_
          refine B_getV (nI m) dX8_look_56 flX8_144 (hM 0 _ rfl) rfl (((mput_f rfl).trans (mTk_o (by decide))).trans hm) ?_
          refine A_icmp_ne (tgt := 70) dX8_look_59 rfl (fun h_16 => ?_) (fun h_16 => ?_)
          · skip
            have hlt : ¬ m ≤ zss T m e := fun q => h_16 (congrArg nI (show zss T m e = m by omega))
            refine A_aload_n dX8_look_70 rfl rfl ?_
            refine B_getR (r := 75) dX8_look_71 flX8_31 (hM 0 _ rfl) rfl ?_
            refine A_aload_n dX8_look_74 rfl rfl ?_
            refine B_getV (nI (zss T m e)) dX8_look_75 flX8_147 (hM 0 _ rfl) rfl ((mput_f rfl).trans (mTk_23 _ _ _ _ _)) ?_
            refine B_ialdV (i := (zss T m e)) (T (zss T m e)) dX8_look_78 (hM 15 _ rfl) (by decide) (rfl) (by omega) ((congrFun ((mput_ne (by decide) (by decide)).trans ((mTk_ne (by decide)).trans hT)) _)) ?_
            refine A_callS (n := 0) dX8_look_79 ksX8_isLetter mlX8_159 rfl (c_X8_isLetter l G d sh (mput (mTk u (nI (zss T m e)) t (nI (zss T m e)) 0) 60 c) la (T (zss T m e))) (by omega) (Nat.le_refl _) (Nat.le_refl _) rfl (Nat.le_of_ble_eq_true rfl) (fun r S1 hp => ?_)
            obtain ⟨rfl, rfl⟩ := hp
            show AW l G mX8_look (d + 1) (az_F G Post) 0 0 82 [some (.ref 60)] [.int (b2i (zcr T 97 122 (zss T m e) = true))] (sh, (mput (mTk u (nI (zss T m e)) t (nI (zss T m e)) 0) 60 c), la)
            refine A_if_eq (tgt := 129) dX8_look_82 rfl (fun h_17 => ?_) (fun h_17 => ?_)
            · skip
              have h_17' := b2i_0.mp h_17
              have hL0 : ¬ zss T m e < zsl T m e := by have q : zsl T m e = zss T m e := zrun_f hs2 (Bool.eq_false_iff.mpr h_17'); omega
              refine A_aload_n dX8_look_129 rfl rfl ?_
              refine B_getR (r := 75) dX8_look_130 flX8_31 (hM 0 _ rfl) rfl ?_
              refine A_aload_n dX8_look_133 rfl rfl ?_
              refine B_getV (nI (zss T m e)) dX8_look_134 flX8_147 (hM 0 _ rfl) rfl ((mput_f rfl).trans (mTk_23 _ _ _ _ _)) ?_
              refine B_ialdV (i := (zss T m e)) (T (zss T m e)) dX8_look_137 (hM 15 _ rfl) (by decide) (rfl) (by omega) ((congrFun ((mput_ne (by decide) (by decide)).trans ((mTk_ne (by decide)).trans hT)) _)) ?_
              refine A_callS (n := 0) dX8_look_138 ksX8_isDigit mlX8_163 rfl (c_X8_isDigit l G d sh (mput (mTk u (nI (zss T m e)) t (nI (zss T m e)) 0) 60 c) la (T (zss T m e))) (by omega) (Nat.le_refl _) (Nat.le_refl _) rfl (Nat.le_of_ble_eq_true rfl) (fun r S1 hp => ?_)
              obtain ⟨rfl, rfl⟩ := hp
              show AW l G mX8_look (d + 1) (az_F G Post) 0 0 141 [some (.ref 60)] [.int (b2i (zcr T 48 57 (zss T m e) = true))] (sh, (mput (mTk u (nI (zss T m e)) t (nI (zss T m e)) 0) 60 c), la)
              refine A_if_eq (tgt := 231) dX8_look_141 rfl (fun h_18 => ?_) (fun h_18 => ?_)
              · skip
                have h_18' := b2i_0.mp h_18
                have hD0 : ¬ zss T m e < zsd T m e := by have q : zsd T m e = zss T m e := zrun_f hs2 (Bool.eq_false_iff.mpr h_18'); omega
                refine A_aload_n dX8_look_231 rfl rfl ?_
                refine A_aload_n dX8_look_232 rfl rfl ?_
                refine B_getR (r := 75) dX8_look_233 flX8_31 (hM 0 _ rfl) rfl ?_
                refine A_aload_n dX8_look_236 rfl rfl ?_
                refine B_getV (nI (zss T m e)) dX8_look_237 flX8_147 (hM 0 _ rfl) rfl ((mput_f rfl).trans (mTk_23 _ _ _ _ _)) ?_
                refine B_ialdV (i := (zss T m e)) (T (zss T m e)) dX8_look_240 (hM 15 _ rfl) (by decide) (rfl) (by omega) ((congrFun ((mput_ne (by decide) (by decide)).trans ((mTk_ne (by decide)).trans hT)) _)) ?_
                refine A_bipush (v := 59) dX8_look_241 (by decide) ?_
                refine A_icmp_ne (tgt := 250) dX8_look_243 rfl (fun h_19 => ?_) (fun h_19 => ?_)
                · skip
                  refine A_iconst (v := 4) dX8_look_250 (by decide) ?_
                  refine B_putI dX8_look_251 fwX8_156 (hM 0 _ rfl) rfl ?_
                  refine B_sg (show _ = (mput (mTk u (nI (zss T m e)) 4 (nI (zss T m e)) 0) 60 c) from (mput_wj rfl).trans (congrArg (fun z => mput z 60 c) (mTk_w24 _ _ _ _ _ _))) ?_
                  refine A_aload_n dX8_look_254 rfl rfl ?_
                  refine A_dup dX8_look_255 rfl ?_
                  refine B_getV (nI (zss T m e)) dX8_look_256 flX8_147 (hM 0 _ rfl) rfl ((mput_f rfl).trans (mTk_23 _ _ _ _ _)) ?_
                  refine A_iconst (v := 1) dX8_look_259 (by decide) ?_
                  refine A_iadd dX8_look_260 ?_
                  refine B_putI dX8_look_261 fwX8_147 (hM 0 _ rfl) rfl ?_
                  refine B_sg (show _ = (mput (mTk u (nI (zss T m e) + 1) 4 (nI (zss T m e)) 0) 60 c) from (mput_wj rfl).trans (congrArg (fun z => mput z 60 c) (mTk_w23 _ _ _ _ _ _))) ?_
                  refine B_sg (congrArg (fun z => mput (mTk u z 4 (nI (zss T m e)) 0) 60 c) (nI_1 (zss T m e))) ?_
                  exact A_vret dX8_look_264 rfl (az_pv hP ((by have hz := (zst3_3 hlt hL0 hD0).trans (by rw [if_neg h_19]); unfold znx zfg; rw [hz, if_neg (show ¬ (4 : Int32) = 2 by decide)])))
                · skip
                  refine A_iconst (v := 3) dX8_look_246 (by decide) ?_
                  refine A_goto (tgt := 251) dX8_look_247 rfl ?_
                  refine B_putI dX8_look_251 fwX8_156 (hM 0 _ rfl) rfl ?_
                  refine B_sg (show _ = (mput (mTk u (nI (zss T m e)) 3 (nI (zss T m e)) 0) 60 c) from (mput_wj rfl).trans (congrArg (fun z => mput z 60 c) (mTk_w24 _ _ _ _ _ _))) ?_
                  refine A_aload_n dX8_look_254 rfl rfl ?_
                  refine A_dup dX8_look_255 rfl ?_
                  refine B_getV (nI (zss T m e)) dX8_look_256 flX8_147 (hM 0 _ rfl) rfl ((mput_f rfl).trans (mTk_23 _ _ _ _ _)) ?_
                  refine A_iconst (v := 1) dX8_look_259 (by decide) ?_
                  refine A_iadd dX8_look_260 ?_
                  refine B_putI dX8_look_261 fwX8_147 (hM 0 _ rfl) rfl ?_
                  refine B_sg (show _ = (mput (mTk u (nI (zss T m e) + 1) 3 (nI (zss T m e)) 0) 60 c) from (mput_wj rfl).trans (congrArg (fun z => mput z 60 c) (mTk_w23 _ _ _ _ _ _))) ?_
                  refine B_sg (congrArg (fun z => mput (mTk u z 3 (nI (zss T m e)) 0) 60 c) (nI_1 (zss T m e))) ?_
                  exact A_vret dX8_look_264 rfl (az_pv hP ((by have hz := (zst3_3 hlt hL0 hD0).trans (by rw [if_pos h_19]); unfold znx zfg; rw [hz, if_neg (show ¬ (3 : Int32) = 2 by decide)])))
              · skip
                have h_18' := b2i_n.mp h_18
                have hD1 : zss T m e < zsd T m e := zrun_t (by omega) h_18'
                refine A_aload_n dX8_look_144 rfl rfl ?_
                refine A_iconst (v := 2) dX8_look_145 (by decide) ?_
                refine B_putI dX8_look_146 fwX8_156 (hM 0 _ rfl) rfl ?_
                refine B_sg (show _ = (mput (mTk u (nI (zss T m e)) 2 (nI (zss T m e)) 0) 60 c) from (mput_wj rfl).trans (congrArg (fun z => mput z 60 c) (mTk_w24 _ _ _ _ _ _))) ?_
                obtain ⟨hl1, hl2, hl3, hl4⟩ := zrun_facts (zcr T 48 57) hs2
                have hsd : zsd T m e = zrun (zcr T 48 57) m (zss T m e) := rfl
                rw [← hsd] at hl1 hl2 hl3 hl4
                refine B_sg (congrArg (fun z => mput (mTk u (nI (zss T m e)) 2 (nI (zss T m e)) z) 60 c) (show (0 : Int32) = zfk T (zss T m e) ((zss T m e) - (zss T m e)) by rw [Nat.sub_self]; rfl)) ?_
                have loop2 : ∀ (q_j9 j9 : Nat), j9 + q_j9 = (zsd T m e) → (zss T m e) ≤ j9 → AW l G mX8_look (d + 1) (az_F G Post) 0 0 149 [some (.ref 60)] [] (sh, (mput (mTk u (nI j9) 2 (nI (zss T m e)) (zfk T (zss T m e) (j9 - (zss T m e)))) 60 c), la) := by
                  intro q_j9
                  induction q_j9 with
                  | zero =>
                    intro j9  hi_j9 hej 
                    have hN_j9 : j9 = (zsd T m e) := by omega
                    subst j9
                    refine A_aload_n dX8_look_149 rfl rfl ?_
                    refine B_getV (nI (zsd T m e)) dX8_look_150 flX8_147 (hM 0 _ rfl) rfl ((mput_f rfl).trans (mTk_23 _ _ _ _ _)) ?_
                    refine A_aload_n dX8_look_153 rfl rfl ?_
                    refine B_getV (nI m) dX8_look_154 flX8_144 (hM 0 _ rfl) rfl (((mput_f rfl).trans (mTk_o (by decide))).trans hm) ?_
                    refine A_icmp_ge (tgt := 264) dX8_look_157 rfl (fun h_20 => ?_) (fun h_20 => ?_)
                    · skip
                      exact A_vret dX8_look_264 rfl (az_pv hP ((by have hz := zst3_2 hlt hL0 hD1; unfold znx zfg; rw [hz]; rw [if_pos rfl])))
                    · skip
                      refine A_aload_n dX8_look_160 rfl rfl ?_
                      refine B_getR (r := 75) dX8_look_161 flX8_31 (hM 0 _ rfl) rfl ?_
                      refine A_aload_n dX8_look_164 rfl rfl ?_
                      refine B_getV (nI (zsd T m e)) dX8_look_165 flX8_147 (hM 0 _ rfl) rfl ((mput_f rfl).trans (mTk_23 _ _ _ _ _)) ?_
                      refine B_ialdV (i := (zsd T m e)) (T (zsd T m e)) dX8_look_168 (hM 15 _ rfl) (by decide) (rfl) (by have := (nI_ltI (by omega) (by omega)).mp (Int32.not_le.mp h_20); omega) ((congrFun ((mput_ne (by decide) (by decide)).trans ((mTk_ne (by decide)).trans hT)) _)) ?_
                      refine A_callS (n := 0) dX8_look_169 ksX8_isDigit mlX8_163 rfl (c_X8_isDigit l G d sh (mput (mTk u (nI (zsd T m e)) 2 (nI (zss T m e)) (zfk T (zss T m e) ((zsd T m e) - (zss T m e)))) 60 c) la (T (zsd T m e))) (by omega) (Nat.le_refl _) (Nat.le_refl _) rfl (Nat.le_of_ble_eq_true rfl) (fun r S1 hp => ?_)
                      obtain ⟨rfl, rfl⟩ := hp
                      show AW l G mX8_look (d + 1) (az_F G Post) 0 0 172 [some (.ref 60)] [.int (b2i (zcr T 48 57 (zsd T m e) = true))] (sh, (mput (mTk u (nI (zsd T m e)) 2 (nI (zss T m e)) (zfk T (zss T m e) ((zsd T m e) - (zss T m e)))) 60 c), la)
                      refine A_if_eq (tgt := 264) dX8_look_172 rfl (fun h_21 => ?_) (fun h_21 => ?_)
                      · skip
                        have h_21' := b2i_0.mp h_21
                        exact A_vret dX8_look_264 rfl (az_pv hP ((by have hz := zst3_2 hlt hL0 hD1; unfold znx zfg; rw [hz]; rw [if_pos rfl])))
                      · skip
                        have h_21' := b2i_n.mp h_21
                        exact absurd (b2i_n.mp h_21) (by rw [hl4 ((nI_ltI (by omega) (by omega)).mp (Int32.not_le.mp h_20))]; decide)
                  | succ q_j9 ih_j9 =>
                    intro j9  hi_j9 hej 
                    refine A_aload_n dX8_look_149 rfl rfl ?_
                    refine B_getV (nI j9) dX8_look_150 flX8_147 (hM 0 _ rfl) rfl ((mput_f rfl).trans (mTk_23 _ _ _ _ _)) ?_
                    refine A_aload_n dX8_look_153 rfl rfl ?_
                    refine B_getV (nI m) dX8_look_154 flX8_144 (hM 0 _ rfl) rfl (((mput_f rfl).trans (mTk_o (by decide))).trans hm) ?_
                    refine A_icmp_ge (tgt := 264) dX8_look_157 rfl (fun h_22 => ?_) (fun h_22 => ?_)
                    · skip
                      exact absurd h_22 (nI_ge (by omega) (by omega))
                    · skip
                      refine A_aload_n dX8_look_160 rfl rfl ?_
                      refine B_getR (r := 75) dX8_look_161 flX8_31 (hM 0 _ rfl) rfl ?_
                      refine A_aload_n dX8_look_164 rfl rfl ?_
                      refine B_getV (nI j9) dX8_look_165 flX8_147 (hM 0 _ rfl) rfl ((mput_f rfl).trans (mTk_23 _ _ _ _ _)) ?_
                      refine B_ialdV (i := j9) (T j9) dX8_look_168 (hM 15 _ rfl) (by decide) (rfl) (by omega) ((congrFun ((mput_ne (by decide) (by decide)).trans ((mTk_ne (by decide)).trans hT)) _)) ?_
                      refine A_callS (n := 0) dX8_look_169 ksX8_isDigit mlX8_163 rfl (c_X8_isDigit l G d sh (mput (mTk u (nI j9) 2 (nI (zss T m e)) (zfk T (zss T m e) (j9 - (zss T m e)))) 60 c) la (T j9)) (by omega) (Nat.le_refl _) (Nat.le_refl _) rfl (Nat.le_of_ble_eq_true rfl) (fun r S1 hp => ?_)
                      obtain ⟨rfl, rfl⟩ := hp
                      show AW l G mX8_look (d + 1) (az_F G Post) 0 0 172 [some (.ref 60)] [.int (b2i (zcr T 48 57 j9 = true))] (sh, (mput (mTk u (nI j9) 2 (nI (zss T m e)) (zfk T (zss T m e) (j9 - (zss T m e)))) 60 c), la)
                      refine A_if_eq (tgt := 264) dX8_look_172 rfl (fun h_23 => ?_) (fun h_23 => ?_)
                      · skip
                        have h_23' := b2i_0.mp h_23
                        exact absurd (hl3 j9 hej (by omega)) (b2i_0.mp h_23)
                      · skip
                        have h_23' := b2i_n.mp h_23
                        refine A_aload_n dX8_look_175 rfl rfl ?_
                        refine A_aload_n dX8_look_176 rfl rfl ?_
                        refine B_getV (nI j9) dX8_look_177 flX8_147 (hM 0 _ rfl) rfl ((mput_f rfl).trans (mTk_23 _ _ _ _ _)) ?_
                        refine A_aload_n dX8_look_180 rfl rfl ?_
                        refine B_getV (nI (zss T m e)) dX8_look_181 flX8_150 (hM 0 _ rfl) rfl ((mput_f rfl).trans (mTk_25 _ _ _ _ _)) ?_
                        refine A_isub dX8_look_184 ?_
                        refine A_iconst (v := 3) dX8_look_185 (by decide) ?_
                        refine A_icmp_ge (tgt := 212) dX8_look_186 rfl (fun h_24 => ?_) (fun h_24 => ?_)
                        · skip
                          refine A_sipush (v := 1000) dX8_look_212 (by decide) ?_
                          refine B_putI dX8_look_215 fwX8_153 (hM 0 _ rfl) rfl ?_
                          refine B_sg (show _ = (mput (mTk u (nI j9) 2 (nI (zss T m e)) 1000) 60 c) from (mput_wj rfl).trans (congrArg (fun z => mput z 60 c) (mTk_w26 _ _ _ _ _ _))) ?_
                          refine B_sg (show _ = mput (mTk u (nI j9) 2 (nI (zss T m e)) (zfk T (zss T m e) (j9 + 1 - (zss T m e)))) 60 c from congrArg (fun z => mput (mTk u (nI j9) 2 (nI (zss T m e)) z) 60 c) ((zfk_t (fun q => absurd h_24 (by rw [nI_sub (by omega) (by omega)]; exact nI_ge (b := 3) q (by decide)))).trans (congrArg (zfk T (zss T m e)) (show j9 - (zss T m e) + 1 = j9 + 1 - (zss T m e) by omega)))) ?_
                          refine A_aload_n dX8_look_218 rfl rfl ?_
                          refine A_dup dX8_look_219 rfl ?_
                          refine B_getV (nI j9) dX8_look_220 flX8_147 (hM 0 _ rfl) rfl ((mput_f rfl).trans (mTk_23 _ _ _ _ _)) ?_
                          refine A_iconst (v := 1) dX8_look_223 (by decide) ?_
                          refine A_iadd dX8_look_224 ?_
                          refine B_putI dX8_look_225 fwX8_147 (hM 0 _ rfl) rfl ?_
                          refine B_sg (show _ = (mput (mTk u (nI j9 + 1) 2 (nI (zss T m e)) (zfk T (zss T m e) (j9 + 1 - (zss T m e)))) 60 c) from (mput_wj rfl).trans (congrArg (fun z => mput z 60 c) (mTk_w23 _ _ _ _ _ _))) ?_
                          refine B_sg (congrArg (fun z => mput (mTk u z 2 (nI (zss T m e)) (zfk T (zss T m e) (j9 + 1 - (zss T m e)))) 60 c) (nI_1 j9)) ?_
                          refine A_goto (tgt := 149) dX8_look_228 rfl ?_
                          refine ih_j9 (j9 + 1) (by omega) (by omega)
                        · skip
                          refine A_aload_n dX8_look_189 rfl rfl ?_
                          refine B_getV (zfk T (zss T m e) (j9 - (zss T m e))) dX8_look_190 flX8_153 (hM 0 _ rfl) rfl ((mput_f rfl).trans (mTk_26 _ _ _ _ _)) ?_
                          refine A_bipush (v := 10) dX8_look_193 (by decide) ?_
                          refine A_imul dX8_look_195 ?_
                          refine A_aload_n dX8_look_196 rfl rfl ?_
                          refine B_getR (r := 75) dX8_look_197 flX8_31 (hM 0 _ rfl) rfl ?_
                          refine A_aload_n dX8_look_200 rfl rfl ?_
                          refine B_getV (nI j9) dX8_look_201 flX8_147 (hM 0 _ rfl) rfl ((mput_f rfl).trans (mTk_23 _ _ _ _ _)) ?_
                          refine B_ialdV (i := j9) (T j9) dX8_look_204 (hM 15 _ rfl) (by decide) (rfl) (by omega) ((congrFun ((mput_ne (by decide) (by decide)).trans ((mTk_ne (by decide)).trans hT)) _)) ?_
                          refine A_iadd dX8_look_205 ?_
                          refine A_bipush (v := 48) dX8_look_206 (by decide) ?_
                          refine A_isub dX8_look_208 ?_
                          refine A_goto (tgt := 215) dX8_look_209 rfl ?_
                          refine B_putI dX8_look_215 fwX8_153 (hM 0 _ rfl) rfl ?_
                          refine B_sg (show _ = (mput (mTk u (nI j9) 2 (nI (zss T m e)) (((zfk T (zss T m e) (j9 - (zss T m e)) * 10) + T j9) - 48)) 60 c) from (mput_wj rfl).trans (congrArg (fun z => mput z 60 c) (mTk_w26 _ _ _ _ _ _))) ?_
                          refine B_sg (show _ = mput (mTk u (nI j9) 2 (nI (zss T m e)) (zfk T (zss T m e) (j9 + 1 - (zss T m e)))) 60 c from congrArg (fun z => mput (mTk u (nI j9) 2 (nI (zss T m e)) z) 60 c) (((congrArg (fun z => zfk T (zss T m e) (j9 - (zss T m e)) * 10 + T z - 48) (show j9 = (zss T m e) + (j9 - (zss T m e)) by omega)).trans (zfk_s ((nI_ltI (b := 3) (by omega) (by decide)).mp (by rw [← nI_sub (by omega) (by omega)]; exact Int32.not_le.mp h_24)))).trans (congrArg (zfk T (zss T m e)) (show j9 - (zss T m e) + 1 = j9 + 1 - (zss T m e) by omega)))) ?_
                          refine A_aload_n dX8_look_218 rfl rfl ?_
                          refine A_dup dX8_look_219 rfl ?_
                          refine B_getV (nI j9) dX8_look_220 flX8_147 (hM 0 _ rfl) rfl ((mput_f rfl).trans (mTk_23 _ _ _ _ _)) ?_
                          refine A_iconst (v := 1) dX8_look_223 (by decide) ?_
                          refine A_iadd dX8_look_224 ?_
                          refine B_putI dX8_look_225 fwX8_147 (hM 0 _ rfl) rfl ?_
                          refine B_sg (show _ = (mput (mTk u (nI j9 + 1) 2 (nI (zss T m e)) (zfk T (zss T m e) (j9 + 1 - (zss T m e)))) 60 c) from (mput_wj rfl).trans (congrArg (fun z => mput z 60 c) (mTk_w23 _ _ _ _ _ _))) ?_
                          refine B_sg (congrArg (fun z => mput (mTk u z 2 (nI (zss T m e)) (zfk T (zss T m e) (j9 + 1 - (zss T m e)))) 60 c) (nI_1 j9)) ?_
                          refine A_goto (tgt := 149) dX8_look_228 rfl ?_
                          refine ih_j9 (j9 + 1) (by omega) (by omega)
                exact loop2 (((zsd T m e)) - ((zss T m e))) (zss T m e) (by omega) (Nat.le_refl _)
            · skip
              have h_17' := b2i_n.mp h_17
              have hL1 : zss T m e < zsl T m e := zrun_t (by omega) h_17'
              refine A_aload_n dX8_look_85 rfl rfl ?_
              refine A_iconst (v := 1) dX8_look_86 (by decide) ?_
              refine B_putI dX8_look_87 fwX8_156 (hM 0 _ rfl) rfl ?_
              refine B_sg (show _ = (mput (mTk u (nI (zss T m e)) 1 (nI (zss T m e)) 0) 60 c) from (mput_wj rfl).trans (congrArg (fun z => mput z 60 c) (mTk_w24 _ _ _ _ _ _))) ?_
              obtain ⟨hl1, hl2, hl3, hl4⟩ := zrun_facts (zcr T 97 122) hs2
              have hsl : zsl T m e = zrun (zcr T 97 122) m (zss T m e) := rfl
              rw [← hsl] at hl1 hl2 hl3 hl4
              have loop2 : ∀ (q_j9 j9 : Nat), j9 + q_j9 = (zsl T m e) → (zss T m e) ≤ j9 → AW l G mX8_look (d + 1) (az_F G Post) 0 0 90 [some (.ref 60)] [] (sh, (mput (mTk u (nI j9) 1 (nI (zss T m e)) 0) 60 c), la) := by
                intro q_j9
                induction q_j9 with
                | zero =>
                  intro j9  hi_j9 hej 
                  have hN_j9 : j9 = (zsl T m e) := by omega
                  subst j9
                  refine A_aload_n dX8_look_90 rfl rfl ?_
                  refine B_getV (nI (zsl T m e)) dX8_look_91 flX8_147 (hM 0 _ rfl) rfl ((mput_f rfl).trans (mTk_23 _ _ _ _ _)) ?_
                  refine A_aload_n dX8_look_94 rfl rfl ?_
                  refine B_getV (nI m) dX8_look_95 flX8_144 (hM 0 _ rfl) rfl (((mput_f rfl).trans (mTk_o (by decide))).trans hm) ?_
                  refine A_icmp_ge (tgt := 264) dX8_look_98 rfl (fun h_25 => ?_) (fun h_25 => ?_)
                  · skip
                    exact A_vret dX8_look_264 rfl (az_pv hP ((by have hz := zst3_1 hlt hL1; unfold znx zfg; rw [hz]; rw [if_neg (show ¬ (1 : Int32) = 2 by decide)])))
                  · skip
                    refine A_aload_n dX8_look_101 rfl rfl ?_
                    refine B_getR (r := 75) dX8_look_102 flX8_31 (hM 0 _ rfl) rfl ?_
                    refine A_aload_n dX8_look_105 rfl rfl ?_
                    refine B_getV (nI (zsl T m e)) dX8_look_106 flX8_147 (hM 0 _ rfl) rfl ((mput_f rfl).trans (mTk_23 _ _ _ _ _)) ?_
                    refine B_ialdV (i := (zsl T m e)) (T (zsl T m e)) dX8_look_109 (hM 15 _ rfl) (by decide) (rfl) (by have := (nI_ltI (by omega) (by omega)).mp (Int32.not_le.mp h_25); omega) ((congrFun ((mput_ne (by decide) (by decide)).trans ((mTk_ne (by decide)).trans hT)) _)) ?_
                    refine A_callS (n := 0) dX8_look_110 ksX8_isLetter mlX8_159 rfl (c_X8_isLetter l G d sh (mput (mTk u (nI (zsl T m e)) 1 (nI (zss T m e)) 0) 60 c) la (T (zsl T m e))) (by omega) (Nat.le_refl _) (Nat.le_refl _) rfl (Nat.le_of_ble_eq_true rfl) (fun r S1 hp => ?_)
                    obtain ⟨rfl, rfl⟩ := hp
                    show AW l G mX8_look (d + 1) (az_F G Post) 0 0 113 [some (.ref 60)] [.int (b2i (zcr T 97 122 (zsl T m e) = true))] (sh, (mput (mTk u (nI (zsl T m e)) 1 (nI (zss T m e)) 0) 60 c), la)
                    refine A_if_eq (tgt := 264) dX8_look_113 rfl (fun h_26 => ?_) (fun h_26 => ?_)
                    · skip
                      have h_26' := b2i_0.mp h_26
                      exact A_vret dX8_look_264 rfl (az_pv hP ((by have hz := zst3_1 hlt hL1; unfold znx zfg; rw [hz]; rw [if_neg (show ¬ (1 : Int32) = 2 by decide)])))
                    · skip
                      have h_26' := b2i_n.mp h_26
                      exact absurd (b2i_n.mp h_26) (by rw [hl4 ((nI_ltI (by omega) (by omega)).mp (Int32.not_le.mp h_25))]; decide)
                | succ q_j9 ih_j9 =>
                  intro j9  hi_j9 hej 
                  refine A_aload_n dX8_look_90 rfl rfl ?_
                  refine B_getV (nI j9) dX8_look_91 flX8_147 (hM 0 _ rfl) rfl ((mput_f rfl).trans (mTk_23 _ _ _ _ _)) ?_
                  refine A_aload_n dX8_look_94 rfl rfl ?_
                  refine B_getV (nI m) dX8_look_95 flX8_144 (hM 0 _ rfl) rfl (((mput_f rfl).trans (mTk_o (by decide))).trans hm) ?_
                  refine A_icmp_ge (tgt := 264) dX8_look_98 rfl (fun h_27 => ?_) (fun h_27 => ?_)
                  · skip
                    exact absurd h_27 (nI_ge (by omega) (by omega))
                  · skip
                    refine A_aload_n dX8_look_101 rfl rfl ?_
                    refine B_getR (r := 75) dX8_look_102 flX8_31 (hM 0 _ rfl) rfl ?_
                    refine A_aload_n dX8_look_105 rfl rfl ?_
                    refine B_getV (nI j9) dX8_look_106 flX8_147 (hM 0 _ rfl) rfl ((mput_f rfl).trans (mTk_23 _ _ _ _ _)) ?_
                    refine B_ialdV (i := j9) (T j9) dX8_look_109 (hM 15 _ rfl) (by decide) (rfl) (by omega) ((congrFun ((mput_ne (by decide) (by decide)).trans ((mTk_ne (by decide)).trans hT)) _)) ?_
                    refine A_callS (n := 0) dX8_look_110 ksX8_isLetter mlX8_159 rfl (c_X8_isLetter l G d sh (mput (mTk u (nI j9) 1 (nI (zss T m e)) 0) 60 c) la (T j9)) (by omega) (Nat.le_refl _) (Nat.le_refl _) rfl (Nat.le_of_ble_eq_true rfl) (fun r S1 hp => ?_)
                    obtain ⟨rfl, rfl⟩ := hp
                    show AW l G mX8_look (d + 1) (az_F G Post) 0 0 113 [some (.ref 60)] [.int (b2i (zcr T 97 122 j9 = true))] (sh, (mput (mTk u (nI j9) 1 (nI (zss T m e)) 0) 60 c), la)
                    refine A_if_eq (tgt := 264) dX8_look_113 rfl (fun h_28 => ?_) (fun h_28 => ?_)
                    · skip
                      have h_28' := b2i_0.mp h_28
                      exact absurd (hl3 j9 hej (by omega)) (b2i_0.mp h_28)
                    · skip
                      have h_28' := b2i_n.mp h_28
                      refine A_aload_n dX8_look_116 rfl rfl ?_
                      refine A_dup dX8_look_117 rfl ?_
                      refine B_getV (nI j9) dX8_look_118 flX8_147 (hM 0 _ rfl) rfl ((mput_f rfl).trans (mTk_23 _ _ _ _ _)) ?_
                      refine A_iconst (v := 1) dX8_look_121 (by decide) ?_
                      refine A_iadd dX8_look_122 ?_
                      refine B_putI dX8_look_123 fwX8_147 (hM 0 _ rfl) rfl ?_
                      refine B_sg (show _ = (mput (mTk u (nI j9 + 1) 1 (nI (zss T m e)) 0) 60 c) from (mput_wj rfl).trans (congrArg (fun z => mput z 60 c) (mTk_w23 _ _ _ _ _ _))) ?_
                      refine B_sg (congrArg (fun z => mput (mTk u z 1 (nI (zss T m e)) 0) 60 c) (nI_1 j9)) ?_
                      refine A_goto (tgt := 90) dX8_look_126 rfl ?_
                      refine ih_j9 (j9 + 1) (by omega) (by omega)
              exact loop2 (((zsl T m e)) - ((zss T m e))) (zss T m e) (by omega) (Nat.le_refl _)
          · skip
            refine A_aload_n dX8_look_62 rfl rfl ?_
            refine A_iconst (v := 0) dX8_look_63 (by decide) ?_
            refine B_putI dX8_look_64 fwX8_156 (hM 0 _ rfl) rfl ?_
            refine B_sg (show _ = (mput (mTk u (nI (zss T m e)) 0 (nI (zss T m e)) 0) 60 c) from (mput_wj rfl).trans (congrArg (fun z => mput z 60 c) (mTk_w24 _ _ _ _ _ _))) ?_
            refine A_goto (tgt := 264) dX8_look_67 rfl ?_
            exact A_vret dX8_look_264 rfl (az_pv hP ((by have hz := zst3_0 (T := T) (m := m) (e := e) (by have := (nI_eq (by omega) (by omega)).mp h_16; omega); unfold znx zfg; rw [hz]; rw [if_neg (show ¬ (0 : Int32) = 2 by decide)])))
        · skip
          exact absurd (decide_eq_true h_15) (by have q := hs4 ((nI_ltI (by omega) (by omega)).mp (Int32.not_le.mp h_1)); unfold zspc at q; rw [q]; decide)
    | succ q_i9 ih =>
      intro i9  hi_i9 hei 
      refine A_aload_n dX8_look_0 rfl rfl ?_
      refine B_getV (nI i9) dX8_look_1 flX8_147 (hM 0 _ rfl) rfl ((mput_f rfl).trans (mTk_23 _ _ _ _ _)) ?_
      refine A_aload_n dX8_look_4 rfl rfl ?_
      refine B_getV (nI m) dX8_look_5 flX8_144 (hM 0 _ rfl) rfl (((mput_f rfl).trans (mTk_o (by decide))).trans hm) ?_
      refine A_icmp_ge (tgt := 38) dX8_look_8 rfl (fun h_29 => ?_) (fun h_29 => ?_)
      · skip
        exact absurd h_29 (nI_ge (by omega) (by omega))
      · skip
        refine A_aload_n dX8_look_11 rfl rfl ?_
        refine B_getR (r := 75) dX8_look_12 flX8_31 (hM 0 _ rfl) rfl ?_
        refine A_aload_n dX8_look_15 rfl rfl ?_
        refine B_getV (nI i9) dX8_look_16 flX8_147 (hM 0 _ rfl) rfl ((mput_f rfl).trans (mTk_23 _ _ _ _ _)) ?_
        refine B_ialdV (i := i9) (T i9) dX8_look_19 (hM 15 _ rfl) (by decide) (rfl) (by omega) ((congrFun ((mput_ne (by decide) (by decide)).trans ((mTk_ne (by decide)).trans hT)) _)) ?_
        refine A_bipush (v := 32) dX8_look_20 (by decide) ?_
        refine A_icmp_ne (tgt := 38) dX8_look_22 rfl (fun h_30 => ?_) (fun h_30 => ?_)
        · skip
          exact absurd (of_decide_eq_true (hs3 i9 hei (by omega))) h_30
        · skip
          refine A_aload_n dX8_look_25 rfl rfl ?_
          refine A_dup dX8_look_26 rfl ?_
          refine B_getV (nI i9) dX8_look_27 flX8_147 (hM 0 _ rfl) rfl ((mput_f rfl).trans (mTk_23 _ _ _ _ _)) ?_
          refine A_iconst (v := 1) dX8_look_30 (by decide) ?_
          refine A_iadd dX8_look_31 ?_
          refine B_putI dX8_look_32 fwX8_147 (hM 0 _ rfl) rfl ?_
          refine B_sg (show _ = (mput (mTk u (nI i9 + 1) t f g) 60 c) from (mput_wj rfl).trans (congrArg (fun z => mput z 60 c) (mTk_w23 _ _ _ _ _ _))) ?_
          refine B_sg (congrArg (fun z => mput (mTk u z t f g) 60 c) (nI_1 i9)) ?_
          refine A_goto (tgt := 0) dX8_look_35 rfl ?_
          refine ih (i9 + 1) (by omega) (by omega)
  exact loop (((zss T m e)) - (e)) e (by omega) (Nat.le_refl _)
