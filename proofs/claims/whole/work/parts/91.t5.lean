theorem sFe_i0 (c : CT) : sFe c (cFe c) = c := sFe_id c
theorem sBr_i0 (c : CT) : sBr c (cBr c) = c := by simp only [sBr, cPp, cAir, cFall, cDay, cWin, cCoal, cSeed, cLov, cAway, cKd, cAa, cPr, cBr, cFe]
theorem nI_m1 {n : Nat} (h : n ≤ 8) : nI n - 1 ≤ 999 := by
  rw [Int32.le_iff_toInt_le, Int32.toInt_sub, nI_toInt (by omega), show (1 : Int32).toInt = 1 by decide, show (999 : Int32).toInt = 999 by decide, Int.bmod_eq_of_le (by omega) (by omega)]
  omega
set_option maxHeartbeats 1000000 in
set_option maxRecDepth 100000 in
theorem r_tellsOne_F (l : Launch) (G : az_Gh) (d : Nat) (sh : List az_Sh) (u : Nat → Nat → Int32) (la : Nat → Nat → Int64) (kp tr : Option Nat) (c : CT) (T : Nat → Int32) (m e : Nat) (hM : az_at sh 60 (lyM 60 kp tr)) (hT : u 75 = T) (hm : u 60 7 = nI m) (hm2 : m ≤ 250) (he : e ≤ m) (hO : cOk c) (hwb : zwk T m e 2 = false) : AM l G (d + 5) mX8_tellsOne [.ref 60] (sh, (mput (mTk u (nI (znx T m e)) (zst3 T m e).1 (nI (zss T m e)) (zfg T m e)) 60 c), la) 0 0 (fun r1 S1 => r1 = some (.int (b2i ((zpor T m (znx T m e) (cFe c) (cN c) 40).1 = true))) ∧ ∃ v a t f g, sC u v ∧ v 75 = T ∧ v 60 7 = nI m ∧ v 60 29 = u 60 29 ∧ S1 = (sh, mput (mTk v a t f g) 60 (sFe c (zpor T m (znx T m e) (cFe c) (cN c) 40).2.2), la) ∧ ((zpor T m (znx T m e) (cFe c) (cN c) 40).1 = true → mTk v a t f g = mTk v (nI (znx T m (znx T m (zpor T m (znx T m e) (cFe c) (cN c) 40).2.1))) (zst3 T m (znx T m (zpor T m (znx T m e) (cFe c) (cN c) 40).2.1)).1 (nI (zss T m (znx T m (zpor T m (znx T m e) (cFe c) (cN c) 40).2.1))) (zfg T m (znx T m (zpor T m (znx T m e) (cFe c) (cN c) 40).2.1))) ∧ ((zpor T m (znx T m e) (cFe c) (cN c) 40).1 = false → v 60 27 = nI (zss T m (zpor T m (znx T m e) (cFe c) (cN c) 40).2.1))) := by
  refine az_am knX8_tellsOne (Nat.le_of_ble_eq_true rfl) rfl (fun Post hP => ?_)
  show AW l G mX8_tellsOne (d + 5) (az_F G Post) 0 0 0 [some (.ref 60), none, none] [] (sh, (mput (mTk u (nI (znx T m e)) (zst3 T m e).1 (nI (zss T m e)) (zfg T m e)) 60 c), la)
  have h8 := hO.2
  have hN9 : nI (cN c) - 1 ≤ 999 := nI_m1 h8
  refine A_aload_n dX8_tellsOne_0 rfl rfl ?_
  refine A_ldcS (n := 2) dX8_tellsOne_1 (by decide) ?_
  refine A_callV (n := 0) dX8_tellsOne_3 kvX8_isWord mlX8_191 rfl (az_rc_obj clX8 (hM 0 _ rfl)) (r_isWord l G d sh u la kp tr c T m e 2 hM hT hm hm2 he (by decide)) (by omega) (Nat.le_refl _) (Nat.le_refl _) rfl (Nat.le_of_ble_eq_true rfl) (fun r S1 hp => ?_)
  obtain ⟨rfl, rfl⟩ := hp
  show AW l G mX8_tellsOne (d + 5) (az_F G Post) 0 0 6 [some (.ref 60), none, none] [.int (b2i (zwk T m e 2 = true))] (sh, (mput (mTk u (nI (znx T m e)) ((zst3 T m e).1) (nI (zss T m e)) (zfg T m e)) 60 c), la)
  refine B_top (show b2i (zwk T m e 2 = true) = 0 by rw [hwb]; rfl) ?_
  refine A_istore_n (lo2 := [some (.ref 60), some (.int 0), none]) dX8_tellsOne_6 rfl (by decide) rfl ?_
  by_cases hn1 : znum T m (znx T m e) (nI (cN c) - 1) = -1
  · skip
    refine A_aload_n dX8_tellsOne_7 rfl rfl ?_
    refine A_iconst (v := 0) dX8_tellsOne_8 (by decide) ?_
    refine A_aload_n dX8_tellsOne_9 rfl rfl ?_
    refine B_getV (nI (cN c)) dX8_tellsOne_10 flX8_88 (hM 0 _ rfl) rfl ((mr_14 _ _ _).trans hO.1) ?_
    refine A_iconst (v := 1) dX8_tellsOne_13 (by decide) ?_
    refine A_isub dX8_tellsOne_14 ?_
    refine A_callV (n := 0) dX8_tellsOne_15 kvX8_tells mlX8_195 rfl (az_rc_obj clX8 (hM 0 _ rfl)) (r_tells_n l G (d + 1) sh u la kp tr c T m e (nI (cN c) - 1) hM hT hm hm2 he hO hN9 hn1) (by omega) (Nat.le_refl _) (Nat.le_refl _) rfl (Nat.le_of_ble_eq_true rfl) (fun r S1 hp => ?_)
    obtain ⟨rfl, rfl⟩ := hp
    show AW l G mX8_tellsOne (d + 5) (az_F G Post) 0 0 18 [some (.ref 60), some (.int 0), none] [.int 0] (sh, (mput (mTk (az_w u 60 27 (nI (zss T m (znx T m e)))) (nI (znx T m (znx T m e))) ((zst3 T m (znx T m e)).1) (nI (zss T m (znx T m e))) (zfg T m (znx T m e))) 60 c), la)
    refine A_if_eq (tgt := 45) dX8_tellsOne_18 rfl (fun h_1 => ?_) (fun h_1 => ?_)
    · skip
      refine A_iconst (v := 0) dX8_tellsOne_45 (by decide) ?_
      refine A_istore_n (lo2 := [some (.ref 60), some (.int 0), some (.int 0)]) dX8_tellsOne_46 rfl (by decide) rfl ?_
      refine A_iload_n dX8_tellsOne_47 rfl rfl ?_
      refine A_if_eq (tgt := 75) dX8_tellsOne_48 rfl (fun h_2 => ?_) (fun h_2 => ?_)
      · skip
        refine A_iload_n dX8_tellsOne_75 rfl rfl ?_
        refine A_if_eq (tgt := 96) dX8_tellsOne_76 rfl (fun h_3 => ?_) (fun h_3 => ?_)
        · skip
          refine A_iload_n dX8_tellsOne_96 rfl rfl ?_
          have hz := zpor_1 (f := cFe c) (N := cN c) (most := 40) hn1
          refine A_zret dX8_tellsOne_97 rfl (rfl) (hP _ _ ⟨by rw [hz]; rfl, (az_w u 60 27 (nI (zss T m (znx T m e)))), (nI (znx T m (znx T m e))), ((zst3 T m (znx T m e)).1), (nI (zss T m (znx T m e))), (zfg T m (znx T m e)), ((sC.rf u).w (j := 27) rfl _), ((az_w_ne (by decide)).trans hT), ((az_w_nj (by decide)).trans hm), by rw [az_w_nj (by decide)], ?_, (fun q => by rw [hz] at q; cases q), (fun _ => by rw [hz]; exact az_w_at _ _ _ _)⟩)
          rw [hz]
          show _ = (sh, mput _ 60 (sFe c (cFe c)), la)
          rw [sFe_i0]
        · skip
          exact absurd (by decide) h_3
      · skip
        exact absurd (by decide) h_2
    · skip
      exact absurd (by decide) h_1
  · skip
    obtain ⟨v_hn1, hv_hn1, e_hn1, hl_hn1⟩ := znum_rng ((znx_le he)) hn1
    refine A_aload_n dX8_tellsOne_7 rfl rfl ?_
    refine A_iconst (v := 0) dX8_tellsOne_8 (by decide) ?_
    refine A_aload_n dX8_tellsOne_9 rfl rfl ?_
    refine B_getV (nI (cN c)) dX8_tellsOne_10 flX8_88 (hM 0 _ rfl) rfl ((mr_14 _ _ _).trans hO.1) ?_
    refine A_iconst (v := 1) dX8_tellsOne_13 (by decide) ?_
    refine A_isub dX8_tellsOne_14 ?_
    refine A_callV (n := 0) dX8_tellsOne_15 kvX8_tells mlX8_195 rfl (az_rc_obj clX8 (hM 0 _ rfl)) (r_tells_y l G (d + 1) sh u la kp tr c T m e (nI (cN c) - 1) hM hT hm hm2 he hO hN9 hn1) (by omega) (Nat.le_refl _) (Nat.le_refl _) rfl (Nat.le_of_ble_eq_true rfl) (fun r S1 hp => ?_)
    obtain ⟨rfl, rfl⟩ := hp
    show AW l G mX8_tellsOne (d + 5) (az_F G Post) 0 0 18 [some (.ref 60), some (.int 0), none] [.int 1] (sh, (mput (mTk (az_w u 82 0 (znum T m (znx T m e) (nI (cN c) - 1))) (nI (znx T m (znx T m (znx T m e)))) ((zst3 T m (znx T m (znx T m e))).1) (nI (zss T m (znx T m (znx T m e)))) (zfg T m (znx T m (znx T m e)))) 60 c), la)
    refine A_if_eq (tgt := 45) dX8_tellsOne_18 rfl (fun h_4 => ?_) (fun h_4 => ?_)
    · skip
      exact absurd h_4 (by decide)
    · skip
      by_cases hn2 : znum T m (znx T m (znx T m e)) 40 = -1
      · skip
        refine A_aload_n dX8_tellsOne_21 rfl rfl ?_
        refine A_iconst (v := 1) dX8_tellsOne_22 (by decide) ?_
        refine A_iconst (v := 0) dX8_tellsOne_23 (by decide) ?_
        refine A_iload_n dX8_tellsOne_24 rfl rfl ?_
        refine A_if_eq (tgt := 33) dX8_tellsOne_25 rfl (fun h_5 => ?_) (fun h_5 => ?_)
        · skip
          refine A_bipush (v := 40) dX8_tellsOne_33 (by decide) ?_
          refine A_callV (n := 0) dX8_tellsOne_35 kvX8_number mlX8_186 rfl (az_rc_obj clX8 (hM 0 _ rfl)) (r_number_n l G (d + 2) sh (az_w u 82 0 (znum T m (znx T m e) (nI (cN c) - 1))) la kp tr c T m (znx T m (znx T m e)) 1 40 hM ((az_w_ne (by decide)).trans hT) ((congrFun (az_w_ne (by decide)) 7).trans hm) hm2 (znx_le (znx_le he)) hO (by decide) (by decide) hn2) (by omega) (Nat.le_refl _) (Nat.le_refl _) rfl (Nat.le_of_ble_eq_true rfl) (fun r S1 hp => ?_)
          obtain ⟨rfl, rfl⟩ := hp
          show AW l G mX8_tellsOne (d + 5) (az_F G Post) 0 0 38 [some (.ref 60), some (.int 0), none] [.int 0] (sh, (mput (mTk (az_w (az_w u 82 0 (znum T m (znx T m e) (nI (cN c) - 1))) 60 27 (nI (zss T m (znx T m (znx T m e))))) (nI (znx T m (znx T m (znx T m e)))) ((zst3 T m (znx T m (znx T m e))).1) (nI (zss T m (znx T m (znx T m e)))) (zfg T m (znx T m (znx T m e)))) 60 c), la)
          refine A_if_eq (tgt := 45) dX8_tellsOne_38 rfl (fun h_6 => ?_) (fun h_6 => ?_)
          · skip
            refine A_iconst (v := 0) dX8_tellsOne_45 (by decide) ?_
            refine A_istore_n (lo2 := [some (.ref 60), some (.int 0), some (.int 0)]) dX8_tellsOne_46 rfl (by decide) rfl ?_
            refine A_iload_n dX8_tellsOne_47 rfl rfl ?_
            refine A_if_eq (tgt := 75) dX8_tellsOne_48 rfl (fun h_7 => ?_) (fun h_7 => ?_)
            · skip
              refine A_iload_n dX8_tellsOne_75 rfl rfl ?_
              refine A_if_eq (tgt := 96) dX8_tellsOne_76 rfl (fun h_8 => ?_) (fun h_8 => ?_)
              · skip
                refine A_iload_n dX8_tellsOne_96 rfl rfl ?_
                have hz := zpor_2 (f := cFe c) (N := cN c) (most := 40) hn1 hn2
                refine A_zret dX8_tellsOne_97 rfl (rfl) (hP _ _ ⟨by rw [hz]; rfl, (az_w (az_w u 82 0 (znum T m (znx T m e) (nI (cN c) - 1))) 60 27 (nI (zss T m (znx T m (znx T m e))))), (nI (znx T m (znx T m (znx T m e)))), ((zst3 T m (znx T m (znx T m e))).1), (nI (zss T m (znx T m (znx T m e)))), (zfg T m (znx T m (znx T m e))), (((sC.rf u).wk (by decide) _ _).w (j := 27) rfl _), ((az_w_ne (by decide)).trans ((az_w_ne (by decide)).trans hT)), ((az_w_nj (by decide)).trans ((congrFun (az_w_ne (by decide)) 7).trans hm)), by rw [az_w_nj (by decide), az_w_ne (by decide)], ?_, (fun q => by rw [hz] at q; cases q), (fun _ => by rw [hz]; exact az_w_at _ _ _ _)⟩)
                rw [hz]
                show _ = (sh, mput _ 60 (sFe c (cFe c)), la)
                rw [sFe_i0]
              · skip
                exact absurd (by decide) h_8
            · skip
              exact absurd (by decide) h_7
          · skip
            exact absurd (by decide) h_6
        · skip
          exact absurd (by decide) h_5
      · skip
        obtain ⟨v_hn2, hv_hn2, e_hn2, hl_hn2⟩ := znum_rng ((znx_le (znx_le he))) hn2
        refine A_aload_n dX8_tellsOne_21 rfl rfl ?_
        refine A_iconst (v := 1) dX8_tellsOne_22 (by decide) ?_
        refine A_iconst (v := 0) dX8_tellsOne_23 (by decide) ?_
        refine A_iload_n dX8_tellsOne_24 rfl rfl ?_
        refine A_if_eq (tgt := 33) dX8_tellsOne_25 rfl (fun h_9 => ?_) (fun h_9 => ?_)
        · skip
          refine A_bipush (v := 40) dX8_tellsOne_33 (by decide) ?_
          refine A_callV (n := 0) dX8_tellsOne_35 kvX8_number mlX8_186 rfl (az_rc_obj clX8 (hM 0 _ rfl)) (r_number_y l G (d + 2) sh (az_w u 82 0 (znum T m (znx T m e) (nI (cN c) - 1))) la kp tr c T m (znx T m (znx T m e)) 1 40 hM ((az_w_ne (by decide)).trans hT) ((congrFun (az_w_ne (by decide)) 7).trans hm) hm2 (znx_le (znx_le he)) hO (by decide) (by decide) hn2) (by omega) (Nat.le_refl _) (Nat.le_refl _) rfl (Nat.le_of_ble_eq_true rfl) (fun r S1 hp => ?_)
          obtain ⟨rfl, rfl⟩ := hp
          show AW l G mX8_tellsOne (d + 5) (az_F G Post) 0 0 38 [some (.ref 60), some (.int 0), none] [.int 1] (sh, (mput (mTk (az_w (az_w u 82 0 (znum T m (znx T m e) (nI (cN c) - 1))) 82 1 (znum T m (znx T m (znx T m e)) 40)) (nI (znx T m (znx T m (znx T m (znx T m e))))) ((zst3 T m (znx T m (znx T m (znx T m e)))).1) (nI (zss T m (znx T m (znx T m (znx T m e))))) (zfg T m (znx T m (znx T m (znx T m e))))) 60 c), la)
          refine A_if_eq (tgt := 45) dX8_tellsOne_38 rfl (fun h_10 => ?_) (fun h_10 => ?_)
          · skip
            exact absurd h_10 (by decide)
          · skip
            refine A_iconst (v := 1) dX8_tellsOne_41 (by decide) ?_
            refine A_goto (tgt := 46) dX8_tellsOne_42 rfl ?_
            refine A_istore_n (lo2 := [some (.ref 60), some (.int 0), some (.int 1)]) dX8_tellsOne_46 rfl (by decide) rfl ?_
            refine A_iload_n dX8_tellsOne_47 rfl rfl ?_
            refine A_if_eq (tgt := 75) dX8_tellsOne_48 rfl (fun h_11 => ?_) (fun h_11 => ?_)
            · skip
              exact absurd h_11 (by decide)
            · skip
              refine A_iload_n dX8_tellsOne_51 rfl rfl ?_
              refine A_if_eq (tgt := 75) dX8_tellsOne_52 rfl (fun h_12 => ?_) (fun h_12 => ?_)
              · skip
                refine A_iload_n dX8_tellsOne_75 rfl rfl ?_
                refine A_if_eq (tgt := 96) dX8_tellsOne_76 rfl (fun h_13 => ?_) (fun h_13 => ?_)
                · skip
                  exact absurd h_13 (by decide)
                · skip
                  refine A_aload_n dX8_tellsOne_79 rfl rfl ?_
                  refine B_getR (r := 81) dX8_tellsOne_80 flX8_62 (hM 0 _ rfl) rfl ?_
                  refine A_aload_n dX8_tellsOne_83 rfl rfl ?_
                  refine B_getR (r := 82) dX8_tellsOne_84 flX8_68 (hM 0 _ rfl) rfl ?_
                  refine A_iconst (v := 0) dX8_tellsOne_87 (by decide) ?_
                  refine B_ialdV (i := 0) (znum T m (znx T m e) (nI (cN c) - 1)) dX8_tellsOne_88 (hM 22 _ rfl) (by decide) (rfl) (by decide) ((congrFun ((mput_ne (by decide) (by decide)).trans (mTk_ne (by decide))) _).trans (by rw [az_w_nj (by decide), az_w_at])) ?_
                  refine A_aload_n dX8_tellsOne_89 rfl rfl ?_
                  refine B_getR (r := 82) dX8_tellsOne_90 flX8_68 (hM 0 _ rfl) rfl ?_
                  refine A_iconst (v := 1) dX8_tellsOne_93 (by decide) ?_
                  refine B_ialdV (i := 1) (znum T m (znx T m (znx T m e)) 40) dX8_tellsOne_94 (hM 22 _ rfl) (by decide) (rfl) (by decide) ((congrFun ((mput_ne (by decide) (by decide)).trans (mTk_ne (by decide))) _).trans (by rw [az_w_at])) ?_
                  refine B_iast (i := v_hn1) dX8_tellsOne_95 (hM 21 _ rfl) (by decide) (e_hn1) (by have := znum_N h8 hv_hn1 hl_hn1; omega) ?_
                  refine B_sg (show _ = (mput (mTk (az_w (az_w u 82 0 (znum T m (znx T m e) (nI (cN c) - 1))) 82 1 (znum T m (znx T m (znx T m e)) 40)) (nI (znx T m (znx T m (znx T m (znx T m e))))) ((zst3 T m (znx T m (znx T m (znx T m e)))).1) (nI (zss T m (znx T m (znx T m (znx T m e))))) (zfg T m (znx T m (znx T m (znx T m e))))) 60 (sFe c (va_up (cFe c) v_hn1 (znum T m (znx T m (znx T m e)) 40)))) from mx_21 _ _ _ _ _) ?_
                  refine A_iload_n dX8_tellsOne_96 rfl rfl ?_
                  have hz := zpor_3 (f := cFe c) (N := cN c) (most := 40) hn1 hn2 e_hn1 hv_hn1
                  refine A_zret dX8_tellsOne_97 rfl (rfl) (hP _ _ ⟨by rw [hz]; rfl, (az_w (az_w u 82 0 (znum T m (znx T m e) (nI (cN c) - 1))) 82 1 (znum T m (znx T m (znx T m e)) 40)), (nI (znx T m (znx T m (znx T m (znx T m e))))), ((zst3 T m (znx T m (znx T m (znx T m e)))).1), (nI (zss T m (znx T m (znx T m (znx T m e))))), (zfg T m (znx T m (znx T m (znx T m e)))), (((sC.rf u).wk (by decide) _ _).wk (by decide) _ _), ((az_w_ne (by decide)).trans ((az_w_ne (by decide)).trans hT)), ((congrFun (az_w_ne (by decide)) 7).trans ((congrFun (az_w_ne (by decide)) 7).trans hm)), by rw [az_w_ne (by decide), az_w_ne (by decide)], ?_, (fun _ => by rw [hz]), (fun q => by rw [hz] at q; cases q)⟩)
                  rw [hz]
              · skip
                exact absurd (by decide) h_12
        · skip
          exact absurd (by decide) h_9
set_option maxHeartbeats 1000000 in
set_option maxRecDepth 100000 in
theorem r_tellsOne_B (l : Launch) (G : az_Gh) (d : Nat) (sh : List az_Sh) (u : Nat → Nat → Int32) (la : Nat → Nat → Int64) (kp tr : Option Nat) (c : CT) (T : Nat → Int32) (m e : Nat) (hM : az_at sh 60 (lyM 60 kp tr)) (hT : u 75 = T) (hm : u 60 7 = nI m) (hm2 : m ≤ 250) (he : e ≤ m) (hO : cOk c) (hwb : zwk T m e 2 = true) : AM l G (d + 5) mX8_tellsOne [.ref 60] (sh, (mput (mTk u (nI (znx T m e)) (zst3 T m e).1 (nI (zss T m e)) (zfg T m e)) 60 c), la) 0 0 (fun r1 S1 => r1 = some (.int (b2i ((zpor T m (znx T m e) (cBr c) (cN c) 9).1 = true))) ∧ ∃ v a t f g, sC u v ∧ v 75 = T ∧ v 60 7 = nI m ∧ v 60 29 = u 60 29 ∧ S1 = (sh, mput (mTk v a t f g) 60 (sBr c (zpor T m (znx T m e) (cBr c) (cN c) 9).2.2), la) ∧ ((zpor T m (znx T m e) (cBr c) (cN c) 9).1 = true → mTk v a t f g = mTk v (nI (znx T m (znx T m (zpor T m (znx T m e) (cBr c) (cN c) 9).2.1))) (zst3 T m (znx T m (zpor T m (znx T m e) (cBr c) (cN c) 9).2.1)).1 (nI (zss T m (znx T m (zpor T m (znx T m e) (cBr c) (cN c) 9).2.1))) (zfg T m (znx T m (zpor T m (znx T m e) (cBr c) (cN c) 9).2.1))) ∧ ((zpor T m (znx T m e) (cBr c) (cN c) 9).1 = false → v 60 27 = nI (zss T m (zpor T m (znx T m e) (cBr c) (cN c) 9).2.1))) := by
  refine az_am knX8_tellsOne (Nat.le_of_ble_eq_true rfl) rfl (fun Post hP => ?_)
  show AW l G mX8_tellsOne (d + 5) (az_F G Post) 0 0 0 [some (.ref 60), none, none] [] (sh, (mput (mTk u (nI (znx T m e)) (zst3 T m e).1 (nI (zss T m e)) (zfg T m e)) 60 c), la)
  have h8 := hO.2
  have hN9 : nI (cN c) - 1 ≤ 999 := nI_m1 h8
  refine A_aload_n dX8_tellsOne_0 rfl rfl ?_
  refine A_ldcS (n := 2) dX8_tellsOne_1 (by decide) ?_
  refine A_callV (n := 0) dX8_tellsOne_3 kvX8_isWord mlX8_191 rfl (az_rc_obj clX8 (hM 0 _ rfl)) (r_isWord l G d sh u la kp tr c T m e 2 hM hT hm hm2 he (by decide)) (by omega) (Nat.le_refl _) (Nat.le_refl _) rfl (Nat.le_of_ble_eq_true rfl) (fun r S1 hp => ?_)
  obtain ⟨rfl, rfl⟩ := hp
  show AW l G mX8_tellsOne (d + 5) (az_F G Post) 0 0 6 [some (.ref 60), none, none] [.int (b2i (zwk T m e 2 = true))] (sh, (mput (mTk u (nI (znx T m e)) ((zst3 T m e).1) (nI (zss T m e)) (zfg T m e)) 60 c), la)
  refine B_top (show b2i (zwk T m e 2 = true) = 1 by rw [hwb]; rfl) ?_
  refine A_istore_n (lo2 := [some (.ref 60), some (.int 1), none]) dX8_tellsOne_6 rfl (by decide) rfl ?_
  by_cases hn1 : znum T m (znx T m e) (nI (cN c) - 1) = -1
  · skip
    refine A_aload_n dX8_tellsOne_7 rfl rfl ?_
    refine A_iconst (v := 0) dX8_tellsOne_8 (by decide) ?_
    refine A_aload_n dX8_tellsOne_9 rfl rfl ?_
    refine B_getV (nI (cN c)) dX8_tellsOne_10 flX8_88 (hM 0 _ rfl) rfl ((mr_14 _ _ _).trans hO.1) ?_
    refine A_iconst (v := 1) dX8_tellsOne_13 (by decide) ?_
    refine A_isub dX8_tellsOne_14 ?_
    refine A_callV (n := 0) dX8_tellsOne_15 kvX8_tells mlX8_195 rfl (az_rc_obj clX8 (hM 0 _ rfl)) (r_tells_n l G (d + 1) sh u la kp tr c T m e (nI (cN c) - 1) hM hT hm hm2 he hO hN9 hn1) (by omega) (Nat.le_refl _) (Nat.le_refl _) rfl (Nat.le_of_ble_eq_true rfl) (fun r S1 hp => ?_)
    obtain ⟨rfl, rfl⟩ := hp
    show AW l G mX8_tellsOne (d + 5) (az_F G Post) 0 0 18 [some (.ref 60), some (.int 1), none] [.int 0] (sh, (mput (mTk (az_w u 60 27 (nI (zss T m (znx T m e)))) (nI (znx T m (znx T m e))) ((zst3 T m (znx T m e)).1) (nI (zss T m (znx T m e))) (zfg T m (znx T m e))) 60 c), la)
    refine A_if_eq (tgt := 45) dX8_tellsOne_18 rfl (fun h_1 => ?_) (fun h_1 => ?_)
    · skip
      refine A_iconst (v := 0) dX8_tellsOne_45 (by decide) ?_
      refine A_istore_n (lo2 := [some (.ref 60), some (.int 1), some (.int 0)]) dX8_tellsOne_46 rfl (by decide) rfl ?_
      refine A_iload_n dX8_tellsOne_47 rfl rfl ?_
      refine A_if_eq (tgt := 75) dX8_tellsOne_48 rfl (fun h_2 => ?_) (fun h_2 => ?_)
      · skip
        refine A_iload_n dX8_tellsOne_75 rfl rfl ?_
        refine A_if_eq (tgt := 96) dX8_tellsOne_76 rfl (fun h_3 => ?_) (fun h_3 => ?_)
        · skip
          refine A_iload_n dX8_tellsOne_96 rfl rfl ?_
          have hz := zpor_1 (f := cBr c) (N := cN c) (most := 9) hn1
          refine A_zret dX8_tellsOne_97 rfl (rfl) (hP _ _ ⟨by rw [hz]; rfl, (az_w u 60 27 (nI (zss T m (znx T m e)))), (nI (znx T m (znx T m e))), ((zst3 T m (znx T m e)).1), (nI (zss T m (znx T m e))), (zfg T m (znx T m e)), ((sC.rf u).w (j := 27) rfl _), ((az_w_ne (by decide)).trans hT), ((az_w_nj (by decide)).trans hm), by rw [az_w_nj (by decide)], ?_, (fun q => by rw [hz] at q; cases q), (fun _ => by rw [hz]; exact az_w_at _ _ _ _)⟩)
          rw [hz]
          show _ = (sh, mput _ 60 (sBr c (cBr c)), la)
          rw [sBr_i0]
        · skip
          exact absurd (by decide) h_3
      · skip
        exact absurd (by decide) h_2
    · skip
      exact absurd (by decide) h_1
  · skip
    obtain ⟨v_hn1, hv_hn1, e_hn1, hl_hn1⟩ := znum_rng ((znx_le he)) hn1
    refine A_aload_n dX8_tellsOne_7 rfl rfl ?_
    refine A_iconst (v := 0) dX8_tellsOne_8 (by decide) ?_
    refine A_aload_n dX8_tellsOne_9 rfl rfl ?_
    refine B_getV (nI (cN c)) dX8_tellsOne_10 flX8_88 (hM 0 _ rfl) rfl ((mr_14 _ _ _).trans hO.1) ?_
    refine A_iconst (v := 1) dX8_tellsOne_13 (by decide) ?_
    refine A_isub dX8_tellsOne_14 ?_
    refine A_callV (n := 0) dX8_tellsOne_15 kvX8_tells mlX8_195 rfl (az_rc_obj clX8 (hM 0 _ rfl)) (r_tells_y l G (d + 1) sh u la kp tr c T m e (nI (cN c) - 1) hM hT hm hm2 he hO hN9 hn1) (by omega) (Nat.le_refl _) (Nat.le_refl _) rfl (Nat.le_of_ble_eq_true rfl) (fun r S1 hp => ?_)
    obtain ⟨rfl, rfl⟩ := hp
    show AW l G mX8_tellsOne (d + 5) (az_F G Post) 0 0 18 [some (.ref 60), some (.int 1), none] [.int 1] (sh, (mput (mTk (az_w u 82 0 (znum T m (znx T m e) (nI (cN c) - 1))) (nI (znx T m (znx T m (znx T m e)))) ((zst3 T m (znx T m (znx T m e))).1) (nI (zss T m (znx T m (znx T m e)))) (zfg T m (znx T m (znx T m e)))) 60 c), la)
    refine A_if_eq (tgt := 45) dX8_tellsOne_18 rfl (fun h_4 => ?_) (fun h_4 => ?_)
    · skip
      exact absurd h_4 (by decide)
    · skip
      by_cases hn2 : znum T m (znx T m (znx T m e)) 9 = -1
      · skip
        refine A_aload_n dX8_tellsOne_21 rfl rfl ?_
        refine A_iconst (v := 1) dX8_tellsOne_22 (by decide) ?_
        refine A_iconst (v := 0) dX8_tellsOne_23 (by decide) ?_
        refine A_iload_n dX8_tellsOne_24 rfl rfl ?_
        refine A_if_eq (tgt := 33) dX8_tellsOne_25 rfl (fun h_5 => ?_) (fun h_5 => ?_)
        · skip
          exact absurd h_5 (by decide)
        · skip
          refine A_bipush (v := 9) dX8_tellsOne_28 (by decide) ?_
          refine A_goto (tgt := 35) dX8_tellsOne_30 rfl ?_
          refine A_callV (n := 0) dX8_tellsOne_35 kvX8_number mlX8_186 rfl (az_rc_obj clX8 (hM 0 _ rfl)) (r_number_n l G (d + 2) sh (az_w u 82 0 (znum T m (znx T m e) (nI (cN c) - 1))) la kp tr c T m (znx T m (znx T m e)) 1 9 hM ((az_w_ne (by decide)).trans hT) ((congrFun (az_w_ne (by decide)) 7).trans hm) hm2 (znx_le (znx_le he)) hO (by decide) (by decide) hn2) (by omega) (Nat.le_refl _) (Nat.le_refl _) rfl (Nat.le_of_ble_eq_true rfl) (fun r S1 hp => ?_)
          obtain ⟨rfl, rfl⟩ := hp
          show AW l G mX8_tellsOne (d + 5) (az_F G Post) 0 0 38 [some (.ref 60), some (.int 1), none] [.int 0] (sh, (mput (mTk (az_w (az_w u 82 0 (znum T m (znx T m e) (nI (cN c) - 1))) 60 27 (nI (zss T m (znx T m (znx T m e))))) (nI (znx T m (znx T m (znx T m e)))) ((zst3 T m (znx T m (znx T m e))).1) (nI (zss T m (znx T m (znx T m e)))) (zfg T m (znx T m (znx T m e)))) 60 c), la)
          refine A_if_eq (tgt := 45) dX8_tellsOne_38 rfl (fun h_6 => ?_) (fun h_6 => ?_)
          · skip
            refine A_iconst (v := 0) dX8_tellsOne_45 (by decide) ?_
            refine A_istore_n (lo2 := [some (.ref 60), some (.int 1), some (.int 0)]) dX8_tellsOne_46 rfl (by decide) rfl ?_
            refine A_iload_n dX8_tellsOne_47 rfl rfl ?_
            refine A_if_eq (tgt := 75) dX8_tellsOne_48 rfl (fun h_7 => ?_) (fun h_7 => ?_)
            · skip
              refine A_iload_n dX8_tellsOne_75 rfl rfl ?_
              refine A_if_eq (tgt := 96) dX8_tellsOne_76 rfl (fun h_8 => ?_) (fun h_8 => ?_)
              · skip
                refine A_iload_n dX8_tellsOne_96 rfl rfl ?_
                have hz := zpor_2 (f := cBr c) (N := cN c) (most := 9) hn1 hn2
                refine A_zret dX8_tellsOne_97 rfl (rfl) (hP _ _ ⟨by rw [hz]; rfl, (az_w (az_w u 82 0 (znum T m (znx T m e) (nI (cN c) - 1))) 60 27 (nI (zss T m (znx T m (znx T m e))))), (nI (znx T m (znx T m (znx T m e)))), ((zst3 T m (znx T m (znx T m e))).1), (nI (zss T m (znx T m (znx T m e)))), (zfg T m (znx T m (znx T m e))), (((sC.rf u).wk (by decide) _ _).w (j := 27) rfl _), ((az_w_ne (by decide)).trans ((az_w_ne (by decide)).trans hT)), ((az_w_nj (by decide)).trans ((congrFun (az_w_ne (by decide)) 7).trans hm)), by rw [az_w_nj (by decide), az_w_ne (by decide)], ?_, (fun q => by rw [hz] at q; cases q), (fun _ => by rw [hz]; exact az_w_at _ _ _ _)⟩)
                rw [hz]
                show _ = (sh, mput _ 60 (sBr c (cBr c)), la)
                rw [sBr_i0]
              · skip
                exact absurd (by decide) h_8
            · skip
              exact absurd (by decide) h_7
          · skip
            exact absurd (by decide) h_6
      · skip
        obtain ⟨v_hn2, hv_hn2, e_hn2, hl_hn2⟩ := znum_rng ((znx_le (znx_le he))) hn2
        refine A_aload_n dX8_tellsOne_21 rfl rfl ?_
        refine A_iconst (v := 1) dX8_tellsOne_22 (by decide) ?_
        refine A_iconst (v := 0) dX8_tellsOne_23 (by decide) ?_
        refine A_iload_n dX8_tellsOne_24 rfl rfl ?_
        refine A_if_eq (tgt := 33) dX8_tellsOne_25 rfl (fun h_9 => ?_) (fun h_9 => ?_)
        · skip
          exact absurd h_9 (by decide)
        · skip
          refine A_bipush (v := 9) dX8_tellsOne_28 (by decide) ?_
          refine A_goto (tgt := 35) dX8_tellsOne_30 rfl ?_
          refine A_callV (n := 0) dX8_tellsOne_35 kvX8_number mlX8_186 rfl (az_rc_obj clX8 (hM 0 _ rfl)) (r_number_y l G (d + 2) sh (az_w u 82 0 (znum T m (znx T m e) (nI (cN c) - 1))) la kp tr c T m (znx T m (znx T m e)) 1 9 hM ((az_w_ne (by decide)).trans hT) ((congrFun (az_w_ne (by decide)) 7).trans hm) hm2 (znx_le (znx_le he)) hO (by decide) (by decide) hn2) (by omega) (Nat.le_refl _) (Nat.le_refl _) rfl (Nat.le_of_ble_eq_true rfl) (fun r S1 hp => ?_)
          obtain ⟨rfl, rfl⟩ := hp
          show AW l G mX8_tellsOne (d + 5) (az_F G Post) 0 0 38 [some (.ref 60), some (.int 1), none] [.int 1] (sh, (mput (mTk (az_w (az_w u 82 0 (znum T m (znx T m e) (nI (cN c) - 1))) 82 1 (znum T m (znx T m (znx T m e)) 9)) (nI (znx T m (znx T m (znx T m (znx T m e))))) ((zst3 T m (znx T m (znx T m (znx T m e)))).1) (nI (zss T m (znx T m (znx T m (znx T m e))))) (zfg T m (znx T m (znx T m (znx T m e))))) 60 c), la)
          refine A_if_eq (tgt := 45) dX8_tellsOne_38 rfl (fun h_10 => ?_) (fun h_10 => ?_)
          · skip
            exact absurd h_10 (by decide)
          · skip
            refine A_iconst (v := 1) dX8_tellsOne_41 (by decide) ?_
            refine A_goto (tgt := 46) dX8_tellsOne_42 rfl ?_
            refine A_istore_n (lo2 := [some (.ref 60), some (.int 1), some (.int 1)]) dX8_tellsOne_46 rfl (by decide) rfl ?_
            refine A_iload_n dX8_tellsOne_47 rfl rfl ?_
            refine A_if_eq (tgt := 75) dX8_tellsOne_48 rfl (fun h_11 => ?_) (fun h_11 => ?_)
            · skip
              exact absurd h_11 (by decide)
            · skip
              refine A_iload_n dX8_tellsOne_51 rfl rfl ?_
              refine A_if_eq (tgt := 75) dX8_tellsOne_52 rfl (fun h_12 => ?_) (fun h_12 => ?_)
              · skip
                exact absurd h_12 (by decide)
              · skip
                refine A_aload_n dX8_tellsOne_55 rfl rfl ?_
                refine B_getR (r := 80) dX8_tellsOne_56 flX8_59 (hM 0 _ rfl) rfl ?_
                refine A_aload_n dX8_tellsOne_59 rfl rfl ?_
                refine B_getR (r := 82) dX8_tellsOne_60 flX8_68 (hM 0 _ rfl) rfl ?_
                refine A_iconst (v := 0) dX8_tellsOne_63 (by decide) ?_
                refine B_ialdV (i := 0) (znum T m (znx T m e) (nI (cN c) - 1)) dX8_tellsOne_64 (hM 22 _ rfl) (by decide) (rfl) (by decide) ((congrFun ((mput_ne (by decide) (by decide)).trans (mTk_ne (by decide))) _).trans (by rw [az_w_nj (by decide), az_w_at])) ?_
                refine A_aload_n dX8_tellsOne_65 rfl rfl ?_
                refine B_getR (r := 82) dX8_tellsOne_66 flX8_68 (hM 0 _ rfl) rfl ?_
                refine A_iconst (v := 1) dX8_tellsOne_69 (by decide) ?_
                refine B_ialdV (i := 1) (znum T m (znx T m (znx T m e)) 9) dX8_tellsOne_70 (hM 22 _ rfl) (by decide) (rfl) (by decide) ((congrFun ((mput_ne (by decide) (by decide)).trans (mTk_ne (by decide))) _).trans (by rw [az_w_at])) ?_
                refine B_iast (i := v_hn1) dX8_tellsOne_71 (hM 20 _ rfl) (by decide) (e_hn1) (by have := znum_N h8 hv_hn1 hl_hn1; omega) ?_
                refine B_sg (show _ = (mput (mTk (az_w (az_w u 82 0 (znum T m (znx T m e) (nI (cN c) - 1))) 82 1 (znum T m (znx T m (znx T m e)) 9)) (nI (znx T m (znx T m (znx T m (znx T m e))))) ((zst3 T m (znx T m (znx T m (znx T m e)))).1) (nI (zss T m (znx T m (znx T m (znx T m e))))) (zfg T m (znx T m (znx T m (znx T m e))))) 60 (sBr c (va_up (cBr c) v_hn1 (znum T m (znx T m (znx T m e)) 9)))) from mx_20 _ _ _ _ _) ?_
                refine A_goto (tgt := 96) dX8_tellsOne_72 rfl ?_
                refine A_iload_n dX8_tellsOne_96 rfl rfl ?_
                have hz := zpor_3 (f := cBr c) (N := cN c) (most := 9) hn1 hn2 e_hn1 hv_hn1
                refine A_zret dX8_tellsOne_97 rfl (rfl) (hP _ _ ⟨by rw [hz]; rfl, (az_w (az_w u 82 0 (znum T m (znx T m e) (nI (cN c) - 1))) 82 1 (znum T m (znx T m (znx T m e)) 9)), (nI (znx T m (znx T m (znx T m (znx T m e))))), ((zst3 T m (znx T m (znx T m (znx T m e)))).1), (nI (zss T m (znx T m (znx T m (znx T m e))))), (zfg T m (znx T m (znx T m (znx T m e)))), (((sC.rf u).wk (by decide) _ _).wk (by decide) _ _), ((az_w_ne (by decide)).trans ((az_w_ne (by decide)).trans hT)), ((congrFun (az_w_ne (by decide)) 7).trans ((congrFun (az_w_ne (by decide)) 7).trans hm)), by rw [az_w_ne (by decide), az_w_ne (by decide)], ?_, (fun _ => by rw [hz]), (fun q => by rw [hz] at q; cases q)⟩)
                rw [hz]
