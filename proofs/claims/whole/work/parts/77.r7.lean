theorem cr_Air_Air {c : CT} {x0 : Int32} : cAir (sAir c x0) = x0 := by rw [cs_AirAir]
theorem cw_Air_Air {c : CT} {x0 : Int32} {y : Int32} : sAir (sAir c x0) y = (sAir c y) := by rw [ss_Air]
theorem cr_Br_Br {c : CT} {x0 : Nat → Int32} : cBr (sBr c x0) = x0 := by rw [cs_BrBr]
theorem cu_Br_Br {c : CT} {x0 : Nat → Int32} {i : Nat} {y : Int32} : sBr (sBr c x0) (va_up (cBr (sBr c x0)) i y) = (sBr c (va_up x0 i y)) := by rw [cr_Br_Br, ss_Br]
theorem sAir_id (c : CT) (x : Int32) : sAir (sAir c x) (cAir c) = c := by simp only [sAir, cPp, cAir, cFall, cDay, cWin, cCoal, cSeed, cLov, cAway, cKd, cAa, cPr, cBr, cFe]
theorem sAir_i1 (c : CT) : sAir c (cAir c) = c := by simp only [sAir, cPp, cAir, cFall, cDay, cWin, cCoal, cSeed, cLov, cAway, cKd, cAa, cPr, cBr, cFe]
set_option maxHeartbeats 1000000 in
set_option maxRecDepth 100000 in
theorem y_airs (l : Launch) (G : az_Gh) (d : Nat) (sh : List az_Sh) (sg : Nat → Nat → Int32) (la : Nat → Nat → Int64) (g : GGM) (σ : SGM) (kp tr : Option Nat) (p w : Int32) (hM : az_at sh 60 (lyM 60 kp tr)) (hR : RX g sg la σ kp tr) (hW : WF σ)  : AM l G (d + 32) mX8_airs [.ref 60, .int p, .int w] (sh, sg, la) 0 0 (RQ sh g kp tr (.int (q_airs σ p w).1) (q_airs σ p w).2) := by
  refine az_am knX8_airs (Nat.le_of_ble_eq_true rfl) rfl (fun Post hP => ?_)
  show AW l G mX8_airs (d + 32) (az_F G Post) 0 0 0 [some (.ref 60), some (.int p), some (.int w), none, none, none, none] [] (sh, sg, la)
  have hO := hW.1.1.1
  have hL := cW_lv hW.1
  have haw := hW.1.2.2.1
  have h8 := hO.2
  refine B_sg hR.z.symm ?_
  refine A_aload_n dX8_airs_0 rfl rfl ?_
  refine A_iload_n dX8_airs_1 rfl rfl ?_
  refine A_i2l dX8_airs_2 ?_
  refine A_callV (n := 0) dX8_airs_3 kvX8_isPerson mlX8_112 rfl (az_rc_obj clX8 (hM 0 _ rfl)) (r_isPerson l G (d + 30) sh sg la kp tr (xN σ) p hM hO) (by omega) (Nat.le_refl _) (Nat.le_refl _) rfl (Nat.le_of_ble_eq_true rfl) (fun r S1 hp => ?_)
  obtain ⟨rfl, rfl⟩ := hp
  show AW l G mX8_airs (d + 32) (az_F G Post) 0 0 6 [some (.ref 60), some (.int p), some (.int w), none, none, none, none] [.int (b2i (0 ≤ p ∧ p < cPp (xN σ)))] (sh, (mput sg 60 (xN σ)), la)
  refine A_if_eq (tgt := 19) dX8_airs_6 rfl (fun h_1 => ?_) (fun h_1 => ?_)
  · skip
    have h_1' := b2i_0.mp h_1
    refine A_aload_n dX8_airs_19 rfl rfl ?_
    refine A_bipush (v := (-2)) dX8_airs_20 (by decide) ?_
    refine A_callV (n := 0) dX8_airs_22 kvX8_refuse mlX8_101 rfl (az_rc_obj clX8 (hM 0 _ rfl)) (c_X8_refuse l G (d + 31) sh (mput sg 60 (xN σ)) la kp tr (-2) 0 hM (by decide) (by decide)) (by omega) (Nat.le_refl _) (Nat.le_refl _) rfl (Nat.le_of_ble_eq_true rfl) (fun r S1 hp => ?_)
    obtain ⟨rfl, rfl⟩ := hp
    show AW l G mX8_airs (d + 32) (az_F G Post) 0 0 25 [some (.ref 60), some (.int p), some (.int w), none, none, none, none] [.int (-2)] (sh, (az_w (mput sg 60 (xN σ)) 76 (0 + 2) ((mput sg 60 (xN σ)) 76 (0 + 2) + 1)), la)
    have hq : (q_airs σ p w) = ((-2), (rfs σ 0)) := by
      unfold q_airs
      try simp only [h_1', and_true, true_and, and_false, false_and, and_self, or_true, true_or, or_false, false_or, not_true_eq_false, not_false_eq_true, if_true, if_false, ite_true, ite_false, decide_true, decide_false, reduceIte]
      first | done | rfl
    exact A_iret dX8_airs_25 rfl (hP _ _ (RQ_i hq ((hR.fin0 (sC.rf sg)).ref (k := 0) (by decide))))
  · skip
    have h_1' := b2i_n.mp h_1
    obtain ⟨p1, hp1, rfl⟩ := nI_exp hO h_1'
    have hc_p1 : (nI p1).toNatClampNeg = p1 := nI_clamp (by omega)
    refine A_iload_n dX8_airs_9 rfl rfl ?_
    refine A_i2l dX8_airs_10 ?_
    refine A_lconst (v := 0) dX8_airs_11 (by decide) ?_
    refine A_lconst (v := 1) dX8_airs_12 (by decide) ?_
    refine A_callS (n := 0) dX8_airs_13 ksX8_in mlX8_91 rfl (c_X8_inI l G (d + 31) sh (mput sg 60 (xN σ)) la w 1 1 (by decide)) (by omega) (Nat.le_refl _) (Nat.le_refl _) rfl (Nat.le_of_ble_eq_true rfl) (fun r S1 hp => ?_)
    obtain ⟨rfl, rfl⟩ := hp
    show AW l G mX8_airs (d + 32) (az_F G Post) 0 0 16 [some (.ref 60), some (.int (nI p1)), some (.int w), none, none, none, none] [.int (b2i (0 ≤ w ∧ w ≤ 1))] (sh, (mput sg 60 (xN σ)), la)
    refine A_if_ne (tgt := 26) dX8_airs_16 rfl (fun h_2 => ?_) (fun h_2 => ?_)
    · skip
      have h_2' := b2i_n.mp h_2
      refine A_aload_n dX8_airs_26 rfl rfl ?_
      refine B_getV (cAir (xN σ)) dX8_airs_27 flX8_37 (hM 0 _ rfl) rfl (mr_9 _ _ _) ?_
      refine A_istore_n (lo2 := [some (.ref 60), some (.int (nI p1)), some (.int w), some (.int (cAir (xN σ))), none, none, none]) dX8_airs_30 rfl (by decide) rfl ?_
      refine A_iconst (v := 0) dX8_airs_31 (by decide) ?_
      refine A_istore (lo2 := [some (.ref 60), some (.int (nI p1)), some (.int w), some (.int (cAir (xN σ))), some (.int 0), none, none]) dX8_airs_32 (by decide) rfl ?_
      refine A_iconst (v := (-1)) dX8_airs_34 (by decide) ?_
      refine A_istore (lo2 := [some (.ref 60), some (.int (nI p1)), some (.int w), some (.int (cAir (xN σ))), some (.int 0), some (.int (-1)), none]) dX8_airs_35 (by decide) rfl ?_
      refine A_aload_n dX8_airs_37 rfl rfl ?_
      refine A_iconst (v := 0) dX8_airs_38 (by decide) ?_
      refine B_putI dX8_airs_39 fwX8_37 (hM 0 _ rfl) rfl ?_
      refine B_sg (show _ = (mput sg 60 (sAir (xN σ) 0)) from mw_9 _ _ _ _) ?_
      show AW l G mX8_airs (d + 32) (az_F G Post) 0 0 42 [some (.ref 60), some (.int (nI p1)), some (.int w), some (.int (cAir (xN σ))), some (.int 0), some (.int (-1)), none] [] (sh, (mput sg 60 (sAir (xN σ) (nI 0))), la)
      have loop : ∀ (q_i9 i9 : Nat) (x4 : Int32) (x5 : Int32), i9 + q_i9 = 41 → x4 = nI (fa_cnt (q_airP σ p1) i9) → x5 = oI (zlast (q_airP σ p1) i9) → AW l G mX8_airs (d + 32) (az_F G Post) 0 0 42 [some (.ref 60), some (.int (nI p1)), some (.int w), some (.int (cAir (xN σ))), some (.int x4), some (.int x5), none] [] (sh, (mput sg 60 (sAir (xN σ) (nI i9))), la) := by
        intro q_i9
        induction q_i9 with
        | zero =>
          intro i9 x4 x5 hi_i9  e_x4 e_x5
          have hN_i9 : i9 = 41 := by omega
          subst i9
          refine A_aload_n dX8_airs_42 rfl rfl ?_
          refine B_getV ((nI 41)) dX8_airs_43 flX8_37 (hM 0 _ rfl) rfl ((mr_9 _ _ _).trans cr_Air_Air) ?_
          refine A_bipush (v := 40) dX8_airs_46 (by decide) ?_
          refine A_icmp_gt (tgt := 110) dX8_airs_48 rfl (fun h_3 => ?_) (fun h_3 => ?_)
          · skip
            refine A_aload_n dX8_airs_110 rfl rfl ?_
            refine A_iload_n dX8_airs_111 rfl rfl ?_
            refine B_putI dX8_airs_112 fwX8_37 (hM 0 _ rfl) rfl ?_
            refine B_sg (show _ = (mput sg 60 (sAir (xN σ) (cAir (xN σ)))) from (mw_9 _ _ _ _).trans (congrArg (mput sg 60) cw_Air_Air)) ?_
            refine B_sg (show _ = mput sg 60 (xN σ) from congrArg (mput sg 60) (sAir_i1 (xN σ))) ?_
            refine A_iload_n dX8_airs_115 rfl rfl ?_
            refine A_if_ne (tgt := 124) dX8_airs_116 rfl (fun h_4 => ?_) (fun h_4 => ?_)
            · skip
              refine A_iload dX8_airs_124 rfl ?_
              have hq : (q_airs σ (nI p1) w) = (x5, σ) := by
                unfold q_airs
                rw [if_pos ⟨h_1', h_2'⟩, hc_p1, if_neg h_4, e_x5]
              exact A_iret dX8_airs_126 rfl (hP _ _ (RQ_i hq (hR.fin0 (sC.rf sg))))
            · skip
              refine A_iload dX8_airs_119 rfl ?_
              refine A_goto (tgt := 126) dX8_airs_121 rfl ?_
              have hq : (q_airs σ (nI p1) w) = (x4, σ) := by
                unfold q_airs
                rw [if_pos ⟨h_1', h_2'⟩, hc_p1, if_pos h_4, e_x4]
              exact A_iret dX8_airs_126 rfl (hP _ _ (RQ_i hq (hR.fin0 (sC.rf sg))))
          · skip
            exact absurd (by decide) h_3
        | succ q_i9 ih =>
          intro i9 x4 x5 hi_i9  e_x4 e_x5
          refine A_aload_n dX8_airs_42 rfl rfl ?_
          refine B_getV ((nI i9)) dX8_airs_43 flX8_37 (hM 0 _ rfl) rfl ((mr_9 _ _ _).trans cr_Air_Air) ?_
          refine A_bipush (v := 40) dX8_airs_46 (by decide) ?_
          refine A_icmp_gt (tgt := 110) dX8_airs_48 rfl (fun h_5 => ?_) (fun h_5 => ?_)
          · skip
            exact absurd h_5 (nI_nlt (b := i9) (a := 40) (by omega) (by decide))
          · skip
            refine A_aload_n dX8_airs_51 rfl rfl ?_
            refine A_callV (n := 0) dX8_airs_52 kvX8_coldestOf mlX8_236 rfl (az_rc_obj clX8 (hM 0 _ rfl)) (r_coldestOf l G (d + 29) sh sg la kp tr (sAir (xN σ) (nI i9)) hM (co_Air hO) (cv_Air hL)) (by omega) (Nat.le_refl _) (Nat.le_refl _) rfl (Nat.le_of_ble_eq_true rfl) (fun r S1 hp => ?_)
            obtain ⟨rfl, rfl⟩ := hp
            show AW l G mX8_airs (d + 32) (az_F G Post) 0 0 55 [some (.ref 60), some (.int (nI p1)), some (.int w), some (.int (cAir (xN σ))), some (.int x4), some (.int x5), none] [.int (oI (zbest (sAir (xN σ) (nI i9))))] (sh, (mput sg 60 (sAir (xN σ) (nI i9))), la)
            refine A_iload_n dX8_airs_55 rfl rfl ?_
            refine A_icmp_ne (tgt := 63) dX8_airs_56 rfl (fun h_6 => ?_) (fun h_6 => ?_)
            · skip
              refine A_iconst (v := 0) dX8_airs_63 (by decide) ?_
              refine A_istore (lo2 := [some (.ref 60), some (.int (nI p1)), some (.int w), some (.int (cAir (xN σ))), some (.int x4), some (.int x5), some (.int 0)]) dX8_airs_64 (by decide) rfl ?_
              refine A_iload dX8_airs_66 rfl ?_
              refine A_iload dX8_airs_68 rfl ?_
              refine A_if_eq (tgt := 77) dX8_airs_70 rfl (fun h_7 => ?_) (fun h_7 => ?_)
              · skip
                refine A_iconst (v := 0) dX8_airs_77 (by decide) ?_
                refine A_iadd dX8_airs_78 ?_
                refine A_istore (lo2 := [some (.ref 60), some (.int (nI p1)), some (.int w), some (.int (cAir (xN σ))), some (.int (x4 + 0)), some (.int x5), some (.int 0)]) dX8_airs_79 (by decide) rfl ?_
                refine A_iload dX8_airs_81 rfl ?_
                refine A_if_eq (tgt := 93) dX8_airs_83 rfl (fun h_8 => ?_) (fun h_8 => ?_)
                · skip
                  refine A_iload dX8_airs_93 rfl ?_
                  refine A_istore (lo2 := [some (.ref 60), some (.int (nI p1)), some (.int w), some (.int (cAir (xN σ))), some (.int (x4 + 0)), some (.int x5), some (.int 0)]) dX8_airs_95 (by decide) rfl ?_
                  refine A_aload_n dX8_airs_97 rfl rfl ?_
                  refine A_dup dX8_airs_98 rfl ?_
                  refine B_getV ((nI i9)) dX8_airs_99 flX8_37 (hM 0 _ rfl) rfl ((mr_9 _ _ _).trans cr_Air_Air) ?_
                  refine A_iconst (v := 1) dX8_airs_102 (by decide) ?_
                  refine A_iadd dX8_airs_103 ?_
                  refine B_putI dX8_airs_104 fwX8_37 (hM 0 _ rfl) rfl ?_
                  refine B_sg (show _ = (mput sg 60 (sAir (xN σ) ((nI i9) + 1))) from (mw_9 _ _ _ _).trans (congrArg (mput sg 60) cw_Air_Air)) ?_
                  refine B_sg (show _ = mput sg 60 (sAir (xN σ) (nI (i9 + 1))) from congrArg (fun z => mput sg 60 (sAir (xN σ) z)) (nI_1 i9)) ?_
                  refine A_goto (tgt := 42) dX8_airs_107 rfl ?_
                  refine A_forget (lo2 := [some (.ref 60), some (.int (nI p1)), some (.int w), some (.int (cAir (xN σ))), some (.int (x4 + 0)), some (.int x5), none]) ⟨rfl, rfl, rfl, rfl, rfl, rfl, trivial⟩ ?_
                  refine ih (i9 + 1) _ _ (by omega) ?_ ?_
                  · skip
                    rw [e_x4, fa_cnt_no (Bool.eq_false_iff.mpr (show ¬ q_airP σ p1 i9 = true from fun q => h_6 ((oI_p (by omega) (zbest_l (co_Air hO))).mpr (of_decide_eq_true q))))]; exact Int32.add_zero _
                  · skip
                    rw [zlast_n (show ¬ q_airP σ p1 i9 = true from fun q => h_6 ((oI_p (by omega) (zbest_l (co_Air hO))).mpr (of_decide_eq_true q)))]; exact e_x5
                · skip
                  exact absurd (by decide) h_8
              · skip
                exact absurd (by decide) h_7
            · skip
              refine A_iconst (v := 1) dX8_airs_59 (by decide) ?_
              refine A_goto (tgt := 64) dX8_airs_60 rfl ?_
              refine A_istore (lo2 := [some (.ref 60), some (.int (nI p1)), some (.int w), some (.int (cAir (xN σ))), some (.int x4), some (.int x5), some (.int 1)]) dX8_airs_64 (by decide) rfl ?_
              refine A_iload dX8_airs_66 rfl ?_
              refine A_iload dX8_airs_68 rfl ?_
              refine A_if_eq (tgt := 77) dX8_airs_70 rfl (fun h_9 => ?_) (fun h_9 => ?_)
              · skip
                exact absurd h_9 (by decide)
              · skip
                refine A_iconst (v := 1) dX8_airs_73 (by decide) ?_
                refine A_goto (tgt := 78) dX8_airs_74 rfl ?_
                refine A_iadd dX8_airs_78 ?_
                refine A_istore (lo2 := [some (.ref 60), some (.int (nI p1)), some (.int w), some (.int (cAir (xN σ))), some (.int (x4 + 1)), some (.int x5), some (.int 1)]) dX8_airs_79 (by decide) rfl ?_
                refine A_iload dX8_airs_81 rfl ?_
                refine A_if_eq (tgt := 93) dX8_airs_83 rfl (fun h_10 => ?_) (fun h_10 => ?_)
                · skip
                  exact absurd h_10 (by decide)
                · skip
                  refine A_aload_n dX8_airs_86 rfl rfl ?_
                  refine B_getV ((nI i9)) dX8_airs_87 flX8_37 (hM 0 _ rfl) rfl ((mr_9 _ _ _).trans cr_Air_Air) ?_
                  refine A_goto (tgt := 95) dX8_airs_90 rfl ?_
                  refine A_istore (lo2 := [some (.ref 60), some (.int (nI p1)), some (.int w), some (.int (cAir (xN σ))), some (.int (x4 + 1)), some (.int (nI i9)), some (.int 1)]) dX8_airs_95 (by decide) rfl ?_
                  refine A_aload_n dX8_airs_97 rfl rfl ?_
                  refine A_dup dX8_airs_98 rfl ?_
                  refine B_getV ((nI i9)) dX8_airs_99 flX8_37 (hM 0 _ rfl) rfl ((mr_9 _ _ _).trans cr_Air_Air) ?_
                  refine A_iconst (v := 1) dX8_airs_102 (by decide) ?_
                  refine A_iadd dX8_airs_103 ?_
                  refine B_putI dX8_airs_104 fwX8_37 (hM 0 _ rfl) rfl ?_
                  refine B_sg (show _ = (mput sg 60 (sAir (xN σ) ((nI i9) + 1))) from (mw_9 _ _ _ _).trans (congrArg (mput sg 60) cw_Air_Air)) ?_
                  refine B_sg (show _ = mput sg 60 (sAir (xN σ) (nI (i9 + 1))) from congrArg (fun z => mput sg 60 (sAir (xN σ) z)) (nI_1 i9)) ?_
                  refine A_goto (tgt := 42) dX8_airs_107 rfl ?_
                  refine A_forget (lo2 := [some (.ref 60), some (.int (nI p1)), some (.int w), some (.int (cAir (xN σ))), some (.int (x4 + 1)), some (.int (nI i9)), none]) ⟨rfl, rfl, rfl, rfl, rfl, rfl, trivial⟩ ?_
                  refine ih (i9 + 1) _ _ (by omega) ?_ ?_
                  · skip
                    rw [e_x4, fa_cnt_yes (show q_airP σ p1 i9 = true from decide_eq_true ((oI_p (by omega) (zbest_l (co_Air hO))).mp h_6))]; exact nI_1 _
                  · skip
                    rw [zlast_y (show q_airP σ p1 i9 = true from decide_eq_true ((oI_p (by omega) (zbest_l (co_Air hO))).mp h_6))]; rfl
      exact loop (41) 0 _ _ (by omega) (rfl) (rfl)
    · skip
      have h_2' := b2i_0.mp h_2
      refine A_aload_n dX8_airs_19 rfl rfl ?_
      refine A_bipush (v := (-2)) dX8_airs_20 (by decide) ?_
      refine A_callV (n := 0) dX8_airs_22 kvX8_refuse mlX8_101 rfl (az_rc_obj clX8 (hM 0 _ rfl)) (c_X8_refuse l G (d + 31) sh (mput sg 60 (xN σ)) la kp tr (-2) 0 hM (by decide) (by decide)) (by omega) (Nat.le_refl _) (Nat.le_refl _) rfl (Nat.le_of_ble_eq_true rfl) (fun r S1 hp => ?_)
      obtain ⟨rfl, rfl⟩ := hp
      show AW l G mX8_airs (d + 32) (az_F G Post) 0 0 25 [some (.ref 60), some (.int (nI p1)), some (.int w), none, none, none, none] [.int (-2)] (sh, (az_w (mput sg 60 (xN σ)) 76 (0 + 2) ((mput sg 60 (xN σ)) 76 (0 + 2) + 1)), la)
      have hq : (q_airs σ (nI p1) w) = ((-2), (rfs σ 0)) := by
        unfold q_airs
        try simp only [h_1', h_2', hc_p1, and_true, true_and, and_false, false_and, and_self, or_true, true_or, or_false, false_or, not_true_eq_false, not_false_eq_true, if_true, if_false, ite_true, ite_false, decide_true, decide_false, reduceIte]
        first | done | rfl
      exact A_iret dX8_airs_25 rfl (hP _ _ (RQ_i hq ((hR.fin0 (sC.rf sg)).ref (k := 0) (by decide))))
set_option maxHeartbeats 1000000 in
set_option maxRecDepth 100000 in
theorem y_warmest (l : Launch) (G : az_Gh) (d : Nat) (sh : List az_Sh) (sg : Nat → Nat → Int32) (la : Nat → Nat → Int64) (g : GGM) (σ : SGM) (kp tr : Option Nat)  (hM : az_at sh 60 (lyM 60 kp tr)) (hR : RX g sg la σ kp tr) (hW : WF σ)  : AM l G (d + 32) mX8_warmest [.ref 60] (sh, sg, la) 0 0 (RQ sh g kp tr (.int (q_warmest σ)) σ) := by
  refine az_am knX8_warmest (Nat.le_of_ble_eq_true rfl) rfl (fun Post hP => ?_)
  show AW l G mX8_warmest (d + 32) (az_F G Post) 0 0 0 [some (.ref 60), none, none] [] (sh, sg, la)
  have hO := hW.1.1.1
  have hL := cW_lv hW.1
  have haw := hW.1.2.2.1
  have h8 := hO.2
  refine B_sg hR.z.symm ?_
  refine A_aload_n dX8_warmest_0 rfl rfl ?_
  refine B_getV (cAir (xN σ)) dX8_warmest_1 flX8_37 (hM 0 _ rfl) rfl (mr_9 _ _ _) ?_
  refine A_istore_n (lo2 := [some (.ref 60), some (.int (cAir (xN σ))), none]) dX8_warmest_4 rfl (by decide) rfl ?_
  refine A_iconst (v := (-1)) dX8_warmest_5 (by decide) ?_
  refine A_istore_n (lo2 := [some (.ref 60), some (.int (cAir (xN σ))), some (.int (-1))]) dX8_warmest_6 rfl (by decide) rfl ?_
  refine A_aload_n dX8_warmest_7 rfl rfl ?_
  refine A_iconst (v := 0) dX8_warmest_8 (by decide) ?_
  refine B_putI dX8_warmest_9 fwX8_37 (hM 0 _ rfl) rfl ?_
  refine B_sg (show _ = (mput sg 60 (sAir (xN σ) 0)) from mw_9 _ _ _ _) ?_
  show AW l G mX8_warmest (d + 32) (az_F G Post) 0 0 12 [some (.ref 60), some (.int (cAir (xN σ))), some (.int (-1))] [] (sh, (mput sg 60 (sAir (xN σ) (nI 0))), la)
  have loop : ∀ (q_i9 i9 : Nat) (x2 : Int32), i9 + q_i9 = 41 → x2 = oI (zlast (q_soA σ) i9) → AW l G mX8_warmest (d + 32) (az_F G Post) 0 0 12 [some (.ref 60), some (.int (cAir (xN σ))), some (.int x2)] [] (sh, (mput sg 60 (sAir (xN σ) (nI i9))), la) := by
    intro q_i9
    induction q_i9 with
    | zero =>
      intro i9 x2 hi_i9  e_x2
      have hN_i9 : i9 = 41 := by omega
      subst i9
      refine A_aload_n dX8_warmest_12 rfl rfl ?_
      refine B_getV ((nI 41)) dX8_warmest_13 flX8_37 (hM 0 _ rfl) rfl ((mr_9 _ _ _).trans cr_Air_Air) ?_
      refine A_bipush (v := 40) dX8_warmest_16 (by decide) ?_
      refine A_icmp_gt (tgt := 50) dX8_warmest_18 rfl (fun h_1 => ?_) (fun h_1 => ?_)
      · skip
        refine A_aload_n dX8_warmest_50 rfl rfl ?_
        refine A_iload_n dX8_warmest_51 rfl rfl ?_
        refine B_putI dX8_warmest_52 fwX8_37 (hM 0 _ rfl) rfl ?_
        refine B_sg (show _ = (mput sg 60 (sAir (xN σ) (cAir (xN σ)))) from (mw_9 _ _ _ _).trans (congrArg (mput sg 60) cw_Air_Air)) ?_
        refine B_sg (show _ = mput sg 60 (xN σ) from congrArg (mput sg 60) (sAir_i1 (xN σ))) ?_
        refine A_iload_n dX8_warmest_55 rfl rfl ?_
        have hq : (q_warmest σ) = x2 := by
          unfold q_warmest; rw [e_x2]
        exact A_iret dX8_warmest_56 rfl (hP _ _ (RQ_0 hq (hR.fin0 (sC.rf sg))))
      · skip
        exact absurd (by decide) h_1
    | succ q_i9 ih =>
      intro i9 x2 hi_i9  e_x2
      refine A_aload_n dX8_warmest_12 rfl rfl ?_
      refine B_getV ((nI i9)) dX8_warmest_13 flX8_37 (hM 0 _ rfl) rfl ((mr_9 _ _ _).trans cr_Air_Air) ?_
      refine A_bipush (v := 40) dX8_warmest_16 (by decide) ?_
      refine A_icmp_gt (tgt := 50) dX8_warmest_18 rfl (fun h_2 => ?_) (fun h_2 => ?_)
      · skip
        exact absurd h_2 (nI_nlt (b := i9) (a := 40) (by omega) (by decide))
      · skip
        refine A_aload_n dX8_warmest_21 rfl rfl ?_
        refine A_callV (n := 0) dX8_warmest_22 kvX8_isSoNow mlX8_244 rfl (az_rc_obj clX8 (hM 0 _ rfl)) (r_isSoNow l G (d + 28) sh sg la kp tr (sAir (xN σ) (nI i9)) hM (co_Air hO) (cv_Air hL)) (by omega) (Nat.le_refl _) (Nat.le_refl _) rfl (Nat.le_of_ble_eq_true rfl) (fun r S1 hp => ?_)
        obtain ⟨rfl, rfl⟩ := hp
        show AW l G mX8_warmest (d + 32) (az_F G Post) 0 0 25 [some (.ref 60), some (.int (cAir (xN σ))), some (.int x2)] [.int (b2i (zso (sAir (xN σ) (nI i9)) = true))] (sh, (mput sg 60 (sAir (xN σ) (nI i9))), la)
        refine A_if_eq (tgt := 35) dX8_warmest_25 rfl (fun h_3 => ?_) (fun h_3 => ?_)
        · skip
          have h_3' := b2i_0.mp h_3
          refine A_iload_n dX8_warmest_35 rfl rfl ?_
          refine A_istore_n (lo2 := [some (.ref 60), some (.int (cAir (xN σ))), some (.int x2)]) dX8_warmest_36 rfl (by decide) rfl ?_
          refine A_aload_n dX8_warmest_37 rfl rfl ?_
          refine A_dup dX8_warmest_38 rfl ?_
          refine B_getV ((nI i9)) dX8_warmest_39 flX8_37 (hM 0 _ rfl) rfl ((mr_9 _ _ _).trans cr_Air_Air) ?_
          refine A_iconst (v := 1) dX8_warmest_42 (by decide) ?_
          refine A_iadd dX8_warmest_43 ?_
          refine B_putI dX8_warmest_44 fwX8_37 (hM 0 _ rfl) rfl ?_
          refine B_sg (show _ = (mput sg 60 (sAir (xN σ) ((nI i9) + 1))) from (mw_9 _ _ _ _).trans (congrArg (mput sg 60) cw_Air_Air)) ?_
          refine B_sg (show _ = mput sg 60 (sAir (xN σ) (nI (i9 + 1))) from congrArg (fun z => mput sg 60 (sAir (xN σ) z)) (nI_1 i9)) ?_
          refine A_goto (tgt := 12) dX8_warmest_47 rfl ?_
          refine ih (i9 + 1) _ (by omega) ?_
          · skip
            rw [zlast_n (f := q_soA σ) (n := i9) h_3']; exact e_x2
        · skip
          have h_3' := b2i_n.mp h_3
          refine A_aload_n dX8_warmest_28 rfl rfl ?_
          refine B_getV ((nI i9)) dX8_warmest_29 flX8_37 (hM 0 _ rfl) rfl ((mr_9 _ _ _).trans cr_Air_Air) ?_
          refine A_goto (tgt := 36) dX8_warmest_32 rfl ?_
          refine A_istore_n (lo2 := [some (.ref 60), some (.int (cAir (xN σ))), some (.int (nI i9))]) dX8_warmest_36 rfl (by decide) rfl ?_
          refine A_aload_n dX8_warmest_37 rfl rfl ?_
          refine A_dup dX8_warmest_38 rfl ?_
          refine B_getV ((nI i9)) dX8_warmest_39 flX8_37 (hM 0 _ rfl) rfl ((mr_9 _ _ _).trans cr_Air_Air) ?_
          refine A_iconst (v := 1) dX8_warmest_42 (by decide) ?_
          refine A_iadd dX8_warmest_43 ?_
          refine B_putI dX8_warmest_44 fwX8_37 (hM 0 _ rfl) rfl ?_
          refine B_sg (show _ = (mput sg 60 (sAir (xN σ) ((nI i9) + 1))) from (mw_9 _ _ _ _).trans (congrArg (mput sg 60) cw_Air_Air)) ?_
          refine B_sg (show _ = mput sg 60 (sAir (xN σ) (nI (i9 + 1))) from congrArg (fun z => mput sg 60 (sAir (xN σ) z)) (nI_1 i9)) ?_
          refine A_goto (tgt := 12) dX8_warmest_47 rfl ?_
          refine ih (i9 + 1) _ (by omega) ?_
          · skip
            rw [zlast_y (f := q_soA σ) (n := i9) h_3']; rfl
  exact loop (41) 0 _ (by omega) (rfl)
set_option maxHeartbeats 1000000 in
set_option maxRecDepth 100000 in
theorem y_bites (l : Launch) (G : az_Gh) (d : Nat) (sh : List az_Sh) (sg : Nat → Nat → Int32) (la : Nat → Nat → Int64) (g : GGM) (σ : SGM) (kp tr : Option Nat) (p : Int32) (hM : az_at sh 60 (lyM 60 kp tr)) (hR : RX g sg la σ kp tr) (hW : WF σ)  : AM l G (d + 32) mX8_bites [.ref 60, .int p] (sh, sg, la) 0 0 (RQ sh g kp tr (.int (q_bites σ p).1) (q_bites σ p).2) := by
  refine az_am knX8_bites (Nat.le_of_ble_eq_true rfl) rfl (fun Post hP => ?_)
  show AW l G mX8_bites (d + 32) (az_F G Post) 0 0 0 [some (.ref 60), some (.int p), none, none] [] (sh, sg, la)
  have hO := hW.1.1.1
  have hL := cW_lv hW.1
  have haw := hW.1.2.2.1
  have h8 := hO.2
  refine B_sg hR.z.symm ?_
  refine A_aload_n dX8_bites_0 rfl rfl ?_
  refine A_iload_n dX8_bites_1 rfl rfl ?_
  refine A_i2l dX8_bites_2 ?_
  refine A_callV (n := 0) dX8_bites_3 kvX8_isPerson mlX8_112 rfl (az_rc_obj clX8 (hM 0 _ rfl)) (r_isPerson l G (d + 30) sh sg la kp tr (xN σ) p hM hO) (by omega) (Nat.le_refl _) (Nat.le_refl _) rfl (Nat.le_of_ble_eq_true rfl) (fun r S1 hp => ?_)
  obtain ⟨rfl, rfl⟩ := hp
  show AW l G mX8_bites (d + 32) (az_F G Post) 0 0 6 [some (.ref 60), some (.int p), none, none] [.int (b2i (0 ≤ p ∧ p < cPp (xN σ)))] (sh, (mput sg 60 (xN σ)), la)
  refine A_if_ne (tgt := 16) dX8_bites_6 rfl (fun h_1 => ?_) (fun h_1 => ?_)
  · skip
    have h_1' := b2i_n.mp h_1
    obtain ⟨p1, hp1, rfl⟩ := nI_exp hO h_1'
    have hc_p1 : (nI p1).toNatClampNeg = p1 := nI_clamp (by omega)
    refine A_aload_n dX8_bites_16 rfl rfl ?_
    refine B_getV (cAir (xN σ)) dX8_bites_17 flX8_37 (hM 0 _ rfl) rfl (mr_9 _ _ _) ?_
    refine A_istore_n (lo2 := [some (.ref 60), some (.int (nI p1)), some (.int (cAir (xN σ))), none]) dX8_bites_20 rfl (by decide) rfl ?_
    refine A_iconst (v := (-1)) dX8_bites_21 (by decide) ?_
    refine A_istore_n (lo2 := [some (.ref 60), some (.int (nI p1)), some (.int (cAir (xN σ))), some (.int (-1))]) dX8_bites_22 rfl (by decide) rfl ?_
    refine A_aload_n dX8_bites_23 rfl rfl ?_
    refine A_iconst (v := 0) dX8_bites_24 (by decide) ?_
    refine B_putI dX8_bites_25 fwX8_37 (hM 0 _ rfl) rfl ?_
    refine B_sg (show _ = (mput sg 60 (sAir (xN σ) 0)) from mw_9 _ _ _ _) ?_
    show AW l G mX8_bites (d + 32) (az_F G Post) 0 0 28 [some (.ref 60), some (.int (nI p1)), some (.int (cAir (xN σ))), some (.int (-1))] [] (sh, (mput sg 60 (sAir (xN σ) (nI 0))), la)
    have loop : ∀ (q_i9 i9 : Nat) (x3 : Int32), i9 + q_i9 = 41 → x3 = oI (zlast (q_biP σ p1) i9) → AW l G mX8_bites (d + 32) (az_F G Post) 0 0 28 [some (.ref 60), some (.int (nI p1)), some (.int (cAir (xN σ))), some (.int x3)] [] (sh, (mput sg 60 (sAir (xN σ) (nI i9))), la) := by
      intro q_i9
      induction q_i9 with
      | zero =>
        intro i9 x3 hi_i9  e_x3
        have hN_i9 : i9 = 41 := by omega
        subst i9
        refine A_aload_n dX8_bites_28 rfl rfl ?_
        refine B_getV ((nI 41)) dX8_bites_29 flX8_37 (hM 0 _ rfl) rfl ((mr_9 _ _ _).trans cr_Air_Air) ?_
        refine A_bipush (v := 40) dX8_bites_32 (by decide) ?_
        refine A_icmp_gt (tgt := 67) dX8_bites_34 rfl (fun h_2 => ?_) (fun h_2 => ?_)
        · skip
          refine A_aload_n dX8_bites_67 rfl rfl ?_
          refine A_iload_n dX8_bites_68 rfl rfl ?_
          refine B_putI dX8_bites_69 fwX8_37 (hM 0 _ rfl) rfl ?_
          refine B_sg (show _ = (mput sg 60 (sAir (xN σ) (cAir (xN σ)))) from (mw_9 _ _ _ _).trans (congrArg (mput sg 60) cw_Air_Air)) ?_
          refine B_sg (show _ = mput sg 60 (xN σ) from congrArg (mput sg 60) (sAir_i1 (xN σ))) ?_
          refine A_iload_n dX8_bites_72 rfl rfl ?_
          have hq : (q_bites σ (nI p1)) = (x3, σ) := by
            unfold q_bites
            rw [if_pos h_1', hc_p1, e_x3]
          exact A_iret dX8_bites_73 rfl (hP _ _ (RQ_i hq (hR.fin0 (sC.rf sg))))
        · skip
          exact absurd (by decide) h_2
      | succ q_i9 ih =>
        intro i9 x3 hi_i9  e_x3
        refine A_aload_n dX8_bites_28 rfl rfl ?_
        refine B_getV ((nI i9)) dX8_bites_29 flX8_37 (hM 0 _ rfl) rfl ((mr_9 _ _ _).trans cr_Air_Air) ?_
        refine A_bipush (v := 40) dX8_bites_32 (by decide) ?_
        refine A_icmp_gt (tgt := 67) dX8_bites_34 rfl (fun h_3 => ?_) (fun h_3 => ?_)
        · skip
          exact absurd h_3 (nI_nlt (b := i9) (a := 40) (by omega) (by decide))
        · skip
          refine A_aload_n dX8_bites_37 rfl rfl ?_
          refine A_iload_n dX8_bites_38 rfl rfl ?_
          refine A_callV (n := 0) dX8_bites_39 kvX8_speaksNow mlX8_239 rfl (az_rc_obj clX8 (hM 0 _ rfl)) (r_speaksNow l G (d + 29) sh sg la kp tr (sAir (xN σ) (nI i9)) p1 hM (co_Air hO) (cv_Air hL) (cp_Air hp1) (cg_Air (by rw [haw]; exact nI_n1 (by omega)))) (by omega) (Nat.le_refl _) (Nat.le_refl _) rfl (Nat.le_of_ble_eq_true rfl) (fun r S1 hp => ?_)
          obtain ⟨rfl, rfl⟩ := hp
          show AW l G mX8_bites (d + 32) (az_F G Post) 0 0 42 [some (.ref 60), some (.int (nI p1)), some (.int (cAir (xN σ))), some (.int x3)] [.int (b2i (zsp (sAir (xN σ) (nI i9)) p1 = true))] (sh, (mput sg 60 (sAir (xN σ) (nI i9))), la)
          refine A_if_eq (tgt := 52) dX8_bites_42 rfl (fun h_4 => ?_) (fun h_4 => ?_)
          · skip
            have h_4' := b2i_0.mp h_4
            refine A_iload_n dX8_bites_52 rfl rfl ?_
            refine A_istore_n (lo2 := [some (.ref 60), some (.int (nI p1)), some (.int (cAir (xN σ))), some (.int x3)]) dX8_bites_53 rfl (by decide) rfl ?_
            refine A_aload_n dX8_bites_54 rfl rfl ?_
            refine A_dup dX8_bites_55 rfl ?_
            refine B_getV ((nI i9)) dX8_bites_56 flX8_37 (hM 0 _ rfl) rfl ((mr_9 _ _ _).trans cr_Air_Air) ?_
            refine A_iconst (v := 1) dX8_bites_59 (by decide) ?_
            refine A_iadd dX8_bites_60 ?_
            refine B_putI dX8_bites_61 fwX8_37 (hM 0 _ rfl) rfl ?_
            refine B_sg (show _ = (mput sg 60 (sAir (xN σ) ((nI i9) + 1))) from (mw_9 _ _ _ _).trans (congrArg (mput sg 60) cw_Air_Air)) ?_
            refine B_sg (show _ = mput sg 60 (sAir (xN σ) (nI (i9 + 1))) from congrArg (fun z => mput sg 60 (sAir (xN σ) z)) (nI_1 i9)) ?_
            refine A_goto (tgt := 28) dX8_bites_64 rfl ?_
            refine ih (i9 + 1) _ (by omega) ?_
            · skip
              rw [zlast_n (f := q_biP σ p1) (n := i9) h_4']; exact e_x3
          · skip
            have h_4' := b2i_n.mp h_4
            refine A_aload_n dX8_bites_45 rfl rfl ?_
            refine B_getV ((nI i9)) dX8_bites_46 flX8_37 (hM 0 _ rfl) rfl ((mr_9 _ _ _).trans cr_Air_Air) ?_
            refine A_goto (tgt := 53) dX8_bites_49 rfl ?_
            refine A_istore_n (lo2 := [some (.ref 60), some (.int (nI p1)), some (.int (cAir (xN σ))), some (.int (nI i9))]) dX8_bites_53 rfl (by decide) rfl ?_
            refine A_aload_n dX8_bites_54 rfl rfl ?_
            refine A_dup dX8_bites_55 rfl ?_
            refine B_getV ((nI i9)) dX8_bites_56 flX8_37 (hM 0 _ rfl) rfl ((mr_9 _ _ _).trans cr_Air_Air) ?_
            refine A_iconst (v := 1) dX8_bites_59 (by decide) ?_
            refine A_iadd dX8_bites_60 ?_
            refine B_putI dX8_bites_61 fwX8_37 (hM 0 _ rfl) rfl ?_
            refine B_sg (show _ = (mput sg 60 (sAir (xN σ) ((nI i9) + 1))) from (mw_9 _ _ _ _).trans (congrArg (mput sg 60) cw_Air_Air)) ?_
            refine B_sg (show _ = mput sg 60 (sAir (xN σ) (nI (i9 + 1))) from congrArg (fun z => mput sg 60 (sAir (xN σ) z)) (nI_1 i9)) ?_
            refine A_goto (tgt := 28) dX8_bites_64 rfl ?_
            refine ih (i9 + 1) _ (by omega) ?_
            · skip
              rw [zlast_y (f := q_biP σ p1) (n := i9) h_4']; rfl
    exact loop (41) 0 _ (by omega) (rfl)
  · skip
    have h_1' := b2i_0.mp h_1
    refine A_aload_n dX8_bites_9 rfl rfl ?_
    refine A_bipush (v := (-2)) dX8_bites_10 (by decide) ?_
    refine A_callV (n := 0) dX8_bites_12 kvX8_refuse mlX8_101 rfl (az_rc_obj clX8 (hM 0 _ rfl)) (c_X8_refuse l G (d + 31) sh (mput sg 60 (xN σ)) la kp tr (-2) 0 hM (by decide) (by decide)) (by omega) (Nat.le_refl _) (Nat.le_refl _) rfl (Nat.le_of_ble_eq_true rfl) (fun r S1 hp => ?_)
    obtain ⟨rfl, rfl⟩ := hp
    show AW l G mX8_bites (d + 32) (az_F G Post) 0 0 15 [some (.ref 60), some (.int p), none, none] [.int (-2)] (sh, (az_w (mput sg 60 (xN σ)) 76 (0 + 2) ((mput sg 60 (xN σ)) 76 (0 + 2) + 1)), la)
    have hq : (q_bites σ p) = ((-2), (rfs σ 0)) := by
      unfold q_bites
      try simp only [h_1', and_true, true_and, and_false, false_and, and_self, or_true, true_or, or_false, false_or, not_true_eq_false, not_false_eq_true, if_true, if_false, ite_true, ite_false, decide_true, decide_false, reduceIte]
      first | done | rfl
    exact A_iret dX8_bites_15 rfl (hP _ _ (RQ_i hq ((hR.fin0 (sC.rf sg)).ref (k := 0) (by decide))))
def zdn (f : Nat → Bool) (n : Nat) : Nat → Option Nat
  | 0 => none
  | m + 1 => if f (n - (m + 1)) = true then some (n - (m + 1)) else zdn f n m
theorem zdn_i (f : Nat → Bool) (n : Nat) : ∀ m, m ≤ n → (zdn f n m = none ∧ ∀ k, n - m ≤ k → k < n → f k = false) ∨ ∃ k, zdn f n m = some k ∧ n - m ≤ k ∧ k < n ∧ f k = true ∧ ∀ j, n - m ≤ j → j < k → f j = false
  | 0, _ => Or.inl ⟨rfl, fun k a b => absurd a (by omega)⟩
  | m + 1, h => by
    by_cases q : f (n - (m + 1)) = true
    · refine Or.inr ⟨n - (m + 1), if_pos q, by omega, by omega, q, fun j a b => absurd a (by omega)⟩
    · have e : zdn f n (m + 1) = zdn f n m := if_neg q
      rw [e]
      rcases zdn_i f n m (by omega) with ⟨h1, h2⟩ | ⟨k, h1, h2, h3, h4, h5⟩
      · refine Or.inl ⟨h1, fun k a b => ?_⟩
        by_cases z : k = n - (m + 1)
        · rw [z]; exact Bool.eq_false_iff.mpr q
        · exact h2 k (by omega) b
      · refine Or.inr ⟨k, h1, by omega, h3, h4, fun j a b => ?_⟩
        by_cases z : j = n - (m + 1)
        · rw [z]; exact Bool.eq_false_iff.mpr q
        · exact h5 j (by omega) b
theorem zdn_f (f : Nat → Bool) (n : Nat) : zdn f n n = zfind f n := by
  rcases zdn_i f n n (Nat.le_refl _) with ⟨h1, h2⟩ | ⟨k, h1, h2, h3, h4, h5⟩
  · rw [h1, zfind_none (fun k hk => h2 k (by omega) hk)]
  · rw [h1, zfind_some h3 h4 (fun j hj => h5 j (by omega) hj)]
theorem sBr_id (c : CT) (p : Nat) : sBr c (va_up (cBr c) p (cBr c p)) = c := by rw [az_up_id]; simp only [sBr, cPp, cAir, cFall, cDay, cWin, cCoal, cSeed, cLov, cAway, cKd, cAa, cPr, cBr, cFe]
set_option maxHeartbeats 1000000 in
set_option maxRecDepth 100000 in
theorem y_brandyFor (l : Launch) (G : az_Gh) (d : Nat) (sh : List az_Sh) (sg : Nat → Nat → Int32) (la : Nat → Nat → Int64) (g : GGM) (σ : SGM) (kp tr : Option Nat) (p : Int32) (hM : az_at sh 60 (lyM 60 kp tr)) (hR : RX g sg la σ kp tr) (hW : WF σ)  : AM l G (d + 32) mX8_brandyFor [.ref 60, .int p] (sh, sg, la) 0 0 (RQ sh g kp tr (.int (q_brandyFor σ p).1) (q_brandyFor σ p).2) := by
  refine az_am knX8_brandyFor (Nat.le_of_ble_eq_true rfl) rfl (fun Post hP => ?_)
  show AW l G mX8_brandyFor (d + 32) (az_F G Post) 0 0 0 [some (.ref 60), some (.int p), none, none, none] [] (sh, sg, la)
  have hO := hW.1.1.1
  have hL := cW_lv hW.1
  have haw := hW.1.2.2.1
  have h8 := hO.2
  refine B_sg hR.z.symm ?_
  refine A_aload_n dX8_brandyFor_0 rfl rfl ?_
  refine A_iload_n dX8_brandyFor_1 rfl rfl ?_
  refine A_i2l dX8_brandyFor_2 ?_
  refine A_callV (n := 0) dX8_brandyFor_3 kvX8_isPerson mlX8_112 rfl (az_rc_obj clX8 (hM 0 _ rfl)) (r_isPerson l G (d + 30) sh sg la kp tr (xN σ) p hM hO) (by omega) (Nat.le_refl _) (Nat.le_refl _) rfl (Nat.le_of_ble_eq_true rfl) (fun r S1 hp => ?_)
  obtain ⟨rfl, rfl⟩ := hp
  show AW l G mX8_brandyFor (d + 32) (az_F G Post) 0 0 6 [some (.ref 60), some (.int p), none, none, none] [.int (b2i (0 ≤ p ∧ p < cPp (xN σ)))] (sh, (mput sg 60 (xN σ)), la)
  refine A_if_ne (tgt := 16) dX8_brandyFor_6 rfl (fun h_1 => ?_) (fun h_1 => ?_)
  · skip
    have h_1' := b2i_n.mp h_1
    obtain ⟨p1, hp1, rfl⟩ := nI_exp hO h_1'
    have hc_p1 : (nI p1).toNatClampNeg = p1 := nI_clamp (by omega)
    refine A_aload_n dX8_brandyFor_16 rfl rfl ?_
    refine B_getR (r := 80) dX8_brandyFor_17 flX8_59 (hM 0 _ rfl) rfl ?_
    refine A_iload_n dX8_brandyFor_20 rfl rfl ?_
    refine B_ialdV (i := p1) (cBr (xN σ) p1) dX8_brandyFor_21 (hM 20 _ rfl) (by decide) (rfl) (by omega) (me_20 _ _ _ _) ?_
    refine A_istore_n (lo2 := [some (.ref 60), some (.int (nI p1)), some (.int (cBr (xN σ) p1)), none, none]) dX8_brandyFor_22 rfl (by decide) rfl ?_
    refine A_iconst (v := (-1)) dX8_brandyFor_23 (by decide) ?_
    refine A_istore_n (lo2 := [some (.ref 60), some (.int (nI p1)), some (.int (cBr (xN σ) p1)), some (.int (-1)), none]) dX8_brandyFor_24 rfl (by decide) rfl ?_
    refine A_bipush (v := 9) dX8_brandyFor_25 (by decide) ?_
    refine A_istore (lo2 := [some (.ref 60), some (.int (nI p1)), some (.int (cBr (xN σ) p1)), some (.int (-1)), some (.int 9)]) dX8_brandyFor_27 (by decide) rfl ?_
    refine B_sg (show _ = mput sg 60 (sBr (xN σ) (va_up (cBr (xN σ)) p1 (cBr (xN σ) p1))) from congrArg (mput sg 60) (sBr_id (xN σ) p1).symm) ?_
    have loop : ∀ (q9 : Nat) (v9 : Int32) (x9 y9 : Int32), q9 ≤ 10 → x9 = nI q9 - 1 → y9 = oI (zdn (q_brP σ p1) 10 (10 - q9)) → AW l G mX8_brandyFor (d + 32) (az_F G Post) 0 0 29 [some (.ref 60), some (.int (nI p1)), some (.int (cBr (xN σ) p1)), some (.int y9), some (.int x9)] [] (sh, (mput sg 60 (sBr (xN σ) (va_up (cBr (xN σ)) p1 v9))), la) := by
      intro q9
      induction q9 with
      | zero =>
        intro v9 x9 y9 hq9 e_x9 e_y9 
        subst x9
        refine A_iload dX8_brandyFor_29 rfl ?_
        refine A_if_lt (tgt := 62) dX8_brandyFor_31 rfl (fun h_2 => ?_) (fun h_2 => ?_)
        · skip
          refine A_aload_n dX8_brandyFor_62 rfl rfl ?_
          refine B_getR (r := 80) dX8_brandyFor_63 flX8_59 (hM 0 _ rfl) rfl ?_
          refine A_iload_n dX8_brandyFor_66 rfl rfl ?_
          refine A_iload_n dX8_brandyFor_67 rfl rfl ?_
          refine B_iast (i := p1) dX8_brandyFor_68 (hM 20 _ rfl) (by decide) (rfl) (by omega) ?_
          refine B_sg (show _ = (mput sg 60 (sBr (xN σ) (va_up (va_up (cBr (xN σ)) p1 v9) p1 (cBr (xN σ) p1)))) from (mx_20 _ _ _ _ _).trans (congrArg (mput sg 60) cu_Br_Br)) ?_
          refine B_sg (show _ = mput sg 60 (xN σ) from congrArg (mput sg 60) ((congrArg (sBr (xN σ)) (az_up_up _ _ _ _)).trans (sBr_id (xN σ) p1))) ?_
          refine A_iload_n dX8_brandyFor_69 rfl rfl ?_
          have hq : (q_brandyFor σ (nI p1)) = (y9, σ) := by
            unfold q_brandyFor
            rw [if_pos h_1', hc_p1, ← zdn_f, e_y9]
          exact A_iret dX8_brandyFor_70 rfl (hP _ _ (RQ_i hq (hR.fin0 (sC.rf sg))))
        · skip
          exact absurd (show nI 0 - 1 < 0 by decide) h_2
      | succ q9 ih =>
        intro v9 x9 y9 hq9 e_x9 e_y9 
        rw [nI_pred] at e_x9
        subst x9
        refine A_iload dX8_brandyFor_29 rfl ?_
        refine A_if_lt (tgt := 62) dX8_brandyFor_31 rfl (fun h_3 => ?_) (fun h_3 => ?_)
        · skip
          exact absurd h_3 (nI_pos (by omega))
        · skip
          refine A_aload_n dX8_brandyFor_34 rfl rfl ?_
          refine B_getR (r := 80) dX8_brandyFor_35 flX8_59 (hM 0 _ rfl) rfl ?_
          refine A_iload_n dX8_brandyFor_38 rfl rfl ?_
          refine A_iload dX8_brandyFor_39 rfl ?_
          refine B_iast (i := p1) dX8_brandyFor_41 (hM 20 _ rfl) (by decide) (rfl) (by omega) ?_
          refine B_sg (show _ = (mput sg 60 (sBr (xN σ) (va_up (va_up (cBr (xN σ)) p1 v9) p1 (nI q9)))) from (mx_20 _ _ _ _ _).trans (congrArg (mput sg 60) cu_Br_Br)) ?_
          refine B_sg (show _ = mput sg 60 (sBr (xN σ) (va_up (cBr (xN σ)) p1 (nI q9))) from congrArg (fun z => mput sg 60 (sBr (xN σ) z)) (az_up_up _ _ _ _)) ?_
          refine A_aload_n dX8_brandyFor_42 rfl rfl ?_
          refine A_callV (n := 0) dX8_brandyFor_43 kvX8_isSoNow mlX8_244 rfl (az_rc_obj clX8 (hM 0 _ rfl)) (r_isSoNow l G (d + 28) sh sg la kp tr (sBr (xN σ) (va_up (cBr (xN σ)) p1 (nI q9))) hM (co_Br hO) (cv_Br hL)) (by omega) (Nat.le_refl _) (Nat.le_refl _) rfl (Nat.le_of_ble_eq_true rfl) (fun r S1 hp => ?_)
          obtain ⟨rfl, rfl⟩ := hp
          show AW l G mX8_brandyFor (d + 32) (az_F G Post) 0 0 46 [some (.ref 60), some (.int (nI p1)), some (.int (cBr (xN σ) p1)), some (.int y9), some (.int (nI q9))] [.int (b2i (zso (sBr (xN σ) (va_up (cBr (xN σ)) p1 (nI q9))) = true))] (sh, (mput sg 60 (sBr (xN σ) (va_up (cBr (xN σ)) p1 (nI q9)))), la)
          refine A_if_eq (tgt := 53) dX8_brandyFor_46 rfl (fun h_4 => ?_) (fun h_4 => ?_)
          · skip
            have h_4' := b2i_0.mp h_4
            refine A_iload dX8_brandyFor_53 rfl ?_
            refine A_istore_n (lo2 := [some (.ref 60), some (.int (nI p1)), some (.int (cBr (xN σ) p1)), some (.int (nI q9)), some (.int (nI q9))]) dX8_brandyFor_55 rfl (by decide) rfl ?_
            refine A_iinc (v := (nI q9 + (-1))) (lo2 := [some (.ref 60), some (.int (nI p1)), some (.int (cBr (xN σ) p1)), some (.int (nI q9)), some (.int (nI q9 + (-1)))]) dX8_brandyFor_56 rfl rfl (by decide) rfl ?_
            refine A_goto (tgt := 29) dX8_brandyFor_59 rfl ?_
            have hqn : 10 - q9 = (10 - (q9 + 1)) + 1 := by omega
            have hqk : 10 - ((10 - (q9 + 1)) + 1) = q9 := by omega
            refine ih _ _ _ (by omega) (show nI q9 + (-1) = nI q9 - 1 by rw [Int32.sub_eq_add_neg]) (by rw [hqn]; show _ = oI (if (q_brP σ p1) (10 - ((10 - (q9 + 1)) + 1)) = true then some (10 - ((10 - (q9 + 1)) + 1)) else _); rw [hqk, if_pos (by unfold q_brP; rw [Bool.eq_false_iff.mpr h_4']; rfl)]; rfl)
          · skip
            have h_4' := b2i_n.mp h_4
            refine A_iload_n dX8_brandyFor_49 rfl rfl ?_
            refine A_goto (tgt := 55) dX8_brandyFor_50 rfl ?_
            refine A_istore_n (lo2 := [some (.ref 60), some (.int (nI p1)), some (.int (cBr (xN σ) p1)), some (.int y9), some (.int (nI q9))]) dX8_brandyFor_55 rfl (by decide) rfl ?_
            refine A_iinc (v := (nI q9 + (-1))) (lo2 := [some (.ref 60), some (.int (nI p1)), some (.int (cBr (xN σ) p1)), some (.int y9), some (.int (nI q9 + (-1)))]) dX8_brandyFor_56 rfl rfl (by decide) rfl ?_
            refine A_goto (tgt := 29) dX8_brandyFor_59 rfl ?_
            have hqn : 10 - q9 = (10 - (q9 + 1)) + 1 := by omega
            have hqk : 10 - ((10 - (q9 + 1)) + 1) = q9 := by omega
            refine ih _ _ _ (by omega) (show nI q9 + (-1) = nI q9 - 1 by rw [Int32.sub_eq_add_neg]) (by rw [hqn]; show _ = oI (if (q_brP σ p1) (10 - ((10 - (q9 + 1)) + 1)) = true then some (10 - ((10 - (q9 + 1)) + 1)) else _); rw [hqk, if_neg (by unfold q_brP; rw [h_4']; decide)]; exact e_y9)
    exact loop 10 _ _ _ (Nat.le_refl _) (by decide) (by rw [Nat.sub_self]; rfl)
  · skip
    have h_1' := b2i_0.mp h_1
    refine A_aload_n dX8_brandyFor_9 rfl rfl ?_
    refine A_bipush (v := (-2)) dX8_brandyFor_10 (by decide) ?_
    refine A_callV (n := 0) dX8_brandyFor_12 kvX8_refuse mlX8_101 rfl (az_rc_obj clX8 (hM 0 _ rfl)) (c_X8_refuse l G (d + 31) sh (mput sg 60 (xN σ)) la kp tr (-2) 0 hM (by decide) (by decide)) (by omega) (Nat.le_refl _) (Nat.le_refl _) rfl (Nat.le_of_ble_eq_true rfl) (fun r S1 hp => ?_)
    obtain ⟨rfl, rfl⟩ := hp
    show AW l G mX8_brandyFor (d + 32) (az_F G Post) 0 0 15 [some (.ref 60), some (.int p), none, none, none] [.int (-2)] (sh, (az_w (mput sg 60 (xN σ)) 76 (0 + 2) ((mput sg 60 (xN σ)) 76 (0 + 2) + 1)), la)
    have hq : (q_brandyFor σ p) = ((-2), (rfs σ 0)) := by
      unfold q_brandyFor
      try simp only [h_1', and_true, true_and, and_false, false_and, and_self, or_true, true_or, or_false, false_or, not_true_eq_false, not_false_eq_true, if_true, if_false, ite_true, ite_false, decide_true, decide_false, reduceIte]
      first | done | rfl
    exact A_iret dX8_brandyFor_15 rfl (hP _ _ (RQ_i hq ((hR.fin0 (sC.rf sg)).ref (k := 0) (by decide))))
set_option maxHeartbeats 1000000 in
set_option maxRecDepth 100000 in
theorem y_fallFor (l : Launch) (G : az_Gh) (d : Nat) (sh : List az_Sh) (sg : Nat → Nat → Int32) (la : Nat → Nat → Int64) (g : GGM) (σ : SGM) (kp tr : Option Nat) (t : Int32) (hM : az_at sh 60 (lyM 60 kp tr)) (hR : RX g sg la σ kp tr) (hW : WF σ)  : AM l G (d + 32) mX8_fallFor [.ref 60, .int t] (sh, sg, la) 0 0 (RQ sh g kp tr (.int (q_fallFor σ t).1) (q_fallFor σ t).2) := by
  refine az_am knX8_fallFor (Nat.le_of_ble_eq_true rfl) rfl (fun Post hP => ?_)
  show AW l G mX8_fallFor (d + 32) (az_F G Post) 0 0 0 [some (.ref 60), some (.int t), none, none] [] (sh, sg, la)
  have hO := hW.1.1.1
  have hL := cW_lv hW.1
  have haw := hW.1.2.2.1
  have h8 := hO.2
  refine B_sg hR.z.symm ?_
  refine A_iload_n dX8_fallFor_0 rfl rfl ?_
  refine A_i2l dX8_fallFor_1 ?_
  refine A_lconst (v := 0) dX8_fallFor_2 (by decide) ?_
  refine A_ldc2 (v := 60) dX8_fallFor_3 lcX8_291 ?_
  refine A_callS (n := 0) dX8_fallFor_6 ksX8_in mlX8_91 rfl (c_X8_inI l G (d + 31) sh (mput sg 60 (xN σ)) la t 60 60 (by decide)) (by omega) (Nat.le_refl _) (Nat.le_refl _) rfl (Nat.le_of_ble_eq_true rfl) (fun r S1 hp => ?_)
  obtain ⟨rfl, rfl⟩ := hp
  show AW l G mX8_fallFor (d + 32) (az_F G Post) 0 0 9 [some (.ref 60), some (.int t), none, none] [.int (b2i (0 ≤ t ∧ t ≤ 60))] (sh, (mput sg 60 (xN σ)), la)
  refine A_if_ne (tgt := 19) dX8_fallFor_9 rfl (fun h_1 => ?_) (fun h_1 => ?_)
  · skip
    have h_1' := b2i_n.mp h_1
    obtain ⟨t1, ht1, rfl⟩ := nI_ex (m := 60) h_1'
    have hc_t1 : (nI t1).toNatClampNeg = t1 := nI_clamp (by omega)
    refine A_iconst (v := (-1)) dX8_fallFor_19 (by decide) ?_
    refine A_istore_n (lo2 := [some (.ref 60), some (.int (nI t1)), some (.int (-1)), none]) dX8_fallFor_20 rfl (by decide) rfl ?_
    refine A_iconst (v := 5) dX8_fallFor_21 (by decide) ?_
    refine A_istore_n (lo2 := [some (.ref 60), some (.int (nI t1)), some (.int (-1)), some (.int 5)]) dX8_fallFor_22 rfl (by decide) rfl ?_
    have loop : ∀ (q9 : Nat) (u9 : Nat → Nat → Int32) (x9 y9 : Int32), q9 ≤ 6 → x9 = nI q9 - 1 → y9 = oI (zdn (q_faP σ t1) 6 (6 - q9)) → sC sg u9 → AW l G mX8_fallFor (d + 32) (az_F G Post) 0 0 23 [some (.ref 60), some (.int (nI t1)), some (.int y9), some (.int x9)] [] (sh, (mput u9 60 (xN σ)), la) := by
      intro q9
      induction q9 with
      | zero =>
        intro u9 x9 y9 hq9 e_x9 e_y9 hs9
        subst x9
        refine A_iload_n dX8_fallFor_23 rfl rfl ?_
        refine A_if_lt (tgt := 60) dX8_fallFor_24 rfl (fun h_2 => ?_) (fun h_2 => ?_)
        · skip
          refine A_iload_n dX8_fallFor_60 rfl rfl ?_
          have hq : (q_fallFor σ (nI t1)) = (y9, σ) := by
            unfold q_fallFor
            rw [if_pos h_1', hc_t1, ← zdn_f, e_y9]
          exact A_iret dX8_fallFor_61 rfl (hP _ _ (RQ_i hq (hR.fin0 hs9)))
        · skip
          exact absurd (show nI 0 - 1 < 0 by decide) h_2
      | succ q9 ih =>
        intro u9 x9 y9 hq9 e_x9 e_y9 hs9
        rw [nI_pred] at e_x9
        subst x9
        refine A_iload_n dX8_fallFor_23 rfl rfl ?_
        refine A_if_lt (tgt := 60) dX8_fallFor_24 rfl (fun h_3 => ?_) (fun h_3 => ?_)
        · skip
          exact absurd h_3 (nI_pos (by omega))
        · skip
          refine A_aload_n dX8_fallFor_27 rfl rfl ?_
          refine A_callV (n := 0) dX8_fallFor_28 kvX8_keeps mlX8_265 rfl (az_rc_obj clX8 (hM 0 _ rfl)) (r_keeps l G (d + 31) sh u9 la kp tr (xN σ) hM hO) (by omega) (Nat.le_refl _) (Nat.le_refl _) rfl (Nat.le_of_ble_eq_true rfl) (fun r S1 hp => ?_)
          obtain ⟨rfl, rfl⟩ := hp
          show AW l G mX8_fallFor (d + 32) (az_F G Post) 0 0 31 [some (.ref 60), some (.int (nI t1)), some (.int y9), some (.int (nI q9))] [] (sh, (mput (mkp u9 (xN σ)) 60 (xN σ)), la)
          refine A_aload_n dX8_fallFor_31 rfl rfl ?_
          refine A_iload_n dX8_fallFor_32 rfl rfl ?_
          refine B_putI dX8_fallFor_33 fwX8_41 (hM 0 _ rfl) rfl ?_
          refine B_sg (show _ = (mput (mkp u9 (xN σ)) 60 (sFall (xN σ) (nI q9))) from mw_10 _ _ _ _) ?_
          refine A_aload_n dX8_fallFor_36 rfl rfl ?_
          refine A_callV (n := 0) dX8_fallFor_37 kvX8_whenSo mlX8_268 rfl (az_rc_obj clX8 (hM 0 _ rfl)) (r_whenSo l G (d + 27) sh (mkp u9 (xN σ)) la kp tr (sFall (xN σ) (nI q9)) hM (co_Fall hO) (cv_Fall hL)) (by omega) (Nat.le_refl _) (Nat.le_refl _) rfl (Nat.le_of_ble_eq_true rfl) (fun r S1 hp => ?_)
          obtain ⟨rfl, rfl⟩ := hp
          show AW l G mX8_fallFor (d + 32) (az_F G Post) 0 0 40 [some (.ref 60), some (.int (nI t1)), some (.int y9), some (.int (nI q9))] [.int (nI (zwhen (sFall (xN σ) (nI q9)) 60))] (sh, (mput (az_w (mkp u9 (xN σ)) 60 34 (mwho (sFall (xN σ) (nI q9)))) 60 (zdays (zwhen (sFall (xN σ) (nI q9)) 60) (sFall (xN σ) (nI q9)))), la)
          refine A_iload_n dX8_fallFor_40 rfl rfl ?_
          refine A_icmp_gt (tgt := 48) dX8_fallFor_41 rfl (fun h_4 => ?_) (fun h_4 => ?_)
          · skip
            refine A_iload_n dX8_fallFor_48 rfl rfl ?_
            refine A_istore_n (lo2 := [some (.ref 60), some (.int (nI t1)), some (.int y9), some (.int (nI q9))]) dX8_fallFor_49 rfl (by decide) rfl ?_
            refine A_aload_n dX8_fallFor_50 rfl rfl ?_
            refine A_callV (n := 0) dX8_fallFor_51 kvX8_goesBack mlX8_271 rfl (az_rc_obj clX8 (hM 0 _ rfl)) (r_goesBack l G (d + 31) sh (az_w (mkp u9 (xN σ)) 60 34 (mwho (sFall (xN σ) (nI q9)))) la kp tr (xN σ) (zdays (zwhen (sFall (xN σ) (nI q9)) 60) (sFall (xN σ) (nI q9))) hM hO (kpt_w (kpt_kp u9 (xN σ)) (by decide) _) (mdf_days (mdf_fall (mdf_rf (xN σ)) _) _)) (by omega) (Nat.le_refl _) (Nat.le_refl _) rfl (Nat.le_of_ble_eq_true rfl) (fun r S1 hp => ?_)
            obtain ⟨rfl, rfl⟩ := hp
            show AW l G mX8_fallFor (d + 32) (az_F G Post) 0 0 54 [some (.ref 60), some (.int (nI t1)), some (.int y9), some (.int (nI q9))] [] (sh, (mput (az_w (mkp u9 (xN σ)) 60 34 (mwho (sFall (xN σ) (nI q9)))) 60 (xN σ)), la)
            refine A_iinc (v := (nI q9 + (-1))) (lo2 := [some (.ref 60), some (.int (nI t1)), some (.int y9), some (.int (nI q9 + (-1)))]) dX8_fallFor_54 rfl rfl (by decide) rfl ?_
            refine A_goto (tgt := 23) dX8_fallFor_57 rfl ?_
            have hqn : 6 - q9 = (6 - (q9 + 1)) + 1 := by omega
            have hqk : 6 - ((6 - (q9 + 1)) + 1) = q9 := by omega
            refine ih _ _ _ (by omega) (show nI q9 + (-1) = nI q9 - 1 by rw [Int32.sub_eq_add_neg]) (by rw [hqn]; show _ = oI (if (q_faP σ t1) (6 - ((6 - (q9 + 1)) + 1)) = true then some (6 - ((6 - (q9 + 1)) + 1)) else _); rw [hqk, if_neg (by unfold q_faP; rw [zno_60 (by omega), decide_eq_true ((nI_ltI (by omega) (by have := zwhen_le (sFall (xN σ) (nI q9)) 60; omega)).mp h_4)]; decide)]; exact e_y9) ((hs9.kp _).w (j := 34) rfl _)
          · skip
            refine A_iload_n dX8_fallFor_44 rfl rfl ?_
            refine A_goto (tgt := 49) dX8_fallFor_45 rfl ?_
            refine A_istore_n (lo2 := [some (.ref 60), some (.int (nI t1)), some (.int (nI q9)), some (.int (nI q9))]) dX8_fallFor_49 rfl (by decide) rfl ?_
            refine A_aload_n dX8_fallFor_50 rfl rfl ?_
            refine A_callV (n := 0) dX8_fallFor_51 kvX8_goesBack mlX8_271 rfl (az_rc_obj clX8 (hM 0 _ rfl)) (r_goesBack l G (d + 31) sh (az_w (mkp u9 (xN σ)) 60 34 (mwho (sFall (xN σ) (nI q9)))) la kp tr (xN σ) (zdays (zwhen (sFall (xN σ) (nI q9)) 60) (sFall (xN σ) (nI q9))) hM hO (kpt_w (kpt_kp u9 (xN σ)) (by decide) _) (mdf_days (mdf_fall (mdf_rf (xN σ)) _) _)) (by omega) (Nat.le_refl _) (Nat.le_refl _) rfl (Nat.le_of_ble_eq_true rfl) (fun r S1 hp => ?_)
            obtain ⟨rfl, rfl⟩ := hp
            show AW l G mX8_fallFor (d + 32) (az_F G Post) 0 0 54 [some (.ref 60), some (.int (nI t1)), some (.int (nI q9)), some (.int (nI q9))] [] (sh, (mput (az_w (mkp u9 (xN σ)) 60 34 (mwho (sFall (xN σ) (nI q9)))) 60 (xN σ)), la)
            refine A_iinc (v := (nI q9 + (-1))) (lo2 := [some (.ref 60), some (.int (nI t1)), some (.int (nI q9)), some (.int (nI q9 + (-1)))]) dX8_fallFor_54 rfl rfl (by decide) rfl ?_
            refine A_goto (tgt := 23) dX8_fallFor_57 rfl ?_
            have hqn : 6 - q9 = (6 - (q9 + 1)) + 1 := by omega
            have hqk : 6 - ((6 - (q9 + 1)) + 1) = q9 := by omega
            refine ih _ _ _ (by omega) (show nI q9 + (-1) = nI q9 - 1 by rw [Int32.sub_eq_add_neg]) (by rw [hqn]; show _ = oI (if (q_faP σ t1) (6 - ((6 - (q9 + 1)) + 1)) = true then some (6 - ((6 - (q9 + 1)) + 1)) else _); rw [hqk, if_pos (by unfold q_faP; rw [zno_60 (by omega), decide_eq_false (fun q => Int32.not_lt.mpr (Int32.not_lt.mp h_4) (nI_lt q (by have := zwhen_le (sFall (xN σ) (nI q9)) 60; omega)))]; rfl)]; rfl) ((hs9.kp _).w (j := 34) rfl _)
    exact loop 6 _ _ _ (Nat.le_refl _) (by decide) (by rw [Nat.sub_self]; rfl) (sC.rf sg)
  · skip
    have h_1' := b2i_0.mp h_1
    refine A_aload_n dX8_fallFor_12 rfl rfl ?_
    refine A_bipush (v := (-2)) dX8_fallFor_13 (by decide) ?_
    refine A_callV (n := 0) dX8_fallFor_15 kvX8_refuse mlX8_101 rfl (az_rc_obj clX8 (hM 0 _ rfl)) (c_X8_refuse l G (d + 31) sh (mput sg 60 (xN σ)) la kp tr (-2) 0 hM (by decide) (by decide)) (by omega) (Nat.le_refl _) (Nat.le_refl _) rfl (Nat.le_of_ble_eq_true rfl) (fun r S1 hp => ?_)
    obtain ⟨rfl, rfl⟩ := hp
    show AW l G mX8_fallFor (d + 32) (az_F G Post) 0 0 18 [some (.ref 60), some (.int t), none, none] [.int (-2)] (sh, (az_w (mput sg 60 (xN σ)) 76 (0 + 2) ((mput sg 60 (xN σ)) 76 (0 + 2) + 1)), la)
    have hq : (q_fallFor σ t) = ((-2), (rfs σ 0)) := by
      unfold q_fallFor
      try simp only [h_1', and_true, true_and, and_false, false_and, and_self, or_true, true_or, or_false, false_or, not_true_eq_false, not_false_eq_true, if_true, if_false, ite_true, ite_false, decide_true, decide_false, reduceIte]
      first | done | rfl
    exact A_iret dX8_fallFor_18 rfl (hP _ _ (RQ_i hq ((hR.fin0 (sC.rf sg)).ref (k := 0) (by decide))))
