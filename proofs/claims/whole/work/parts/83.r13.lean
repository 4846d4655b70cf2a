set_option maxHeartbeats 1000000 in
set_option maxRecDepth 100000 in
theorem y_judge (l : Launch) (G : az_Gh) (d : Nat) (sh : List az_Sh) (sg : Nat → Nat → Int32) (la : Nat → Nat → Int64) (g : GGM) (σ : SGM) (kp tr : Option Nat) (s n : Int32) (hM : az_at sh 60 (lyM 60 kp tr)) (hR : RX g sg la σ kp tr) (hW : WF σ)  : AM l G (d + 32) mX8_judge [.ref 60, .int s, .int n] (sh, sg, la) 0 0 (RQ sh g kp tr (.int (q_judge σ s n).1) (q_judge σ s n).2) := by
  refine az_am knX8_judge (Nat.le_of_ble_eq_true rfl) rfl (fun Post hP => ?_)
  show AW l G mX8_judge (d + 32) (az_F G Post) 0 0 0 [some (.ref 60), some (.int s), some (.int n), none, none, none] [] (sh, sg, la)
  have hO := hW.1.1.1
  have hL := cW_lv hW.1
  have haw := hW.1.2.2.1
  have h8 := hO.2
  refine B_sg hR.z.symm ?_
  refine A_iload_n dX8_judge_0 rfl rfl ?_
  refine A_i2l dX8_judge_1 ?_
  refine A_lconst (v := 0) dX8_judge_2 (by decide) ?_
  refine A_ldc2 (v := 7) dX8_judge_3 lcX8_95 ?_
  refine A_callS (n := 0) dX8_judge_6 ksX8_in mlX8_91 rfl (c_X8_inI l G (d + 31) sh (mput sg 60 (xN σ)) la s 7 7 (by decide)) (by omega) (Nat.le_refl _) (Nat.le_refl _) rfl (Nat.le_of_ble_eq_true rfl) (fun r S1 hp => ?_)
  obtain ⟨rfl, rfl⟩ := hp
  show AW l G mX8_judge (d + 32) (az_F G Post) 0 0 9 [some (.ref 60), some (.int s), some (.int n), none, none, none] [.int (b2i (0 ≤ s ∧ s ≤ 7))] (sh, (mput sg 60 (xN σ)), la)
  refine A_if_eq (tgt := 24) dX8_judge_9 rfl (fun h_1 => ?_) (fun h_1 => ?_)
  · skip
    have h_1' := b2i_0.mp h_1
    refine A_aload_n dX8_judge_24 rfl rfl ?_
    refine A_bipush (v := (-2)) dX8_judge_25 (by decide) ?_
    refine A_callV (n := 0) dX8_judge_27 kvX8_refuse mlX8_101 rfl (az_rc_obj clX8 (hM 0 _ rfl)) (c_X8_refuse l G (d + 31) sh (mput sg 60 (xN σ)) la kp tr (-2) 0 hM (by decide) (by decide)) (by omega) (Nat.le_refl _) (Nat.le_refl _) rfl (Nat.le_of_ble_eq_true rfl) (fun r S1 hp => ?_)
    obtain ⟨rfl, rfl⟩ := hp
    show AW l G mX8_judge (d + 32) (az_F G Post) 0 0 30 [some (.ref 60), some (.int s), some (.int n), none, none, none] [.int (-2)] (sh, (az_w (mput sg 60 (xN σ)) 76 (0 + 2) ((mput sg 60 (xN σ)) 76 (0 + 2) + 1)), la)
    have hq : (q_judge σ s n) = ((-2), (rfs σ 0)) := by
      unfold q_judge
      rw [q_rf_a h_1']
      by_cases z : 0 ≤ n ∧ n ≤ 40
      · rw [if_pos z]; rfl
      · rw [if_neg z]; rfl
    exact A_iret dX8_judge_30 rfl (hP _ _ (RQ_i hq ((hR.fin0 (sC.rf sg)).ref (k := 0) (by decide))))
  · skip
    have h_1' := b2i_n.mp h_1
    refine A_iload_n dX8_judge_12 rfl rfl ?_
    refine A_i2l dX8_judge_13 ?_
    refine A_lconst (v := 0) dX8_judge_14 (by decide) ?_
    refine A_ldc2 (v := 40) dX8_judge_15 lcX8_99 ?_
    refine A_callS (n := 0) dX8_judge_18 ksX8_in mlX8_91 rfl (c_X8_inI l G (d + 31) sh (mput sg 60 (xN σ)) la n 40 40 (by decide)) (by omega) (Nat.le_refl _) (Nat.le_refl _) rfl (Nat.le_of_ble_eq_true rfl) (fun r S1 hp => ?_)
    obtain ⟨rfl, rfl⟩ := hp
    show AW l G mX8_judge (d + 32) (az_F G Post) 0 0 21 [some (.ref 60), some (.int s), some (.int n), none, none, none] [.int (b2i (0 ≤ n ∧ n ≤ 40))] (sh, (mput sg 60 (xN σ)), la)
    refine A_if_ne (tgt := 31) dX8_judge_21 rfl (fun h_2 => ?_) (fun h_2 => ?_)
    · skip
      have h_2' := b2i_n.mp h_2
      have hn40 := h_2'
      refine A_aload_n dX8_judge_31 rfl rfl ?_
      refine A_iload_n dX8_judge_32 rfl rfl ?_
      refine B_sg hR.z ?_
      refine A_callV (n := 0) dX8_judge_33 kvX8_noRow mlX8_105 rfl (az_rc_obj clX8 (hM 0 _ rfl)) (y_noRow l G (d + 28) sh sg la g σ kp tr s hM hR hW) (by omega) (Nat.le_refl _) (Nat.le_refl _) rfl (Nat.le_of_ble_eq_true rfl) (fun r S1 hp => ?_)
      obtain ⟨rfl, sg1, la1, rfl, hR1⟩ := hp
      show AW l G mX8_judge (d + 32) (az_F G Post) 0 0 36 [some (.ref 60), some (.int s), some (.int n), none, none, none] [.int (q_noRow σ s).1] (sh, sg1, la1)
      refine A_istore_n (lo2 := [some (.ref 60), some (.int s), some (.int n), some (.int (q_noRow σ s).1), none, none]) dX8_judge_36 rfl (by decide) rfl ?_
      refine A_iload_n dX8_judge_37 rfl rfl ?_
      refine A_if_eq (tgt := 43) dX8_judge_38 rfl (fun h_3 => ?_) (fun h_3 => ?_)
      · skip
        have hnz : q_rf σ s 0 = 0 := q_nr_0 h_3
        have enr : q_noRow σ s = (0, σ) := by unfold q_noRow; rw [if_pos hnz]
        rw [enr] at hR1
        have hR1 : RX g sg1 la1 σ kp tr := hR1
        obtain ⟨hsh, hb1, hb2, hb3⟩ := q_rf_0 hnz
        obtain ⟨s1, hs1, rfl⟩ := nI_ex (m := 7) hsh
        have hc_s1 : (nI s1).toNatClampNeg = s1 := nI_clamp (by omega)
        obtain ⟨n1, hn1, rfl⟩ := nI_ex (m := 40) hn40
        have hc_n1 : (nI n1).toNatClampNeg = n1 := nI_clamp (by omega)
        have hs8 : s1 < 8 := by omega
        have exf : xf σ (nI s1) = xS σ s1 := by unfold xf; rw [hc_s1]
        rw [exf] at hb1 hb2 hb3
        have erf : q_rf σ (nI s1) (nI n1) = if nI n1 ≤ nI (fSz (xS σ s1)) then 0 else -2 := by rw [q_rf_n hnz, exf]
        refine B_sg hR1.z.symm ?_
        refine A_aload_n dX8_judge_43 rfl rfl ?_
        refine B_getR (r := 63) dX8_judge_44 flX8_16 (hM 0 _ rfl) rfl ?_
        refine A_iload_n dX8_judge_47 rfl rfl ?_
        refine B_ialdV (i := s1) (nI (fSz (xS σ s1))) dX8_judge_48 (hM 3 _ rfl) (by decide) (rfl) (by omega) ((congrFun (mput_ne (by decide) (by decide)) _).trans ((hR1.sh (s := s1) (by omega)).2.1 hb2).2) ?_
        refine A_iload_n dX8_judge_49 rfl rfl ?_
        refine A_icmp_ge (tgt := 60) dX8_judge_50 rfl (fun h_4 => ?_) (fun h_4 => ?_)
        · skip
          have hsz : n1 ≤ fSz (xS σ s1) := (nI_leI (by omega) (by have := (hW.2.2.2 s1 hs8).2.1; omega)).mp h_4
          have hz4 := (hW.2.2.2 s1 hs8).2.1
          have hla1 := (hR1.sh hs8).2.2.2
          have hrf0 : q_rf σ (nI s1) (nI n1) = 0 := by rw [erf, if_pos h_4]
          refine A_aload_n dX8_judge_60 rfl rfl ?_
          refine A_callV (n := 0) dX8_judge_61 kvX8_keeps mlX8_265 rfl (az_rc_obj clX8 (hM 0 _ rfl)) (r_keeps l G (d + 31) sh sg1 la1 kp tr (xN σ) hM hO) (by omega) (Nat.le_refl _) (Nat.le_refl _) rfl (Nat.le_of_ble_eq_true rfl) (fun r S1 hp => ?_)
          obtain ⟨rfl, rfl⟩ := hp
          show AW l G mX8_judge (d + 32) (az_F G Post) 0 0 64 [some (.ref 60), some (.int (nI s1)), some (.int (nI n1)), some (.int (q_noRow σ (nI s1)).1), none, none] [] (sh, (mput (mkp sg1 (xN σ)) 60 (xN σ)), la1)
          refine A_iconst (v := (-1)) dX8_judge_64 (by decide) ?_
          refine A_istore (lo2 := [some (.ref 60), some (.int (nI s1)), some (.int (nI n1)), some (.int (q_noRow σ (nI s1)).1), some (.int (-1)), none]) dX8_judge_65 (by decide) rfl ?_
          refine A_iconst (v := 0) dX8_judge_67 (by decide) ?_
          refine A_istore (lo2 := [some (.ref 60), some (.int (nI s1)), some (.int (nI n1)), some (.int (q_noRow σ (nI s1)).1), some (.int (-1)), some (.int 0)]) dX8_judge_68 (by decide) rfl ?_
          show AW l G mX8_judge (d + 32) (az_F G Post) 0 0 70 [some (.ref 60), some (.int (nI s1)), some (.int (nI n1)), some (.int (q_noRow σ (nI s1)).1), some (.int (-1)), some (.int 0)] [] (sh, mput (mkp sg1 (xN σ)) 60 (zdays 0 (xN σ)), la1)
          have loop : ∀ (q_i9 i9 : Nat) (y4 : Int32), i9 + q_i9 = n1 → ((y4 = -1 ∧ ∀ k, k < i9 → q_juP σ (nI s1) k = false) ∨ (y4 = oI (zfind (q_juP σ (nI s1)) n1) ∧ ¬ y4 = -1)) → AW l G mX8_judge (d + 32) (az_F G Post) 0 0 70 [some (.ref 60), some (.int (nI s1)), some (.int (nI n1)), some (.int (q_noRow σ (nI s1)).1), some (.int y4), some (.int (nI i9))] [] (sh, (mput (mkp sg1 (xN σ)) 60 (zdays i9 (xN σ))), la1) := by
            intro q_i9
            induction q_i9 with
            | zero =>
              intro i9 y4 hi_i9 hinv 
              have hN_i9 : i9 = n1 := by omega
              subst i9
              refine A_iload dX8_judge_70 rfl ?_
              refine A_iload_n dX8_judge_72 rfl rfl ?_
              refine A_icmp_ge (tgt := 118) dX8_judge_73 rfl (fun h_5 => ?_) (fun h_5 => ?_)
              · skip
                refine A_aload_n dX8_judge_118 rfl rfl ?_
                refine A_callV (n := 0) dX8_judge_119 kvX8_goesBack mlX8_271 rfl (az_rc_obj clX8 (hM 0 _ rfl)) (r_goesBack l G (d + 31) sh (mkp sg1 (xN σ)) la1 kp tr (xN σ) (zdays n1 (xN σ)) hM hO (kpt_kp sg1 (xN σ)) (mdf_days (mdf_rf (xN σ)) _)) (by omega) (Nat.le_refl _) (Nat.le_refl _) rfl (Nat.le_of_ble_eq_true rfl) (fun r S1 hp => ?_)
                obtain ⟨rfl, rfl⟩ := hp
                show AW l G mX8_judge (d + 32) (az_F G Post) 0 0 122 [some (.ref 60), some (.int (nI s1)), some (.int (nI n1)), some (.int (q_noRow σ (nI s1)).1), some (.int y4), some (.int (nI n1))] [] (sh, (mput (mkp sg1 (xN σ)) 60 (xN σ)), la1)
                refine A_iload dX8_judge_122 rfl ?_
                have hq : (q_judge σ (nI s1) (nI n1)) = (y4, σ) := by
                  have ey : y4 = oI (zfind (q_juP σ (nI s1)) n1) := hinv.elim (fun q => by rw [q.1, zfind_none q.2]; rfl) (fun q => q.1)
                  unfold q_judge
                  rw [if_pos hn40, hrf0, if_pos rfl, hc_n1, ey]
                exact A_iret dX8_judge_124 rfl (hP _ _ (RQ_i hq (hR1.fin0 ((sC.rf sg1).kp _))))
              · skip
                exact absurd (Int32.le_refl _) h_5
            | succ q_i9 ih =>
              intro i9 y4 hi_i9 hinv 
              refine A_iload dX8_judge_70 rfl ?_
              refine A_iload_n dX8_judge_72 rfl rfl ?_
              refine A_icmp_ge (tgt := 118) dX8_judge_73 rfl (fun h_6 => ?_) (fun h_6 => ?_)
              · skip
                exact absurd h_6 (nI_ge (by omega) (by omega))
              · skip
                refine A_iload dX8_judge_76 rfl ?_
                refine A_iconst (v := (-1)) dX8_judge_78 (by decide) ?_
                refine A_icmp_ne (tgt := 118) dX8_judge_79 rfl (fun h_7 => ?_) (fun h_7 => ?_)
                · skip
                  refine A_aload_n dX8_judge_118 rfl rfl ?_
                  refine A_callV (n := 0) dX8_judge_119 kvX8_goesBack mlX8_271 rfl (az_rc_obj clX8 (hM 0 _ rfl)) (r_goesBack l G (d + 31) sh (mkp sg1 (xN σ)) la1 kp tr (xN σ) (zdays i9 (xN σ)) hM hO (kpt_kp sg1 (xN σ)) (mdf_days (mdf_rf (xN σ)) _)) (by omega) (Nat.le_refl _) (Nat.le_refl _) rfl (Nat.le_of_ble_eq_true rfl) (fun r S1 hp => ?_)
                  obtain ⟨rfl, rfl⟩ := hp
                  show AW l G mX8_judge (d + 32) (az_F G Post) 0 0 122 [some (.ref 60), some (.int (nI s1)), some (.int (nI n1)), some (.int (q_noRow σ (nI s1)).1), some (.int y4), some (.int (nI i9))] [] (sh, (mput (mkp sg1 (xN σ)) 60 (xN σ)), la1)
                  refine A_iload dX8_judge_122 rfl ?_
                  have hq : (q_judge σ (nI s1) (nI n1)) = (y4, σ) := by
                    have ey : y4 = oI (zfind (q_juP σ (nI s1)) n1) := hinv.elim (fun q => absurd q.1 h_7) (fun q => q.1)
                    unfold q_judge
                    rw [if_pos hn40, hrf0, if_pos rfl, hc_n1, ey]
                  exact A_iret dX8_judge_124 rfl (hP _ _ (RQ_i hq (hR1.fin0 ((sC.rf sg1).kp _))))
                · skip
                  have hno9 := hinv.resolve_right (fun q => q.2 h_7)
                  refine A_aload_n dX8_judge_82 rfl rfl ?_
                  refine A_callV (n := 0) dX8_judge_83 kvX8_coldestOf mlX8_236 rfl (az_rc_obj clX8 (hM 0 _ rfl)) (r_coldestOf l G (d + 29) sh (mkp sg1 (xN σ)) la1 kp tr (zdays i9 (xN σ)) hM (cOk_days hO i9) (cLv_days hL i9)) (by omega) (Nat.le_refl _) (Nat.le_refl _) rfl (Nat.le_of_ble_eq_true rfl) (fun r S1 hp => ?_)
                  obtain ⟨rfl, rfl⟩ := hp
                  show AW l G mX8_judge (d + 32) (az_F G Post) 0 0 86 [some (.ref 60), some (.int (nI s1)), some (.int (nI n1)), some (.int (q_noRow σ (nI s1)).1), some (.int y4), some (.int (nI i9))] [.int (oI (zbest (zdays i9 (xN σ))))] (sh, (mput (mkp sg1 (xN σ)) 60 (zdays i9 (xN σ))), la1)
                  refine A_i2l dX8_judge_86 ?_
                  refine A_aload_n dX8_judge_87 rfl rfl ?_
                  refine B_getR (r := 64) dX8_judge_88 flX8_21 (hM 0 _ rfl) rfl ?_
                  refine A_iload_n dX8_judge_91 rfl rfl ?_
                  have hL_s1 := lyM_row' hM (show s1 < 8 by omega)
                  refine B_aald (i := s1) (r := (65 + s1)) dX8_judge_92 (hM 4 _ rfl) (by decide) rfl rfl (by decide) (rfl) (by omega) (zsm_r (show s1 < 8 by omega)) ?_
                  refine A_iload dX8_judge_93 rfl ?_
                  refine B_laldV (i := i9) (xat (xS σ s1) (nI i9)) dX8_judge_95 (hL_s1 0 _ rfl) (by decide) (rfl) (by omega) ((congrFun hla1 _).trans (xat_l (by omega) (by omega)).symm) ?_
                  refine A_lcmp dX8_judge_96 ?_
                  refine A_if_ne (tgt := 104) dX8_judge_97 rfl (fun h_8 => ?_) (fun h_8 => ?_)
                  · skip
                    refine A_iload dX8_judge_104 rfl ?_
                    refine A_istore (lo2 := [some (.ref 60), some (.int (nI s1)), some (.int (nI n1)), some (.int (q_noRow σ (nI s1)).1), some (.int (nI i9)), some (.int (nI i9))]) dX8_judge_106 (by decide) rfl ?_
                    refine A_aload_n dX8_judge_108 rfl rfl ?_
                    refine A_callV (n := 0) dX8_judge_109 kvX8_cools mlX8_259 rfl (az_rc_obj clX8 (hM 0 _ rfl)) (r_cools l G (d + 30) sh (mkp sg1 (xN σ)) la1 kp tr (zdays i9 (xN σ)) hM (cOk_days hO i9)) (by omega) (Nat.le_refl _) (Nat.le_refl _) rfl (Nat.le_of_ble_eq_true rfl) (fun r S1 hp => ?_)
                    obtain ⟨rfl, rfl⟩ := hp
                    show AW l G mX8_judge (d + 32) (az_F G Post) 0 0 112 [some (.ref 60), some (.int (nI s1)), some (.int (nI n1)), some (.int (q_noRow σ (nI s1)).1), some (.int (nI i9)), some (.int (nI i9))] [] (sh, (mput (mkp sg1 (xN σ)) 60 (zcool 1 (zdays i9 (xN σ)))), la1)
                    refine A_iinc (v := nI (i9 + 1)) (lo2 := [some (.ref 60), some (.int (nI s1)), some (.int (nI n1)), some (.int (q_noRow σ (nI s1)).1), some (.int (nI i9)), some (.int (nI (i9 + 1)))]) dX8_judge_112 rfl (nI_1 i9) (by decide) rfl ?_
                    refine A_goto (tgt := 70) dX8_judge_115 rfl ?_
                    refine ih (i9 + 1) _ (by omega) (Or.inr ⟨by rw [zfind_some (i := i9) (by omega) (show q_juP σ (nI s1) i9 = true by unfold q_juP; rw [exf]; exact decide_eq_true (fun q => h_8 (lcmp_0.mpr q.symm))) hno9.2]; rfl, nI_n1 (by omega)⟩)
                  · skip
                    refine A_iconst (v := (-1)) dX8_judge_100 (by decide) ?_
                    refine A_goto (tgt := 106) dX8_judge_101 rfl ?_
                    refine A_istore (lo2 := [some (.ref 60), some (.int (nI s1)), some (.int (nI n1)), some (.int (q_noRow σ (nI s1)).1), some (.int (-1)), some (.int (nI i9))]) dX8_judge_106 (by decide) rfl ?_
                    refine A_aload_n dX8_judge_108 rfl rfl ?_
                    refine A_callV (n := 0) dX8_judge_109 kvX8_cools mlX8_259 rfl (az_rc_obj clX8 (hM 0 _ rfl)) (r_cools l G (d + 30) sh (mkp sg1 (xN σ)) la1 kp tr (zdays i9 (xN σ)) hM (cOk_days hO i9)) (by omega) (Nat.le_refl _) (Nat.le_refl _) rfl (Nat.le_of_ble_eq_true rfl) (fun r S1 hp => ?_)
                    obtain ⟨rfl, rfl⟩ := hp
                    show AW l G mX8_judge (d + 32) (az_F G Post) 0 0 112 [some (.ref 60), some (.int (nI s1)), some (.int (nI n1)), some (.int (q_noRow σ (nI s1)).1), some (.int (-1)), some (.int (nI i9))] [] (sh, (mput (mkp sg1 (xN σ)) 60 (zcool 1 (zdays i9 (xN σ)))), la1)
                    refine A_iinc (v := nI (i9 + 1)) (lo2 := [some (.ref 60), some (.int (nI s1)), some (.int (nI n1)), some (.int (q_noRow σ (nI s1)).1), some (.int (-1)), some (.int (nI (i9 + 1)))]) dX8_judge_112 rfl (nI_1 i9) (by decide) rfl ?_
                    refine A_goto (tgt := 70) dX8_judge_115 rfl ?_
                    refine ih (i9 + 1) _ (by omega) (Or.inl ⟨rfl, lt_s hno9.2 (show q_juP σ (nI s1) i9 = false by unfold q_juP; rw [exf]; exact decide_eq_false (fun q => q (lcmp_0.mp h_8).symm))⟩)
          exact loop (n1) 0 _ (by omega) (Or.inl ⟨rfl, lt_0⟩)
        · skip
          refine A_aload_n dX8_judge_53 rfl rfl ?_
          refine A_bipush (v := (-2)) dX8_judge_54 (by decide) ?_
          refine A_callV (n := 0) dX8_judge_56 kvX8_refuse mlX8_101 rfl (az_rc_obj clX8 (hM 0 _ rfl)) (c_X8_refuse l G (d + 31) sh (mput sg1 60 (xN σ)) la1 kp tr (-2) 0 hM (by decide) (by decide)) (by omega) (Nat.le_refl _) (Nat.le_refl _) rfl (Nat.le_of_ble_eq_true rfl) (fun r S1 hp => ?_)
          obtain ⟨rfl, rfl⟩ := hp
          show AW l G mX8_judge (d + 32) (az_F G Post) 0 0 59 [some (.ref 60), some (.int (nI s1)), some (.int (nI n1)), some (.int (q_noRow σ (nI s1)).1), none, none] [.int (-2)] (sh, (az_w (mput sg1 60 (xN σ)) 76 (0 + 2) ((mput sg1 60 (xN σ)) 76 (0 + 2) + 1)), la1)
          have hq : (q_judge σ (nI s1) (nI n1)) = ((-2), (rfs σ 0)) := by
            unfold q_judge
            rw [if_pos hn40, erf, if_neg h_4, if_neg (by decide)]
            first | done | rfl
          exact A_iret dX8_judge_59 rfl (hP _ _ (RQ_i hq ((hR1.fin0 (sC.rf sg1)).ref (k := 0) (by decide))))
      · skip
        have hnz : ¬ q_rf σ s 0 = 0 := fun q => h_3 (by unfold q_noRow; rw [if_pos q])
        have enr : q_noRow σ s = qr σ (q_rf σ s 0) := by unfold q_noRow; rw [if_neg hnz]
        obtain ⟨n1, hn1, en1⟩ := nI_ex (m := 40) hn40
        have erf : q_rf σ s n = q_rf σ s 0 := q_rf_n0 ⟨n1, hn1, en1⟩ hnz hW
        refine A_iload_n dX8_judge_41 rfl rfl ?_
        have hq : (q_judge σ s n) = ((q_noRow σ s).1, (q_noRow σ s).2) := by
          unfold q_judge
          rw [if_pos hn40, erf, if_neg hnz, enr]
          first | done | rfl
        exact A_iret dX8_judge_42 rfl (hP _ _ (RQ_i hq hR1))
    · skip
      have h_2' := b2i_0.mp h_2
      refine A_aload_n dX8_judge_24 rfl rfl ?_
      refine A_bipush (v := (-2)) dX8_judge_25 (by decide) ?_
      refine A_callV (n := 0) dX8_judge_27 kvX8_refuse mlX8_101 rfl (az_rc_obj clX8 (hM 0 _ rfl)) (c_X8_refuse l G (d + 31) sh (mput sg 60 (xN σ)) la kp tr (-2) 0 hM (by decide) (by decide)) (by omega) (Nat.le_refl _) (Nat.le_refl _) rfl (Nat.le_of_ble_eq_true rfl) (fun r S1 hp => ?_)
      obtain ⟨rfl, rfl⟩ := hp
      show AW l G mX8_judge (d + 32) (az_F G Post) 0 0 30 [some (.ref 60), some (.int s), some (.int n), none, none, none] [.int (-2)] (sh, (az_w (mput sg 60 (xN σ)) 76 (0 + 2) ((mput sg 60 (xN σ)) 76 (0 + 2) + 1)), la)
      have hq : (q_judge σ s n) = ((-2), (rfs σ 0)) := by
        unfold q_judge
        rw [if_neg h_2']
        first | done | rfl
      exact A_iret dX8_judge_30 rfl (hP _ _ (RQ_i hq ((hR.fin0 (sC.rf sg)).ref (k := 0) (by decide))))
theorem zfe_i (c : CT) (i : Nat) : zfe c i (cFe c i) = c := by unfold zfe; rw [az_up_id, sFe_id]
theorem cLv_fe {c : CT} (h : cLv c) (i : Nat) (x : Int32) : cLv (zfe c i x) := cv_Fe h
theorem cOk_fe {c : CT} (h : cOk c) (i : Nat) (x : Int32) : cOk (zfe c i x) := co_Fe h
theorem zfe_zfe (c : CT) (i : Nat) (x y : Int32) : sFe (zfe c i x) (va_up (cFe (zfe c i x)) i y) = zfe c i y := by
  unfold zfe
  rw [cs_FeFe, az_up_up, ss_Fe]
/-- a turn, as the reference takes it -/
def mtm (z : CT → Bool) (c : CT) (f : Bool) (i : Nat) : Bool := (z (zfe c i (mnI 40 (cFe c i + 1))) == f) || (z (zfe c i (mx0 (cFe c i - 1))) == f)
theorem mtm_eq {z : CT → Bool} {c : CT} {f : Bool} {i : Nat} (hr : iR (cFe c i) 40) (h : ¬ z c = f) : mtm z c f i = zmP z c f i := by
  obtain ⟨k, hk, e⟩ := iR_nI (m := 40) hr
  unfold mtm zmP
  have e1 : mnI 40 (cFe c i + 1) = if k < 40 then cFe c i + 1 else cFe c i := by
    rw [e, nI_1]
    unfold mnI
    by_cases q : k < 40
    · rw [if_pos q]
      by_cases q2 : k + 1 < 40
      · rw [if_pos (show nI (k + 1) < 40 from nI_lt (b := 40) q2 (by decide))]
      · rw [if_neg (show ¬ nI (k + 1) < 40 from nI_nlt (a := k + 1) (b := 40) (by omega) (by omega)), show k + 1 = 40 by omega]; rfl
    · rw [if_neg q, if_neg (show ¬ nI (k + 1) < 40 from nI_nlt (a := k + 1) (b := 40) (by omega) (by omega)), show k = 40 by omega]; rfl
  have e2 : mx0 (cFe c i - 1) = if 0 < k then cFe c i - 1 else cFe c i := by
    rw [e, show (1 : Int32) = nI 1 from rfl, mx0_sub2 (by omega) (by omega)]
    by_cases q : 0 < k
    · rw [if_pos q, nI_sub (by omega) (by omega)]
    · rw [if_neg q, show k = 0 by omega]
  have c1 : (cFe c i < 40) ↔ k < 40 := by rw [e]; exact nI_ltI (b := 40) (by omega) (by decide)
  have c2 : (0 < cFe c i) ↔ 0 < k := by rw [e]; exact nI_ltI (a := 0) (by decide) (by omega)
  have hf : (z c == f) = false := by simpa using h
  rw [e1, e2]
  by_cases q1 : k < 40
  · rw [if_pos q1, decide_eq_true (c1.mpr q1)]
    by_cases q2 : 0 < k
    · rw [if_pos q2, decide_eq_true (c2.mpr q2)]; simp
    · rw [if_neg q2, decide_eq_false (fun y => q2 (c2.mp y)), zfe_i, hf]; simp
  · rw [if_neg q1, decide_eq_false (fun y => q1 (c1.mp y)), zfe_i, hf]
    by_cases q2 : 0 < k
    · rw [if_pos q2, decide_eq_true (c2.mpr q2)]; simp
    · rw [if_neg q2, decide_eq_false (fun y => q2 (c2.mp y)), zfe_i, hf]; simp
set_option maxHeartbeats 1000000 in
set_option maxRecDepth 100000 in
theorem r_makes_0 (l : Launch) (G : az_Gh) (d : Nat) (sh : List az_Sh) (u : Nat → Nat → Int32) (la : Nat → Nat → Int64) (kp tr : Option Nat) (c : CT) (f : Bool) (hM : az_at sh 60 (lyM 60 kp tr)) (hO : cOk c) (hL : cLv c) : FM l G (d + 4) mX8_makes [.ref 60, .int (nI 0), .int (b2i (f = true))] (sh, (mput u 60 c), la) (some (.int (b2i (zmk 0 c f = true)))) (sh, mput u 60 c, la) := by
  refine az_fm knX8_makes (Nat.le_of_ble_eq_true rfl) rfl (fun Post hP => ?_)
  show AW l G mX8_makes (d + 4) (az_F G Post) 0 0 0 [some (.ref 60), some (.int (nI 0)), some (.int (b2i (f = true))), none, none, none, none] [] (sh, (mput u 60 c), la)
  refine A_iload_n dX8_makes_0 rfl rfl ?_
  refine A_if_ne (tgt := 9) dX8_makes_1 rfl (fun h_1 => ?_) (fun h_1 => ?_)
  · skip
    exact absurd rfl h_1
  · skip
    refine A_aload_n dX8_makes_4 rfl rfl ?_
    refine A_callV (n := 0) dX8_makes_5 kvX8_isSoNow mlX8_244 rfl (az_rc_obj clX8 (hM 0 _ rfl)) (r_isSoNow l G d sh u la kp tr c hM hO hL) (by omega) (Nat.le_refl _) (Nat.le_refl _) rfl (Nat.le_of_ble_eq_true rfl) (fun r S1 hp => ?_)
    obtain ⟨rfl, rfl⟩ := hp
    show AW l G mX8_makes (d + 4) (az_F G Post) 0 0 8 [some (.ref 60), some (.int (nI 0)), some (.int (b2i (f = true))), none, none, none, none] [.int (b2i (zso c = true))] (sh, (mput u 60 c), la)
    refine A_zret dX8_makes_8 rfl (narrow_b2i _) (az_pi hP ?_ (rfl))
    rfl
theorem mtm_1 {z : CT → Bool} {c : CT} {f : Bool} {i : Nat} (h : z (zfe c i (mnI 40 (cFe c i + 1))) = f) : mtm z c f i = true := by unfold mtm; rw [h, beq_self_eq_true, Bool.true_or]
theorem mtm_2 {z : CT → Bool} {c : CT} {f : Bool} {i : Nat} (h : z (zfe c i (mx0 (cFe c i - 1))) = f) : mtm z c f i = true := by unfold mtm; rw [h, beq_self_eq_true, Bool.or_true]
theorem mtm_n {z : CT → Bool} {c : CT} {f : Bool} {i : Nat} (h1 : ¬ z (zfe c i (mnI 40 (cFe c i + 1))) = f) (h2 : ¬ z (zfe c i (mx0 (cFe c i - 1))) = f) : mtm z c f i = false := by unfold mtm; rw [beq_eq_false_iff_ne.mpr h1, beq_eq_false_iff_ne.mpr h2]; rfl
theorem iR_up {x : Int32} (h : iR x 40) : iR (mnI 40 (x + 1)) 40 := by
  obtain ⟨k, hk, rfl⟩ := iR_nI (m := 40) h
  rw [nI_1]
  unfold mnI
  by_cases q : nI (k + 1) < 40
  · rw [if_pos q]
    exact iR_of (m := 40) (by have := (nI_ltI (b := 40) (by omega) (by decide)).mp q; omega) (by decide)
  · rw [if_neg q]; unfold iR; decide
theorem iR_dn {x : Int32} (h : iR x 40) : iR (mx0 (x - 1)) 40 := by
  obtain ⟨k, hk, rfl⟩ := iR_nI (m := 40) h
  rw [show (1 : Int32) = nI 1 from rfl, mx0_sub2 (by omega) (by omega)]
  exact iR_of (m := 40) (by omega) (by decide)
set_option maxHeartbeats 1000000 in
set_option maxRecDepth 100000 in
theorem r_makes_s (l : Launch) (G : az_Gh) (d : Nat) (sh : List az_Sh) (u : Nat → Nat → Int32) (la : Nat → Nat → Int64) (kp tr : Option Nat) (c : CT) (n : Nat) (f : Bool) (hM : az_at sh 60 (lyM 60 kp tr)) (hO : cOk c) (hL : cLv c) (hrg : ∀ p, p < cN c → iR (cFe c p) 40) (hn : n < 100) (IH : ∀ (e : CT) (f : Bool), cOk e → cLv e → (∀ p, p < cN e → iR (cFe e p) 40) → FM l G (d + 4) mX8_makes [.ref 60, .int (nI n), .int (b2i (f = true))] (sh, mput u 60 e, la) (some (.int (b2i (zmk n e f = true)))) (sh, mput u 60 e, la)) : FM l G (d + 5) mX8_makes [.ref 60, .int (nI (n + 1)), .int (b2i (f = true))] (sh, (mput u 60 c), la) (some (.int (b2i (zmk (n + 1) c f = true)))) (sh, mput u 60 c, la) := by
  refine az_fm knX8_makes (Nat.le_of_ble_eq_true rfl) rfl (fun Post hP => ?_)
  show AW l G mX8_makes (d + 5) (az_F G Post) 0 0 0 [some (.ref 60), some (.int (nI (n + 1))), some (.int (b2i (f = true))), none, none, none, none] [] (sh, (mput u 60 c), la)
  have h8 := hO.2
  refine A_iload_n dX8_makes_0 rfl rfl ?_
  refine A_if_ne (tgt := 9) dX8_makes_1 rfl (fun h_1 => ?_) (fun h_1 => ?_)
  · skip
    refine A_aload_n dX8_makes_9 rfl rfl ?_
    refine A_iload_n dX8_makes_10 rfl rfl ?_
    refine A_iconst (v := 1) dX8_makes_11 (by decide) ?_
    refine A_isub dX8_makes_12 ?_
    refine B_top (nI_pred n) ?_
    refine A_iload_n dX8_makes_13 rfl rfl ?_
    refine A_if_ne (tgt := 21) dX8_makes_14 rfl (fun h_2 => ?_) (fun h_2 => ?_)
    · skip
      have h_2' := b2i_n.mp h_2
      refine A_iconst (v := 0) dX8_makes_21 (by decide) ?_
      refine B_top (show (0 : Int32) = b2i ((!f) = true) by rw [h_2']; rfl) ?_
      refine A_callV (n := 0) dX8_makes_22 kvX8_makes mlX8_332 rfl (az_rc_obj clX8 (hM 0 _ rfl)) (IH c (!f) hO hL hrg) (by omega) (Nat.le_refl _) (Nat.le_refl _) rfl (Nat.le_of_ble_eq_true rfl) (fun r S1 hp => ?_)
      obtain ⟨rfl, rfl⟩ := hp
      show AW l G mX8_makes (d + 5) (az_F G Post) 0 0 25 [some (.ref 60), some (.int (nI (n + 1))), some (.int (b2i (f = true))), none, none, none, none] [.int (b2i (zmk n c (!f) = true))] (sh, (mput u 60 c), la)
      refine A_iload_n dX8_makes_25 rfl rfl ?_
      refine A_icmp_ne (tgt := 31) dX8_makes_26 rfl (fun h_3 => ?_) (fun h_3 => ?_)
      · skip
        have hna : ¬ zmk n c (!f) = f := fun q => h_3 (by rw [q])
        refine A_iconst (v := 0) dX8_makes_31 (by decide) ?_
        refine A_istore_n (lo2 := [some (.ref 60), some (.int (nI (n + 1))), some (.int (b2i (f = true))), some (.int 0), none, none, none]) dX8_makes_32 rfl (by decide) rfl ?_
        have loop : ∀ (q_i9 i9 : Nat), i9 + q_i9 = cN c → (∀ k, k < i9 → mtm (fun e => zmk n e (!f)) c f k = false) → AW l G mX8_makes (d + 5) (az_F G Post) 0 0 33 [some (.ref 60), some (.int (nI (n + 1))), some (.int (b2i (f = true))), some (.int (nI i9)), none, none, none] [] (sh, (mput u 60 c), la) := by
          intro q_i9
          induction q_i9 with
          | zero =>
            intro i9  hi_i9 hno 
            have hN_i9 : i9 = cN c := by omega
            subst i9
            refine A_iload_n dX8_makes_33 rfl rfl ?_
            refine A_aload_n dX8_makes_34 rfl rfl ?_
            refine B_getV (nI (cN c)) dX8_makes_35 flX8_88 (hM 0 _ rfl) rfl ((mr_14 _ _ _).trans hO.1) ?_
            refine A_icmp_ge (tgt := 147) dX8_makes_38 rfl (fun h_4 => ?_) (fun h_4 => ?_)
            · skip
              refine A_iload_n dX8_makes_147 rfl rfl ?_
              refine A_if_ne (tgt := 155) dX8_makes_148 rfl (fun h_5 => ?_) (fun h_5 => ?_)
              · skip
                have h_5' := b2i_n.mp h_5
                refine A_iconst (v := 0) dX8_makes_155 (by decide) ?_
                refine A_zret dX8_makes_156 rfl (rfl) (az_pi hP ?_ (rfl))
                rw [zmk_c hna (fun k hk => by rw [← mtm_eq (z := fun e => zmk n e (!f)) (hrg k hk) hna]; exact hno k hk)]
                show (0 : Int32) = _; rw [h_5']; rfl
              · skip
                have h_5' := b2i_0.mp h_5
                refine A_iconst (v := 1) dX8_makes_151 (by decide) ?_
                refine A_goto (tgt := 156) dX8_makes_152 rfl ?_
                refine A_zret dX8_makes_156 rfl (rfl) (az_pi hP ?_ (rfl))
                rw [zmk_c hna (fun k hk => by rw [← mtm_eq (z := fun e => zmk n e (!f)) (hrg k hk) hna]; exact hno k hk)]
                show (1 : Int32) = _; rw [Bool.eq_false_iff.mpr h_5']; rfl
            · skip
              exact absurd (Int32.le_refl _) h_4
          | succ q_i9 ih =>
            intro i9  hi_i9 hno 
            refine A_iload_n dX8_makes_33 rfl rfl ?_
            refine A_aload_n dX8_makes_34 rfl rfl ?_
            refine B_getV (nI (cN c)) dX8_makes_35 flX8_88 (hM 0 _ rfl) rfl ((mr_14 _ _ _).trans hO.1) ?_
            refine A_icmp_ge (tgt := 147) dX8_makes_38 rfl (fun h_6 => ?_) (fun h_6 => ?_)
            · skip
              exact absurd h_6 (nI_ge (by omega) (by omega))
            · skip
              refine A_aload_n dX8_makes_41 rfl rfl ?_
              refine B_getR (r := 81) dX8_makes_42 flX8_62 (hM 0 _ rfl) rfl ?_
              refine A_iload_n dX8_makes_45 rfl rfl ?_
              refine B_ialdV (i := i9) (cFe c i9) dX8_makes_46 (hM 21 _ rfl) (by decide) (rfl) (by omega) (me_21 _ _ _ _) ?_
              refine A_istore (lo2 := [some (.ref 60), some (.int (nI (n + 1))), some (.int (b2i (f = true))), some (.int (nI i9)), some (.int (cFe c i9)), none, none]) dX8_makes_47 (by decide) rfl ?_
              refine A_aload_n dX8_makes_49 rfl rfl ?_
              refine B_getR (r := 81) dX8_makes_50 flX8_62 (hM 0 _ rfl) rfl ?_
              refine A_iload_n dX8_makes_53 rfl rfl ?_
              refine A_iload dX8_makes_54 rfl ?_
              refine A_iconst (v := 1) dX8_makes_56 (by decide) ?_
              refine A_iadd dX8_makes_57 ?_
              refine A_callS (n := 0) dX8_makes_58 ksX8_full mlX8_279 rfl (c_X8_full l G (d + 4) sh (mput u 60 c) la (cFe c i9 + 1)) (by omega) (Nat.le_refl _) (Nat.le_refl _) rfl (Nat.le_of_ble_eq_true rfl) (fun r S1 hp => ?_)
              obtain ⟨rfl, rfl⟩ := hp
              show AW l G mX8_makes (d + 5) (az_F G Post) 0 0 61 [some (.ref 60), some (.int (nI (n + 1))), some (.int (b2i (f = true))), some (.int (nI i9)), some (.int (cFe c i9)), none, none] [.int (mnI 40 (cFe c i9 + 1)), .int (nI i9), .ref 81] (sh, (mput u 60 c), la)
              refine B_iast (i := i9) dX8_makes_61 (hM 21 _ rfl) (by decide) (rfl) (by omega) ?_
              refine B_sg (show _ = (mput u 60 (sFe c (va_up (cFe c) i9 (mnI 40 (cFe c i9 + 1))))) from mx_21 _ _ _ _ _) ?_
              obtain ⟨k0, hk0, ek0⟩ := iR_nI (m := 40) (hrg i9 (by omega))
              show AW l G mX8_makes (d + 5) (az_F G Post) 0 0 62 [some (.ref 60), some (.int (nI (n + 1))), some (.int (b2i (f = true))), some (.int (nI i9)), some (.int (cFe c i9)), none, none] [] (sh, (mput u 60 (zfe c i9 (mnI 40 (cFe c i9 + 1)))), la)
              have hru : ∀ p, p < cN (zfe c i9 (mnI 40 (cFe c i9 + 1))) → iR (cFe (zfe c i9 (mnI 40 (cFe c i9 + 1))) p) 40 := fun p hp => by
                unfold zfe; rw [cs_FeFe]
                by_cases q : p = i9
                · subst q; rw [az_up_self]; exact iR_up (hrg p (by omega))
                · rw [az_up_ne q]; exact hrg p hp
              refine A_aload_n dX8_makes_62 rfl rfl ?_
              refine A_iload_n dX8_makes_63 rfl rfl ?_
              refine A_iconst (v := 1) dX8_makes_64 (by decide) ?_
              refine A_isub dX8_makes_65 ?_
              refine B_top (nI_pred n) ?_
              refine A_iload_n dX8_makes_66 rfl rfl ?_
              refine A_if_ne (tgt := 74) dX8_makes_67 rfl (fun h_7 => ?_) (fun h_7 => ?_)
              · skip
                have h_7' := b2i_n.mp h_7
                refine A_iconst (v := 0) dX8_makes_74 (by decide) ?_
                refine B_top (show (0 : Int32) = b2i ((!f) = true) by rw [h_7']; rfl) ?_
                refine A_callV (n := 0) dX8_makes_75 kvX8_makes mlX8_332 rfl (az_rc_obj clX8 (hM 0 _ rfl)) (IH (zfe c i9 (mnI 40 (cFe c i9 + 1))) (!f) (cOk_fe hO i9 _) (cLv_fe hL i9 _) hru) (by omega) (Nat.le_refl _) (Nat.le_refl _) rfl (Nat.le_of_ble_eq_true rfl) (fun r S1 hp => ?_)
                obtain ⟨rfl, rfl⟩ := hp
                show AW l G mX8_makes (d + 5) (az_F G Post) 0 0 78 [some (.ref 60), some (.int (nI (n + 1))), some (.int (b2i (f = true))), some (.int (nI i9)), some (.int (cFe c i9)), none, none] [.int (b2i (zmk n (zfe c i9 (mnI 40 (cFe c i9 + 1))) (!f) = true))] (sh, (mput u 60 (zfe c i9 (mnI 40 (cFe c i9 + 1)))), la)
                refine A_istore (lo2 := [some (.ref 60), some (.int (nI (n + 1))), some (.int (b2i (f = true))), some (.int (nI i9)), some (.int (cFe c i9)), some (.int (b2i (zmk n (zfe c i9 (mnI 40 (cFe c i9 + 1))) (!f) = true))), none]) dX8_makes_78 (by decide) rfl ?_
                refine A_aload_n dX8_makes_80 rfl rfl ?_
                refine B_getR (r := 81) dX8_makes_81 flX8_62 (hM 0 _ rfl) rfl ?_
                refine A_iload_n dX8_makes_84 rfl rfl ?_
                refine A_iload dX8_makes_85 rfl ?_
                refine A_iconst (v := 1) dX8_makes_87 (by decide) ?_
                refine A_isub dX8_makes_88 ?_
                refine A_callS (n := 0) dX8_makes_89 ksX8_held mlX8_227 rfl (c_X8_held l G (d + 4) sh (mput u 60 (zfe c i9 (mnI 40 (cFe c i9 + 1)))) la (cFe c i9 - 1)) (by omega) (Nat.le_refl _) (Nat.le_refl _) rfl (Nat.le_of_ble_eq_true rfl) (fun r S1 hp => ?_)
                obtain ⟨rfl, rfl⟩ := hp
                show AW l G mX8_makes (d + 5) (az_F G Post) 0 0 92 [some (.ref 60), some (.int (nI (n + 1))), some (.int (b2i (f = true))), some (.int (nI i9)), some (.int (cFe c i9)), some (.int (b2i (zmk n (zfe c i9 (mnI 40 (cFe c i9 + 1))) (!f) = true))), none] [.int (mx0 (cFe c i9 - 1)), .int (nI i9), .ref 81] (sh, (mput u 60 (zfe c i9 (mnI 40 (cFe c i9 + 1)))), la)
                refine B_iast (i := i9) dX8_makes_92 (hM 21 _ rfl) (by decide) (rfl) (by omega) ?_
                refine B_sg (show _ = (mput u 60 (sFe (zfe c i9 (mnI 40 (cFe c i9 + 1))) (va_up (cFe (zfe c i9 (mnI 40 (cFe c i9 + 1)))) i9 (mx0 (cFe c i9 - 1))))) from mx_21 _ _ _ _ _) ?_
                refine B_sg (show _ = mput u 60 (zfe c i9 (mx0 (cFe c i9 - 1))) from congrArg (mput u 60) (zfe_zfe c i9 _ _)) ?_
                have hrd : ∀ p, p < cN (zfe c i9 (mx0 (cFe c i9 - 1))) → iR (cFe (zfe c i9 (mx0 (cFe c i9 - 1))) p) 40 := fun p hp => by
                  unfold zfe; rw [cs_FeFe]
                  by_cases q : p = i9
                  · subst q; rw [az_up_self]; exact iR_dn (hrg p (by omega))
                  · rw [az_up_ne q]; exact hrg p hp
                refine A_iload dX8_makes_93 rfl ?_
                refine A_iload_n dX8_makes_95 rfl rfl ?_
                refine A_icmp_eq (tgt := 119) dX8_makes_96 rfl (fun h_8 => ?_) (fun h_8 => ?_)
                · skip
                  refine A_iconst (v := 1) dX8_makes_119 (by decide) ?_
                  refine A_goto (tgt := 124) dX8_makes_120 rfl ?_
                  refine A_istore (lo2 := [some (.ref 60), some (.int (nI (n + 1))), some (.int (b2i (f = true))), some (.int (nI i9)), some (.int (cFe c i9)), some (.int (b2i (zmk n (zfe c i9 (mnI 40 (cFe c i9 + 1))) (!f) = true))), some (.int 1)]) dX8_makes_124 (by decide) rfl ?_
                  refine A_aload_n dX8_makes_126 rfl rfl ?_
                  refine B_getR (r := 81) dX8_makes_127 flX8_62 (hM 0 _ rfl) rfl ?_
                  refine A_iload_n dX8_makes_130 rfl rfl ?_
                  refine A_iload dX8_makes_131 rfl ?_
                  refine B_iast (i := i9) dX8_makes_133 (hM 21 _ rfl) (by decide) (rfl) (by omega) ?_
                  refine B_sg (show _ = (mput u 60 (sFe (zfe c i9 (mx0 (cFe c i9 - 1))) (va_up (cFe (zfe c i9 (mx0 (cFe c i9 - 1)))) i9 (cFe c i9)))) from mx_21 _ _ _ _ _) ?_
                  refine B_sg (show _ = mput u 60 c from congrArg (mput u 60) ((zfe_zfe c i9 _ _).trans (zfe_i c i9))) ?_
                  refine A_iload dX8_makes_134 rfl ?_
                  refine A_if_eq (tgt := 141) dX8_makes_136 rfl (fun h_9 => ?_) (fun h_9 => ?_)
                  · skip
                    exact absurd h_9 (by decide)
                  · skip
                    refine A_iload_n dX8_makes_139 rfl rfl ?_
                    refine A_zret dX8_makes_140 rfl (narrow_b2i _) (az_pi hP ?_ (rfl))
                    rw [zmk_b hna (i := i9) (by omega) (by rw [← mtm_eq (z := fun e => zmk n e (!f)) (hrg i9 (by omega)) hna]; exact (mtm_1 (z := fun e => zmk n e (!f)) (b2i_eq.mp h_8))) (fun k hk => by rw [← mtm_eq (z := fun e => zmk n e (!f)) (hrg k (by omega)) hna]; exact hno k hk)]
                · skip
                  refine A_aload_n dX8_makes_99 rfl rfl ?_
                  refine A_iload_n dX8_makes_100 rfl rfl ?_
                  refine A_iconst (v := 1) dX8_makes_101 (by decide) ?_
                  refine A_isub dX8_makes_102 ?_
                  refine B_top (nI_pred n) ?_
                  refine A_iload_n dX8_makes_103 rfl rfl ?_
                  refine A_if_ne (tgt := 111) dX8_makes_104 rfl (fun h_10 => ?_) (fun h_10 => ?_)
                  · skip
                    have h_10' := b2i_n.mp h_10
                    refine A_iconst (v := 0) dX8_makes_111 (by decide) ?_
                    refine B_top (show (0 : Int32) = b2i ((!f) = true) by rw [h_10']; rfl) ?_
                    refine A_callV (n := 0) dX8_makes_112 kvX8_makes mlX8_332 rfl (az_rc_obj clX8 (hM 0 _ rfl)) (IH (zfe c i9 (mx0 (cFe c i9 - 1))) (!f) (cOk_fe hO i9 _) (cLv_fe hL i9 _) hrd) (by omega) (Nat.le_refl _) (Nat.le_refl _) rfl (Nat.le_of_ble_eq_true rfl) (fun r S1 hp => ?_)
                    obtain ⟨rfl, rfl⟩ := hp
                    show AW l G mX8_makes (d + 5) (az_F G Post) 0 0 115 [some (.ref 60), some (.int (nI (n + 1))), some (.int (b2i (f = true))), some (.int (nI i9)), some (.int (cFe c i9)), some (.int (b2i (zmk n (zfe c i9 (mnI 40 (cFe c i9 + 1))) (!f) = true))), none] [.int (b2i (zmk n (zfe c i9 (mx0 (cFe c i9 - 1))) (!f) = true))] (sh, (mput u 60 (zfe c i9 (mx0 (cFe c i9 - 1)))), la)
                    refine A_iload_n dX8_makes_115 rfl rfl ?_
                    refine A_icmp_ne (tgt := 123) dX8_makes_116 rfl (fun h_11 => ?_) (fun h_11 => ?_)
                    · skip
                      refine A_iconst (v := 0) dX8_makes_123 (by decide) ?_
                      refine A_istore (lo2 := [some (.ref 60), some (.int (nI (n + 1))), some (.int (b2i (f = true))), some (.int (nI i9)), some (.int (cFe c i9)), some (.int (b2i (zmk n (zfe c i9 (mnI 40 (cFe c i9 + 1))) (!f) = true))), some (.int 0)]) dX8_makes_124 (by decide) rfl ?_
                      refine A_aload_n dX8_makes_126 rfl rfl ?_
                      refine B_getR (r := 81) dX8_makes_127 flX8_62 (hM 0 _ rfl) rfl ?_
                      refine A_iload_n dX8_makes_130 rfl rfl ?_
                      refine A_iload dX8_makes_131 rfl ?_
                      refine B_iast (i := i9) dX8_makes_133 (hM 21 _ rfl) (by decide) (rfl) (by omega) ?_
                      refine B_sg (show _ = (mput u 60 (sFe (zfe c i9 (mx0 (cFe c i9 - 1))) (va_up (cFe (zfe c i9 (mx0 (cFe c i9 - 1)))) i9 (cFe c i9)))) from mx_21 _ _ _ _ _) ?_
                      refine B_sg (show _ = mput u 60 c from congrArg (mput u 60) ((zfe_zfe c i9 _ _).trans (zfe_i c i9))) ?_
                      refine A_iload dX8_makes_134 rfl ?_
                      refine A_if_eq (tgt := 141) dX8_makes_136 rfl (fun h_12 => ?_) (fun h_12 => ?_)
                      · skip
                        refine A_iinc (v := nI (i9 + 1)) (lo2 := [some (.ref 60), some (.int (nI (n + 1))), some (.int (b2i (f = true))), some (.int (nI (i9 + 1))), some (.int (cFe c i9)), some (.int (b2i (zmk n (zfe c i9 (mnI 40 (cFe c i9 + 1))) (!f) = true))), some (.int 0)]) dX8_makes_141 rfl (nI_1 i9) (by decide) rfl ?_
                        refine A_goto (tgt := 33) dX8_makes_144 rfl ?_
                        refine A_forget (lo2 := [some (.ref 60), some (.int (nI (n + 1))), some (.int (b2i (f = true))), some (.int (nI (i9 + 1))), none, none, none]) ⟨rfl, rfl, rfl, rfl, trivial⟩ ?_
                        refine ih (i9 + 1) (by omega) (lt_s hno (mtm_n (z := fun e => zmk n e (!f)) (fun q => h_8 (b2i_eq.mpr q)) (fun q => h_11 (b2i_eq.mpr q))))
                      · skip
                        exact absurd (by decide) h_12
                    · skip
                      refine A_iconst (v := 1) dX8_makes_119 (by decide) ?_
                      refine A_goto (tgt := 124) dX8_makes_120 rfl ?_
                      refine A_istore (lo2 := [some (.ref 60), some (.int (nI (n + 1))), some (.int (b2i (f = true))), some (.int (nI i9)), some (.int (cFe c i9)), some (.int (b2i (zmk n (zfe c i9 (mnI 40 (cFe c i9 + 1))) (!f) = true))), some (.int 1)]) dX8_makes_124 (by decide) rfl ?_
                      refine A_aload_n dX8_makes_126 rfl rfl ?_
                      refine B_getR (r := 81) dX8_makes_127 flX8_62 (hM 0 _ rfl) rfl ?_
                      refine A_iload_n dX8_makes_130 rfl rfl ?_
                      refine A_iload dX8_makes_131 rfl ?_
                      refine B_iast (i := i9) dX8_makes_133 (hM 21 _ rfl) (by decide) (rfl) (by omega) ?_
                      refine B_sg (show _ = (mput u 60 (sFe (zfe c i9 (mx0 (cFe c i9 - 1))) (va_up (cFe (zfe c i9 (mx0 (cFe c i9 - 1)))) i9 (cFe c i9)))) from mx_21 _ _ _ _ _) ?_
                      refine B_sg (show _ = mput u 60 c from congrArg (mput u 60) ((zfe_zfe c i9 _ _).trans (zfe_i c i9))) ?_
                      refine A_iload dX8_makes_134 rfl ?_
                      refine A_if_eq (tgt := 141) dX8_makes_136 rfl (fun h_13 => ?_) (fun h_13 => ?_)
                      · skip
                        exact absurd h_13 (by decide)
                      · skip
                        refine A_iload_n dX8_makes_139 rfl rfl ?_
                        refine A_zret dX8_makes_140 rfl (narrow_b2i _) (az_pi hP ?_ (rfl))
                        rw [zmk_b hna (i := i9) (by omega) (by rw [← mtm_eq (z := fun e => zmk n e (!f)) (hrg i9 (by omega)) hna]; exact (mtm_2 (z := fun e => zmk n e (!f)) (b2i_eq.mp h_11))) (fun k hk => by rw [← mtm_eq (z := fun e => zmk n e (!f)) (hrg k (by omega)) hna]; exact hno k hk)]
                  · skip
                    have h_10' := b2i_0.mp h_10
                    refine A_iconst (v := 1) dX8_makes_107 (by decide) ?_
                    refine A_goto (tgt := 112) dX8_makes_108 rfl ?_
                    refine B_top (show (1 : Int32) = b2i ((!f) = true) by rw [Bool.eq_false_iff.mpr h_10']; rfl) ?_
                    refine A_callV (n := 0) dX8_makes_112 kvX8_makes mlX8_332 rfl (az_rc_obj clX8 (hM 0 _ rfl)) (IH (zfe c i9 (mx0 (cFe c i9 - 1))) (!f) (cOk_fe hO i9 _) (cLv_fe hL i9 _) hrd) (by omega) (Nat.le_refl _) (Nat.le_refl _) rfl (Nat.le_of_ble_eq_true rfl) (fun r S1 hp => ?_)
                    obtain ⟨rfl, rfl⟩ := hp
                    show AW l G mX8_makes (d + 5) (az_F G Post) 0 0 115 [some (.ref 60), some (.int (nI (n + 1))), some (.int (b2i (f = true))), some (.int (nI i9)), some (.int (cFe c i9)), some (.int (b2i (zmk n (zfe c i9 (mnI 40 (cFe c i9 + 1))) (!f) = true))), none] [.int (b2i (zmk n (zfe c i9 (mx0 (cFe c i9 - 1))) (!f) = true))] (sh, (mput u 60 (zfe c i9 (mx0 (cFe c i9 - 1)))), la)
                    refine A_iload_n dX8_makes_115 rfl rfl ?_
                    refine A_icmp_ne (tgt := 123) dX8_makes_116 rfl (fun h_14 => ?_) (fun h_14 => ?_)
                    · skip
                      refine A_iconst (v := 0) dX8_makes_123 (by decide) ?_
                      refine A_istore (lo2 := [some (.ref 60), some (.int (nI (n + 1))), some (.int (b2i (f = true))), some (.int (nI i9)), some (.int (cFe c i9)), some (.int (b2i (zmk n (zfe c i9 (mnI 40 (cFe c i9 + 1))) (!f) = true))), some (.int 0)]) dX8_makes_124 (by decide) rfl ?_
                      refine A_aload_n dX8_makes_126 rfl rfl ?_
                      refine B_getR (r := 81) dX8_makes_127 flX8_62 (hM 0 _ rfl) rfl ?_
                      refine A_iload_n dX8_makes_130 rfl rfl ?_
                      refine A_iload dX8_makes_131 rfl ?_
                      refine B_iast (i := i9) dX8_makes_133 (hM 21 _ rfl) (by decide) (rfl) (by omega) ?_
                      refine B_sg (show _ = (mput u 60 (sFe (zfe c i9 (mx0 (cFe c i9 - 1))) (va_up (cFe (zfe c i9 (mx0 (cFe c i9 - 1)))) i9 (cFe c i9)))) from mx_21 _ _ _ _ _) ?_
                      refine B_sg (show _ = mput u 60 c from congrArg (mput u 60) ((zfe_zfe c i9 _ _).trans (zfe_i c i9))) ?_
                      refine A_iload dX8_makes_134 rfl ?_
                      refine A_if_eq (tgt := 141) dX8_makes_136 rfl (fun h_15 => ?_) (fun h_15 => ?_)
                      · skip
                        refine A_iinc (v := nI (i9 + 1)) (lo2 := [some (.ref 60), some (.int (nI (n + 1))), some (.int (b2i (f = true))), some (.int (nI (i9 + 1))), some (.int (cFe c i9)), some (.int (b2i (zmk n (zfe c i9 (mnI 40 (cFe c i9 + 1))) (!f) = true))), some (.int 0)]) dX8_makes_141 rfl (nI_1 i9) (by decide) rfl ?_
                        refine A_goto (tgt := 33) dX8_makes_144 rfl ?_
                        refine A_forget (lo2 := [some (.ref 60), some (.int (nI (n + 1))), some (.int (b2i (f = true))), some (.int (nI (i9 + 1))), none, none, none]) ⟨rfl, rfl, rfl, rfl, trivial⟩ ?_
                        refine ih (i9 + 1) (by omega) (lt_s hno (mtm_n (z := fun e => zmk n e (!f)) (fun q => h_8 (b2i_eq.mpr q)) (fun q => h_14 (b2i_eq.mpr q))))
                      · skip
                        exact absurd (by decide) h_15
                    · skip
                      refine A_iconst (v := 1) dX8_makes_119 (by decide) ?_
                      refine A_goto (tgt := 124) dX8_makes_120 rfl ?_
                      refine A_istore (lo2 := [some (.ref 60), some (.int (nI (n + 1))), some (.int (b2i (f = true))), some (.int (nI i9)), some (.int (cFe c i9)), some (.int (b2i (zmk n (zfe c i9 (mnI 40 (cFe c i9 + 1))) (!f) = true))), some (.int 1)]) dX8_makes_124 (by decide) rfl ?_
                      refine A_aload_n dX8_makes_126 rfl rfl ?_
                      refine B_getR (r := 81) dX8_makes_127 flX8_62 (hM 0 _ rfl) rfl ?_
                      refine A_iload_n dX8_makes_130 rfl rfl ?_
                      refine A_iload dX8_makes_131 rfl ?_
                      refine B_iast (i := i9) dX8_makes_133 (hM 21 _ rfl) (by decide) (rfl) (by omega) ?_
                      refine B_sg (show _ = (mput u 60 (sFe (zfe c i9 (mx0 (cFe c i9 - 1))) (va_up (cFe (zfe c i9 (mx0 (cFe c i9 - 1)))) i9 (cFe c i9)))) from mx_21 _ _ _ _ _) ?_
                      refine B_sg (show _ = mput u 60 c from congrArg (mput u 60) ((zfe_zfe c i9 _ _).trans (zfe_i c i9))) ?_
                      refine A_iload dX8_makes_134 rfl ?_
                      refine A_if_eq (tgt := 141) dX8_makes_136 rfl (fun h_16 => ?_) (fun h_16 => ?_)
                      · skip
                        exact absurd h_16 (by decide)
                      · skip
                        refine A_iload_n dX8_makes_139 rfl rfl ?_
                        refine A_zret dX8_makes_140 rfl (narrow_b2i _) (az_pi hP ?_ (rfl))
                        rw [zmk_b hna (i := i9) (by omega) (by rw [← mtm_eq (z := fun e => zmk n e (!f)) (hrg i9 (by omega)) hna]; exact (mtm_2 (z := fun e => zmk n e (!f)) (b2i_eq.mp h_14))) (fun k hk => by rw [← mtm_eq (z := fun e => zmk n e (!f)) (hrg k (by omega)) hna]; exact hno k hk)]
              · skip
                have h_7' := b2i_0.mp h_7
                refine A_iconst (v := 1) dX8_makes_70 (by decide) ?_
                refine A_goto (tgt := 75) dX8_makes_71 rfl ?_
                refine B_top (show (1 : Int32) = b2i ((!f) = true) by rw [Bool.eq_false_iff.mpr h_7']; rfl) ?_
                refine A_callV (n := 0) dX8_makes_75 kvX8_makes mlX8_332 rfl (az_rc_obj clX8 (hM 0 _ rfl)) (IH (zfe c i9 (mnI 40 (cFe c i9 + 1))) (!f) (cOk_fe hO i9 _) (cLv_fe hL i9 _) hru) (by omega) (Nat.le_refl _) (Nat.le_refl _) rfl (Nat.le_of_ble_eq_true rfl) (fun r S1 hp => ?_)
                obtain ⟨rfl, rfl⟩ := hp
                show AW l G mX8_makes (d + 5) (az_F G Post) 0 0 78 [some (.ref 60), some (.int (nI (n + 1))), some (.int (b2i (f = true))), some (.int (nI i9)), some (.int (cFe c i9)), none, none] [.int (b2i (zmk n (zfe c i9 (mnI 40 (cFe c i9 + 1))) (!f) = true))] (sh, (mput u 60 (zfe c i9 (mnI 40 (cFe c i9 + 1)))), la)
                refine A_istore (lo2 := [some (.ref 60), some (.int (nI (n + 1))), some (.int (b2i (f = true))), some (.int (nI i9)), some (.int (cFe c i9)), some (.int (b2i (zmk n (zfe c i9 (mnI 40 (cFe c i9 + 1))) (!f) = true))), none]) dX8_makes_78 (by decide) rfl ?_
                refine A_aload_n dX8_makes_80 rfl rfl ?_
                refine B_getR (r := 81) dX8_makes_81 flX8_62 (hM 0 _ rfl) rfl ?_
                refine A_iload_n dX8_makes_84 rfl rfl ?_
                refine A_iload dX8_makes_85 rfl ?_
                refine A_iconst (v := 1) dX8_makes_87 (by decide) ?_
                refine A_isub dX8_makes_88 ?_
                refine A_callS (n := 0) dX8_makes_89 ksX8_held mlX8_227 rfl (c_X8_held l G (d + 4) sh (mput u 60 (zfe c i9 (mnI 40 (cFe c i9 + 1)))) la (cFe c i9 - 1)) (by omega) (Nat.le_refl _) (Nat.le_refl _) rfl (Nat.le_of_ble_eq_true rfl) (fun r S1 hp => ?_)
                obtain ⟨rfl, rfl⟩ := hp
                show AW l G mX8_makes (d + 5) (az_F G Post) 0 0 92 [some (.ref 60), some (.int (nI (n + 1))), some (.int (b2i (f = true))), some (.int (nI i9)), some (.int (cFe c i9)), some (.int (b2i (zmk n (zfe c i9 (mnI 40 (cFe c i9 + 1))) (!f) = true))), none] [.int (mx0 (cFe c i9 - 1)), .int (nI i9), .ref 81] (sh, (mput u 60 (zfe c i9 (mnI 40 (cFe c i9 + 1)))), la)
                refine B_iast (i := i9) dX8_makes_92 (hM 21 _ rfl) (by decide) (rfl) (by omega) ?_
                refine B_sg (show _ = (mput u 60 (sFe (zfe c i9 (mnI 40 (cFe c i9 + 1))) (va_up (cFe (zfe c i9 (mnI 40 (cFe c i9 + 1)))) i9 (mx0 (cFe c i9 - 1))))) from mx_21 _ _ _ _ _) ?_
                refine B_sg (show _ = mput u 60 (zfe c i9 (mx0 (cFe c i9 - 1))) from congrArg (mput u 60) (zfe_zfe c i9 _ _)) ?_
                have hrd : ∀ p, p < cN (zfe c i9 (mx0 (cFe c i9 - 1))) → iR (cFe (zfe c i9 (mx0 (cFe c i9 - 1))) p) 40 := fun p hp => by
                  unfold zfe; rw [cs_FeFe]
                  by_cases q : p = i9
                  · subst q; rw [az_up_self]; exact iR_dn (hrg p (by omega))
                  · rw [az_up_ne q]; exact hrg p hp
                refine A_iload dX8_makes_93 rfl ?_
                refine A_iload_n dX8_makes_95 rfl rfl ?_
                refine A_icmp_eq (tgt := 119) dX8_makes_96 rfl (fun h_17 => ?_) (fun h_17 => ?_)
                · skip
                  refine A_iconst (v := 1) dX8_makes_119 (by decide) ?_
                  refine A_goto (tgt := 124) dX8_makes_120 rfl ?_
                  refine A_istore (lo2 := [some (.ref 60), some (.int (nI (n + 1))), some (.int (b2i (f = true))), some (.int (nI i9)), some (.int (cFe c i9)), some (.int (b2i (zmk n (zfe c i9 (mnI 40 (cFe c i9 + 1))) (!f) = true))), some (.int 1)]) dX8_makes_124 (by decide) rfl ?_
                  refine A_aload_n dX8_makes_126 rfl rfl ?_
                  refine B_getR (r := 81) dX8_makes_127 flX8_62 (hM 0 _ rfl) rfl ?_
                  refine A_iload_n dX8_makes_130 rfl rfl ?_
                  refine A_iload dX8_makes_131 rfl ?_
                  refine B_iast (i := i9) dX8_makes_133 (hM 21 _ rfl) (by decide) (rfl) (by omega) ?_
                  refine B_sg (show _ = (mput u 60 (sFe (zfe c i9 (mx0 (cFe c i9 - 1))) (va_up (cFe (zfe c i9 (mx0 (cFe c i9 - 1)))) i9 (cFe c i9)))) from mx_21 _ _ _ _ _) ?_
                  refine B_sg (show _ = mput u 60 c from congrArg (mput u 60) ((zfe_zfe c i9 _ _).trans (zfe_i c i9))) ?_
                  refine A_iload dX8_makes_134 rfl ?_
                  refine A_if_eq (tgt := 141) dX8_makes_136 rfl (fun h_18 => ?_) (fun h_18 => ?_)
                  · skip
                    exact absurd h_18 (by decide)
                  · skip
                    refine A_iload_n dX8_makes_139 rfl rfl ?_
                    refine A_zret dX8_makes_140 rfl (narrow_b2i _) (az_pi hP ?_ (rfl))
                    rw [zmk_b hna (i := i9) (by omega) (by rw [← mtm_eq (z := fun e => zmk n e (!f)) (hrg i9 (by omega)) hna]; exact (mtm_1 (z := fun e => zmk n e (!f)) (b2i_eq.mp h_17))) (fun k hk => by rw [← mtm_eq (z := fun e => zmk n e (!f)) (hrg k (by omega)) hna]; exact hno k hk)]
                · skip
                  refine A_aload_n dX8_makes_99 rfl rfl ?_
                  refine A_iload_n dX8_makes_100 rfl rfl ?_
                  refine A_iconst (v := 1) dX8_makes_101 (by decide) ?_
                  refine A_isub dX8_makes_102 ?_
                  refine B_top (nI_pred n) ?_
                  refine A_iload_n dX8_makes_103 rfl rfl ?_
                  refine A_if_ne (tgt := 111) dX8_makes_104 rfl (fun h_19 => ?_) (fun h_19 => ?_)
                  · skip
                    have h_19' := b2i_n.mp h_19
                    refine A_iconst (v := 0) dX8_makes_111 (by decide) ?_
                    refine B_top (show (0 : Int32) = b2i ((!f) = true) by rw [h_19']; rfl) ?_
                    refine A_callV (n := 0) dX8_makes_112 kvX8_makes mlX8_332 rfl (az_rc_obj clX8 (hM 0 _ rfl)) (IH (zfe c i9 (mx0 (cFe c i9 - 1))) (!f) (cOk_fe hO i9 _) (cLv_fe hL i9 _) hrd) (by omega) (Nat.le_refl _) (Nat.le_refl _) rfl (Nat.le_of_ble_eq_true rfl) (fun r S1 hp => ?_)
                    obtain ⟨rfl, rfl⟩ := hp
                    show AW l G mX8_makes (d + 5) (az_F G Post) 0 0 115 [some (.ref 60), some (.int (nI (n + 1))), some (.int (b2i (f = true))), some (.int (nI i9)), some (.int (cFe c i9)), some (.int (b2i (zmk n (zfe c i9 (mnI 40 (cFe c i9 + 1))) (!f) = true))), none] [.int (b2i (zmk n (zfe c i9 (mx0 (cFe c i9 - 1))) (!f) = true))] (sh, (mput u 60 (zfe c i9 (mx0 (cFe c i9 - 1)))), la)
                    refine A_iload_n dX8_makes_115 rfl rfl ?_
                    refine A_icmp_ne (tgt := 123) dX8_makes_116 rfl (fun h_20 => ?_) (fun h_20 => ?_)
                    · skip
                      refine A_iconst (v := 0) dX8_makes_123 (by decide) ?_
                      refine A_istore (lo2 := [some (.ref 60), some (.int (nI (n + 1))), some (.int (b2i (f = true))), some (.int (nI i9)), some (.int (cFe c i9)), some (.int (b2i (zmk n (zfe c i9 (mnI 40 (cFe c i9 + 1))) (!f) = true))), some (.int 0)]) dX8_makes_124 (by decide) rfl ?_
                      refine A_aload_n dX8_makes_126 rfl rfl ?_
                      refine B_getR (r := 81) dX8_makes_127 flX8_62 (hM 0 _ rfl) rfl ?_
                      refine A_iload_n dX8_makes_130 rfl rfl ?_
                      refine A_iload dX8_makes_131 rfl ?_
                      refine B_iast (i := i9) dX8_makes_133 (hM 21 _ rfl) (by decide) (rfl) (by omega) ?_
                      refine B_sg (show _ = (mput u 60 (sFe (zfe c i9 (mx0 (cFe c i9 - 1))) (va_up (cFe (zfe c i9 (mx0 (cFe c i9 - 1)))) i9 (cFe c i9)))) from mx_21 _ _ _ _ _) ?_
                      refine B_sg (show _ = mput u 60 c from congrArg (mput u 60) ((zfe_zfe c i9 _ _).trans (zfe_i c i9))) ?_
                      refine A_iload dX8_makes_134 rfl ?_
                      refine A_if_eq (tgt := 141) dX8_makes_136 rfl (fun h_21 => ?_) (fun h_21 => ?_)
                      · skip
                        refine A_iinc (v := nI (i9 + 1)) (lo2 := [some (.ref 60), some (.int (nI (n + 1))), some (.int (b2i (f = true))), some (.int (nI (i9 + 1))), some (.int (cFe c i9)), some (.int (b2i (zmk n (zfe c i9 (mnI 40 (cFe c i9 + 1))) (!f) = true))), some (.int 0)]) dX8_makes_141 rfl (nI_1 i9) (by decide) rfl ?_
                        refine A_goto (tgt := 33) dX8_makes_144 rfl ?_
                        refine A_forget (lo2 := [some (.ref 60), some (.int (nI (n + 1))), some (.int (b2i (f = true))), some (.int (nI (i9 + 1))), none, none, none]) ⟨rfl, rfl, rfl, rfl, trivial⟩ ?_
                        refine ih (i9 + 1) (by omega) (lt_s hno (mtm_n (z := fun e => zmk n e (!f)) (fun q => h_17 (b2i_eq.mpr q)) (fun q => h_20 (b2i_eq.mpr q))))
                      · skip
                        exact absurd (by decide) h_21
                    · skip
                      refine A_iconst (v := 1) dX8_makes_119 (by decide) ?_
                      refine A_goto (tgt := 124) dX8_makes_120 rfl ?_
                      refine A_istore (lo2 := [some (.ref 60), some (.int (nI (n + 1))), some (.int (b2i (f = true))), some (.int (nI i9)), some (.int (cFe c i9)), some (.int (b2i (zmk n (zfe c i9 (mnI 40 (cFe c i9 + 1))) (!f) = true))), some (.int 1)]) dX8_makes_124 (by decide) rfl ?_
                      refine A_aload_n dX8_makes_126 rfl rfl ?_
                      refine B_getR (r := 81) dX8_makes_127 flX8_62 (hM 0 _ rfl) rfl ?_
                      refine A_iload_n dX8_makes_130 rfl rfl ?_
                      refine A_iload dX8_makes_131 rfl ?_
                      refine B_iast (i := i9) dX8_makes_133 (hM 21 _ rfl) (by decide) (rfl) (by omega) ?_
                      refine B_sg (show _ = (mput u 60 (sFe (zfe c i9 (mx0 (cFe c i9 - 1))) (va_up (cFe (zfe c i9 (mx0 (cFe c i9 - 1)))) i9 (cFe c i9)))) from mx_21 _ _ _ _ _) ?_
                      refine B_sg (show _ = mput u 60 c from congrArg (mput u 60) ((zfe_zfe c i9 _ _).trans (zfe_i c i9))) ?_
                      refine A_iload dX8_makes_134 rfl ?_
                      refine A_if_eq (tgt := 141) dX8_makes_136 rfl (fun h_22 => ?_) (fun h_22 => ?_)
                      · skip
                        exact absurd h_22 (by decide)
                      · skip
                        refine A_iload_n dX8_makes_139 rfl rfl ?_
                        refine A_zret dX8_makes_140 rfl (narrow_b2i _) (az_pi hP ?_ (rfl))
                        rw [zmk_b hna (i := i9) (by omega) (by rw [← mtm_eq (z := fun e => zmk n e (!f)) (hrg i9 (by omega)) hna]; exact (mtm_2 (z := fun e => zmk n e (!f)) (b2i_eq.mp h_20))) (fun k hk => by rw [← mtm_eq (z := fun e => zmk n e (!f)) (hrg k (by omega)) hna]; exact hno k hk)]
                  · skip
                    have h_19' := b2i_0.mp h_19
                    refine A_iconst (v := 1) dX8_makes_107 (by decide) ?_
                    refine A_goto (tgt := 112) dX8_makes_108 rfl ?_
                    refine B_top (show (1 : Int32) = b2i ((!f) = true) by rw [Bool.eq_false_iff.mpr h_19']; rfl) ?_
                    refine A_callV (n := 0) dX8_makes_112 kvX8_makes mlX8_332 rfl (az_rc_obj clX8 (hM 0 _ rfl)) (IH (zfe c i9 (mx0 (cFe c i9 - 1))) (!f) (cOk_fe hO i9 _) (cLv_fe hL i9 _) hrd) (by omega) (Nat.le_refl _) (Nat.le_refl _) rfl (Nat.le_of_ble_eq_true rfl) (fun r S1 hp => ?_)
                    obtain ⟨rfl, rfl⟩ := hp
                    show AW l G mX8_makes (d + 5) (az_F G Post) 0 0 115 [some (.ref 60), some (.int (nI (n + 1))), some (.int (b2i (f = true))), some (.int (nI i9)), some (.int (cFe c i9)), some (.int (b2i (zmk n (zfe c i9 (mnI 40 (cFe c i9 + 1))) (!f) = true))), none] [.int (b2i (zmk n (zfe c i9 (mx0 (cFe c i9 - 1))) (!f) = true))] (sh, (mput u 60 (zfe c i9 (mx0 (cFe c i9 - 1)))), la)
                    refine A_iload_n dX8_makes_115 rfl rfl ?_
                    refine A_icmp_ne (tgt := 123) dX8_makes_116 rfl (fun h_23 => ?_) (fun h_23 => ?_)
                    · skip
                      refine A_iconst (v := 0) dX8_makes_123 (by decide) ?_
                      refine A_istore (lo2 := [some (.ref 60), some (.int (nI (n + 1))), some (.int (b2i (f = true))), some (.int (nI i9)), some (.int (cFe c i9)), some (.int (b2i (zmk n (zfe c i9 (mnI 40 (cFe c i9 + 1))) (!f) = true))), some (.int 0)]) dX8_makes_124 (by decide) rfl ?_
                      refine A_aload_n dX8_makes_126 rfl rfl ?_
                      refine B_getR (r := 81) dX8_makes_127 flX8_62 (hM 0 _ rfl) rfl ?_
                      refine A_iload_n dX8_makes_130 rfl rfl ?_
                      refine A_iload dX8_makes_131 rfl ?_
                      refine B_iast (i := i9) dX8_makes_133 (hM 21 _ rfl) (by decide) (rfl) (by omega) ?_
                      refine B_sg (show _ = (mput u 60 (sFe (zfe c i9 (mx0 (cFe c i9 - 1))) (va_up (cFe (zfe c i9 (mx0 (cFe c i9 - 1)))) i9 (cFe c i9)))) from mx_21 _ _ _ _ _) ?_
                      refine B_sg (show _ = mput u 60 c from congrArg (mput u 60) ((zfe_zfe c i9 _ _).trans (zfe_i c i9))) ?_
                      refine A_iload dX8_makes_134 rfl ?_
                      refine A_if_eq (tgt := 141) dX8_makes_136 rfl (fun h_24 => ?_) (fun h_24 => ?_)
                      · skip
                        refine A_iinc (v := nI (i9 + 1)) (lo2 := [some (.ref 60), some (.int (nI (n + 1))), some (.int (b2i (f = true))), some (.int (nI (i9 + 1))), some (.int (cFe c i9)), some (.int (b2i (zmk n (zfe c i9 (mnI 40 (cFe c i9 + 1))) (!f) = true))), some (.int 0)]) dX8_makes_141 rfl (nI_1 i9) (by decide) rfl ?_
                        refine A_goto (tgt := 33) dX8_makes_144 rfl ?_
                        refine A_forget (lo2 := [some (.ref 60), some (.int (nI (n + 1))), some (.int (b2i (f = true))), some (.int (nI (i9 + 1))), none, none, none]) ⟨rfl, rfl, rfl, rfl, trivial⟩ ?_
                        refine ih (i9 + 1) (by omega) (lt_s hno (mtm_n (z := fun e => zmk n e (!f)) (fun q => h_17 (b2i_eq.mpr q)) (fun q => h_23 (b2i_eq.mpr q))))
                      · skip
                        exact absurd (by decide) h_24
                    · skip
                      refine A_iconst (v := 1) dX8_makes_119 (by decide) ?_
                      refine A_goto (tgt := 124) dX8_makes_120 rfl ?_
                      refine A_istore (lo2 := [some (.ref 60), some (.int (nI (n + 1))), some (.int (b2i (f = true))), some (.int (nI i9)), some (.int (cFe c i9)), some (.int (b2i (zmk n (zfe c i9 (mnI 40 (cFe c i9 + 1))) (!f) = true))), some (.int 1)]) dX8_makes_124 (by decide) rfl ?_
                      refine A_aload_n dX8_makes_126 rfl rfl ?_
                      refine B_getR (r := 81) dX8_makes_127 flX8_62 (hM 0 _ rfl) rfl ?_
                      refine A_iload_n dX8_makes_130 rfl rfl ?_
                      refine A_iload dX8_makes_131 rfl ?_
                      refine B_iast (i := i9) dX8_makes_133 (hM 21 _ rfl) (by decide) (rfl) (by omega) ?_
                      refine B_sg (show _ = (mput u 60 (sFe (zfe c i9 (mx0 (cFe c i9 - 1))) (va_up (cFe (zfe c i9 (mx0 (cFe c i9 - 1)))) i9 (cFe c i9)))) from mx_21 _ _ _ _ _) ?_
                      refine B_sg (show _ = mput u 60 c from congrArg (mput u 60) ((zfe_zfe c i9 _ _).trans (zfe_i c i9))) ?_
                      refine A_iload dX8_makes_134 rfl ?_
                      refine A_if_eq (tgt := 141) dX8_makes_136 rfl (fun h_25 => ?_) (fun h_25 => ?_)
                      · skip
                        exact absurd h_25 (by decide)
                      · skip
                        refine A_iload_n dX8_makes_139 rfl rfl ?_
                        refine A_zret dX8_makes_140 rfl (narrow_b2i _) (az_pi hP ?_ (rfl))
                        rw [zmk_b hna (i := i9) (by omega) (by rw [← mtm_eq (z := fun e => zmk n e (!f)) (hrg i9 (by omega)) hna]; exact (mtm_2 (z := fun e => zmk n e (!f)) (b2i_eq.mp h_23))) (fun k hk => by rw [← mtm_eq (z := fun e => zmk n e (!f)) (hrg k (by omega)) hna]; exact hno k hk)]
        exact loop (cN c) 0 (by omega) lt_0
      · skip
        refine A_iload_n dX8_makes_29 rfl rfl ?_
        refine A_zret dX8_makes_30 rfl (narrow_b2i _) (az_pi hP ?_ (rfl))
        rw [zmk_a (b2i_eq.mp h_3)]
    · skip
      have h_2' := b2i_0.mp h_2
      refine A_iconst (v := 1) dX8_makes_17 (by decide) ?_
      refine A_goto (tgt := 22) dX8_makes_18 rfl ?_
      refine B_top (show (1 : Int32) = b2i ((!f) = true) by rw [Bool.eq_false_iff.mpr h_2']; rfl) ?_
      refine A_callV (n := 0) dX8_makes_22 kvX8_makes mlX8_332 rfl (az_rc_obj clX8 (hM 0 _ rfl)) (IH c (!f) hO hL hrg) (by omega) (Nat.le_refl _) (Nat.le_refl _) rfl (Nat.le_of_ble_eq_true rfl) (fun r S1 hp => ?_)
      obtain ⟨rfl, rfl⟩ := hp
      show AW l G mX8_makes (d + 5) (az_F G Post) 0 0 25 [some (.ref 60), some (.int (nI (n + 1))), some (.int (b2i (f = true))), none, none, none, none] [.int (b2i (zmk n c (!f) = true))] (sh, (mput u 60 c), la)
      refine A_iload_n dX8_makes_25 rfl rfl ?_
      refine A_icmp_ne (tgt := 31) dX8_makes_26 rfl (fun h_26 => ?_) (fun h_26 => ?_)
      · skip
        have hna : ¬ zmk n c (!f) = f := fun q => h_26 (by rw [q])
        refine A_iconst (v := 0) dX8_makes_31 (by decide) ?_
        refine A_istore_n (lo2 := [some (.ref 60), some (.int (nI (n + 1))), some (.int (b2i (f = true))), some (.int 0), none, none, none]) dX8_makes_32 rfl (by decide) rfl ?_
        have loop : ∀ (q_i9 i9 : Nat), i9 + q_i9 = cN c → (∀ k, k < i9 → mtm (fun e => zmk n e (!f)) c f k = false) → AW l G mX8_makes (d + 5) (az_F G Post) 0 0 33 [some (.ref 60), some (.int (nI (n + 1))), some (.int (b2i (f = true))), some (.int (nI i9)), none, none, none] [] (sh, (mput u 60 c), la) := by
          intro q_i9
          induction q_i9 with
          | zero =>
            intro i9  hi_i9 hno 
            have hN_i9 : i9 = cN c := by omega
            subst i9
            refine A_iload_n dX8_makes_33 rfl rfl ?_
            refine A_aload_n dX8_makes_34 rfl rfl ?_
            refine B_getV (nI (cN c)) dX8_makes_35 flX8_88 (hM 0 _ rfl) rfl ((mr_14 _ _ _).trans hO.1) ?_
            refine A_icmp_ge (tgt := 147) dX8_makes_38 rfl (fun h_27 => ?_) (fun h_27 => ?_)
            · skip
              refine A_iload_n dX8_makes_147 rfl rfl ?_
              refine A_if_ne (tgt := 155) dX8_makes_148 rfl (fun h_28 => ?_) (fun h_28 => ?_)
              · skip
                have h_28' := b2i_n.mp h_28
                refine A_iconst (v := 0) dX8_makes_155 (by decide) ?_
                refine A_zret dX8_makes_156 rfl (rfl) (az_pi hP ?_ (rfl))
                rw [zmk_c hna (fun k hk => by rw [← mtm_eq (z := fun e => zmk n e (!f)) (hrg k hk) hna]; exact hno k hk)]
                show (0 : Int32) = _; rw [h_28']; rfl
              · skip
                have h_28' := b2i_0.mp h_28
                refine A_iconst (v := 1) dX8_makes_151 (by decide) ?_
                refine A_goto (tgt := 156) dX8_makes_152 rfl ?_
                refine A_zret dX8_makes_156 rfl (rfl) (az_pi hP ?_ (rfl))
                rw [zmk_c hna (fun k hk => by rw [← mtm_eq (z := fun e => zmk n e (!f)) (hrg k hk) hna]; exact hno k hk)]
                show (1 : Int32) = _; rw [Bool.eq_false_iff.mpr h_28']; rfl
            · skip
              exact absurd (Int32.le_refl _) h_27
          | succ q_i9 ih =>
            intro i9  hi_i9 hno 
            refine A_iload_n dX8_makes_33 rfl rfl ?_
            refine A_aload_n dX8_makes_34 rfl rfl ?_
            refine B_getV (nI (cN c)) dX8_makes_35 flX8_88 (hM 0 _ rfl) rfl ((mr_14 _ _ _).trans hO.1) ?_
            refine A_icmp_ge (tgt := 147) dX8_makes_38 rfl (fun h_29 => ?_) (fun h_29 => ?_)
            · skip
              exact absurd h_29 (nI_ge (by omega) (by omega))
            · skip
              refine A_aload_n dX8_makes_41 rfl rfl ?_
              refine B_getR (r := 81) dX8_makes_42 flX8_62 (hM 0 _ rfl) rfl ?_
              refine A_iload_n dX8_makes_45 rfl rfl ?_
              refine B_ialdV (i := i9) (cFe c i9) dX8_makes_46 (hM 21 _ rfl) (by decide) (rfl) (by omega) (me_21 _ _ _ _) ?_
              refine A_istore (lo2 := [some (.ref 60), some (.int (nI (n + 1))), some (.int (b2i (f = true))), some (.int (nI i9)), some (.int (cFe c i9)), none, none]) dX8_makes_47 (by decide) rfl ?_
              refine A_aload_n dX8_makes_49 rfl rfl ?_
              refine B_getR (r := 81) dX8_makes_50 flX8_62 (hM 0 _ rfl) rfl ?_
              refine A_iload_n dX8_makes_53 rfl rfl ?_
              refine A_iload dX8_makes_54 rfl ?_
              refine A_iconst (v := 1) dX8_makes_56 (by decide) ?_
              refine A_iadd dX8_makes_57 ?_
              refine A_callS (n := 0) dX8_makes_58 ksX8_full mlX8_279 rfl (c_X8_full l G (d + 4) sh (mput u 60 c) la (cFe c i9 + 1)) (by omega) (Nat.le_refl _) (Nat.le_refl _) rfl (Nat.le_of_ble_eq_true rfl) (fun r S1 hp => ?_)
              obtain ⟨rfl, rfl⟩ := hp
              show AW l G mX8_makes (d + 5) (az_F G Post) 0 0 61 [some (.ref 60), some (.int (nI (n + 1))), some (.int (b2i (f = true))), some (.int (nI i9)), some (.int (cFe c i9)), none, none] [.int (mnI 40 (cFe c i9 + 1)), .int (nI i9), .ref 81] (sh, (mput u 60 c), la)
              refine B_iast (i := i9) dX8_makes_61 (hM 21 _ rfl) (by decide) (rfl) (by omega) ?_
              refine B_sg (show _ = (mput u 60 (sFe c (va_up (cFe c) i9 (mnI 40 (cFe c i9 + 1))))) from mx_21 _ _ _ _ _) ?_
              obtain ⟨k0, hk0, ek0⟩ := iR_nI (m := 40) (hrg i9 (by omega))
              show AW l G mX8_makes (d + 5) (az_F G Post) 0 0 62 [some (.ref 60), some (.int (nI (n + 1))), some (.int (b2i (f = true))), some (.int (nI i9)), some (.int (cFe c i9)), none, none] [] (sh, (mput u 60 (zfe c i9 (mnI 40 (cFe c i9 + 1)))), la)
              have hru : ∀ p, p < cN (zfe c i9 (mnI 40 (cFe c i9 + 1))) → iR (cFe (zfe c i9 (mnI 40 (cFe c i9 + 1))) p) 40 := fun p hp => by
                unfold zfe; rw [cs_FeFe]
                by_cases q : p = i9
                · subst q; rw [az_up_self]; exact iR_up (hrg p (by omega))
                · rw [az_up_ne q]; exact hrg p hp
              refine A_aload_n dX8_makes_62 rfl rfl ?_
              refine A_iload_n dX8_makes_63 rfl rfl ?_
              refine A_iconst (v := 1) dX8_makes_64 (by decide) ?_
              refine A_isub dX8_makes_65 ?_
              refine B_top (nI_pred n) ?_
              refine A_iload_n dX8_makes_66 rfl rfl ?_
              refine A_if_ne (tgt := 74) dX8_makes_67 rfl (fun h_30 => ?_) (fun h_30 => ?_)
              · skip
                have h_30' := b2i_n.mp h_30
                refine A_iconst (v := 0) dX8_makes_74 (by decide) ?_
                refine B_top (show (0 : Int32) = b2i ((!f) = true) by rw [h_30']; rfl) ?_
                refine A_callV (n := 0) dX8_makes_75 kvX8_makes mlX8_332 rfl (az_rc_obj clX8 (hM 0 _ rfl)) (IH (zfe c i9 (mnI 40 (cFe c i9 + 1))) (!f) (cOk_fe hO i9 _) (cLv_fe hL i9 _) hru) (by omega) (Nat.le_refl _) (Nat.le_refl _) rfl (Nat.le_of_ble_eq_true rfl) (fun r S1 hp => ?_)
                obtain ⟨rfl, rfl⟩ := hp
                show AW l G mX8_makes (d + 5) (az_F G Post) 0 0 78 [some (.ref 60), some (.int (nI (n + 1))), some (.int (b2i (f = true))), some (.int (nI i9)), some (.int (cFe c i9)), none, none] [.int (b2i (zmk n (zfe c i9 (mnI 40 (cFe c i9 + 1))) (!f) = true))] (sh, (mput u 60 (zfe c i9 (mnI 40 (cFe c i9 + 1)))), la)
                refine A_istore (lo2 := [some (.ref 60), some (.int (nI (n + 1))), some (.int (b2i (f = true))), some (.int (nI i9)), some (.int (cFe c i9)), some (.int (b2i (zmk n (zfe c i9 (mnI 40 (cFe c i9 + 1))) (!f) = true))), none]) dX8_makes_78 (by decide) rfl ?_
                refine A_aload_n dX8_makes_80 rfl rfl ?_
                refine B_getR (r := 81) dX8_makes_81 flX8_62 (hM 0 _ rfl) rfl ?_
                refine A_iload_n dX8_makes_84 rfl rfl ?_
                refine A_iload dX8_makes_85 rfl ?_
                refine A_iconst (v := 1) dX8_makes_87 (by decide) ?_
                refine A_isub dX8_makes_88 ?_
                refine A_callS (n := 0) dX8_makes_89 ksX8_held mlX8_227 rfl (c_X8_held l G (d + 4) sh (mput u 60 (zfe c i9 (mnI 40 (cFe c i9 + 1)))) la (cFe c i9 - 1)) (by omega) (Nat.le_refl _) (Nat.le_refl _) rfl (Nat.le_of_ble_eq_true rfl) (fun r S1 hp => ?_)
                obtain ⟨rfl, rfl⟩ := hp
                show AW l G mX8_makes (d + 5) (az_F G Post) 0 0 92 [some (.ref 60), some (.int (nI (n + 1))), some (.int (b2i (f = true))), some (.int (nI i9)), some (.int (cFe c i9)), some (.int (b2i (zmk n (zfe c i9 (mnI 40 (cFe c i9 + 1))) (!f) = true))), none] [.int (mx0 (cFe c i9 - 1)), .int (nI i9), .ref 81] (sh, (mput u 60 (zfe c i9 (mnI 40 (cFe c i9 + 1)))), la)
                refine B_iast (i := i9) dX8_makes_92 (hM 21 _ rfl) (by decide) (rfl) (by omega) ?_
                refine B_sg (show _ = (mput u 60 (sFe (zfe c i9 (mnI 40 (cFe c i9 + 1))) (va_up (cFe (zfe c i9 (mnI 40 (cFe c i9 + 1)))) i9 (mx0 (cFe c i9 - 1))))) from mx_21 _ _ _ _ _) ?_
                refine B_sg (show _ = mput u 60 (zfe c i9 (mx0 (cFe c i9 - 1))) from congrArg (mput u 60) (zfe_zfe c i9 _ _)) ?_
                have hrd : ∀ p, p < cN (zfe c i9 (mx0 (cFe c i9 - 1))) → iR (cFe (zfe c i9 (mx0 (cFe c i9 - 1))) p) 40 := fun p hp => by
                  unfold zfe; rw [cs_FeFe]
                  by_cases q : p = i9
                  · subst q; rw [az_up_self]; exact iR_dn (hrg p (by omega))
                  · rw [az_up_ne q]; exact hrg p hp
                refine A_iload dX8_makes_93 rfl ?_
                refine A_iload_n dX8_makes_95 rfl rfl ?_
                refine A_icmp_eq (tgt := 119) dX8_makes_96 rfl (fun h_31 => ?_) (fun h_31 => ?_)
                · skip
                  refine A_iconst (v := 1) dX8_makes_119 (by decide) ?_
                  refine A_goto (tgt := 124) dX8_makes_120 rfl ?_
                  refine A_istore (lo2 := [some (.ref 60), some (.int (nI (n + 1))), some (.int (b2i (f = true))), some (.int (nI i9)), some (.int (cFe c i9)), some (.int (b2i (zmk n (zfe c i9 (mnI 40 (cFe c i9 + 1))) (!f) = true))), some (.int 1)]) dX8_makes_124 (by decide) rfl ?_
                  refine A_aload_n dX8_makes_126 rfl rfl ?_
                  refine B_getR (r := 81) dX8_makes_127 flX8_62 (hM 0 _ rfl) rfl ?_
                  refine A_iload_n dX8_makes_130 rfl rfl ?_
                  refine A_iload dX8_makes_131 rfl ?_
                  refine B_iast (i := i9) dX8_makes_133 (hM 21 _ rfl) (by decide) (rfl) (by omega) ?_
                  refine B_sg (show _ = (mput u 60 (sFe (zfe c i9 (mx0 (cFe c i9 - 1))) (va_up (cFe (zfe c i9 (mx0 (cFe c i9 - 1)))) i9 (cFe c i9)))) from mx_21 _ _ _ _ _) ?_
                  refine B_sg (show _ = mput u 60 c from congrArg (mput u 60) ((zfe_zfe c i9 _ _).trans (zfe_i c i9))) ?_
                  refine A_iload dX8_makes_134 rfl ?_
                  refine A_if_eq (tgt := 141) dX8_makes_136 rfl (fun h_32 => ?_) (fun h_32 => ?_)
                  · skip
                    exact absurd h_32 (by decide)
                  · skip
                    refine A_iload_n dX8_makes_139 rfl rfl ?_
                    refine A_zret dX8_makes_140 rfl (narrow_b2i _) (az_pi hP ?_ (rfl))
                    rw [zmk_b hna (i := i9) (by omega) (by rw [← mtm_eq (z := fun e => zmk n e (!f)) (hrg i9 (by omega)) hna]; exact (mtm_1 (z := fun e => zmk n e (!f)) (b2i_eq.mp h_31))) (fun k hk => by rw [← mtm_eq (z := fun e => zmk n e (!f)) (hrg k (by omega)) hna]; exact hno k hk)]
                · skip
                  refine A_aload_n dX8_makes_99 rfl rfl ?_
                  refine A_iload_n dX8_makes_100 rfl rfl ?_
                  refine A_iconst (v := 1) dX8_makes_101 (by decide) ?_
                  refine A_isub dX8_makes_102 ?_
                  refine B_top (nI_pred n) ?_
                  refine A_iload_n dX8_makes_103 rfl rfl ?_
                  refine A_if_ne (tgt := 111) dX8_makes_104 rfl (fun h_33 => ?_) (fun h_33 => ?_)
                  · skip
                    have h_33' := b2i_n.mp h_33
                    refine A_iconst (v := 0) dX8_makes_111 (by decide) ?_
                    refine B_top (show (0 : Int32) = b2i ((!f) = true) by rw [h_33']; rfl) ?_
                    refine A_callV (n := 0) dX8_makes_112 kvX8_makes mlX8_332 rfl (az_rc_obj clX8 (hM 0 _ rfl)) (IH (zfe c i9 (mx0 (cFe c i9 - 1))) (!f) (cOk_fe hO i9 _) (cLv_fe hL i9 _) hrd) (by omega) (Nat.le_refl _) (Nat.le_refl _) rfl (Nat.le_of_ble_eq_true rfl) (fun r S1 hp => ?_)
                    obtain ⟨rfl, rfl⟩ := hp
                    show AW l G mX8_makes (d + 5) (az_F G Post) 0 0 115 [some (.ref 60), some (.int (nI (n + 1))), some (.int (b2i (f = true))), some (.int (nI i9)), some (.int (cFe c i9)), some (.int (b2i (zmk n (zfe c i9 (mnI 40 (cFe c i9 + 1))) (!f) = true))), none] [.int (b2i (zmk n (zfe c i9 (mx0 (cFe c i9 - 1))) (!f) = true))] (sh, (mput u 60 (zfe c i9 (mx0 (cFe c i9 - 1)))), la)
                    refine A_iload_n dX8_makes_115 rfl rfl ?_
                    refine A_icmp_ne (tgt := 123) dX8_makes_116 rfl (fun h_34 => ?_) (fun h_34 => ?_)
                    · skip
                      refine A_iconst (v := 0) dX8_makes_123 (by decide) ?_
                      refine A_istore (lo2 := [some (.ref 60), some (.int (nI (n + 1))), some (.int (b2i (f = true))), some (.int (nI i9)), some (.int (cFe c i9)), some (.int (b2i (zmk n (zfe c i9 (mnI 40 (cFe c i9 + 1))) (!f) = true))), some (.int 0)]) dX8_makes_124 (by decide) rfl ?_
                      refine A_aload_n dX8_makes_126 rfl rfl ?_
                      refine B_getR (r := 81) dX8_makes_127 flX8_62 (hM 0 _ rfl) rfl ?_
                      refine A_iload_n dX8_makes_130 rfl rfl ?_
                      refine A_iload dX8_makes_131 rfl ?_
                      refine B_iast (i := i9) dX8_makes_133 (hM 21 _ rfl) (by decide) (rfl) (by omega) ?_
                      refine B_sg (show _ = (mput u 60 (sFe (zfe c i9 (mx0 (cFe c i9 - 1))) (va_up (cFe (zfe c i9 (mx0 (cFe c i9 - 1)))) i9 (cFe c i9)))) from mx_21 _ _ _ _ _) ?_
                      refine B_sg (show _ = mput u 60 c from congrArg (mput u 60) ((zfe_zfe c i9 _ _).trans (zfe_i c i9))) ?_
                      refine A_iload dX8_makes_134 rfl ?_
                      refine A_if_eq (tgt := 141) dX8_makes_136 rfl (fun h_35 => ?_) (fun h_35 => ?_)
                      · skip
                        refine A_iinc (v := nI (i9 + 1)) (lo2 := [some (.ref 60), some (.int (nI (n + 1))), some (.int (b2i (f = true))), some (.int (nI (i9 + 1))), some (.int (cFe c i9)), some (.int (b2i (zmk n (zfe c i9 (mnI 40 (cFe c i9 + 1))) (!f) = true))), some (.int 0)]) dX8_makes_141 rfl (nI_1 i9) (by decide) rfl ?_
                        refine A_goto (tgt := 33) dX8_makes_144 rfl ?_
                        refine A_forget (lo2 := [some (.ref 60), some (.int (nI (n + 1))), some (.int (b2i (f = true))), some (.int (nI (i9 + 1))), none, none, none]) ⟨rfl, rfl, rfl, rfl, trivial⟩ ?_
                        refine ih (i9 + 1) (by omega) (lt_s hno (mtm_n (z := fun e => zmk n e (!f)) (fun q => h_31 (b2i_eq.mpr q)) (fun q => h_34 (b2i_eq.mpr q))))
                      · skip
                        exact absurd (by decide) h_35
                    · skip
                      refine A_iconst (v := 1) dX8_makes_119 (by decide) ?_
                      refine A_goto (tgt := 124) dX8_makes_120 rfl ?_
                      refine A_istore (lo2 := [some (.ref 60), some (.int (nI (n + 1))), some (.int (b2i (f = true))), some (.int (nI i9)), some (.int (cFe c i9)), some (.int (b2i (zmk n (zfe c i9 (mnI 40 (cFe c i9 + 1))) (!f) = true))), some (.int 1)]) dX8_makes_124 (by decide) rfl ?_
                      refine A_aload_n dX8_makes_126 rfl rfl ?_
                      refine B_getR (r := 81) dX8_makes_127 flX8_62 (hM 0 _ rfl) rfl ?_
                      refine A_iload_n dX8_makes_130 rfl rfl ?_
                      refine A_iload dX8_makes_131 rfl ?_
                      refine B_iast (i := i9) dX8_makes_133 (hM 21 _ rfl) (by decide) (rfl) (by omega) ?_
                      refine B_sg (show _ = (mput u 60 (sFe (zfe c i9 (mx0 (cFe c i9 - 1))) (va_up (cFe (zfe c i9 (mx0 (cFe c i9 - 1)))) i9 (cFe c i9)))) from mx_21 _ _ _ _ _) ?_
                      refine B_sg (show _ = mput u 60 c from congrArg (mput u 60) ((zfe_zfe c i9 _ _).trans (zfe_i c i9))) ?_
                      refine A_iload dX8_makes_134 rfl ?_
                      refine A_if_eq (tgt := 141) dX8_makes_136 rfl (fun h_36 => ?_) (fun h_36 => ?_)
                      · skip
                        exact absurd h_36 (by decide)
                      · skip
                        refine A_iload_n dX8_makes_139 rfl rfl ?_
                        refine A_zret dX8_makes_140 rfl (narrow_b2i _) (az_pi hP ?_ (rfl))
                        rw [zmk_b hna (i := i9) (by omega) (by rw [← mtm_eq (z := fun e => zmk n e (!f)) (hrg i9 (by omega)) hna]; exact (mtm_2 (z := fun e => zmk n e (!f)) (b2i_eq.mp h_34))) (fun k hk => by rw [← mtm_eq (z := fun e => zmk n e (!f)) (hrg k (by omega)) hna]; exact hno k hk)]
                  · skip
                    have h_33' := b2i_0.mp h_33
                    refine A_iconst (v := 1) dX8_makes_107 (by decide) ?_
                    refine A_goto (tgt := 112) dX8_makes_108 rfl ?_
                    refine B_top (show (1 : Int32) = b2i ((!f) = true) by rw [Bool.eq_false_iff.mpr h_33']; rfl) ?_
                    refine A_callV (n := 0) dX8_makes_112 kvX8_makes mlX8_332 rfl (az_rc_obj clX8 (hM 0 _ rfl)) (IH (zfe c i9 (mx0 (cFe c i9 - 1))) (!f) (cOk_fe hO i9 _) (cLv_fe hL i9 _) hrd) (by omega) (Nat.le_refl _) (Nat.le_refl _) rfl (Nat.le_of_ble_eq_true rfl) (fun r S1 hp => ?_)
                    obtain ⟨rfl, rfl⟩ := hp
                    show AW l G mX8_makes (d + 5) (az_F G Post) 0 0 115 [some (.ref 60), some (.int (nI (n + 1))), some (.int (b2i (f = true))), some (.int (nI i9)), some (.int (cFe c i9)), some (.int (b2i (zmk n (zfe c i9 (mnI 40 (cFe c i9 + 1))) (!f) = true))), none] [.int (b2i (zmk n (zfe c i9 (mx0 (cFe c i9 - 1))) (!f) = true))] (sh, (mput u 60 (zfe c i9 (mx0 (cFe c i9 - 1)))), la)
                    refine A_iload_n dX8_makes_115 rfl rfl ?_
                    refine A_icmp_ne (tgt := 123) dX8_makes_116 rfl (fun h_37 => ?_) (fun h_37 => ?_)
                    · skip
                      refine A_iconst (v := 0) dX8_makes_123 (by decide) ?_
                      refine A_istore (lo2 := [some (.ref 60), some (.int (nI (n + 1))), some (.int (b2i (f = true))), some (.int (nI i9)), some (.int (cFe c i9)), some (.int (b2i (zmk n (zfe c i9 (mnI 40 (cFe c i9 + 1))) (!f) = true))), some (.int 0)]) dX8_makes_124 (by decide) rfl ?_
                      refine A_aload_n dX8_makes_126 rfl rfl ?_
                      refine B_getR (r := 81) dX8_makes_127 flX8_62 (hM 0 _ rfl) rfl ?_
                      refine A_iload_n dX8_makes_130 rfl rfl ?_
                      refine A_iload dX8_makes_131 rfl ?_
                      refine B_iast (i := i9) dX8_makes_133 (hM 21 _ rfl) (by decide) (rfl) (by omega) ?_
                      refine B_sg (show _ = (mput u 60 (sFe (zfe c i9 (mx0 (cFe c i9 - 1))) (va_up (cFe (zfe c i9 (mx0 (cFe c i9 - 1)))) i9 (cFe c i9)))) from mx_21 _ _ _ _ _) ?_
                      refine B_sg (show _ = mput u 60 c from congrArg (mput u 60) ((zfe_zfe c i9 _ _).trans (zfe_i c i9))) ?_
                      refine A_iload dX8_makes_134 rfl ?_
                      refine A_if_eq (tgt := 141) dX8_makes_136 rfl (fun h_38 => ?_) (fun h_38 => ?_)
                      · skip
                        refine A_iinc (v := nI (i9 + 1)) (lo2 := [some (.ref 60), some (.int (nI (n + 1))), some (.int (b2i (f = true))), some (.int (nI (i9 + 1))), some (.int (cFe c i9)), some (.int (b2i (zmk n (zfe c i9 (mnI 40 (cFe c i9 + 1))) (!f) = true))), some (.int 0)]) dX8_makes_141 rfl (nI_1 i9) (by decide) rfl ?_
                        refine A_goto (tgt := 33) dX8_makes_144 rfl ?_
                        refine A_forget (lo2 := [some (.ref 60), some (.int (nI (n + 1))), some (.int (b2i (f = true))), some (.int (nI (i9 + 1))), none, none, none]) ⟨rfl, rfl, rfl, rfl, trivial⟩ ?_
                        refine ih (i9 + 1) (by omega) (lt_s hno (mtm_n (z := fun e => zmk n e (!f)) (fun q => h_31 (b2i_eq.mpr q)) (fun q => h_37 (b2i_eq.mpr q))))
                      · skip
                        exact absurd (by decide) h_38
                    · skip
                      refine A_iconst (v := 1) dX8_makes_119 (by decide) ?_
                      refine A_goto (tgt := 124) dX8_makes_120 rfl ?_
                      refine A_istore (lo2 := [some (.ref 60), some (.int (nI (n + 1))), some (.int (b2i (f = true))), some (.int (nI i9)), some (.int (cFe c i9)), some (.int (b2i (zmk n (zfe c i9 (mnI 40 (cFe c i9 + 1))) (!f) = true))), some (.int 1)]) dX8_makes_124 (by decide) rfl ?_
                      refine A_aload_n dX8_makes_126 rfl rfl ?_
                      refine B_getR (r := 81) dX8_makes_127 flX8_62 (hM 0 _ rfl) rfl ?_
                      refine A_iload_n dX8_makes_130 rfl rfl ?_
                      refine A_iload dX8_makes_131 rfl ?_
                      refine B_iast (i := i9) dX8_makes_133 (hM 21 _ rfl) (by decide) (rfl) (by omega) ?_
                      refine B_sg (show _ = (mput u 60 (sFe (zfe c i9 (mx0 (cFe c i9 - 1))) (va_up (cFe (zfe c i9 (mx0 (cFe c i9 - 1)))) i9 (cFe c i9)))) from mx_21 _ _ _ _ _) ?_
                      refine B_sg (show _ = mput u 60 c from congrArg (mput u 60) ((zfe_zfe c i9 _ _).trans (zfe_i c i9))) ?_
                      refine A_iload dX8_makes_134 rfl ?_
                      refine A_if_eq (tgt := 141) dX8_makes_136 rfl (fun h_39 => ?_) (fun h_39 => ?_)
                      · skip
                        exact absurd h_39 (by decide)
                      · skip
                        refine A_iload_n dX8_makes_139 rfl rfl ?_
                        refine A_zret dX8_makes_140 rfl (narrow_b2i _) (az_pi hP ?_ (rfl))
                        rw [zmk_b hna (i := i9) (by omega) (by rw [← mtm_eq (z := fun e => zmk n e (!f)) (hrg i9 (by omega)) hna]; exact (mtm_2 (z := fun e => zmk n e (!f)) (b2i_eq.mp h_37))) (fun k hk => by rw [← mtm_eq (z := fun e => zmk n e (!f)) (hrg k (by omega)) hna]; exact hno k hk)]
              · skip
                have h_30' := b2i_0.mp h_30
                refine A_iconst (v := 1) dX8_makes_70 (by decide) ?_
                refine A_goto (tgt := 75) dX8_makes_71 rfl ?_
                refine B_top (show (1 : Int32) = b2i ((!f) = true) by rw [Bool.eq_false_iff.mpr h_30']; rfl) ?_
                refine A_callV (n := 0) dX8_makes_75 kvX8_makes mlX8_332 rfl (az_rc_obj clX8 (hM 0 _ rfl)) (IH (zfe c i9 (mnI 40 (cFe c i9 + 1))) (!f) (cOk_fe hO i9 _) (cLv_fe hL i9 _) hru) (by omega) (Nat.le_refl _) (Nat.le_refl _) rfl (Nat.le_of_ble_eq_true rfl) (fun r S1 hp => ?_)
                obtain ⟨rfl, rfl⟩ := hp
                show AW l G mX8_makes (d + 5) (az_F G Post) 0 0 78 [some (.ref 60), some (.int (nI (n + 1))), some (.int (b2i (f = true))), some (.int (nI i9)), some (.int (cFe c i9)), none, none] [.int (b2i (zmk n (zfe c i9 (mnI 40 (cFe c i9 + 1))) (!f) = true))] (sh, (mput u 60 (zfe c i9 (mnI 40 (cFe c i9 + 1)))), la)
                refine A_istore (lo2 := [some (.ref 60), some (.int (nI (n + 1))), some (.int (b2i (f = true))), some (.int (nI i9)), some (.int (cFe c i9)), some (.int (b2i (zmk n (zfe c i9 (mnI 40 (cFe c i9 + 1))) (!f) = true))), none]) dX8_makes_78 (by decide) rfl ?_
                refine A_aload_n dX8_makes_80 rfl rfl ?_
                refine B_getR (r := 81) dX8_makes_81 flX8_62 (hM 0 _ rfl) rfl ?_
                refine A_iload_n dX8_makes_84 rfl rfl ?_
                refine A_iload dX8_makes_85 rfl ?_
                refine A_iconst (v := 1) dX8_makes_87 (by decide) ?_
                refine A_isub dX8_makes_88 ?_
                refine A_callS (n := 0) dX8_makes_89 ksX8_held mlX8_227 rfl (c_X8_held l G (d + 4) sh (mput u 60 (zfe c i9 (mnI 40 (cFe c i9 + 1)))) la (cFe c i9 - 1)) (by omega) (Nat.le_refl _) (Nat.le_refl _) rfl (Nat.le_of_ble_eq_true rfl) (fun r S1 hp => ?_)
                obtain ⟨rfl, rfl⟩ := hp
                show AW l G mX8_makes (d + 5) (az_F G Post) 0 0 92 [some (.ref 60), some (.int (nI (n + 1))), some (.int (b2i (f = true))), some (.int (nI i9)), some (.int (cFe c i9)), some (.int (b2i (zmk n (zfe c i9 (mnI 40 (cFe c i9 + 1))) (!f) = true))), none] [.int (mx0 (cFe c i9 - 1)), .int (nI i9), .ref 81] (sh, (mput u 60 (zfe c i9 (mnI 40 (cFe c i9 + 1)))), la)
                refine B_iast (i := i9) dX8_makes_92 (hM 21 _ rfl) (by decide) (rfl) (by omega) ?_
                refine B_sg (show _ = (mput u 60 (sFe (zfe c i9 (mnI 40 (cFe c i9 + 1))) (va_up (cFe (zfe c i9 (mnI 40 (cFe c i9 + 1)))) i9 (mx0 (cFe c i9 - 1))))) from mx_21 _ _ _ _ _) ?_
                refine B_sg (show _ = mput u 60 (zfe c i9 (mx0 (cFe c i9 - 1))) from congrArg (mput u 60) (zfe_zfe c i9 _ _)) ?_
                have hrd : ∀ p, p < cN (zfe c i9 (mx0 (cFe c i9 - 1))) → iR (cFe (zfe c i9 (mx0 (cFe c i9 - 1))) p) 40 := fun p hp => by
                  unfold zfe; rw [cs_FeFe]
                  by_cases q : p = i9
                  · subst q; rw [az_up_self]; exact iR_dn (hrg p (by omega))
                  · rw [az_up_ne q]; exact hrg p hp
                refine A_iload dX8_makes_93 rfl ?_
                refine A_iload_n dX8_makes_95 rfl rfl ?_
                refine A_icmp_eq (tgt := 119) dX8_makes_96 rfl (fun h_40 => ?_) (fun h_40 => ?_)
                · skip
                  refine A_iconst (v := 1) dX8_makes_119 (by decide) ?_
                  refine A_goto (tgt := 124) dX8_makes_120 rfl ?_
                  refine A_istore (lo2 := [some (.ref 60), some (.int (nI (n + 1))), some (.int (b2i (f = true))), some (.int (nI i9)), some (.int (cFe c i9)), some (.int (b2i (zmk n (zfe c i9 (mnI 40 (cFe c i9 + 1))) (!f) = true))), some (.int 1)]) dX8_makes_124 (by decide) rfl ?_
                  refine A_aload_n dX8_makes_126 rfl rfl ?_
                  refine B_getR (r := 81) dX8_makes_127 flX8_62 (hM 0 _ rfl) rfl ?_
                  refine A_iload_n dX8_makes_130 rfl rfl ?_
                  refine A_iload dX8_makes_131 rfl ?_
                  refine B_iast (i := i9) dX8_makes_133 (hM 21 _ rfl) (by decide) (rfl) (by omega) ?_
                  refine B_sg (show _ = (mput u 60 (sFe (zfe c i9 (mx0 (cFe c i9 - 1))) (va_up (cFe (zfe c i9 (mx0 (cFe c i9 - 1)))) i9 (cFe c i9)))) from mx_21 _ _ _ _ _) ?_
                  refine B_sg (show _ = mput u 60 c from congrArg (mput u 60) ((zfe_zfe c i9 _ _).trans (zfe_i c i9))) ?_
                  refine A_iload dX8_makes_134 rfl ?_
                  refine A_if_eq (tgt := 141) dX8_makes_136 rfl (fun h_41 => ?_) (fun h_41 => ?_)
                  · skip
                    exact absurd h_41 (by decide)
                  · skip
                    refine A_iload_n dX8_makes_139 rfl rfl ?_
                    refine A_zret dX8_makes_140 rfl (narrow_b2i _) (az_pi hP ?_ (rfl))
                    rw [zmk_b hna (i := i9) (by omega) (by rw [← mtm_eq (z := fun e => zmk n e (!f)) (hrg i9 (by omega)) hna]; exact (mtm_1 (z := fun e => zmk n e (!f)) (b2i_eq.mp h_40))) (fun k hk => by rw [← mtm_eq (z := fun e => zmk n e (!f)) (hrg k (by omega)) hna]; exact hno k hk)]
                · skip
                  refine A_aload_n dX8_makes_99 rfl rfl ?_
                  refine A_iload_n dX8_makes_100 rfl rfl ?_
                  refine A_iconst (v := 1) dX8_makes_101 (by decide) ?_
                  refine A_isub dX8_makes_102 ?_
                  refine B_top (nI_pred n) ?_
                  refine A_iload_n dX8_makes_103 rfl rfl ?_
                  refine A_if_ne (tgt := 111) dX8_makes_104 rfl (fun h_42 => ?_) (fun h_42 => ?_)
                  · skip
                    have h_42' := b2i_n.mp h_42
                    refine A_iconst (v := 0) dX8_makes_111 (by decide) ?_
                    refine B_top (show (0 : Int32) = b2i ((!f) = true) by rw [h_42']; rfl) ?_
                    refine A_callV (n := 0) dX8_makes_112 kvX8_makes mlX8_332 rfl (az_rc_obj clX8 (hM 0 _ rfl)) (IH (zfe c i9 (mx0 (cFe c i9 - 1))) (!f) (cOk_fe hO i9 _) (cLv_fe hL i9 _) hrd) (by omega) (Nat.le_refl _) (Nat.le_refl _) rfl (Nat.le_of_ble_eq_true rfl) (fun r S1 hp => ?_)
                    obtain ⟨rfl, rfl⟩ := hp
                    show AW l G mX8_makes (d + 5) (az_F G Post) 0 0 115 [some (.ref 60), some (.int (nI (n + 1))), some (.int (b2i (f = true))), some (.int (nI i9)), some (.int (cFe c i9)), some (.int (b2i (zmk n (zfe c i9 (mnI 40 (cFe c i9 + 1))) (!f) = true))), none] [.int (b2i (zmk n (zfe c i9 (mx0 (cFe c i9 - 1))) (!f) = true))] (sh, (mput u 60 (zfe c i9 (mx0 (cFe c i9 - 1)))), la)
                    refine A_iload_n dX8_makes_115 rfl rfl ?_
                    refine A_icmp_ne (tgt := 123) dX8_makes_116 rfl (fun h_43 => ?_) (fun h_43 => ?_)
                    · skip
                      refine A_iconst (v := 0) dX8_makes_123 (by decide) ?_
                      refine A_istore (lo2 := [some (.ref 60), some (.int (nI (n + 1))), some (.int (b2i (f = true))), some (.int (nI i9)), some (.int (cFe c i9)), some (.int (b2i (zmk n (zfe c i9 (mnI 40 (cFe c i9 + 1))) (!f) = true))), some (.int 0)]) dX8_makes_124 (by decide) rfl ?_
                      refine A_aload_n dX8_makes_126 rfl rfl ?_
                      refine B_getR (r := 81) dX8_makes_127 flX8_62 (hM 0 _ rfl) rfl ?_
                      refine A_iload_n dX8_makes_130 rfl rfl ?_
                      refine A_iload dX8_makes_131 rfl ?_
                      refine B_iast (i := i9) dX8_makes_133 (hM 21 _ rfl) (by decide) (rfl) (by omega) ?_
                      refine B_sg (show _ = (mput u 60 (sFe (zfe c i9 (mx0 (cFe c i9 - 1))) (va_up (cFe (zfe c i9 (mx0 (cFe c i9 - 1)))) i9 (cFe c i9)))) from mx_21 _ _ _ _ _) ?_
                      refine B_sg (show _ = mput u 60 c from congrArg (mput u 60) ((zfe_zfe c i9 _ _).trans (zfe_i c i9))) ?_
                      refine A_iload dX8_makes_134 rfl ?_
                      refine A_if_eq (tgt := 141) dX8_makes_136 rfl (fun h_44 => ?_) (fun h_44 => ?_)
                      · skip
                        refine A_iinc (v := nI (i9 + 1)) (lo2 := [some (.ref 60), some (.int (nI (n + 1))), some (.int (b2i (f = true))), some (.int (nI (i9 + 1))), some (.int (cFe c i9)), some (.int (b2i (zmk n (zfe c i9 (mnI 40 (cFe c i9 + 1))) (!f) = true))), some (.int 0)]) dX8_makes_141 rfl (nI_1 i9) (by decide) rfl ?_
                        refine A_goto (tgt := 33) dX8_makes_144 rfl ?_
                        refine A_forget (lo2 := [some (.ref 60), some (.int (nI (n + 1))), some (.int (b2i (f = true))), some (.int (nI (i9 + 1))), none, none, none]) ⟨rfl, rfl, rfl, rfl, trivial⟩ ?_
                        refine ih (i9 + 1) (by omega) (lt_s hno (mtm_n (z := fun e => zmk n e (!f)) (fun q => h_40 (b2i_eq.mpr q)) (fun q => h_43 (b2i_eq.mpr q))))
                      · skip
                        exact absurd (by decide) h_44
                    · skip
                      refine A_iconst (v := 1) dX8_makes_119 (by decide) ?_
                      refine A_goto (tgt := 124) dX8_makes_120 rfl ?_
                      refine A_istore (lo2 := [some (.ref 60), some (.int (nI (n + 1))), some (.int (b2i (f = true))), some (.int (nI i9)), some (.int (cFe c i9)), some (.int (b2i (zmk n (zfe c i9 (mnI 40 (cFe c i9 + 1))) (!f) = true))), some (.int 1)]) dX8_makes_124 (by decide) rfl ?_
                      refine A_aload_n dX8_makes_126 rfl rfl ?_
                      refine B_getR (r := 81) dX8_makes_127 flX8_62 (hM 0 _ rfl) rfl ?_
                      refine A_iload_n dX8_makes_130 rfl rfl ?_
                      refine A_iload dX8_makes_131 rfl ?_
                      refine B_iast (i := i9) dX8_makes_133 (hM 21 _ rfl) (by decide) (rfl) (by omega) ?_
                      refine B_sg (show _ = (mput u 60 (sFe (zfe c i9 (mx0 (cFe c i9 - 1))) (va_up (cFe (zfe c i9 (mx0 (cFe c i9 - 1)))) i9 (cFe c i9)))) from mx_21 _ _ _ _ _) ?_
                      refine B_sg (show _ = mput u 60 c from congrArg (mput u 60) ((zfe_zfe c i9 _ _).trans (zfe_i c i9))) ?_
                      refine A_iload dX8_makes_134 rfl ?_
                      refine A_if_eq (tgt := 141) dX8_makes_136 rfl (fun h_45 => ?_) (fun h_45 => ?_)
                      · skip
                        exact absurd h_45 (by decide)
                      · skip
                        refine A_iload_n dX8_makes_139 rfl rfl ?_
                        refine A_zret dX8_makes_140 rfl (narrow_b2i _) (az_pi hP ?_ (rfl))
                        rw [zmk_b hna (i := i9) (by omega) (by rw [← mtm_eq (z := fun e => zmk n e (!f)) (hrg i9 (by omega)) hna]; exact (mtm_2 (z := fun e => zmk n e (!f)) (b2i_eq.mp h_43))) (fun k hk => by rw [← mtm_eq (z := fun e => zmk n e (!f)) (hrg k (by omega)) hna]; exact hno k hk)]
                  · skip
                    have h_42' := b2i_0.mp h_42
                    refine A_iconst (v := 1) dX8_makes_107 (by decide) ?_
                    refine A_goto (tgt := 112) dX8_makes_108 rfl ?_
                    refine B_top (show (1 : Int32) = b2i ((!f) = true) by rw [Bool.eq_false_iff.mpr h_42']; rfl) ?_
                    refine A_callV (n := 0) dX8_makes_112 kvX8_makes mlX8_332 rfl (az_rc_obj clX8 (hM 0 _ rfl)) (IH (zfe c i9 (mx0 (cFe c i9 - 1))) (!f) (cOk_fe hO i9 _) (cLv_fe hL i9 _) hrd) (by omega) (Nat.le_refl _) (Nat.le_refl _) rfl (Nat.le_of_ble_eq_true rfl) (fun r S1 hp => ?_)
                    obtain ⟨rfl, rfl⟩ := hp
                    show AW l G mX8_makes (d + 5) (az_F G Post) 0 0 115 [some (.ref 60), some (.int (nI (n + 1))), some (.int (b2i (f = true))), some (.int (nI i9)), some (.int (cFe c i9)), some (.int (b2i (zmk n (zfe c i9 (mnI 40 (cFe c i9 + 1))) (!f) = true))), none] [.int (b2i (zmk n (zfe c i9 (mx0 (cFe c i9 - 1))) (!f) = true))] (sh, (mput u 60 (zfe c i9 (mx0 (cFe c i9 - 1)))), la)
                    refine A_iload_n dX8_makes_115 rfl rfl ?_
                    refine A_icmp_ne (tgt := 123) dX8_makes_116 rfl (fun h_46 => ?_) (fun h_46 => ?_)
                    · skip
                      refine A_iconst (v := 0) dX8_makes_123 (by decide) ?_
                      refine A_istore (lo2 := [some (.ref 60), some (.int (nI (n + 1))), some (.int (b2i (f = true))), some (.int (nI i9)), some (.int (cFe c i9)), some (.int (b2i (zmk n (zfe c i9 (mnI 40 (cFe c i9 + 1))) (!f) = true))), some (.int 0)]) dX8_makes_124 (by decide) rfl ?_
                      refine A_aload_n dX8_makes_126 rfl rfl ?_
                      refine B_getR (r := 81) dX8_makes_127 flX8_62 (hM 0 _ rfl) rfl ?_
                      refine A_iload_n dX8_makes_130 rfl rfl ?_
                      refine A_iload dX8_makes_131 rfl ?_
                      refine B_iast (i := i9) dX8_makes_133 (hM 21 _ rfl) (by decide) (rfl) (by omega) ?_
                      refine B_sg (show _ = (mput u 60 (sFe (zfe c i9 (mx0 (cFe c i9 - 1))) (va_up (cFe (zfe c i9 (mx0 (cFe c i9 - 1)))) i9 (cFe c i9)))) from mx_21 _ _ _ _ _) ?_
                      refine B_sg (show _ = mput u 60 c from congrArg (mput u 60) ((zfe_zfe c i9 _ _).trans (zfe_i c i9))) ?_
                      refine A_iload dX8_makes_134 rfl ?_
                      refine A_if_eq (tgt := 141) dX8_makes_136 rfl (fun h_47 => ?_) (fun h_47 => ?_)
                      · skip
                        refine A_iinc (v := nI (i9 + 1)) (lo2 := [some (.ref 60), some (.int (nI (n + 1))), some (.int (b2i (f = true))), some (.int (nI (i9 + 1))), some (.int (cFe c i9)), some (.int (b2i (zmk n (zfe c i9 (mnI 40 (cFe c i9 + 1))) (!f) = true))), some (.int 0)]) dX8_makes_141 rfl (nI_1 i9) (by decide) rfl ?_
                        refine A_goto (tgt := 33) dX8_makes_144 rfl ?_
                        refine A_forget (lo2 := [some (.ref 60), some (.int (nI (n + 1))), some (.int (b2i (f = true))), some (.int (nI (i9 + 1))), none, none, none]) ⟨rfl, rfl, rfl, rfl, trivial⟩ ?_
                        refine ih (i9 + 1) (by omega) (lt_s hno (mtm_n (z := fun e => zmk n e (!f)) (fun q => h_40 (b2i_eq.mpr q)) (fun q => h_46 (b2i_eq.mpr q))))
                      · skip
                        exact absurd (by decide) h_47
                    · skip
                      refine A_iconst (v := 1) dX8_makes_119 (by decide) ?_
                      refine A_goto (tgt := 124) dX8_makes_120 rfl ?_
                      refine A_istore (lo2 := [some (.ref 60), some (.int (nI (n + 1))), some (.int (b2i (f = true))), some (.int (nI i9)), some (.int (cFe c i9)), some (.int (b2i (zmk n (zfe c i9 (mnI 40 (cFe c i9 + 1))) (!f) = true))), some (.int 1)]) dX8_makes_124 (by decide) rfl ?_
                      refine A_aload_n dX8_makes_126 rfl rfl ?_
                      refine B_getR (r := 81) dX8_makes_127 flX8_62 (hM 0 _ rfl) rfl ?_
                      refine A_iload_n dX8_makes_130 rfl rfl ?_
                      refine A_iload dX8_makes_131 rfl ?_
                      refine B_iast (i := i9) dX8_makes_133 (hM 21 _ rfl) (by decide) (rfl) (by omega) ?_
                      refine B_sg (show _ = (mput u 60 (sFe (zfe c i9 (mx0 (cFe c i9 - 1))) (va_up (cFe (zfe c i9 (mx0 (cFe c i9 - 1)))) i9 (cFe c i9)))) from mx_21 _ _ _ _ _) ?_
                      refine B_sg (show _ = mput u 60 c from congrArg (mput u 60) ((zfe_zfe c i9 _ _).trans (zfe_i c i9))) ?_
                      refine A_iload dX8_makes_134 rfl ?_
                      refine A_if_eq (tgt := 141) dX8_makes_136 rfl (fun h_48 => ?_) (fun h_48 => ?_)
                      · skip
                        exact absurd h_48 (by decide)
                      · skip
                        refine A_iload_n dX8_makes_139 rfl rfl ?_
                        refine A_zret dX8_makes_140 rfl (narrow_b2i _) (az_pi hP ?_ (rfl))
                        rw [zmk_b hna (i := i9) (by omega) (by rw [← mtm_eq (z := fun e => zmk n e (!f)) (hrg i9 (by omega)) hna]; exact (mtm_2 (z := fun e => zmk n e (!f)) (b2i_eq.mp h_46))) (fun k hk => by rw [← mtm_eq (z := fun e => zmk n e (!f)) (hrg k (by omega)) hna]; exact hno k hk)]
        exact loop (cN c) 0 (by omega) lt_0
      · skip
        refine A_iload_n dX8_makes_29 rfl rfl ?_
        refine A_zret dX8_makes_30 rfl (narrow_b2i _) (az_pi hP ?_ (rfl))
        rw [zmk_a (b2i_eq.mp h_26)]
  · skip
    exact absurd h_1 (nI_ne0 (by omega) (by omega))
