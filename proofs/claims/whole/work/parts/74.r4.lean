set_option maxHeartbeats 1000000 in
set_option maxRecDepth 100000 in
theorem y_personOf (l : Launch) (G : az_Gh) (d : Nat) (sh : List az_Sh) (sg : Nat → Nat → Int32) (la : Nat → Nat → Int64) (g : GGM) (σ : SGM) (kp tr : Option Nat) (p w : Int32) (hM : az_at sh 60 (lyM 60 kp tr)) (hR : RX g sg la σ kp tr) (hW : WF σ)  : AM l G (d + 32) mX8_personOf [.ref 60, .int p, .int w] (sh, sg, la) 0 0 (RQ sh g kp tr (.int (q_personOf σ p w).1) (q_personOf σ p w).2) := by
  refine az_am knX8_personOf (Nat.le_of_ble_eq_true rfl) rfl (fun Post hP => ?_)
  show AW l G mX8_personOf (d + 32) (az_F G Post) 0 0 0 [some (.ref 60), some (.int p), some (.int w)] [] (sh, sg, la)
  have hO := hW.1.1.1
  have hL := cW_lv hW.1
  have haw := hW.1.2.2.1
  have h8 := hO.2
  refine B_sg hR.z.symm ?_
  refine A_aload_n dX8_personOf_0 rfl rfl ?_
  refine A_iload_n dX8_personOf_1 rfl rfl ?_
  refine A_i2l dX8_personOf_2 ?_
  refine A_callV (n := 0) dX8_personOf_3 kvX8_isPerson mlX8_112 rfl (az_rc_obj clX8 (hM 0 _ rfl)) (r_isPerson l G (d + 30) sh sg la kp tr (xN σ) p hM hO) (by omega) (Nat.le_refl _) (Nat.le_refl _) rfl (Nat.le_of_ble_eq_true rfl) (fun r S1 hp => ?_)
  obtain ⟨rfl, rfl⟩ := hp
  show AW l G mX8_personOf (d + 32) (az_F G Post) 0 0 6 [some (.ref 60), some (.int p), some (.int w)] [.int (b2i (0 ≤ p ∧ p < cPp (xN σ)))] (sh, (mput sg 60 (xN σ)), la)
  refine A_if_eq (tgt := 21) dX8_personOf_6 rfl (fun h_1 => ?_) (fun h_1 => ?_)
  · skip
    have h_1' := b2i_0.mp h_1
    refine A_aload_n dX8_personOf_21 rfl rfl ?_
    refine A_bipush (v := (-2)) dX8_personOf_22 (by decide) ?_
    refine A_callV (n := 0) dX8_personOf_24 kvX8_refuse mlX8_101 rfl (az_rc_obj clX8 (hM 0 _ rfl)) (c_X8_refuse l G (d + 31) sh (mput sg 60 (xN σ)) la kp tr (-2) 0 hM (by decide) (by decide)) (by omega) (Nat.le_refl _) (Nat.le_refl _) rfl (Nat.le_of_ble_eq_true rfl) (fun r S1 hp => ?_)
    obtain ⟨rfl, rfl⟩ := hp
    show AW l G mX8_personOf (d + 32) (az_F G Post) 0 0 27 [some (.ref 60), some (.int p), some (.int w)] [.int (-2)] (sh, (az_w (mput sg 60 (xN σ)) 76 (0 + 2) ((mput sg 60 (xN σ)) 76 (0 + 2) + 1)), la)
    have hq : (q_personOf σ p w) = ((-2), (rfs σ 0)) := by
      unfold q_personOf
      try simp only [h_1', and_true, true_and, and_false, false_and, and_self, or_true, true_or, or_false, false_or, not_true_eq_false, not_false_eq_true, if_true, if_false, ite_true, ite_false, decide_true, decide_false, reduceIte]
      first | done | rfl
    exact A_iret dX8_personOf_27 rfl (hP _ _ (RQ_i hq ((hR.fin0 (sC.rf sg)).ref (k := 0) (by decide))))
  · skip
    have h_1' := b2i_n.mp h_1
    obtain ⟨p1, hp1, rfl⟩ := nI_exp hO h_1'
    have hc_p1 : (nI p1).toNatClampNeg = p1 := nI_clamp (by omega)
    refine A_iload_n dX8_personOf_9 rfl rfl ?_
    refine A_i2l dX8_personOf_10 ?_
    refine A_lconst (v := 0) dX8_personOf_11 (by decide) ?_
    refine A_ldc2 (v := 6) dX8_personOf_12 lcX8_242 ?_
    refine A_callS (n := 0) dX8_personOf_15 ksX8_in mlX8_91 rfl (c_X8_inI l G (d + 31) sh (mput sg 60 (xN σ)) la w 6 6 (by decide)) (by omega) (Nat.le_refl _) (Nat.le_refl _) rfl (Nat.le_of_ble_eq_true rfl) (fun r S1 hp => ?_)
    obtain ⟨rfl, rfl⟩ := hp
    show AW l G mX8_personOf (d + 32) (az_F G Post) 0 0 18 [some (.ref 60), some (.int (nI p1)), some (.int w)] [.int (b2i (0 ≤ w ∧ w ≤ 6))] (sh, (mput sg 60 (xN σ)), la)
    refine A_if_ne (tgt := 28) dX8_personOf_18 rfl (fun h_2 => ?_) (fun h_2 => ?_)
    · skip
      have h_2' := b2i_n.mp h_2
      obtain ⟨w1, hw1, rfl⟩ := nI_ex (m := 6) h_2'
      have hc_w1 : (nI w1).toNatClampNeg = w1 := nI_clamp (by omega)
      rcases (by omega : w1 = 0 ∨ w1 = 1 ∨ w1 = 2 ∨ w1 = 3 ∨ w1 = 4 ∨ w1 = 5 ∨ w1 = 6) with rfl | rfl | rfl | rfl | rfl | rfl | rfl
      · skip
        show AW l G mX8_personOf (d + 32) (az_F G Post) 0 0 28 [some (.ref 60), some (.int (nI p1)), some (.int 0)] [] (sh, (mput sg 60 (xN σ)), la)
        refine A_iload_n dX8_personOf_28 rfl rfl ?_
        refine A_tableIn (off := 39) (tgt := 68) dX8_personOf_29 (by decide) (by decide) rfl rfl ?_
        refine A_aload_n dX8_personOf_68 rfl rfl ?_
        refine B_getR (r := 77) dX8_personOf_69 flX8_50 (hM 0 _ rfl) rfl ?_
        refine A_iload_n dX8_personOf_72 rfl rfl ?_
        refine B_ialdV (i := p1) (cKd (xN σ) p1) dX8_personOf_73 (hM 17 _ rfl) (by decide) (rfl) (by omega) (me_17 _ _ _ _) ?_
        have hq : (q_personOf σ (nI p1) (0)) = (cKd (xN σ) p1, σ) := by
          unfold q_personOf
          rw [if_pos h_1', if_pos rfl, hc_p1]
          first | done | rfl
        exact A_iret dX8_personOf_74 rfl (hP _ _ (RQ_i hq (hR.fin0 (sC.rf sg))))
      · skip
        show AW l G mX8_personOf (d + 32) (az_F G Post) 0 0 28 [some (.ref 60), some (.int (nI p1)), some (.int 1)] [] (sh, (mput sg 60 (xN σ)), la)
        refine A_iload_n dX8_personOf_28 rfl rfl ?_
        refine A_tableIn (off := 46) (tgt := 75) dX8_personOf_29 (by decide) (by decide) rfl rfl ?_
        refine A_aload_n dX8_personOf_75 rfl rfl ?_
        refine B_getR (r := 78) dX8_personOf_76 flX8_53 (hM 0 _ rfl) rfl ?_
        refine A_iload_n dX8_personOf_79 rfl rfl ?_
        refine B_ialdV (i := p1) (cAa (xN σ) p1) dX8_personOf_80 (hM 18 _ rfl) (by decide) (rfl) (by omega) (me_18 _ _ _ _) ?_
        have hq : (q_personOf σ (nI p1) (1)) = (cAa (xN σ) p1, σ) := by
          unfold q_personOf
          rw [if_pos h_1', if_neg (by decide), if_pos rfl, hc_p1]
          first | done | rfl
        exact A_iret dX8_personOf_81 rfl (hP _ _ (RQ_i hq (hR.fin0 (sC.rf sg))))
      · skip
        show AW l G mX8_personOf (d + 32) (az_F G Post) 0 0 28 [some (.ref 60), some (.int (nI p1)), some (.int 2)] [] (sh, (mput sg 60 (xN σ)), la)
        refine A_iload_n dX8_personOf_28 rfl rfl ?_
        refine A_tableIn (off := 53) (tgt := 82) dX8_personOf_29 (by decide) (by decide) rfl rfl ?_
        refine A_aload_n dX8_personOf_82 rfl rfl ?_
        refine B_getR (r := 79) dX8_personOf_83 flX8_56 (hM 0 _ rfl) rfl ?_
        refine A_iload_n dX8_personOf_86 rfl rfl ?_
        refine B_ialdV (i := p1) (cPr (xN σ) p1) dX8_personOf_87 (hM 19 _ rfl) (by decide) (rfl) (by omega) (me_19 _ _ _ _) ?_
        have hq : (q_personOf σ (nI p1) (2)) = (cPr (xN σ) p1, σ) := by
          unfold q_personOf
          rw [if_pos h_1', if_neg (by decide), if_neg (by decide), if_pos rfl, hc_p1]
          first | done | rfl
        exact A_iret dX8_personOf_88 rfl (hP _ _ (RQ_i hq (hR.fin0 (sC.rf sg))))
      · skip
        show AW l G mX8_personOf (d + 32) (az_F G Post) 0 0 28 [some (.ref 60), some (.int (nI p1)), some (.int 3)] [] (sh, (mput sg 60 (xN σ)), la)
        refine A_iload_n dX8_personOf_28 rfl rfl ?_
        refine A_tableIn (off := 60) (tgt := 89) dX8_personOf_29 (by decide) (by decide) rfl rfl ?_
        refine A_aload_n dX8_personOf_89 rfl rfl ?_
        refine B_getR (r := 80) dX8_personOf_90 flX8_59 (hM 0 _ rfl) rfl ?_
        refine A_iload_n dX8_personOf_93 rfl rfl ?_
        refine B_ialdV (i := p1) (cBr (xN σ) p1) dX8_personOf_94 (hM 20 _ rfl) (by decide) (rfl) (by omega) (me_20 _ _ _ _) ?_
        have hq : (q_personOf σ (nI p1) (3)) = (cBr (xN σ) p1, σ) := by
          unfold q_personOf
          rw [if_pos h_1', if_neg (by decide), if_neg (by decide), if_neg (by decide), if_pos rfl, hc_p1]
          first | done | rfl
        exact A_iret dX8_personOf_95 rfl (hP _ _ (RQ_i hq (hR.fin0 (sC.rf sg))))
      · skip
        show AW l G mX8_personOf (d + 32) (az_F G Post) 0 0 28 [some (.ref 60), some (.int (nI p1)), some (.int 4)] [] (sh, (mput sg 60 (xN σ)), la)
        refine A_iload_n dX8_personOf_28 rfl rfl ?_
        refine A_tableIn (off := 67) (tgt := 96) dX8_personOf_29 (by decide) (by decide) rfl rfl ?_
        refine A_aload_n dX8_personOf_96 rfl rfl ?_
        refine B_getR (r := 81) dX8_personOf_97 flX8_62 (hM 0 _ rfl) rfl ?_
        refine A_iload_n dX8_personOf_100 rfl rfl ?_
        refine B_ialdV (i := p1) (cFe (xN σ) p1) dX8_personOf_101 (hM 21 _ rfl) (by decide) (rfl) (by omega) (me_21 _ _ _ _) ?_
        have hq : (q_personOf σ (nI p1) (4)) = (cFe (xN σ) p1, σ) := by
          unfold q_personOf
          rw [if_pos h_1', if_neg (by decide), if_neg (by decide), if_neg (by decide), if_neg (by decide), if_pos rfl, hc_p1]
          first | done | rfl
        exact A_iret dX8_personOf_102 rfl (hP _ _ (RQ_i hq (hR.fin0 (sC.rf sg))))
      · skip
        show AW l G mX8_personOf (d + 32) (az_F G Post) 0 0 28 [some (.ref 60), some (.int (nI p1)), some (.int 5)] [] (sh, (mput sg 60 (xN σ)), la)
        refine A_iload_n dX8_personOf_28 rfl rfl ?_
        refine A_tableIn (off := 74) (tgt := 103) dX8_personOf_29 (by decide) (by decide) rfl rfl ?_
        refine A_aload_n dX8_personOf_103 rfl rfl ?_
        refine A_iload_n dX8_personOf_104 rfl rfl ?_
        refine A_callV (n := 0) dX8_personOf_105 kvX8_cold mlX8_122 rfl (az_rc_obj clX8 (hM 0 _ rfl)) (r_cold l G (d + 30) sh sg la kp tr (xN σ) p1 hM hO hL hp1 (by rw [haw]; exact nI_n1 (by omega))) (by omega) (Nat.le_refl _) (Nat.le_refl _) rfl (Nat.le_of_ble_eq_true rfl) (fun r S1 hp => ?_)
        obtain ⟨rfl, rfl⟩ := hp
        show AW l G mX8_personOf (d + 32) (az_F G Post) 0 0 108 [some (.ref 60), some (.int (nI p1)), some (.int 5)] [.int (zc (xN σ) p1)] (sh, (mput sg 60 (xN σ)), la)
        have hq : (q_personOf σ (nI p1) (5)) = (zc (xN σ) p1, σ) := by
          unfold q_personOf
          rw [if_pos h_1', if_neg (by decide), if_neg (by decide), if_neg (by decide), if_neg (by decide), if_neg (by decide), if_pos rfl, hc_p1]
          first | done | rfl
        exact A_iret dX8_personOf_108 rfl (hP _ _ (RQ_i hq (hR.fin0 (sC.rf sg))))
      · skip
        show AW l G mX8_personOf (d + 32) (az_F G Post) 0 0 28 [some (.ref 60), some (.int (nI p1)), some (.int 6)] [] (sh, (mput sg 60 (xN σ)), la)
        refine A_iload_n dX8_personOf_28 rfl rfl ?_
        refine A_tableOut (tgt := 109) dX8_personOf_29 (by decide) rfl ?_
        refine A_aload_n dX8_personOf_109 rfl rfl ?_
        refine A_iload_n dX8_personOf_110 rfl rfl ?_
        refine A_callV (n := 0) dX8_personOf_111 kvX8_limit mlX8_233 rfl (az_rc_obj clX8 (hM 0 _ rfl)) (r_limit l G (d + 31) sh sg la kp tr (xN σ) p1 hM hO hp1) (by omega) (Nat.le_refl _) (Nat.le_refl _) rfl (Nat.le_of_ble_eq_true rfl) (fun r S1 hp => ?_)
        obtain ⟨rfl, rfl⟩ := hp
        show AW l G mX8_personOf (d + 32) (az_F G Post) 0 0 114 [some (.ref 60), some (.int (nI p1)), some (.int 6)] [.int (zl (xN σ) (cPr (xN σ) p1) p1)] (sh, (mput sg 60 (xN σ)), la)
        have hq : (q_personOf σ (nI p1) (6)) = (zl (xN σ) (cPr (xN σ) p1) p1, σ) := by
          unfold q_personOf
          rw [if_pos h_1', if_neg (by decide), if_neg (by decide), if_neg (by decide), if_neg (by decide), if_neg (by decide), if_neg (by decide), if_pos rfl, hc_p1]
          first | done | rfl
        exact A_iret dX8_personOf_114 rfl (hP _ _ (RQ_i hq (hR.fin0 (sC.rf sg))))
    · skip
      have h_2' := b2i_0.mp h_2
      refine A_aload_n dX8_personOf_21 rfl rfl ?_
      refine A_bipush (v := (-2)) dX8_personOf_22 (by decide) ?_
      refine A_callV (n := 0) dX8_personOf_24 kvX8_refuse mlX8_101 rfl (az_rc_obj clX8 (hM 0 _ rfl)) (c_X8_refuse l G (d + 31) sh (mput sg 60 (xN σ)) la kp tr (-2) 0 hM (by decide) (by decide)) (by omega) (Nat.le_refl _) (Nat.le_refl _) rfl (Nat.le_of_ble_eq_true rfl) (fun r S1 hp => ?_)
      obtain ⟨rfl, rfl⟩ := hp
      show AW l G mX8_personOf (d + 32) (az_F G Post) 0 0 27 [some (.ref 60), some (.int (nI p1)), some (.int w)] [.int (-2)] (sh, (az_w (mput sg 60 (xN σ)) 76 (0 + 2) ((mput sg 60 (xN σ)) 76 (0 + 2) + 1)), la)
      have hq : (q_personOf σ (nI p1) w) = ((-2), (rfs σ 0)) := by
        unfold q_personOf
        rw [if_pos h_1', if_neg (fun q => h_2' (by rw [q]; decide)), if_neg (fun q => h_2' (by rw [q]; decide)), if_neg (fun q => h_2' (by rw [q]; decide)), if_neg (fun q => h_2' (by rw [q]; decide)), if_neg (fun q => h_2' (by rw [q]; decide)), if_neg (fun q => h_2' (by rw [q]; decide)), if_neg (fun q => h_2' (by rw [q]; decide))]
        first | done | rfl
      exact A_iret dX8_personOf_27 rfl (hP _ _ (RQ_i hq ((hR.fin0 (sC.rf sg)).ref (k := 0) (by decide))))
set_option maxHeartbeats 1000000 in
set_option maxRecDepth 100000 in
theorem y_speaks (l : Launch) (G : az_Gh) (d : Nat) (sh : List az_Sh) (sg : Nat → Nat → Int32) (la : Nat → Nat → Int64) (g : GGM) (σ : SGM) (kp tr : Option Nat) (p : Int32) (hM : az_at sh 60 (lyM 60 kp tr)) (hR : RX g sg la σ kp tr) (hW : WF σ)  : AM l G (d + 32) mX8_speaks [.ref 60, .int p] (sh, sg, la) 0 0 (RQ sh g kp tr (.int (q_speaks σ p).1) (q_speaks σ p).2) := by
  refine az_am knX8_speaks (Nat.le_of_ble_eq_true rfl) rfl (fun Post hP => ?_)
  show AW l G mX8_speaks (d + 32) (az_F G Post) 0 0 0 [some (.ref 60), some (.int p)] [] (sh, sg, la)
  have hO := hW.1.1.1
  have hL := cW_lv hW.1
  have haw := hW.1.2.2.1
  have h8 := hO.2
  refine B_sg hR.z.symm ?_
  refine A_aload_n dX8_speaks_0 rfl rfl ?_
  refine A_iload_n dX8_speaks_1 rfl rfl ?_
  refine A_i2l dX8_speaks_2 ?_
  refine A_callV (n := 0) dX8_speaks_3 kvX8_isPerson mlX8_112 rfl (az_rc_obj clX8 (hM 0 _ rfl)) (r_isPerson l G (d + 30) sh sg la kp tr (xN σ) p hM hO) (by omega) (Nat.le_refl _) (Nat.le_refl _) rfl (Nat.le_of_ble_eq_true rfl) (fun r S1 hp => ?_)
  obtain ⟨rfl, rfl⟩ := hp
  show AW l G mX8_speaks (d + 32) (az_F G Post) 0 0 6 [some (.ref 60), some (.int p)] [.int (b2i (0 ≤ p ∧ p < cPp (xN σ)))] (sh, (mput sg 60 (xN σ)), la)
  refine A_if_eq (tgt := 25) dX8_speaks_6 rfl (fun h_1 => ?_) (fun h_1 => ?_)
  · skip
    have h_1' := b2i_0.mp h_1
    refine A_aload_n dX8_speaks_25 rfl rfl ?_
    refine A_bipush (v := (-2)) dX8_speaks_26 (by decide) ?_
    refine A_callV (n := 0) dX8_speaks_28 kvX8_refuse mlX8_101 rfl (az_rc_obj clX8 (hM 0 _ rfl)) (c_X8_refuse l G (d + 31) sh (mput sg 60 (xN σ)) la kp tr (-2) 0 hM (by decide) (by decide)) (by omega) (Nat.le_refl _) (Nat.le_refl _) rfl (Nat.le_of_ble_eq_true rfl) (fun r S1 hp => ?_)
    obtain ⟨rfl, rfl⟩ := hp
    show AW l G mX8_speaks (d + 32) (az_F G Post) 0 0 31 [some (.ref 60), some (.int p)] [.int (-2)] (sh, (az_w (mput sg 60 (xN σ)) 76 (0 + 2) ((mput sg 60 (xN σ)) 76 (0 + 2) + 1)), la)
    have hq : (q_speaks σ p) = ((-2), (rfs σ 0)) := by
      unfold q_speaks
      try simp only [h_1', and_true, true_and, and_false, false_and, and_self, or_true, true_or, or_false, false_or, not_true_eq_false, not_false_eq_true, if_true, if_false, ite_true, ite_false, decide_true, decide_false, reduceIte]
      first | done | rfl
    exact A_iret dX8_speaks_31 rfl (hP _ _ (RQ_i hq ((hR.fin0 (sC.rf sg)).ref (k := 0) (by decide))))
  · skip
    have h_1' := b2i_n.mp h_1
    obtain ⟨p1, hp1, rfl⟩ := nI_exp hO h_1'
    have hc_p1 : (nI p1).toNatClampNeg = p1 := nI_clamp (by omega)
    refine A_aload_n dX8_speaks_9 rfl rfl ?_
    refine A_iload_n dX8_speaks_10 rfl rfl ?_
    refine A_callV (n := 0) dX8_speaks_11 kvX8_speaksNow mlX8_239 rfl (az_rc_obj clX8 (hM 0 _ rfl)) (r_speaksNow l G (d + 29) sh sg la kp tr (xN σ) p1 hM hO hL hp1 (by rw [haw]; exact nI_n1 (by omega))) (by omega) (Nat.le_refl _) (Nat.le_refl _) rfl (Nat.le_of_ble_eq_true rfl) (fun r S1 hp => ?_)
    obtain ⟨rfl, rfl⟩ := hp
    show AW l G mX8_speaks (d + 32) (az_F G Post) 0 0 14 [some (.ref 60), some (.int (nI p1))] [.int (b2i (zsp (xN σ) p1 = true))] (sh, (mput sg 60 (xN σ)), la)
    refine A_if_eq (tgt := 21) dX8_speaks_14 rfl (fun h_2 => ?_) (fun h_2 => ?_)
    · skip
      have h_2' := b2i_0.mp h_2
      refine A_iconst (v := 0) dX8_speaks_21 (by decide) ?_
      refine A_goto (tgt := 31) dX8_speaks_22 rfl ?_
      have hq : (q_speaks σ (nI p1)) = (0, σ) := by
        unfold q_speaks b2i
        rw [if_pos h_1', hc_p1, if_neg h_2']
      exact A_iret dX8_speaks_31 rfl (hP _ _ (RQ_i hq (hR.fin0 (sC.rf sg))))
    · skip
      have h_2' := b2i_n.mp h_2
      refine A_iconst (v := 1) dX8_speaks_17 (by decide) ?_
      refine A_goto (tgt := 31) dX8_speaks_18 rfl ?_
      have hq : (q_speaks σ (nI p1)) = (1, σ) := by
        unfold q_speaks b2i
        rw [if_pos h_1', hc_p1, if_pos h_2']
      exact A_iret dX8_speaks_31 rfl (hP _ _ (RQ_i hq (hR.fin0 (sC.rf sg))))
set_option maxHeartbeats 1000000 in
set_option maxRecDepth 100000 in
theorem y_coldest (l : Launch) (G : az_Gh) (d : Nat) (sh : List az_Sh) (sg : Nat → Nat → Int32) (la : Nat → Nat → Int64) (g : GGM) (σ : SGM) (kp tr : Option Nat)  (hM : az_at sh 60 (lyM 60 kp tr)) (hR : RX g sg la σ kp tr) (hW : WF σ)  : AM l G (d + 32) mX8_coldest [.ref 60] (sh, sg, la) 0 0 (RQ sh g kp tr (.int (q_coldest σ)) σ) := by
  refine az_am knX8_coldest (Nat.le_of_ble_eq_true rfl) rfl (fun Post hP => ?_)
  show AW l G mX8_coldest (d + 32) (az_F G Post) 0 0 0 [some (.ref 60)] [] (sh, sg, la)
  have hO := hW.1.1.1
  have hL := cW_lv hW.1
  have haw := hW.1.2.2.1
  have h8 := hO.2
  refine B_sg hR.z.symm ?_
  refine A_aload_n dX8_coldest_0 rfl rfl ?_
  refine A_callV (n := 0) dX8_coldest_1 kvX8_coldestOf mlX8_236 rfl (az_rc_obj clX8 (hM 0 _ rfl)) (r_coldestOf l G (d + 29) sh sg la kp tr (xN σ) hM hO hL) (by omega) (Nat.le_refl _) (Nat.le_refl _) rfl (Nat.le_of_ble_eq_true rfl) (fun r S1 hp => ?_)
  obtain ⟨rfl, rfl⟩ := hp
  show AW l G mX8_coldest (d + 32) (az_F G Post) 0 0 4 [some (.ref 60)] [.int (oI (zbest (xN σ)))] (sh, (mput sg 60 (xN σ)), la)
  have hq : (q_coldest σ) = oI (zbest (xN σ)) := by
    rfl
  exact A_iret dX8_coldest_4 rfl (hP _ _ (RQ_0 hq (hR.fin0 (sC.rf sg))))
set_option maxHeartbeats 1000000 in
set_option maxRecDepth 100000 in
theorem y_isSo (l : Launch) (G : az_Gh) (d : Nat) (sh : List az_Sh) (sg : Nat → Nat → Int32) (la : Nat → Nat → Int64) (g : GGM) (σ : SGM) (kp tr : Option Nat)  (hM : az_at sh 60 (lyM 60 kp tr)) (hR : RX g sg la σ kp tr) (hW : WF σ)  : AM l G (d + 32) mX8_isSo [.ref 60] (sh, sg, la) 0 0 (RQ sh g kp tr (.int (q_isSo σ)) σ) := by
  refine az_am knX8_isSo (Nat.le_of_ble_eq_true rfl) rfl (fun Post hP => ?_)
  show AW l G mX8_isSo (d + 32) (az_F G Post) 0 0 0 [some (.ref 60)] [] (sh, sg, la)
  have hO := hW.1.1.1
  have hL := cW_lv hW.1
  have haw := hW.1.2.2.1
  have h8 := hO.2
  refine B_sg hR.z.symm ?_
  refine A_aload_n dX8_isSo_0 rfl rfl ?_
  refine A_callV (n := 0) dX8_isSo_1 kvX8_isSoNow mlX8_244 rfl (az_rc_obj clX8 (hM 0 _ rfl)) (r_isSoNow l G (d + 28) sh sg la kp tr (xN σ) hM hO hL) (by omega) (Nat.le_refl _) (Nat.le_refl _) rfl (Nat.le_of_ble_eq_true rfl) (fun r S1 hp => ?_)
  obtain ⟨rfl, rfl⟩ := hp
  show AW l G mX8_isSo (d + 32) (az_F G Post) 0 0 4 [some (.ref 60)] [.int (b2i (zso (xN σ) = true))] (sh, (mput sg 60 (xN σ)), la)
  refine A_if_eq (tgt := 11) dX8_isSo_4 rfl (fun h_1 => ?_) (fun h_1 => ?_)
  · skip
    have h_1' := b2i_0.mp h_1
    refine A_iconst (v := 0) dX8_isSo_11 (by decide) ?_
    have hq : (q_isSo σ) = 0 := by
      unfold q_isSo b2i
      rw [if_neg h_1']
    exact A_iret dX8_isSo_12 rfl (hP _ _ (RQ_0 hq (hR.fin0 (sC.rf sg))))
  · skip
    have h_1' := b2i_n.mp h_1
    refine A_iconst (v := 1) dX8_isSo_7 (by decide) ?_
    refine A_goto (tgt := 12) dX8_isSo_8 rfl ?_
    have hq : (q_isSo σ) = 1 := by
      unfold q_isSo b2i
      rw [if_pos h_1']
    exact A_iret dX8_isSo_12 rfl (hP _ _ (RQ_0 hq (hR.fin0 (sC.rf sg))))
set_option maxHeartbeats 1000000 in
set_option maxRecDepth 100000 in
theorem y_speaking (l : Launch) (G : az_Gh) (d : Nat) (sh : List az_Sh) (sg : Nat → Nat → Int32) (la : Nat → Nat → Int64) (g : GGM) (σ : SGM) (kp tr : Option Nat)  (hM : az_at sh 60 (lyM 60 kp tr)) (hR : RX g sg la σ kp tr) (hW : WF σ)  : AM l G (d + 32) mX8_speaking [.ref 60] (sh, sg, la) 0 0 (RQ sh g kp tr (.int (q_speaking σ)) σ) := by
  refine az_am knX8_speaking (Nat.le_of_ble_eq_true rfl) rfl (fun Post hP => ?_)
  show AW l G mX8_speaking (d + 32) (az_F G Post) 0 0 0 [some (.ref 60), none, none] [] (sh, sg, la)
  have hO := hW.1.1.1
  have hL := cW_lv hW.1
  have haw := hW.1.2.2.1
  have h8 := hO.2
  refine B_sg hR.z.symm ?_
  refine A_iconst (v := 0) dX8_speaking_0 (by decide) ?_
  refine A_istore_n (lo2 := [some (.ref 60), some (.int 0), none]) dX8_speaking_1 rfl (by decide) rfl ?_
  refine A_iconst (v := 0) dX8_speaking_2 (by decide) ?_
  refine A_istore_n (lo2 := [some (.ref 60), some (.int 0), some (.int 0)]) dX8_speaking_3 rfl (by decide) rfl ?_
  have loop : ∀ (q_i9 i9 : Nat) (x1 : Int32), i9 + q_i9 = (cN (xN σ)) → x1 = zbits (zsp (xN σ)) i9 → AW l G mX8_speaking (d + 32) (az_F G Post) 0 0 4 [some (.ref 60), some (.int x1), some (.int (nI i9))] [] (sh, (mput sg 60 (xN σ)), la) := by
    intro q_i9
    induction q_i9 with
    | zero =>
      intro i9 x1 hi_i9  e_x1
      have hN_i9 : i9 = (cN (xN σ)) := by omega
      subst i9
      refine A_iload_n dX8_speaking_4 rfl rfl ?_
      refine A_aload_n dX8_speaking_5 rfl rfl ?_
      refine B_getV (nI (cN (xN σ))) dX8_speaking_6 flX8_88 (hM 0 _ rfl) rfl ((mr_14 _ _ _).trans hO.1) ?_
      refine A_icmp_ge (tgt := 36) dX8_speaking_9 rfl (fun h_1 => ?_) (fun h_1 => ?_)
      · skip
        refine A_iload_n dX8_speaking_36 rfl rfl ?_
        have hq : (q_speaking σ) = x1 := by
          rw [e_x1]; rfl
        exact A_iret dX8_speaking_37 rfl (hP _ _ (RQ_0 hq (hR.fin0 (sC.rf sg))))
      · skip
        exact absurd (Int32.le_refl _) h_1
    | succ q_i9 ih =>
      intro i9 x1 hi_i9  e_x1
      refine A_iload_n dX8_speaking_4 rfl rfl ?_
      refine A_aload_n dX8_speaking_5 rfl rfl ?_
      refine B_getV (nI (cN (xN σ))) dX8_speaking_6 flX8_88 (hM 0 _ rfl) rfl ((mr_14 _ _ _).trans hO.1) ?_
      refine A_icmp_ge (tgt := 36) dX8_speaking_9 rfl (fun h_2 => ?_) (fun h_2 => ?_)
      · skip
        exact absurd h_2 (nI_ge (by omega) (by omega))
      · skip
        refine A_iload_n dX8_speaking_12 rfl rfl ?_
        refine A_aload_n dX8_speaking_13 rfl rfl ?_
        refine A_iload_n dX8_speaking_14 rfl rfl ?_
        refine A_callV (n := 0) dX8_speaking_15 kvX8_speaksNow mlX8_239 rfl (az_rc_obj clX8 (hM 0 _ rfl)) (r_speaksNow l G (d + 29) sh sg la kp tr (xN σ) i9 hM hO hL (by omega) (by rw [haw]; exact nI_n1 (by omega))) (by omega) (Nat.le_refl _) (Nat.le_refl _) rfl (Nat.le_of_ble_eq_true rfl) (fun r S1 hp => ?_)
        obtain ⟨rfl, rfl⟩ := hp
        show AW l G mX8_speaking (d + 32) (az_F G Post) 0 0 18 [some (.ref 60), some (.int x1), some (.int (nI i9))] [.int (b2i (zsp (xN σ) i9 = true)), .int x1] (sh, (mput sg 60 (xN σ)), la)
        refine A_if_eq (tgt := 27) dX8_speaking_18 rfl (fun h_3 => ?_) (fun h_3 => ?_)
        · skip
          have h_3' := b2i_0.mp h_3
          refine A_iconst (v := 0) dX8_speaking_27 (by decide) ?_
          refine A_ior dX8_speaking_28 ?_
          refine A_istore_n (lo2 := [some (.ref 60), some (.int (x1 ||| 0)), some (.int (nI i9))]) dX8_speaking_29 rfl (by decide) rfl ?_
          refine A_iinc (v := nI (i9 + 1)) (lo2 := [some (.ref 60), some (.int (x1 ||| 0)), some (.int (nI (i9 + 1)))]) dX8_speaking_30 rfl (nI_1 i9) (by decide) rfl ?_
          refine A_goto (tgt := 4) dX8_speaking_33 rfl ?_
          refine ih (i9 + 1) _ (by omega) ?_
          · skip
            rw [e_x1, Int32.or_zero]; exact (if_neg h_3').symm
        · skip
          have h_3' := b2i_n.mp h_3
          refine A_iconst (v := 1) dX8_speaking_21 (by decide) ?_
          refine A_iload_n dX8_speaking_22 rfl rfl ?_
          refine A_ishl dX8_speaking_23 ?_
          refine A_goto (tgt := 28) dX8_speaking_24 rfl ?_
          refine A_ior dX8_speaking_28 ?_
          refine A_istore_n (lo2 := [some (.ref 60), some (.int (x1 ||| (1 <<< (nI i9 &&& 31)))), some (.int (nI i9))]) dX8_speaking_29 rfl (by decide) rfl ?_
          refine A_iinc (v := nI (i9 + 1)) (lo2 := [some (.ref 60), some (.int (x1 ||| (1 <<< (nI i9 &&& 31)))), some (.int (nI (i9 + 1)))]) dX8_speaking_30 rfl (nI_1 i9) (by decide) rfl ?_
          refine A_goto (tgt := 4) dX8_speaking_33 rfl ?_
          refine ih (i9 + 1) _ (by omega) ?_
          · skip
            rw [e_x1]; exact (if_pos h_3').symm
  exact loop ((cN (xN σ))) 0 _ (by omega) (rfl)
set_option maxHeartbeats 1000000 in
set_option maxRecDepth 100000 in
theorem y_shivering (l : Launch) (G : az_Gh) (d : Nat) (sh : List az_Sh) (sg : Nat → Nat → Int32) (la : Nat → Nat → Int64) (g : GGM) (σ : SGM) (kp tr : Option Nat)  (hM : az_at sh 60 (lyM 60 kp tr)) (hR : RX g sg la σ kp tr) (hW : WF σ)  : AM l G (d + 32) mX8_shivering [.ref 60] (sh, sg, la) 0 0 (RQ sh g kp tr (.int (q_shivering σ)) σ) := by
  refine az_am knX8_shivering (Nat.le_of_ble_eq_true rfl) rfl (fun Post hP => ?_)
  show AW l G mX8_shivering (d + 32) (az_F G Post) 0 0 0 [some (.ref 60), none, none] [] (sh, sg, la)
  have hO := hW.1.1.1
  have hL := cW_lv hW.1
  have haw := hW.1.2.2.1
  have h8 := hO.2
  refine B_sg hR.z.symm ?_
  refine A_iconst (v := 0) dX8_shivering_0 (by decide) ?_
  refine A_istore_n (lo2 := [some (.ref 60), some (.int 0), none]) dX8_shivering_1 rfl (by decide) rfl ?_
  refine A_iconst (v := 0) dX8_shivering_2 (by decide) ?_
  refine A_istore_n (lo2 := [some (.ref 60), some (.int 0), some (.int 0)]) dX8_shivering_3 rfl (by decide) rfl ?_
  have loop : ∀ (q_i9 i9 : Nat) (x1 : Int32), i9 + q_i9 = (cN (xN σ)) → x1 = l_sum (zc (xN σ)) i9 → AW l G mX8_shivering (d + 32) (az_F G Post) 0 0 4 [some (.ref 60), some (.int x1), some (.int (nI i9))] [] (sh, (mput sg 60 (xN σ)), la) := by
    intro q_i9
    induction q_i9 with
    | zero =>
      intro i9 x1 hi_i9  e_x1
      have hN_i9 : i9 = (cN (xN σ)) := by omega
      subst i9
      refine A_iload_n dX8_shivering_4 rfl rfl ?_
      refine A_aload_n dX8_shivering_5 rfl rfl ?_
      refine B_getV (nI (cN (xN σ))) dX8_shivering_6 flX8_88 (hM 0 _ rfl) rfl ((mr_14 _ _ _).trans hO.1) ?_
      refine A_icmp_ge (tgt := 26) dX8_shivering_9 rfl (fun h_1 => ?_) (fun h_1 => ?_)
      · skip
        refine A_iload_n dX8_shivering_26 rfl rfl ?_
        have hq : (q_shivering σ) = x1 := by
          rw [e_x1]; rfl
        exact A_iret dX8_shivering_27 rfl (hP _ _ (RQ_0 hq (hR.fin0 (sC.rf sg))))
      · skip
        exact absurd (Int32.le_refl _) h_1
    | succ q_i9 ih =>
      intro i9 x1 hi_i9  e_x1
      refine A_iload_n dX8_shivering_4 rfl rfl ?_
      refine A_aload_n dX8_shivering_5 rfl rfl ?_
      refine B_getV (nI (cN (xN σ))) dX8_shivering_6 flX8_88 (hM 0 _ rfl) rfl ((mr_14 _ _ _).trans hO.1) ?_
      refine A_icmp_ge (tgt := 26) dX8_shivering_9 rfl (fun h_2 => ?_) (fun h_2 => ?_)
      · skip
        exact absurd h_2 (nI_ge (by omega) (by omega))
      · skip
        refine A_iload_n dX8_shivering_12 rfl rfl ?_
        refine A_aload_n dX8_shivering_13 rfl rfl ?_
        refine A_iload_n dX8_shivering_14 rfl rfl ?_
        refine A_callV (n := 0) dX8_shivering_15 kvX8_cold mlX8_122 rfl (az_rc_obj clX8 (hM 0 _ rfl)) (r_cold l G (d + 30) sh sg la kp tr (xN σ) i9 hM hO hL (by omega) (by rw [haw]; exact nI_n1 (by omega))) (by omega) (Nat.le_refl _) (Nat.le_refl _) rfl (Nat.le_of_ble_eq_true rfl) (fun r S1 hp => ?_)
        obtain ⟨rfl, rfl⟩ := hp
        show AW l G mX8_shivering (d + 32) (az_F G Post) 0 0 18 [some (.ref 60), some (.int x1), some (.int (nI i9))] [.int (zc (xN σ) i9), .int x1] (sh, (mput sg 60 (xN σ)), la)
        refine A_iadd dX8_shivering_18 ?_
        refine A_istore_n (lo2 := [some (.ref 60), some (.int (x1 + zc (xN σ) i9)), some (.int (nI i9))]) dX8_shivering_19 rfl (by decide) rfl ?_
        refine A_iinc (v := nI (i9 + 1)) (lo2 := [some (.ref 60), some (.int (x1 + zc (xN σ) i9)), some (.int (nI (i9 + 1)))]) dX8_shivering_20 rfl (nI_1 i9) (by decide) rfl ?_
        refine A_goto (tgt := 4) dX8_shivering_23 rfl ?_
        refine ih (i9 + 1) _ (by omega) ?_
        · skip
          rw [e_x1]; rfl
  exact loop ((cN (xN σ))) 0 _ (by omega) (rfl)
set_option maxHeartbeats 1000000 in
set_option maxRecDepth 100000 in
theorem y_rank (l : Launch) (G : az_Gh) (d : Nat) (sh : List az_Sh) (sg : Nat → Nat → Int32) (la : Nat → Nat → Int64) (g : GGM) (σ : SGM) (kp tr : Option Nat) (i : Int32) (hM : az_at sh 60 (lyM 60 kp tr)) (hR : RX g sg la σ kp tr) (hW : WF σ)  : AM l G (d + 32) mX8_rank [.ref 60, .int i] (sh, sg, la) 0 0 (RQ sh g kp tr (.int (q_rank σ i).1) (q_rank σ i).2) := by
  refine az_am knX8_rank (Nat.le_of_ble_eq_true rfl) rfl (fun Post hP => ?_)
  show AW l G mX8_rank (d + 32) (az_F G Post) 0 0 0 [some (.ref 60), some (.int i)] [] (sh, sg, la)
  have hO := hW.1.1.1
  have hL := cW_lv hW.1
  have haw := hW.1.2.2.1
  have h8 := hO.2
  refine B_sg hR.z.symm ?_
  refine A_aload_n dX8_rank_0 rfl rfl ?_
  refine A_iload_n dX8_rank_1 rfl rfl ?_
  refine A_i2l dX8_rank_2 ?_
  refine A_callV (n := 0) dX8_rank_3 kvX8_isPerson mlX8_112 rfl (az_rc_obj clX8 (hM 0 _ rfl)) (r_isPerson l G (d + 30) sh sg la kp tr (xN σ) i hM hO) (by omega) (Nat.le_refl _) (Nat.le_refl _) rfl (Nat.le_of_ble_eq_true rfl) (fun r S1 hp => ?_)
  obtain ⟨rfl, rfl⟩ := hp
  show AW l G mX8_rank (d + 32) (az_F G Post) 0 0 6 [some (.ref 60), some (.int i)] [.int (b2i (0 ≤ i ∧ i < cPp (xN σ)))] (sh, (mput sg 60 (xN σ)), la)
  refine A_if_eq (tgt := 17) dX8_rank_6 rfl (fun h_1 => ?_) (fun h_1 => ?_)
  · skip
    have h_1' := b2i_0.mp h_1
    refine A_aload_n dX8_rank_17 rfl rfl ?_
    refine A_bipush (v := (-2)) dX8_rank_18 (by decide) ?_
    refine A_callV (n := 0) dX8_rank_20 kvX8_refuse mlX8_101 rfl (az_rc_obj clX8 (hM 0 _ rfl)) (c_X8_refuse l G (d + 31) sh (mput sg 60 (xN σ)) la kp tr (-2) 0 hM (by decide) (by decide)) (by omega) (Nat.le_refl _) (Nat.le_refl _) rfl (Nat.le_of_ble_eq_true rfl) (fun r S1 hp => ?_)
    obtain ⟨rfl, rfl⟩ := hp
    show AW l G mX8_rank (d + 32) (az_F G Post) 0 0 23 [some (.ref 60), some (.int i)] [.int (-2)] (sh, (az_w (mput sg 60 (xN σ)) 76 (0 + 2) ((mput sg 60 (xN σ)) 76 (0 + 2) + 1)), la)
    have hq : (q_rank σ i) = ((-2), (rfs σ 0)) := by
      unfold q_rank
      rw [if_neg (fun q => h_1' ((pp_i hO).mp q))]
      first | done | rfl
    exact A_iret dX8_rank_23 rfl (hP _ _ (RQ_i hq ((hR.fin0 (sC.rf sg)).ref (k := 0) (by decide))))
  · skip
    have h_1' := b2i_n.mp h_1
    obtain ⟨i1, hi1, rfl⟩ := nI_exp hO h_1'
    have hc_i1 : (nI i1).toNatClampNeg = i1 := nI_clamp (by omega)
    refine A_aload_n dX8_rank_9 rfl rfl ?_
    refine A_iload_n dX8_rank_10 rfl rfl ?_
    refine A_callV (n := 0) dX8_rank_11 kvX8_ranked mlX8_250 rfl (az_rc_obj clX8 (hM 0 _ rfl)) (r_ranked l G (d + 28) sh sg la kp tr (xN σ) i1 hM hO hL haw (by omega)) (by omega) (Nat.le_refl _) (Nat.le_refl _) rfl (Nat.le_of_ble_eq_true rfl) (fun r S1 hp => ?_)
    obtain ⟨rfl, rfl⟩ := hp
    show AW l G mX8_rank (d + 32) (az_F G Post) 0 0 14 [some (.ref 60), some (.int (nI i1))] [.int (oI (zrank (xN σ) (nI i1)))] (sh, (mput sg 60 (xN σ)), la)
    refine A_goto (tgt := 23) dX8_rank_14 rfl ?_
    have hq : (q_rank σ (nI i1)) = (oI (zrank (xN σ) (nI i1)), σ) := by
      unfold q_rank
      rw [if_pos ((pp_i hO).mpr h_1')]
    exact A_iret dX8_rank_23 rfl (hP _ _ (RQ_i hq (hR.fin0 (sC.rf sg))))
set_option maxHeartbeats 1000000 in
set_option maxRecDepth 100000 in
theorem y_lead (l : Launch) (G : az_Gh) (d : Nat) (sh : List az_Sh) (sg : Nat → Nat → Int32) (la : Nat → Nat → Int64) (g : GGM) (σ : SGM) (kp tr : Option Nat)  (hM : az_at sh 60 (lyM 60 kp tr)) (hR : RX g sg la σ kp tr) (hW : WF σ)  : AM l G (d + 32) mX8_lead [.ref 60] (sh, sg, la) 0 0 (RQ sh g kp tr (.int (q_lead σ)) σ) := by
  refine az_am knX8_lead (Nat.le_of_ble_eq_true rfl) rfl (fun Post hP => ?_)
  show AW l G mX8_lead (d + 32) (az_F G Post) 0 0 0 [some (.ref 60)] [] (sh, sg, la)
  have hO := hW.1.1.1
  have hL := cW_lv hW.1
  have haw := hW.1.2.2.1
  have h8 := hO.2
  refine B_sg hR.z.symm ?_
  refine A_aload_n dX8_lead_0 rfl rfl ?_
  refine B_getV (nI (cN (xN σ))) dX8_lead_1 flX8_88 (hM 0 _ rfl) rfl ((mr_14 _ _ _).trans hO.1) ?_
  refine A_iconst (v := 2) dX8_lead_4 (by decide) ?_
  refine A_icmp_ge (tgt := 12) dX8_lead_5 rfl (fun h_1 => ?_) (fun h_1 => ?_)
  · skip
    have hn2 : 2 ≤ (cN (xN σ)) := by
      rcases Nat.lt_or_ge (cN (xN σ)) 2 with q | q
      · exact absurd h_1 (nI_ge (b := 2) q (by decide))
      · exact q
    obtain ⟨k0, e0, hk0, _, _⟩ := zrank_ex hO (i := 0) (by omega)
    obtain ⟨k1, e1, hk1, _, _⟩ := zrank_ex hO (i := 1) (by omega)
    refine A_aload_n dX8_lead_12 rfl rfl ?_
    refine A_aload_n dX8_lead_13 rfl rfl ?_
    refine A_iconst (v := 0) dX8_lead_14 (by decide) ?_
    refine A_callV (n := 0) dX8_lead_15 kvX8_ranked mlX8_250 rfl (az_rc_obj clX8 (hM 0 _ rfl)) (r_ranked l G (d + 28) sh sg la kp tr (xN σ) 0 hM hO hL haw (by omega)) (by omega) (Nat.le_refl _) (Nat.le_refl _) rfl (Nat.le_of_ble_eq_true rfl) (fun r S1 hp => ?_)
    obtain ⟨rfl, rfl⟩ := hp
    show AW l G mX8_lead (d + 32) (az_F G Post) 0 0 18 [some (.ref 60)] [.int (oI (zrank (xN σ) (nI 0))), .ref 60] (sh, (mput sg 60 (xN σ)), la)
    refine B_top (show oI (zrank (xN σ) (nI 0)) = nI k0 by rw [e0]; rfl) ?_
    refine A_callV (n := 0) dX8_lead_18 kvX8_cold mlX8_122 rfl (az_rc_obj clX8 (hM 0 _ rfl)) (r_cold l G (d + 30) sh sg la kp tr (xN σ) k0 hM hO hL (by omega) (by rw [haw]; exact nI_n1 (by omega))) (by omega) (Nat.le_refl _) (Nat.le_refl _) rfl (Nat.le_of_ble_eq_true rfl) (fun r S1 hp => ?_)
    obtain ⟨rfl, rfl⟩ := hp
    show AW l G mX8_lead (d + 32) (az_F G Post) 0 0 21 [some (.ref 60)] [.int (zc (xN σ) k0)] (sh, (mput sg 60 (xN σ)), la)
    refine A_aload_n dX8_lead_21 rfl rfl ?_
    refine A_aload_n dX8_lead_22 rfl rfl ?_
    refine A_iconst (v := 1) dX8_lead_23 (by decide) ?_
    refine A_callV (n := 0) dX8_lead_24 kvX8_ranked mlX8_250 rfl (az_rc_obj clX8 (hM 0 _ rfl)) (r_ranked l G (d + 28) sh sg la kp tr (xN σ) 1 hM hO hL haw (by omega)) (by omega) (Nat.le_refl _) (Nat.le_refl _) rfl (Nat.le_of_ble_eq_true rfl) (fun r S1 hp => ?_)
    obtain ⟨rfl, rfl⟩ := hp
    show AW l G mX8_lead (d + 32) (az_F G Post) 0 0 27 [some (.ref 60)] [.int (oI (zrank (xN σ) (nI 1))), .ref 60, .int (zc (xN σ) k0)] (sh, (mput sg 60 (xN σ)), la)
    refine B_top (show oI (zrank (xN σ) (nI 1)) = nI k1 by rw [e1]; rfl) ?_
    refine A_callV (n := 0) dX8_lead_27 kvX8_cold mlX8_122 rfl (az_rc_obj clX8 (hM 0 _ rfl)) (r_cold l G (d + 30) sh sg la kp tr (xN σ) k1 hM hO hL (by omega) (by rw [haw]; exact nI_n1 (by omega))) (by omega) (Nat.le_refl _) (Nat.le_refl _) rfl (Nat.le_of_ble_eq_true rfl) (fun r S1 hp => ?_)
    obtain ⟨rfl, rfl⟩ := hp
    show AW l G mX8_lead (d + 32) (az_F G Post) 0 0 30 [some (.ref 60)] [.int (zc (xN σ) k1), .int (zc (xN σ) k0)] (sh, (mput sg 60 (xN σ)), la)
    refine A_isub dX8_lead_30 ?_
    have hq : (q_lead σ) = (zc (xN σ) k0 - zc (xN σ) k1) := by
      unfold q_lead
      rw [show zrank (xN σ) 0 = some k0 from e0, show zrank (xN σ) 1 = some k1 from e1]
      first | done | rfl
    exact A_iret dX8_lead_31 rfl (hP _ _ (RQ_0 hq (hR.fin0 (sC.rf sg))))
  · skip
    refine A_iconst (v := 0) dX8_lead_8 (by decide) ?_
    refine A_goto (tgt := 31) dX8_lead_9 rfl ?_
    have hq : (q_lead σ) = 0 := by
      unfold q_lead
      have hn2 : (cN (xN σ)) < 2 := (nI_ltI (b := 2) (by omega) (by decide)).mp (Int32.not_le.mp h_1)
      have e : zrank (xN σ) 1 = none := zfind_none (fun k hk => decide_eq_false (fun q => by have := zbef_lt hk; have := (nI_eq (b := 1) (by omega) (by decide)).mp q; omega))
      rw [e]
      cases zrank (xN σ) 0 <;> rfl
    exact A_iret dX8_lead_31 rfl (hP _ _ (RQ_0 hq (hR.fin0 (sC.rf sg))))
set_option maxHeartbeats 1000000 in
set_option maxRecDepth 100000 in
theorem y_second (l : Launch) (G : az_Gh) (d : Nat) (sh : List az_Sh) (sg : Nat → Nat → Int32) (la : Nat → Nat → Int64) (g : GGM) (σ : SGM) (kp tr : Option Nat) (p : Int32) (hM : az_at sh 60 (lyM 60 kp tr)) (hR : RX g sg la σ kp tr) (hW : WF σ)  : AM l G (d + 32) mX8_second [.ref 60, .int p] (sh, sg, la) 0 0 (RQ sh g kp tr (.int (q_second σ p).1) (q_second σ p).2) := by
  refine az_am knX8_second (Nat.le_of_ble_eq_true rfl) rfl (fun Post hP => ?_)
  show AW l G mX8_second (d + 32) (az_F G Post) 0 0 0 [some (.ref 60), some (.int p), none] [] (sh, sg, la)
  have hO := hW.1.1.1
  have hL := cW_lv hW.1
  have haw := hW.1.2.2.1
  have h8 := hO.2
  refine B_sg hR.z.symm ?_
  refine A_aload_n dX8_second_0 rfl rfl ?_
  refine A_iload_n dX8_second_1 rfl rfl ?_
  refine A_i2l dX8_second_2 ?_
  refine A_callV (n := 0) dX8_second_3 kvX8_isPerson mlX8_112 rfl (az_rc_obj clX8 (hM 0 _ rfl)) (r_isPerson l G (d + 30) sh sg la kp tr (xN σ) p hM hO) (by omega) (Nat.le_refl _) (Nat.le_refl _) rfl (Nat.le_of_ble_eq_true rfl) (fun r S1 hp => ?_)
  obtain ⟨rfl, rfl⟩ := hp
  show AW l G mX8_second (d + 32) (az_F G Post) 0 0 6 [some (.ref 60), some (.int p), none] [.int (b2i (0 ≤ p ∧ p < cPp (xN σ)))] (sh, (mput sg 60 (xN σ)), la)
  refine A_if_ne (tgt := 16) dX8_second_6 rfl (fun h_1 => ?_) (fun h_1 => ?_)
  · skip
    have h_1' := b2i_n.mp h_1
    obtain ⟨p1, hp1, rfl⟩ := nI_exp hO h_1'
    have hc_p1 : (nI p1).toNatClampNeg = p1 := nI_clamp (by omega)
    refine A_aload_n dX8_second_16 rfl rfl ?_
    refine A_iload_n dX8_second_17 rfl rfl ?_
    refine B_putI dX8_second_18 fwX8_71 (hM 0 _ rfl) rfl ?_
    refine B_sg (show _ = (mput sg 60 (sAway (xN σ) (nI p1))) from mw_30 _ _ _ _) ?_
    refine B_sg (show _ = mput sg 60 (zleave (xN σ) p1) from (mput_lov _ _ _ _).symm) ?_
    refine A_aload_n dX8_second_21 rfl rfl ?_
    refine A_callV (n := 0) dX8_second_22 kvX8_coldestOf mlX8_236 rfl (az_rc_obj clX8 (hM 0 _ rfl)) (r_coldestOf l G (d + 29) sh sg la kp tr (zleave (xN σ) p1) hM (cOk_leave hO p1) (cLv_leave hW.1 hp1)) (by omega) (Nat.le_refl _) (Nat.le_refl _) rfl (Nat.le_of_ble_eq_true rfl) (fun r S1 hp => ?_)
    obtain ⟨rfl, rfl⟩ := hp
    show AW l G mX8_second (d + 32) (az_F G Post) 0 0 25 [some (.ref 60), some (.int (nI p1)), none] [.int (oI (zbest (zleave (xN σ) p1)))] (sh, (mput sg 60 (zleave (xN σ) p1)), la)
    refine A_istore_n (lo2 := [some (.ref 60), some (.int (nI p1)), some (.int (oI (zbest (zleave (xN σ) p1))))]) dX8_second_25 rfl (by decide) rfl ?_
    refine A_aload_n dX8_second_26 rfl rfl ?_
    refine A_iconst (v := (-1)) dX8_second_27 (by decide) ?_
    refine B_putI dX8_second_28 fwX8_71 (hM 0 _ rfl) rfl ?_
    refine B_sg (show _ = (mput sg 60 (sAway (zleave (xN σ) p1) (-1))) from mw_30 _ _ _ _) ?_
    refine B_sg (show _ = mput sg 60 (xN σ) from mput_back haw p1 0) ?_
    refine A_iload_n dX8_second_31 rfl rfl ?_
    have hq : (q_second σ (nI p1)) = (oI (zbest (zleave (xN σ) p1)), σ) := by
      unfold q_second
      rw [if_pos h_1', hc_p1]
    exact A_iret dX8_second_32 rfl (hP _ _ (RQ_i hq (hR.fin0 (sC.rf sg))))
  · skip
    have h_1' := b2i_0.mp h_1
    refine A_aload_n dX8_second_9 rfl rfl ?_
    refine A_bipush (v := (-2)) dX8_second_10 (by decide) ?_
    refine A_callV (n := 0) dX8_second_12 kvX8_refuse mlX8_101 rfl (az_rc_obj clX8 (hM 0 _ rfl)) (c_X8_refuse l G (d + 31) sh (mput sg 60 (xN σ)) la kp tr (-2) 0 hM (by decide) (by decide)) (by omega) (Nat.le_refl _) (Nat.le_refl _) rfl (Nat.le_of_ble_eq_true rfl) (fun r S1 hp => ?_)
    obtain ⟨rfl, rfl⟩ := hp
    show AW l G mX8_second (d + 32) (az_F G Post) 0 0 15 [some (.ref 60), some (.int p), none] [.int (-2)] (sh, (az_w (mput sg 60 (xN σ)) 76 (0 + 2) ((mput sg 60 (xN σ)) 76 (0 + 2) + 1)), la)
    have hq : (q_second σ p) = ((-2), (rfs σ 0)) := by
      unfold q_second
      try simp only [h_1', and_true, true_and, and_false, false_and, and_self, or_true, true_or, or_false, false_or, not_true_eq_false, not_false_eq_true, if_true, if_false, ite_true, ite_false, decide_true, decide_false, reduceIte]
      first | done | rfl
    exact A_iret dX8_second_15 rfl (hP _ _ (RQ_i hq ((hR.fin0 (sC.rf sg)).ref (k := 0) (by decide))))
set_option maxHeartbeats 1000000 in
set_option maxRecDepth 100000 in
theorem y_ofKind (l : Launch) (G : az_Gh) (d : Nat) (sh : List az_Sh) (sg : Nat → Nat → Int32) (la : Nat → Nat → Int64) (g : GGM) (σ : SGM) (kp tr : Option Nat) (k : Int32) (hM : az_at sh 60 (lyM 60 kp tr)) (hR : RX g sg la σ kp tr) (hW : WF σ)  : AM l G (d + 32) mX8_ofKind [.ref 60, .int k] (sh, sg, la) 0 0 (RQ sh g kp tr (.int (q_ofKind σ k).1) (q_ofKind σ k).2) := by
  refine az_am knX8_ofKind (Nat.le_of_ble_eq_true rfl) rfl (fun Post hP => ?_)
  show AW l G mX8_ofKind (d + 32) (az_F G Post) 0 0 0 [some (.ref 60), some (.int k), none, none] [] (sh, sg, la)
  have hO := hW.1.1.1
  have hL := cW_lv hW.1
  have haw := hW.1.2.2.1
  have h8 := hO.2
  refine B_sg hR.z.symm ?_
  refine A_iload_n dX8_ofKind_0 rfl rfl ?_
  refine A_i2l dX8_ofKind_1 ?_
  refine A_lconst (v := 0) dX8_ofKind_2 (by decide) ?_
  refine A_ldc2 (v := 5) dX8_ofKind_3 lcX8_116 ?_
  refine A_callS (n := 0) dX8_ofKind_6 ksX8_in mlX8_91 rfl (c_X8_inI l G (d + 31) sh (mput sg 60 (xN σ)) la k 5 5 (by decide)) (by omega) (Nat.le_refl _) (Nat.le_refl _) rfl (Nat.le_of_ble_eq_true rfl) (fun r S1 hp => ?_)
  obtain ⟨rfl, rfl⟩ := hp
  show AW l G mX8_ofKind (d + 32) (az_F G Post) 0 0 9 [some (.ref 60), some (.int k), none, none] [.int (b2i (0 ≤ k ∧ k ≤ 5))] (sh, (mput sg 60 (xN σ)), la)
  refine A_if_ne (tgt := 19) dX8_ofKind_9 rfl (fun h_1 => ?_) (fun h_1 => ?_)
  · skip
    have h_1' := b2i_n.mp h_1
    refine A_iconst (v := 0) dX8_ofKind_19 (by decide) ?_
    refine A_istore_n (lo2 := [some (.ref 60), some (.int k), some (.int 0), none]) dX8_ofKind_20 rfl (by decide) rfl ?_
    refine A_iconst (v := 0) dX8_ofKind_21 (by decide) ?_
    refine A_istore_n (lo2 := [some (.ref 60), some (.int k), some (.int 0), some (.int 0)]) dX8_ofKind_22 rfl (by decide) rfl ?_
    have loop : ∀ (q_i9 i9 : Nat) (x2 : Int32), i9 + q_i9 = (cN (xN σ)) → x2 = l_sum (fun p => b2i (cKd (xN σ) p = k)) i9 → AW l G mX8_ofKind (d + 32) (az_F G Post) 0 0 23 [some (.ref 60), some (.int k), some (.int x2), some (.int (nI i9))] [] (sh, (mput sg 60 (xN σ)), la) := by
      intro q_i9
      induction q_i9 with
      | zero =>
        intro i9 x2 hi_i9  e_x2
        have hN_i9 : i9 = (cN (xN σ)) := by omega
        subst i9
        refine A_iload_n dX8_ofKind_23 rfl rfl ?_
        refine A_aload_n dX8_ofKind_24 rfl rfl ?_
        refine B_getV (nI (cN (xN σ))) dX8_ofKind_25 flX8_88 (hM 0 _ rfl) rfl ((mr_14 _ _ _).trans hO.1) ?_
        refine A_icmp_ge (tgt := 55) dX8_ofKind_28 rfl (fun h_2 => ?_) (fun h_2 => ?_)
        · skip
          refine A_iload_n dX8_ofKind_55 rfl rfl ?_
          have hq : (q_ofKind σ k) = (x2, σ) := by
            unfold q_ofKind
            rw [if_pos h_1', e_x2]
          exact A_iret dX8_ofKind_56 rfl (hP _ _ (RQ_i hq (hR.fin0 (sC.rf sg))))
        · skip
          exact absurd (Int32.le_refl _) h_2
      | succ q_i9 ih =>
        intro i9 x2 hi_i9  e_x2
        refine A_iload_n dX8_ofKind_23 rfl rfl ?_
        refine A_aload_n dX8_ofKind_24 rfl rfl ?_
        refine B_getV (nI (cN (xN σ))) dX8_ofKind_25 flX8_88 (hM 0 _ rfl) rfl ((mr_14 _ _ _).trans hO.1) ?_
        refine A_icmp_ge (tgt := 55) dX8_ofKind_28 rfl (fun h_3 => ?_) (fun h_3 => ?_)
        · skip
          exact absurd h_3 (nI_ge (by omega) (by omega))
        · skip
          refine A_iload_n dX8_ofKind_31 rfl rfl ?_
          refine A_aload_n dX8_ofKind_32 rfl rfl ?_
          refine B_getR (r := 77) dX8_ofKind_33 flX8_50 (hM 0 _ rfl) rfl ?_
          refine A_iload_n dX8_ofKind_36 rfl rfl ?_
          refine B_ialdV (i := i9) (cKd (xN σ) i9) dX8_ofKind_37 (hM 17 _ rfl) (by decide) (rfl) (by omega) (me_17 _ _ _ _) ?_
          refine A_iload_n dX8_ofKind_38 rfl rfl ?_
          refine A_icmp_ne (tgt := 46) dX8_ofKind_39 rfl (fun h_4 => ?_) (fun h_4 => ?_)
          · skip
            refine A_iconst (v := 0) dX8_ofKind_46 (by decide) ?_
            refine A_iadd dX8_ofKind_47 ?_
            refine A_istore_n (lo2 := [some (.ref 60), some (.int k), some (.int (x2 + 0)), some (.int (nI i9))]) dX8_ofKind_48 rfl (by decide) rfl ?_
            refine A_iinc (v := nI (i9 + 1)) (lo2 := [some (.ref 60), some (.int k), some (.int (x2 + 0)), some (.int (nI (i9 + 1)))]) dX8_ofKind_49 rfl (nI_1 i9) (by decide) rfl ?_
            refine A_goto (tgt := 23) dX8_ofKind_52 rfl ?_
            refine ih (i9 + 1) _ (by omega) ?_
            · skip
              rw [e_x2]; exact congrArg (l_sum _ i9 + ·) (b2i_f h_4)
          · skip
            refine A_iconst (v := 1) dX8_ofKind_42 (by decide) ?_
            refine A_goto (tgt := 47) dX8_ofKind_43 rfl ?_
            refine A_iadd dX8_ofKind_47 ?_
            refine A_istore_n (lo2 := [some (.ref 60), some (.int k), some (.int (x2 + 1)), some (.int (nI i9))]) dX8_ofKind_48 rfl (by decide) rfl ?_
            refine A_iinc (v := nI (i9 + 1)) (lo2 := [some (.ref 60), some (.int k), some (.int (x2 + 1)), some (.int (nI (i9 + 1)))]) dX8_ofKind_49 rfl (nI_1 i9) (by decide) rfl ?_
            refine A_goto (tgt := 23) dX8_ofKind_52 rfl ?_
            refine ih (i9 + 1) _ (by omega) ?_
            · skip
              rw [e_x2]; exact congrArg (l_sum _ i9 + ·) (b2i_t h_4)
    exact loop ((cN (xN σ))) 0 _ (by omega) (rfl)
  · skip
    have h_1' := b2i_0.mp h_1
    refine A_aload_n dX8_ofKind_12 rfl rfl ?_
    refine A_bipush (v := (-2)) dX8_ofKind_13 (by decide) ?_
    refine A_callV (n := 0) dX8_ofKind_15 kvX8_refuse mlX8_101 rfl (az_rc_obj clX8 (hM 0 _ rfl)) (c_X8_refuse l G (d + 31) sh (mput sg 60 (xN σ)) la kp tr (-2) 0 hM (by decide) (by decide)) (by omega) (Nat.le_refl _) (Nat.le_refl _) rfl (Nat.le_of_ble_eq_true rfl) (fun r S1 hp => ?_)
    obtain ⟨rfl, rfl⟩ := hp
    show AW l G mX8_ofKind (d + 32) (az_F G Post) 0 0 18 [some (.ref 60), some (.int k), none, none] [.int (-2)] (sh, (az_w (mput sg 60 (xN σ)) 76 (0 + 2) ((mput sg 60 (xN σ)) 76 (0 + 2) + 1)), la)
    have hq : (q_ofKind σ k) = ((-2), (rfs σ 0)) := by
      unfold q_ofKind
      try simp only [h_1', and_true, true_and, and_false, false_and, and_self, or_true, true_or, or_false, false_or, not_true_eq_false, not_false_eq_true, if_true, if_false, ite_true, ite_false, decide_true, decide_false, reduceIte]
      first | done | rfl
    exact A_iret dX8_ofKind_18 rfl (hP _ _ (RQ_i hq ((hR.fin0 (sC.rf sg)).ref (k := 0) (by decide))))
theorem w01 {w : Int32} (h : 0 ≤ w ∧ w ≤ 1) (h2 : ¬ w = 1) : w = 0 := by
  obtain ⟨k, hk, rfl⟩ := nI_ex (m := 1) h
  rcases (by omega : k = 0 ∨ k = 1) with rfl | rfl
  · rfl
  · exact absurd rfl h2
theorem w012 {w : Int32} (h : 0 ≤ w ∧ w ≤ 2) (h0 : ¬ w = 0) (h1 : ¬ w = 1) : w = 2 := by
  obtain ⟨k, hk, rfl⟩ := nI_ex (m := 2) h
  rcases (by omega : k = 0 ∨ k = 1 ∨ k = 2) with rfl | rfl | rfl
  · exact absurd rfl h0
  · exact absurd rfl h1
  · rfl
theorem mwho_q (c : CT) {w : Int32} (hw : ¬ w = 0) : (if w = 0 ∨ zwhenI c 60 = -1 then zwhenI c 60 else oI (zbest (zdays (zwhen c 60) c))) = mwho c := by
  unfold mwho zwhenI
  have hl := zwhen_le c 60
  by_cases h : zwhen c 60 ≤ 60
  · rw [if_pos h, if_neg (fun q => q.elim hw (nI_n1 (by omega))), if_pos h]
  · rw [if_neg h, if_pos (Or.inr rfl), if_neg h]
set_option maxHeartbeats 1000000 in
set_option maxRecDepth 100000 in
theorem y_when (l : Launch) (G : az_Gh) (d : Nat) (sh : List az_Sh) (sg : Nat → Nat → Int32) (la : Nat → Nat → Int64) (g : GGM) (σ : SGM) (kp tr : Option Nat) (w : Int32) (hM : az_at sh 60 (lyM 60 kp tr)) (hR : RX g sg la σ kp tr) (hW : WF σ)  : AM l G (d + 32) mX8_when [.ref 60, .int w] (sh, sg, la) 0 0 (RQ sh g kp tr (.int (q_when σ w).1) (q_when σ w).2) := by
  refine az_am knX8_when (Nat.le_of_ble_eq_true rfl) rfl (fun Post hP => ?_)
  show AW l G mX8_when (d + 32) (az_F G Post) 0 0 0 [some (.ref 60), some (.int w), none] [] (sh, sg, la)
  have hO := hW.1.1.1
  have hL := cW_lv hW.1
  have haw := hW.1.2.2.1
  have h8 := hO.2
  refine B_sg hR.z.symm ?_
  refine A_iload_n dX8_when_0 rfl rfl ?_
  refine A_i2l dX8_when_1 ?_
  refine A_lconst (v := 0) dX8_when_2 (by decide) ?_
  refine A_lconst (v := 1) dX8_when_3 (by decide) ?_
  refine A_callS (n := 0) dX8_when_4 ksX8_in mlX8_91 rfl (c_X8_inI l G (d + 31) sh (mput sg 60 (xN σ)) la w 1 1 (by decide)) (by omega) (Nat.le_refl _) (Nat.le_refl _) rfl (Nat.le_of_ble_eq_true rfl) (fun r S1 hp => ?_)
  obtain ⟨rfl, rfl⟩ := hp
  show AW l G mX8_when (d + 32) (az_F G Post) 0 0 7 [some (.ref 60), some (.int w), none] [.int (b2i (0 ≤ w ∧ w ≤ 1))] (sh, (mput sg 60 (xN σ)), la)
  refine A_if_ne (tgt := 17) dX8_when_7 rfl (fun h_1 => ?_) (fun h_1 => ?_)
  · skip
    have h_1' := b2i_n.mp h_1
    refine A_aload_n dX8_when_17 rfl rfl ?_
    refine A_callV (n := 0) dX8_when_18 kvX8_keeps mlX8_265 rfl (az_rc_obj clX8 (hM 0 _ rfl)) (r_keeps l G (d + 31) sh sg la kp tr (xN σ) hM hO) (by omega) (Nat.le_refl _) (Nat.le_refl _) rfl (Nat.le_of_ble_eq_true rfl) (fun r S1 hp => ?_)
    obtain ⟨rfl, rfl⟩ := hp
    show AW l G mX8_when (d + 32) (az_F G Post) 0 0 21 [some (.ref 60), some (.int w), none] [] (sh, (mput (mkp sg (xN σ)) 60 (xN σ)), la)
    refine A_aload_n dX8_when_21 rfl rfl ?_
    refine A_callV (n := 0) dX8_when_22 kvX8_whenSo mlX8_268 rfl (az_rc_obj clX8 (hM 0 _ rfl)) (r_whenSo l G (d + 27) sh (mkp sg (xN σ)) la kp tr (xN σ) hM hO hL) (by omega) (Nat.le_refl _) (Nat.le_refl _) rfl (Nat.le_of_ble_eq_true rfl) (fun r S1 hp => ?_)
    obtain ⟨rfl, rfl⟩ := hp
    show AW l G mX8_when (d + 32) (az_F G Post) 0 0 25 [some (.ref 60), some (.int w), none] [.int (nI (zwhen (xN σ) 60))] (sh, (mput (az_w (mkp sg (xN σ)) 60 34 (mwho (xN σ))) 60 (zdays (zwhen (xN σ) 60) (xN σ))), la)
    refine A_istore_n (lo2 := [some (.ref 60), some (.int w), some (.int (nI (zwhen (xN σ) 60)))]) dX8_when_25 rfl (by decide) rfl ?_
    refine A_aload_n dX8_when_26 rfl rfl ?_
    refine A_callV (n := 0) dX8_when_27 kvX8_goesBack mlX8_271 rfl (az_rc_obj clX8 (hM 0 _ rfl)) (r_goesBack l G (d + 31) sh (az_w (mkp sg (xN σ)) 60 34 (mwho (xN σ))) la kp tr (xN σ) (zdays (zwhen (xN σ) 60) (xN σ)) hM hO (kpt_w (kpt_kp sg (xN σ)) (by decide) _) (mdf_days (mdf_rf (xN σ)) _)) (by omega) (Nat.le_refl _) (Nat.le_refl _) rfl (Nat.le_of_ble_eq_true rfl) (fun r S1 hp => ?_)
    obtain ⟨rfl, rfl⟩ := hp
    show AW l G mX8_when (d + 32) (az_F G Post) 0 0 30 [some (.ref 60), some (.int w), some (.int (nI (zwhen (xN σ) 60)))] [] (sh, (mput (az_w (mkp sg (xN σ)) 60 34 (mwho (xN σ))) 60 (xN σ)), la)
    refine A_iload_n dX8_when_30 rfl rfl ?_
    refine A_iconst (v := 1) dX8_when_31 (by decide) ?_
    refine A_icmp_ne (tgt := 42) dX8_when_32 rfl (fun h_2 => ?_) (fun h_2 => ?_)
    · skip
      refine A_iload_n dX8_when_42 rfl rfl ?_
      refine A_bipush (v := 60) dX8_when_43 (by decide) ?_
      refine A_icmp_gt (tgt := 52) dX8_when_45 rfl (fun h_3 => ?_) (fun h_3 => ?_)
      · skip
        refine A_iconst (v := (-1)) dX8_when_52 (by decide) ?_
        have hq : (q_when σ w) = ((-1), σ) := by
          unfold q_when
          rw [if_pos h_1', if_pos (Or.inl (w01 h_1' h_2))]
          unfold zwhenI
          rw [if_neg (fun q => Int32.not_lt.mpr (show nI _ ≤ nI 60 from nI_le q (by decide)) h_3)]
        exact A_iret dX8_when_53 rfl (hP _ _ (RQ_i hq (hR.fin0 (((sC.rf sg).kp _).w (j := 34) rfl _))))
      · skip
        refine A_iload_n dX8_when_48 rfl rfl ?_
        refine A_goto (tgt := 53) dX8_when_49 rfl ?_
        have hq : (q_when σ w) = (nI (zwhen (xN σ) 60), σ) := by
          unfold q_when
          rw [if_pos h_1', if_pos (Or.inl (w01 h_1' h_2))]
          unfold zwhenI
          rw [if_pos ((nI_leI (by have := zwhen_le (xN σ) 60; omega) (by decide)).mp (show nI _ ≤ nI 60 from Int32.not_lt.mp h_3))]
        exact A_iret dX8_when_53 rfl (hP _ _ (RQ_i hq (hR.fin0 (((sC.rf sg).kp _).w (j := 34) rfl _))))
    · skip
      refine A_aload_n dX8_when_35 rfl rfl ?_
      refine B_getV (mwho (xN σ)) dX8_when_36 flX8_262 (hM 0 _ rfl) rfl ((mput_f rfl).trans (az_w_at _ _ _ _)) ?_
      refine A_goto (tgt := 53) dX8_when_39 rfl ?_
      have hq : (q_when σ w) = (mwho (xN σ), σ) := by
        unfold q_when
        rw [if_pos h_1', mwho_q (xN σ) (show ¬ w = 0 by rw [h_2]; decide)]
      exact A_iret dX8_when_53 rfl (hP _ _ (RQ_i hq (hR.fin0 (((sC.rf sg).kp _).w (j := 34) rfl _))))
  · skip
    have h_1' := b2i_0.mp h_1
    refine A_aload_n dX8_when_10 rfl rfl ?_
    refine A_bipush (v := (-2)) dX8_when_11 (by decide) ?_
    refine A_callV (n := 0) dX8_when_13 kvX8_refuse mlX8_101 rfl (az_rc_obj clX8 (hM 0 _ rfl)) (c_X8_refuse l G (d + 31) sh (mput sg 60 (xN σ)) la kp tr (-2) 0 hM (by decide) (by decide)) (by omega) (Nat.le_refl _) (Nat.le_refl _) rfl (Nat.le_of_ble_eq_true rfl) (fun r S1 hp => ?_)
    obtain ⟨rfl, rfl⟩ := hp
    show AW l G mX8_when (d + 32) (az_F G Post) 0 0 16 [some (.ref 60), some (.int w), none] [.int (-2)] (sh, (az_w (mput sg 60 (xN σ)) 76 (0 + 2) ((mput sg 60 (xN σ)) 76 (0 + 2) + 1)), la)
    have hq : (q_when σ w) = ((-2), (rfs σ 0)) := by
      unfold q_when
      try simp only [h_1', and_true, true_and, and_false, false_and, and_self, or_true, true_or, or_false, false_or, not_true_eq_false, not_false_eq_true, if_true, if_false, ite_true, ite_false, decide_true, decide_false, reduceIte]
      first | done | rfl
    exact A_iret dX8_when_16 rfl (hP _ _ (RQ_i hq ((hR.fin0 (sC.rf sg)).ref (k := 0) (by decide))))
set_option maxHeartbeats 1000000 in
set_option maxRecDepth 100000 in
theorem y_ahead (l : Launch) (G : az_Gh) (d : Nat) (sh : List az_Sh) (sg : Nat → Nat → Int32) (la : Nat → Nat → Int64) (g : GGM) (σ : SGM) (kp tr : Option Nat) (n w : Int32) (hM : az_at sh 60 (lyM 60 kp tr)) (hR : RX g sg la σ kp tr) (hW : WF σ)  : AM l G (d + 32) mX8_ahead [.ref 60, .int n, .int w] (sh, sg, la) 0 0 (RQ sh g kp tr (.int (q_ahead σ n w).1) (q_ahead σ n w).2) := by
  refine az_am knX8_ahead (Nat.le_of_ble_eq_true rfl) rfl (fun Post hP => ?_)
  show AW l G mX8_ahead (d + 32) (az_F G Post) 0 0 0 [some (.ref 60), some (.int n), some (.int w), none, none] [] (sh, sg, la)
  have hO := hW.1.1.1
  have hL := cW_lv hW.1
  have haw := hW.1.2.2.1
  have h8 := hO.2
  refine B_sg hR.z.symm ?_
  refine A_iload_n dX8_ahead_0 rfl rfl ?_
  refine A_i2l dX8_ahead_1 ?_
  refine A_lconst (v := 0) dX8_ahead_2 (by decide) ?_
  refine A_ldc2 (v := 200) dX8_ahead_3 lcX8_274 ?_
  refine A_callS (n := 0) dX8_ahead_6 ksX8_in mlX8_91 rfl (c_X8_inI l G (d + 31) sh (mput sg 60 (xN σ)) la n 200 200 (by decide)) (by omega) (Nat.le_refl _) (Nat.le_refl _) rfl (Nat.le_of_ble_eq_true rfl) (fun r S1 hp => ?_)
  obtain ⟨rfl, rfl⟩ := hp
  show AW l G mX8_ahead (d + 32) (az_F G Post) 0 0 9 [some (.ref 60), some (.int n), some (.int w), none, none] [.int (b2i (0 ≤ n ∧ n ≤ 200))] (sh, (mput sg 60 (xN σ)), la)
  refine A_if_eq (tgt := 24) dX8_ahead_9 rfl (fun h_1 => ?_) (fun h_1 => ?_)
  · skip
    have h_1' := b2i_0.mp h_1
    refine A_aload_n dX8_ahead_24 rfl rfl ?_
    refine A_bipush (v := (-2)) dX8_ahead_25 (by decide) ?_
    refine A_callV (n := 0) dX8_ahead_27 kvX8_refuse mlX8_101 rfl (az_rc_obj clX8 (hM 0 _ rfl)) (c_X8_refuse l G (d + 31) sh (mput sg 60 (xN σ)) la kp tr (-2) 0 hM (by decide) (by decide)) (by omega) (Nat.le_refl _) (Nat.le_refl _) rfl (Nat.le_of_ble_eq_true rfl) (fun r S1 hp => ?_)
    obtain ⟨rfl, rfl⟩ := hp
    show AW l G mX8_ahead (d + 32) (az_F G Post) 0 0 30 [some (.ref 60), some (.int n), some (.int w), none, none] [.int (-2)] (sh, (az_w (mput sg 60 (xN σ)) 76 (0 + 2) ((mput sg 60 (xN σ)) 76 (0 + 2) + 1)), la)
    have hq : (q_ahead σ n w) = ((-2), (rfs σ 0)) := by
      unfold q_ahead
      try simp only [h_1', and_true, true_and, and_false, false_and, and_self, or_true, true_or, or_false, false_or, not_true_eq_false, not_false_eq_true, if_true, if_false, ite_true, ite_false, decide_true, decide_false, reduceIte]
      first | done | rfl
    exact A_iret dX8_ahead_30 rfl (hP _ _ (RQ_i hq ((hR.fin0 (sC.rf sg)).ref (k := 0) (by decide))))
  · skip
    have h_1' := b2i_n.mp h_1
    refine A_iload_n dX8_ahead_12 rfl rfl ?_
    refine A_i2l dX8_ahead_13 ?_
    refine A_lconst (v := 0) dX8_ahead_14 (by decide) ?_
    refine A_ldc2 (v := 2) dX8_ahead_15 lcX8_133 ?_
    refine A_callS (n := 0) dX8_ahead_18 ksX8_in mlX8_91 rfl (c_X8_inI l G (d + 31) sh (mput sg 60 (xN σ)) la w 2 2 (by decide)) (by omega) (Nat.le_refl _) (Nat.le_refl _) rfl (Nat.le_of_ble_eq_true rfl) (fun r S1 hp => ?_)
    obtain ⟨rfl, rfl⟩ := hp
    show AW l G mX8_ahead (d + 32) (az_F G Post) 0 0 21 [some (.ref 60), some (.int n), some (.int w), none, none] [.int (b2i (0 ≤ w ∧ w ≤ 2))] (sh, (mput sg 60 (xN σ)), la)
    refine A_if_ne (tgt := 31) dX8_ahead_21 rfl (fun h_2 => ?_) (fun h_2 => ?_)
    · skip
      have h_2' := b2i_n.mp h_2
      obtain ⟨n1, hn1, rfl⟩ := nI_ex (m := 200) h_1'
      have hc_n1 : (nI n1).toNatClampNeg = n1 := nI_clamp (by omega)
      refine A_aload_n dX8_ahead_31 rfl rfl ?_
      refine A_callV (n := 0) dX8_ahead_32 kvX8_keeps mlX8_265 rfl (az_rc_obj clX8 (hM 0 _ rfl)) (r_keeps l G (d + 31) sh sg la kp tr (xN σ) hM hO) (by omega) (Nat.le_refl _) (Nat.le_refl _) rfl (Nat.le_of_ble_eq_true rfl) (fun r S1 hp => ?_)
      obtain ⟨rfl, rfl⟩ := hp
      show AW l G mX8_ahead (d + 32) (az_F G Post) 0 0 35 [some (.ref 60), some (.int (nI n1)), some (.int w), none, none] [] (sh, (mput (mkp sg (xN σ)) 60 (xN σ)), la)
      refine A_iconst (v := 0) dX8_ahead_35 (by decide) ?_
      refine A_istore_n (lo2 := [some (.ref 60), some (.int (nI n1)), some (.int w), some (.int 0), none]) dX8_ahead_36 rfl (by decide) rfl ?_
      show AW l G mX8_ahead (d + 32) (az_F G Post) 0 0 37 [some (.ref 60), some (.int (nI n1)), some (.int w), some (.int 0), none] [] (sh, mput (mkp sg (xN σ)) 60 (zdays 0 (xN σ)), la)
      have loop : ∀ (q_i9 i9 : Nat), i9 + q_i9 = n1 → AW l G mX8_ahead (d + 32) (az_F G Post) 0 0 37 [some (.ref 60), some (.int (nI n1)), some (.int w), some (.int (nI i9)), none] [] (sh, (mput (mkp sg (xN σ)) 60 (zdays i9 (xN σ))), la) := by
        intro q_i9
        induction q_i9 with
        | zero =>
          intro i9  hi_i9  
          have hN_i9 : i9 = n1 := by omega
          subst i9
          refine A_iload_n dX8_ahead_37 rfl rfl ?_
          refine A_iload_n dX8_ahead_38 rfl rfl ?_
          refine A_icmp_ge (tgt := 52) dX8_ahead_39 rfl (fun h_3 => ?_) (fun h_3 => ?_)
          · skip
            refine A_aload_n dX8_ahead_52 rfl rfl ?_
            refine A_callV (n := 0) dX8_ahead_53 kvX8_coldestOf mlX8_236 rfl (az_rc_obj clX8 (hM 0 _ rfl)) (r_coldestOf l G (d + 29) sh (mkp sg (xN σ)) la kp tr (zdays n1 (xN σ)) hM (cOk_days hO n1) (cLv_days hL n1)) (by omega) (Nat.le_refl _) (Nat.le_refl _) rfl (Nat.le_of_ble_eq_true rfl) (fun r S1 hp => ?_)
            obtain ⟨rfl, rfl⟩ := hp
            show AW l G mX8_ahead (d + 32) (az_F G Post) 0 0 56 [some (.ref 60), some (.int (nI n1)), some (.int w), some (.int (nI n1)), none] [.int (oI (zbest (zdays n1 (xN σ))))] (sh, (mput (mkp sg (xN σ)) 60 (zdays n1 (xN σ))), la)
            refine A_istore_n (lo2 := [some (.ref 60), some (.int (nI n1)), some (.int w), some (.int (oI (zbest (zdays n1 (xN σ))))), none]) dX8_ahead_56 rfl (by decide) rfl ?_
            refine A_iload_n dX8_ahead_57 rfl rfl ?_
            refine A_if_ne (tgt := 68) dX8_ahead_58 rfl (fun h_4 => ?_) (fun h_4 => ?_)
            · skip
              refine A_iload_n dX8_ahead_68 rfl rfl ?_
              refine A_iconst (v := 1) dX8_ahead_69 (by decide) ?_
              refine A_icmp_ne (tgt := 77) dX8_ahead_70 rfl (fun h_5 => ?_) (fun h_5 => ?_)
              · skip
                refine A_iload_n dX8_ahead_77 rfl rfl ?_
                refine A_iconst (v := (-1)) dX8_ahead_78 (by decide) ?_
                refine A_icmp_ne (tgt := 86) dX8_ahead_79 rfl (fun h_6 => ?_) (fun h_6 => ?_)
                · skip
                  obtain ⟨p1, ep1⟩ := oI_s h_6
                  have hp1 := zb_lt _ _ _ ep1
                  rw [zdays_N] at hp1
                  refine az_jn2 (show oI (zbest (zdays n1 (xN σ))) = nI p1 by rw [ep1]; rfl) (P := fun z => AW l G mX8_ahead (d + 32) (az_F G Post) 0 0 86 [some (.ref 60), some (.int (nI n1)), some (.int w), some (.int (z)), none] [] (sh, (mput (mkp sg (xN σ)) 60 (zdays n1 (xN σ))), la)) ?_
                  refine A_aload_n dX8_ahead_86 rfl rfl ?_
                  refine A_iload_n dX8_ahead_87 rfl rfl ?_
                  refine A_callV (n := 0) dX8_ahead_88 kvX8_cold mlX8_122 rfl (az_rc_obj clX8 (hM 0 _ rfl)) (r_cold l G (d + 30) sh (mkp sg (xN σ)) la kp tr (zdays n1 (xN σ)) p1 hM (cOk_days hO n1) (cLv_days hL n1) (by rw [zdays_N]; omega) (by rw [cAw_days, haw]; exact nI_n1 (by omega))) (by omega) (Nat.le_refl _) (Nat.le_refl _) rfl (Nat.le_of_ble_eq_true rfl) (fun r S1 hp => ?_)
                  obtain ⟨rfl, rfl⟩ := hp
                  show AW l G mX8_ahead (d + 32) (az_F G Post) 0 0 91 [some (.ref 60), some (.int (nI n1)), some (.int w), some (.int (nI p1)), none] [.int (zc (zdays n1 (xN σ)) p1)] (sh, (mput (mkp sg (xN σ)) 60 (zdays n1 (xN σ))), la)
                  refine A_istore (lo2 := [some (.ref 60), some (.int (nI n1)), some (.int w), some (.int (nI p1)), some (.int (zc (zdays n1 (xN σ)) p1))]) dX8_ahead_91 (by decide) rfl ?_
                  refine A_aload_n dX8_ahead_93 rfl rfl ?_
                  refine A_callV (n := 0) dX8_ahead_94 kvX8_goesBack mlX8_271 rfl (az_rc_obj clX8 (hM 0 _ rfl)) (r_goesBack l G (d + 31) sh (mkp sg (xN σ)) la kp tr (xN σ) (zdays n1 (xN σ)) hM hO (kpt_kp sg (xN σ)) (mdf_days (mdf_rf (xN σ)) _)) (by omega) (Nat.le_refl _) (Nat.le_refl _) rfl (Nat.le_of_ble_eq_true rfl) (fun r S1 hp => ?_)
                  obtain ⟨rfl, rfl⟩ := hp
                  show AW l G mX8_ahead (d + 32) (az_F G Post) 0 0 97 [some (.ref 60), some (.int (nI n1)), some (.int w), some (.int (nI p1)), some (.int (zc (zdays n1 (xN σ)) p1))] [] (sh, (mput (mkp sg (xN σ)) 60 (xN σ)), la)
                  refine A_iload dX8_ahead_97 rfl ?_
                  have hq : (q_ahead σ (nI n1) w) = (zc (zdays n1 (xN σ)) p1, σ) := by
                    unfold q_ahead zahd
                    rw [if_pos ⟨h_1', h_2'⟩, hc_n1, if_neg h_4, if_neg h_5, ep1]
                    first | done | rfl
                  exact A_iret dX8_ahead_99 rfl (hP _ _ (RQ_i hq (hR.fin0 ((sC.rf sg).kp _))))
                · skip
                  refine A_iconst (v := 0) dX8_ahead_82 (by decide) ?_
                  refine A_goto (tgt := 91) dX8_ahead_83 rfl ?_
                  refine A_istore (lo2 := [some (.ref 60), some (.int (nI n1)), some (.int w), some (.int (oI (zbest (zdays n1 (xN σ))))), some (.int 0)]) dX8_ahead_91 (by decide) rfl ?_
                  refine A_aload_n dX8_ahead_93 rfl rfl ?_
                  refine A_callV (n := 0) dX8_ahead_94 kvX8_goesBack mlX8_271 rfl (az_rc_obj clX8 (hM 0 _ rfl)) (r_goesBack l G (d + 31) sh (mkp sg (xN σ)) la kp tr (xN σ) (zdays n1 (xN σ)) hM hO (kpt_kp sg (xN σ)) (mdf_days (mdf_rf (xN σ)) _)) (by omega) (Nat.le_refl _) (Nat.le_refl _) rfl (Nat.le_of_ble_eq_true rfl) (fun r S1 hp => ?_)
                  obtain ⟨rfl, rfl⟩ := hp
                  show AW l G mX8_ahead (d + 32) (az_F G Post) 0 0 97 [some (.ref 60), some (.int (nI n1)), some (.int w), some (.int (oI (zbest (zdays n1 (xN σ))))), some (.int 0)] [] (sh, (mput (mkp sg (xN σ)) 60 (xN σ)), la)
                  refine A_iload dX8_ahead_97 rfl ?_
                  have hq : (q_ahead σ (nI n1) w) = (0, σ) := by
                    unfold q_ahead zahd
                    rw [if_pos ⟨h_1', h_2'⟩, hc_n1, if_neg h_4, if_neg h_5, (oI_n (fun k hk => by have := zb_lt _ _ _ hk; rw [zdays_N] at this; omega)).mp h_6]
                  exact A_iret dX8_ahead_99 rfl (hP _ _ (RQ_i hq (hR.fin0 ((sC.rf sg).kp _))))
              · skip
                refine A_iload_n dX8_ahead_73 rfl rfl ?_
                refine A_goto (tgt := 91) dX8_ahead_74 rfl ?_
                refine A_istore (lo2 := [some (.ref 60), some (.int (nI n1)), some (.int w), some (.int (oI (zbest (zdays n1 (xN σ))))), some (.int (oI (zbest (zdays n1 (xN σ)))))]) dX8_ahead_91 (by decide) rfl ?_
                refine A_aload_n dX8_ahead_93 rfl rfl ?_
                refine A_callV (n := 0) dX8_ahead_94 kvX8_goesBack mlX8_271 rfl (az_rc_obj clX8 (hM 0 _ rfl)) (r_goesBack l G (d + 31) sh (mkp sg (xN σ)) la kp tr (xN σ) (zdays n1 (xN σ)) hM hO (kpt_kp sg (xN σ)) (mdf_days (mdf_rf (xN σ)) _)) (by omega) (Nat.le_refl _) (Nat.le_refl _) rfl (Nat.le_of_ble_eq_true rfl) (fun r S1 hp => ?_)
                obtain ⟨rfl, rfl⟩ := hp
                show AW l G mX8_ahead (d + 32) (az_F G Post) 0 0 97 [some (.ref 60), some (.int (nI n1)), some (.int w), some (.int (oI (zbest (zdays n1 (xN σ))))), some (.int (oI (zbest (zdays n1 (xN σ)))))] [] (sh, (mput (mkp sg (xN σ)) 60 (xN σ)), la)
                refine A_iload dX8_ahead_97 rfl ?_
                have hq : (q_ahead σ (nI n1) w) = (oI (zbest (zdays n1 (xN σ))), σ) := by
                  unfold q_ahead zahd
                  rw [if_pos ⟨h_1', h_2'⟩, hc_n1, if_neg h_4, if_pos h_5]
                exact A_iret dX8_ahead_99 rfl (hP _ _ (RQ_i hq (hR.fin0 ((sC.rf sg).kp _))))
            · skip
              refine A_aload_n dX8_ahead_61 rfl rfl ?_
              refine B_getV (cAir (zdays n1 (xN σ))) dX8_ahead_62 flX8_37 (hM 0 _ rfl) rfl (mr_9 _ _ _) ?_
              refine A_goto (tgt := 91) dX8_ahead_65 rfl ?_
              refine A_istore (lo2 := [some (.ref 60), some (.int (nI n1)), some (.int w), some (.int (oI (zbest (zdays n1 (xN σ))))), some (.int (cAir (zdays n1 (xN σ))))]) dX8_ahead_91 (by decide) rfl ?_
              refine A_aload_n dX8_ahead_93 rfl rfl ?_
              refine A_callV (n := 0) dX8_ahead_94 kvX8_goesBack mlX8_271 rfl (az_rc_obj clX8 (hM 0 _ rfl)) (r_goesBack l G (d + 31) sh (mkp sg (xN σ)) la kp tr (xN σ) (zdays n1 (xN σ)) hM hO (kpt_kp sg (xN σ)) (mdf_days (mdf_rf (xN σ)) _)) (by omega) (Nat.le_refl _) (Nat.le_refl _) rfl (Nat.le_of_ble_eq_true rfl) (fun r S1 hp => ?_)
              obtain ⟨rfl, rfl⟩ := hp
              show AW l G mX8_ahead (d + 32) (az_F G Post) 0 0 97 [some (.ref 60), some (.int (nI n1)), some (.int w), some (.int (oI (zbest (zdays n1 (xN σ))))), some (.int (cAir (zdays n1 (xN σ))))] [] (sh, (mput (mkp sg (xN σ)) 60 (xN σ)), la)
              refine A_iload dX8_ahead_97 rfl ?_
              have hq : (q_ahead σ (nI n1) w) = (cAir (zdays n1 (xN σ)), σ) := by
                unfold q_ahead zahd
                rw [if_pos ⟨h_1', h_2'⟩, hc_n1, if_pos h_4]
              exact A_iret dX8_ahead_99 rfl (hP _ _ (RQ_i hq (hR.fin0 ((sC.rf sg).kp _))))
          · skip
            exact absurd (Int32.le_refl _) h_3
        | succ q_i9 ih =>
          intro i9  hi_i9  
          refine A_iload_n dX8_ahead_37 rfl rfl ?_
          refine A_iload_n dX8_ahead_38 rfl rfl ?_
          refine A_icmp_ge (tgt := 52) dX8_ahead_39 rfl (fun h_7 => ?_) (fun h_7 => ?_)
          · skip
            exact absurd h_7 (nI_ge (by omega) (by omega))
          · skip
            refine A_aload_n dX8_ahead_42 rfl rfl ?_
            refine A_callV (n := 0) dX8_ahead_43 kvX8_cools mlX8_259 rfl (az_rc_obj clX8 (hM 0 _ rfl)) (r_cools l G (d + 30) sh (mkp sg (xN σ)) la kp tr (zdays i9 (xN σ)) hM (cOk_days hO i9)) (by omega) (Nat.le_refl _) (Nat.le_refl _) rfl (Nat.le_of_ble_eq_true rfl) (fun r S1 hp => ?_)
            obtain ⟨rfl, rfl⟩ := hp
            show AW l G mX8_ahead (d + 32) (az_F G Post) 0 0 46 [some (.ref 60), some (.int (nI n1)), some (.int w), some (.int (nI i9)), none] [] (sh, (mput (mkp sg (xN σ)) 60 (zcool 1 (zdays i9 (xN σ)))), la)
            refine A_iinc (v := nI (i9 + 1)) (lo2 := [some (.ref 60), some (.int (nI n1)), some (.int w), some (.int (nI (i9 + 1))), none]) dX8_ahead_46 rfl (nI_1 i9) (by decide) rfl ?_
            refine A_goto (tgt := 37) dX8_ahead_49 rfl ?_
            refine ih (i9 + 1) (by omega)
      exact loop (n1) 0 (by omega)
    · skip
      have h_2' := b2i_0.mp h_2
      refine A_aload_n dX8_ahead_24 rfl rfl ?_
      refine A_bipush (v := (-2)) dX8_ahead_25 (by decide) ?_
      refine A_callV (n := 0) dX8_ahead_27 kvX8_refuse mlX8_101 rfl (az_rc_obj clX8 (hM 0 _ rfl)) (c_X8_refuse l G (d + 31) sh (mput sg 60 (xN σ)) la kp tr (-2) 0 hM (by decide) (by decide)) (by omega) (Nat.le_refl _) (Nat.le_refl _) rfl (Nat.le_of_ble_eq_true rfl) (fun r S1 hp => ?_)
      obtain ⟨rfl, rfl⟩ := hp
      show AW l G mX8_ahead (d + 32) (az_F G Post) 0 0 30 [some (.ref 60), some (.int n), some (.int w), none, none] [.int (-2)] (sh, (az_w (mput sg 60 (xN σ)) 76 (0 + 2) ((mput sg 60 (xN σ)) 76 (0 + 2) + 1)), la)
      have hq : (q_ahead σ n w) = ((-2), (rfs σ 0)) := by
        unfold q_ahead
        try simp only [h_1', h_2', and_true, true_and, and_false, false_and, and_self, or_true, true_or, or_false, false_or, not_true_eq_false, not_false_eq_true, if_true, if_false, ite_true, ite_false, decide_true, decide_false, reduceIte]
        first | done | rfl
      exact A_iret dX8_ahead_30 rfl (hP _ _ (RQ_i hq ((hR.fin0 (sC.rf sg)).ref (k := 0) (by decide))))
set_option maxHeartbeats 1000000 in
set_option maxRecDepth 100000 in
theorem y_later (l : Launch) (G : az_Gh) (d : Nat) (sh : List az_Sh) (sg : Nat → Nat → Int32) (la : Nat → Nat → Int64) (g : GGM) (σ : SGM) (kp tr : Option Nat) (p n : Int32) (hM : az_at sh 60 (lyM 60 kp tr)) (hR : RX g sg la σ kp tr) (hW : WF σ)  : AM l G (d + 32) mX8_later [.ref 60, .int p, .int n] (sh, sg, la) 0 0 (RQ sh g kp tr (.int (q_later σ p n).1) (q_later σ p n).2) := by
  refine az_am knX8_later (Nat.le_of_ble_eq_true rfl) rfl (fun Post hP => ?_)
  show AW l G mX8_later (d + 32) (az_F G Post) 0 0 0 [some (.ref 60), some (.int p), some (.int n), none] [] (sh, sg, la)
  have hO := hW.1.1.1
  have hL := cW_lv hW.1
  have haw := hW.1.2.2.1
  have h8 := hO.2
  refine B_sg hR.z.symm ?_
  refine A_aload_n dX8_later_0 rfl rfl ?_
  refine A_iload_n dX8_later_1 rfl rfl ?_
  refine A_i2l dX8_later_2 ?_
  refine A_callV (n := 0) dX8_later_3 kvX8_isPerson mlX8_112 rfl (az_rc_obj clX8 (hM 0 _ rfl)) (r_isPerson l G (d + 30) sh sg la kp tr (xN σ) p hM hO) (by omega) (Nat.le_refl _) (Nat.le_refl _) rfl (Nat.le_of_ble_eq_true rfl) (fun r S1 hp => ?_)
  obtain ⟨rfl, rfl⟩ := hp
  show AW l G mX8_later (d + 32) (az_F G Post) 0 0 6 [some (.ref 60), some (.int p), some (.int n), none] [.int (b2i (0 ≤ p ∧ p < cPp (xN σ)))] (sh, (mput sg 60 (xN σ)), la)
  refine A_if_eq (tgt := 21) dX8_later_6 rfl (fun h_1 => ?_) (fun h_1 => ?_)
  · skip
    have h_1' := b2i_0.mp h_1
    refine A_aload_n dX8_later_21 rfl rfl ?_
    refine A_bipush (v := (-2)) dX8_later_22 (by decide) ?_
    refine A_callV (n := 0) dX8_later_24 kvX8_refuse mlX8_101 rfl (az_rc_obj clX8 (hM 0 _ rfl)) (c_X8_refuse l G (d + 31) sh (mput sg 60 (xN σ)) la kp tr (-2) 0 hM (by decide) (by decide)) (by omega) (Nat.le_refl _) (Nat.le_refl _) rfl (Nat.le_of_ble_eq_true rfl) (fun r S1 hp => ?_)
    obtain ⟨rfl, rfl⟩ := hp
    show AW l G mX8_later (d + 32) (az_F G Post) 0 0 27 [some (.ref 60), some (.int p), some (.int n), none] [.int (-2)] (sh, (az_w (mput sg 60 (xN σ)) 76 (0 + 2) ((mput sg 60 (xN σ)) 76 (0 + 2) + 1)), la)
    have hq : (q_later σ p n) = ((-2), (rfs σ 0)) := by
      unfold q_later
      try simp only [h_1', and_true, true_and, and_false, false_and, and_self, or_true, true_or, or_false, false_or, not_true_eq_false, not_false_eq_true, if_true, if_false, ite_true, ite_false, decide_true, decide_false, reduceIte]
      first | done | rfl
    exact A_iret dX8_later_27 rfl (hP _ _ (RQ_i hq ((hR.fin0 (sC.rf sg)).ref (k := 0) (by decide))))
  · skip
    have h_1' := b2i_n.mp h_1
    obtain ⟨p1, hp1, rfl⟩ := nI_exp hO h_1'
    have hc_p1 : (nI p1).toNatClampNeg = p1 := nI_clamp (by omega)
    refine A_iload_n dX8_later_9 rfl rfl ?_
    refine A_i2l dX8_later_10 ?_
    refine A_lconst (v := 0) dX8_later_11 (by decide) ?_
    refine A_ldc2 (v := 200) dX8_later_12 lcX8_274 ?_
    refine A_callS (n := 0) dX8_later_15 ksX8_in mlX8_91 rfl (c_X8_inI l G (d + 31) sh (mput sg 60 (xN σ)) la n 200 200 (by decide)) (by omega) (Nat.le_refl _) (Nat.le_refl _) rfl (Nat.le_of_ble_eq_true rfl) (fun r S1 hp => ?_)
    obtain ⟨rfl, rfl⟩ := hp
    show AW l G mX8_later (d + 32) (az_F G Post) 0 0 18 [some (.ref 60), some (.int (nI p1)), some (.int n), none] [.int (b2i (0 ≤ n ∧ n ≤ 200))] (sh, (mput sg 60 (xN σ)), la)
    refine A_if_ne (tgt := 28) dX8_later_18 rfl (fun h_2 => ?_) (fun h_2 => ?_)
    · skip
      have h_2' := b2i_n.mp h_2
      obtain ⟨n1, hn1, rfl⟩ := nI_ex (m := 200) h_2'
      have hc_n1 : (nI n1).toNatClampNeg = n1 := nI_clamp (by omega)
      refine A_aload_n dX8_later_28 rfl rfl ?_
      refine A_callV (n := 0) dX8_later_29 kvX8_keeps mlX8_265 rfl (az_rc_obj clX8 (hM 0 _ rfl)) (r_keeps l G (d + 31) sh sg la kp tr (xN σ) hM hO) (by omega) (Nat.le_refl _) (Nat.le_refl _) rfl (Nat.le_of_ble_eq_true rfl) (fun r S1 hp => ?_)
      obtain ⟨rfl, rfl⟩ := hp
      show AW l G mX8_later (d + 32) (az_F G Post) 0 0 32 [some (.ref 60), some (.int (nI p1)), some (.int (nI n1)), none] [] (sh, (mput (mkp sg (xN σ)) 60 (xN σ)), la)
      refine A_iconst (v := 0) dX8_later_32 (by decide) ?_
      refine A_istore_n (lo2 := [some (.ref 60), some (.int (nI p1)), some (.int (nI n1)), some (.int 0)]) dX8_later_33 rfl (by decide) rfl ?_
      show AW l G mX8_later (d + 32) (az_F G Post) 0 0 34 [some (.ref 60), some (.int (nI p1)), some (.int (nI n1)), some (.int 0)] [] (sh, mput (mkp sg (xN σ)) 60 (zdays 0 (xN σ)), la)
      have loop : ∀ (q_i9 i9 : Nat), i9 + q_i9 = n1 → AW l G mX8_later (d + 32) (az_F G Post) 0 0 34 [some (.ref 60), some (.int (nI p1)), some (.int (nI n1)), some (.int (nI i9))] [] (sh, (mput (mkp sg (xN σ)) 60 (zdays i9 (xN σ))), la) := by
        intro q_i9
        induction q_i9 with
        | zero =>
          intro i9  hi_i9  
          have hN_i9 : i9 = n1 := by omega
          subst i9
          refine A_iload_n dX8_later_34 rfl rfl ?_
          refine A_iload_n dX8_later_35 rfl rfl ?_
          refine A_icmp_ge (tgt := 49) dX8_later_36 rfl (fun h_3 => ?_) (fun h_3 => ?_)
          · skip
            refine A_aload_n dX8_later_49 rfl rfl ?_
            refine A_iload_n dX8_later_50 rfl rfl ?_
            refine A_callV (n := 0) dX8_later_51 kvX8_cold mlX8_122 rfl (az_rc_obj clX8 (hM 0 _ rfl)) (r_cold l G (d + 30) sh (mkp sg (xN σ)) la kp tr (zdays n1 (xN σ)) p1 hM (cOk_days hO n1) (cLv_days hL n1) (by rw [zdays_N]; omega) (by rw [cAw_days, haw]; exact nI_n1 (by omega))) (by omega) (Nat.le_refl _) (Nat.le_refl _) rfl (Nat.le_of_ble_eq_true rfl) (fun r S1 hp => ?_)
            obtain ⟨rfl, rfl⟩ := hp
            show AW l G mX8_later (d + 32) (az_F G Post) 0 0 54 [some (.ref 60), some (.int (nI p1)), some (.int (nI n1)), some (.int (nI n1))] [.int (zc (zdays n1 (xN σ)) p1)] (sh, (mput (mkp sg (xN σ)) 60 (zdays n1 (xN σ))), la)
            refine A_istore_n (lo2 := [some (.ref 60), some (.int (nI p1)), some (.int (nI n1)), some (.int (zc (zdays n1 (xN σ)) p1))]) dX8_later_54 rfl (by decide) rfl ?_
            refine A_aload_n dX8_later_55 rfl rfl ?_
            refine A_callV (n := 0) dX8_later_56 kvX8_goesBack mlX8_271 rfl (az_rc_obj clX8 (hM 0 _ rfl)) (r_goesBack l G (d + 31) sh (mkp sg (xN σ)) la kp tr (xN σ) (zdays n1 (xN σ)) hM hO (kpt_kp sg (xN σ)) (mdf_days (mdf_rf (xN σ)) _)) (by omega) (Nat.le_refl _) (Nat.le_refl _) rfl (Nat.le_of_ble_eq_true rfl) (fun r S1 hp => ?_)
            obtain ⟨rfl, rfl⟩ := hp
            show AW l G mX8_later (d + 32) (az_F G Post) 0 0 59 [some (.ref 60), some (.int (nI p1)), some (.int (nI n1)), some (.int (zc (zdays n1 (xN σ)) p1))] [] (sh, (mput (mkp sg (xN σ)) 60 (xN σ)), la)
            refine A_iload_n dX8_later_59 rfl rfl ?_
            have hq : (q_later σ (nI p1) (nI n1)) = (zc (zdays n1 (xN σ)) p1, σ) := by
              unfold q_later
              rw [if_pos ⟨h_1', h_2'⟩, hc_p1, hc_n1]
            exact A_iret dX8_later_60 rfl (hP _ _ (RQ_i hq (hR.fin0 ((sC.rf sg).kp _))))
          · skip
            exact absurd (Int32.le_refl _) h_3
        | succ q_i9 ih =>
          intro i9  hi_i9  
          refine A_iload_n dX8_later_34 rfl rfl ?_
          refine A_iload_n dX8_later_35 rfl rfl ?_
          refine A_icmp_ge (tgt := 49) dX8_later_36 rfl (fun h_4 => ?_) (fun h_4 => ?_)
          · skip
            exact absurd h_4 (nI_ge (by omega) (by omega))
          · skip
            refine A_aload_n dX8_later_39 rfl rfl ?_
            refine A_callV (n := 0) dX8_later_40 kvX8_cools mlX8_259 rfl (az_rc_obj clX8 (hM 0 _ rfl)) (r_cools l G (d + 30) sh (mkp sg (xN σ)) la kp tr (zdays i9 (xN σ)) hM (cOk_days hO i9)) (by omega) (Nat.le_refl _) (Nat.le_refl _) rfl (Nat.le_of_ble_eq_true rfl) (fun r S1 hp => ?_)
            obtain ⟨rfl, rfl⟩ := hp
            show AW l G mX8_later (d + 32) (az_F G Post) 0 0 43 [some (.ref 60), some (.int (nI p1)), some (.int (nI n1)), some (.int (nI i9))] [] (sh, (mput (mkp sg (xN σ)) 60 (zcool 1 (zdays i9 (xN σ)))), la)
            refine A_iinc (v := nI (i9 + 1)) (lo2 := [some (.ref 60), some (.int (nI p1)), some (.int (nI n1)), some (.int (nI (i9 + 1)))]) dX8_later_43 rfl (nI_1 i9) (by decide) rfl ?_
            refine A_goto (tgt := 34) dX8_later_46 rfl ?_
            refine ih (i9 + 1) (by omega)
      exact loop (n1) 0 (by omega)
    · skip
      have h_2' := b2i_0.mp h_2
      refine A_aload_n dX8_later_21 rfl rfl ?_
      refine A_bipush (v := (-2)) dX8_later_22 (by decide) ?_
      refine A_callV (n := 0) dX8_later_24 kvX8_refuse mlX8_101 rfl (az_rc_obj clX8 (hM 0 _ rfl)) (c_X8_refuse l G (d + 31) sh (mput sg 60 (xN σ)) la kp tr (-2) 0 hM (by decide) (by decide)) (by omega) (Nat.le_refl _) (Nat.le_refl _) rfl (Nat.le_of_ble_eq_true rfl) (fun r S1 hp => ?_)
      obtain ⟨rfl, rfl⟩ := hp
      show AW l G mX8_later (d + 32) (az_F G Post) 0 0 27 [some (.ref 60), some (.int (nI p1)), some (.int n), none] [.int (-2)] (sh, (az_w (mput sg 60 (xN σ)) 76 (0 + 2) ((mput sg 60 (xN σ)) 76 (0 + 2) + 1)), la)
      have hq : (q_later σ (nI p1) n) = ((-2), (rfs σ 0)) := by
        unfold q_later
        try simp only [h_1', h_2', hc_p1, and_true, true_and, and_false, false_and, and_self, or_true, true_or, or_false, false_or, not_true_eq_false, not_false_eq_true, if_true, if_false, ite_true, ite_false, decide_true, decide_false, reduceIte]
        first | done | rfl
      exact A_iret dX8_later_27 rfl (hP _ _ (RQ_i hq ((hR.fin0 (sC.rf sg)).ref (k := 0) (by decide))))
set_option maxHeartbeats 1000000 in
set_option maxRecDepth 100000 in
theorem y_holdsOut (l : Launch) (G : az_Gh) (d : Nat) (sh : List az_Sh) (sg : Nat → Nat → Int32) (la : Nat → Nat → Int64) (g : GGM) (σ : SGM) (kp tr : Option Nat) (p : Int32) (hM : az_at sh 60 (lyM 60 kp tr)) (hR : RX g sg la σ kp tr) (hW : WF σ)  : AM l G (d + 32) mX8_holdsOut [.ref 60, .int p] (sh, sg, la) 0 0 (RQ sh g kp tr (.int (q_holdsOut σ p).1) (q_holdsOut σ p).2) := by
  refine az_am knX8_holdsOut (Nat.le_of_ble_eq_true rfl) rfl (fun Post hP => ?_)
  show AW l G mX8_holdsOut (d + 32) (az_F G Post) 0 0 0 [some (.ref 60), some (.int p), none] [] (sh, sg, la)
  have hO := hW.1.1.1
  have hL := cW_lv hW.1
  have haw := hW.1.2.2.1
  have h8 := hO.2
  refine B_sg hR.z.symm ?_
  refine A_aload_n dX8_holdsOut_0 rfl rfl ?_
  refine A_iload_n dX8_holdsOut_1 rfl rfl ?_
  refine A_i2l dX8_holdsOut_2 ?_
  refine A_callV (n := 0) dX8_holdsOut_3 kvX8_isPerson mlX8_112 rfl (az_rc_obj clX8 (hM 0 _ rfl)) (r_isPerson l G (d + 30) sh sg la kp tr (xN σ) p hM hO) (by omega) (Nat.le_refl _) (Nat.le_refl _) rfl (Nat.le_of_ble_eq_true rfl) (fun r S1 hp => ?_)
  obtain ⟨rfl, rfl⟩ := hp
  show AW l G mX8_holdsOut (d + 32) (az_F G Post) 0 0 6 [some (.ref 60), some (.int p), none] [.int (b2i (0 ≤ p ∧ p < cPp (xN σ)))] (sh, (mput sg 60 (xN σ)), la)
  refine A_if_ne (tgt := 16) dX8_holdsOut_6 rfl (fun h_1 => ?_) (fun h_1 => ?_)
  · skip
    have h_1' := b2i_n.mp h_1
    obtain ⟨p1, hp1, rfl⟩ := nI_exp hO h_1'
    have hc_p1 : (nI p1).toNatClampNeg = p1 := nI_clamp (by omega)
    refine A_aload_n dX8_holdsOut_16 rfl rfl ?_
    refine A_iload_n dX8_holdsOut_17 rfl rfl ?_
    refine A_callV (n := 0) dX8_holdsOut_18 kvX8_lasts mlX8_276 rfl (az_rc_obj clX8 (hM 0 _ rfl)) (r_lasts l G (d + 27) sh sg la kp tr (xN σ) p1 hM hO hL hp1 (by rw [haw]; exact nI_n1 (by omega))) (by omega) (Nat.le_refl _) (Nat.le_refl _) rfl (Nat.le_of_ble_eq_true rfl) (fun r S1 hp => ?_)
    obtain ⟨rfl, rfl⟩ := hp
    show AW l G mX8_holdsOut (d + 32) (az_F G Post) 0 0 21 [some (.ref 60), some (.int (nI p1)), none] [.int (nI (zhear (xN σ) p1))] (sh, (mput (mkp sg (xN σ)) 60 (xN σ)), la)
    refine A_istore_n (lo2 := [some (.ref 60), some (.int (nI p1)), some (.int (nI (zhear (xN σ) p1)))]) dX8_holdsOut_21 rfl (by decide) rfl ?_
    refine A_iload_n dX8_holdsOut_22 rfl rfl ?_
    refine A_bipush (v := 60) dX8_holdsOut_23 (by decide) ?_
    refine A_icmp_gt (tgt := 32) dX8_holdsOut_25 rfl (fun h_2 => ?_) (fun h_2 => ?_)
    · skip
      refine A_iconst (v := (-1)) dX8_holdsOut_32 (by decide) ?_
      have hq : (q_holdsOut σ (nI p1)) = ((-1), σ) := by
        unfold q_holdsOut zhearI
        rw [if_pos h_1', hc_p1, if_neg (fun q => Int32.not_lt.mpr (show nI _ ≤ nI 60 from nI_le q (by decide)) h_2)]
      exact A_iret dX8_holdsOut_33 rfl (hP _ _ (RQ_i hq (hR.fin0 ((sC.rf sg).kp _))))
    · skip
      refine A_iload_n dX8_holdsOut_28 rfl rfl ?_
      refine A_goto (tgt := 33) dX8_holdsOut_29 rfl ?_
      have hq : (q_holdsOut σ (nI p1)) = (nI (zhear (xN σ) p1), σ) := by
        unfold q_holdsOut zhearI
        rw [if_pos h_1', hc_p1, if_pos ((nI_leI (by have := fa_first_le (fun k => zsp (zdays k (xN σ)) p1) 61; unfold zhear; omega) (by decide)).mp (show nI _ ≤ nI 60 from Int32.not_lt.mp h_2))]
      exact A_iret dX8_holdsOut_33 rfl (hP _ _ (RQ_i hq (hR.fin0 ((sC.rf sg).kp _))))
  · skip
    have h_1' := b2i_0.mp h_1
    refine A_aload_n dX8_holdsOut_9 rfl rfl ?_
    refine A_bipush (v := (-2)) dX8_holdsOut_10 (by decide) ?_
    refine A_callV (n := 0) dX8_holdsOut_12 kvX8_refuse mlX8_101 rfl (az_rc_obj clX8 (hM 0 _ rfl)) (c_X8_refuse l G (d + 31) sh (mput sg 60 (xN σ)) la kp tr (-2) 0 hM (by decide) (by decide)) (by omega) (Nat.le_refl _) (Nat.le_refl _) rfl (Nat.le_of_ble_eq_true rfl) (fun r S1 hp => ?_)
    obtain ⟨rfl, rfl⟩ := hp
    show AW l G mX8_holdsOut (d + 32) (az_F G Post) 0 0 15 [some (.ref 60), some (.int p), none] [.int (-2)] (sh, (az_w (mput sg 60 (xN σ)) 76 (0 + 2) ((mput sg 60 (xN σ)) 76 (0 + 2) + 1)), la)
    have hq : (q_holdsOut σ p) = ((-2), (rfs σ 0)) := by
      unfold q_holdsOut
      try simp only [h_1', and_true, true_and, and_false, false_and, and_self, or_true, true_or, or_false, false_or, not_true_eq_false, not_false_eq_true, if_true, if_false, ite_true, ite_false, decide_true, decide_false, reduceIte]
      first | done | rfl
    exact A_iret dX8_holdsOut_15 rfl (hP _ _ (RQ_i hq ((hR.fin0 (sC.rf sg)).ref (k := 0) (by decide))))
