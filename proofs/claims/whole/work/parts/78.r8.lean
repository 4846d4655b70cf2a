theorem cr_Fe_Fe {c : CT} {x0 : Nat → Int32} : cFe (sFe c x0) = x0 := by rw [cs_FeFe]
theorem cu_Fe_Fe {c : CT} {x0 : Nat → Int32} {i : Nat} {y : Int32} : sFe (sFe c x0) (va_up (cFe (sFe c x0)) i y) = (sFe c (va_up x0 i y)) := by rw [cr_Fe_Fe, ss_Fe]
theorem sFe_up (c : CT) (p : Nat) (x : Int32) (h : cFe c p = x) : sFe c (va_up (cFe c) p x) = c := by rw [← h, az_up_id, sFe_id]
set_option maxHeartbeats 1000000 in
set_option maxRecDepth 100000 in
theorem y_gap (l : Launch) (G : az_Gh) (d : Nat) (sh : List az_Sh) (sg : Nat → Nat → Int32) (la : Nat → Nat → Int64) (g : GGM) (σ : SGM) (kp tr : Option Nat) (p : Int32) (hM : az_at sh 60 (lyM 60 kp tr)) (hR : RX g sg la σ kp tr) (hW : WF σ)  : AM l G (d + 32) mX8_gap [.ref 60, .int p] (sh, sg, la) 0 0 (RQ sh g kp tr (.int (q_gap σ p).1) (q_gap σ p).2) := by
  refine az_am knX8_gap (Nat.le_of_ble_eq_true rfl) rfl (fun Post hP => ?_)
  show AW l G mX8_gap (d + 32) (az_F G Post) 0 0 0 [some (.ref 60), some (.int p), none, none] [] (sh, sg, la)
  have hO := hW.1.1.1
  have hL := cW_lv hW.1
  have haw := hW.1.2.2.1
  have h8 := hO.2
  refine B_sg hR.z.symm ?_
  refine A_aload_n dX8_gap_0 rfl rfl ?_
  refine A_iload_n dX8_gap_1 rfl rfl ?_
  refine A_i2l dX8_gap_2 ?_
  refine A_callV (n := 0) dX8_gap_3 kvX8_isPerson mlX8_112 rfl (az_rc_obj clX8 (hM 0 _ rfl)) (r_isPerson l G (d + 30) sh sg la kp tr (xN σ) p hM hO) (by omega) (Nat.le_refl _) (Nat.le_refl _) rfl (Nat.le_of_ble_eq_true rfl) (fun r S1 hp => ?_)
  obtain ⟨rfl, rfl⟩ := hp
  show AW l G mX8_gap (d + 32) (az_F G Post) 0 0 6 [some (.ref 60), some (.int p), none, none] [.int (b2i (0 ≤ p ∧ p < cPp (xN σ)))] (sh, (mput sg 60 (xN σ)), la)
  refine A_if_ne (tgt := 16) dX8_gap_6 rfl (fun h_1 => ?_) (fun h_1 => ?_)
  · skip
    have h_1' := b2i_n.mp h_1
    obtain ⟨p1, hp1, rfl⟩ := nI_exp hO h_1'
    have hc_p1 : (nI p1).toNatClampNeg = p1 := nI_clamp (by omega)
    obtain ⟨f0, hf0, ef0⟩ := iR_nI (m := 40) (hW.1.1.2.2.2 p1 hp1).2.2.1
    have hc_f0 : (cFe (xN σ) p1).toNatClampNeg = f0 := by rw [ef0]; exact nI_clamp (by omega)
    refine A_aload_n dX8_gap_16 rfl rfl ?_
    refine B_getR (r := 81) dX8_gap_17 flX8_62 (hM 0 _ rfl) rfl ?_
    refine A_iload_n dX8_gap_20 rfl rfl ?_
    refine B_ialdV (i := p1) (nI f0) dX8_gap_21 (hM 21 _ rfl) (by decide) (rfl) (by omega) ((me_21 _ _ _ _).trans ef0) ?_
    refine A_istore_n (lo2 := [some (.ref 60), some (.int (nI p1)), some (.int (nI f0)), none]) dX8_gap_22 rfl (by decide) rfl ?_
    refine B_sg (show _ = mput sg 60 (sFe (xN σ) (va_up (cFe (xN σ)) p1 (nI (f0 + 0)))) from congrArg (mput sg 60) (sFe_up (xN σ) p1 _ (by rw [ef0]; rfl)).symm) ?_
    have loop : ∀ (q_j9 j9 : Nat), j9 + q_j9 = (40 - f0) → (∀ k, k < j9 → q_gaP σ p1 k = false) → AW l G mX8_gap (d + 32) (az_F G Post) 0 0 23 [some (.ref 60), some (.int (nI p1)), some (.int (nI f0)), none] [] (sh, (mput sg 60 (sFe (xN σ) (va_up (cFe (xN σ)) p1 (nI (f0 + j9))))), la) := by
      intro q_j9
      induction q_j9 with
      | zero =>
        intro j9  hi_j9 hno 
        have hN_j9 : j9 = (40 - f0) := by omega
        subst j9
        refine A_aload_n dX8_gap_23 rfl rfl ?_
        refine B_getR (r := 81) dX8_gap_24 flX8_62 (hM 0 _ rfl) rfl ?_
        refine A_iload_n dX8_gap_27 rfl rfl ?_
        refine B_ialdV (i := p1) (nI (f0 + (40 - f0))) dX8_gap_28 (hM 21 _ rfl) (by decide) (rfl) (by omega) ((me_21 _ _ _ _).trans ((congrFun cr_Fe_Fe _).trans az_up_self)) ?_
        refine A_bipush (v := 40) dX8_gap_29 (by decide) ?_
        refine A_icmp_ge (tgt := 55) dX8_gap_31 rfl (fun h_2 => ?_) (fun h_2 => ?_)
        · skip
          refine A_aload_n dX8_gap_55 rfl rfl ?_
          refine A_callV (n := 0) dX8_gap_56 kvX8_coldestOf mlX8_236 rfl (az_rc_obj clX8 (hM 0 _ rfl)) (r_coldestOf l G (d + 29) sh sg la kp tr (sFe (xN σ) (va_up (cFe (xN σ)) p1 (nI (f0 + (40 - f0))))) hM (co_Fe hO) (cv_Fe hL)) (by omega) (Nat.le_refl _) (Nat.le_refl _) rfl (Nat.le_of_ble_eq_true rfl) (fun r S1 hp => ?_)
          obtain ⟨rfl, rfl⟩ := hp
          show AW l G mX8_gap (d + 32) (az_F G Post) 0 0 59 [some (.ref 60), some (.int (nI p1)), some (.int (nI f0)), none] [.int (oI (zbest (sFe (xN σ) (va_up (cFe (xN σ)) p1 (nI (f0 + (40 - f0)))))))] (sh, (mput sg 60 (sFe (xN σ) (va_up (cFe (xN σ)) p1 (nI (f0 + (40 - f0)))))), la)
          refine A_iload_n dX8_gap_59 rfl rfl ?_
          refine A_icmp_ne (tgt := 67) dX8_gap_60 rfl (fun h_3 => ?_) (fun h_3 => ?_)
          · skip
            refine A_aload_n dX8_gap_67 rfl rfl ?_
            refine B_getR (r := 81) dX8_gap_68 flX8_62 (hM 0 _ rfl) rfl ?_
            refine A_iload_n dX8_gap_71 rfl rfl ?_
            refine B_ialdV (i := p1) (nI (f0 + (40 - f0))) dX8_gap_72 (hM 21 _ rfl) (by decide) (rfl) (by omega) ((me_21 _ _ _ _).trans ((congrFun cr_Fe_Fe _).trans az_up_self)) ?_
            refine A_iload_n dX8_gap_73 rfl rfl ?_
            refine A_isub dX8_gap_74 ?_
            refine A_istore_n (lo2 := [some (.ref 60), some (.int (nI p1)), some (.int (nI f0)), some (.int (nI (f0 + (40 - f0)) - nI f0))]) dX8_gap_75 rfl (by decide) rfl ?_
            refine A_aload_n dX8_gap_76 rfl rfl ?_
            refine B_getR (r := 81) dX8_gap_77 flX8_62 (hM 0 _ rfl) rfl ?_
            refine A_iload_n dX8_gap_80 rfl rfl ?_
            refine A_iload_n dX8_gap_81 rfl rfl ?_
            refine B_iast (i := p1) dX8_gap_82 (hM 21 _ rfl) (by decide) (rfl) (by omega) ?_
            refine B_sg (show _ = (mput sg 60 (sFe (xN σ) (va_up (va_up (cFe (xN σ)) p1 (nI (f0 + (40 - f0)))) p1 (nI f0)))) from (mx_21 _ _ _ _ _).trans (congrArg (mput sg 60) cu_Fe_Fe)) ?_
            refine B_sg (show _ = mput sg 60 (xN σ) from congrArg (mput sg 60) ((congrArg (sFe (xN σ)) (az_up_up _ _ _ _)).trans (sFe_up (xN σ) p1 _ ef0))) ?_
            refine A_iload_n dX8_gap_83 rfl rfl ?_
            have hq : (q_gap σ (nI p1)) = ((nI (f0 + (40 - f0)) - nI f0), σ) := by
              unfold q_gap
              rw [if_pos h_1', hc_p1, hc_f0, zfind_some (i := (40 - f0)) (by omega) (by unfold q_gaP zfe; rw [(show cFe (xN σ) p1 + nI (40 - f0) = nI (f0 + (40 - f0)) by rw [ef0, nI_add]), decide_eq_false (fun q => h_3 ((oI_p (by omega) (zbest_l (co_Fe hO))).mpr q))]; rfl) hno]
              show (nI (40 - f0), σ) = _
              rw [nI_sub (by omega) (by omega), show f0 + (40 - f0) - f0 = (40 - f0) by omega]
            exact A_iret dX8_gap_84 rfl (hP _ _ (RQ_i hq (hR.fin0 (sC.rf sg))))
          · skip
            refine A_iconst (v := (-1)) dX8_gap_63 (by decide) ?_
            refine A_goto (tgt := 75) dX8_gap_64 rfl ?_
            refine A_istore_n (lo2 := [some (.ref 60), some (.int (nI p1)), some (.int (nI f0)), some (.int (-1))]) dX8_gap_75 rfl (by decide) rfl ?_
            refine A_aload_n dX8_gap_76 rfl rfl ?_
            refine B_getR (r := 81) dX8_gap_77 flX8_62 (hM 0 _ rfl) rfl ?_
            refine A_iload_n dX8_gap_80 rfl rfl ?_
            refine A_iload_n dX8_gap_81 rfl rfl ?_
            refine B_iast (i := p1) dX8_gap_82 (hM 21 _ rfl) (by decide) (rfl) (by omega) ?_
            refine B_sg (show _ = (mput sg 60 (sFe (xN σ) (va_up (va_up (cFe (xN σ)) p1 (nI (f0 + (40 - f0)))) p1 (nI f0)))) from (mx_21 _ _ _ _ _).trans (congrArg (mput sg 60) cu_Fe_Fe)) ?_
            refine B_sg (show _ = mput sg 60 (xN σ) from congrArg (mput sg 60) ((congrArg (sFe (xN σ)) (az_up_up _ _ _ _)).trans (sFe_up (xN σ) p1 _ ef0))) ?_
            refine A_iload_n dX8_gap_83 rfl rfl ?_
            have hq : (q_gap σ (nI p1)) = ((-1), σ) := by
              unfold q_gap
              rw [if_pos h_1', hc_p1, hc_f0, zfind_none (fun k hk => by
                rcases Nat.lt_or_ge k (40 - f0) with z | z
                · exact hno k z
                · rw [show k = 40 - f0 by omega]; unfold q_gaP zfe; rw [(show cFe (xN σ) p1 + nI (40 - f0) = nI (f0 + (40 - f0)) by rw [ef0, nI_add]), decide_eq_true ((oI_p (by omega) (zbest_l (co_Fe hO))).mp h_3)]; rfl)]
              first | done | rfl
            exact A_iret dX8_gap_84 rfl (hP _ _ (RQ_i hq (hR.fin0 (sC.rf sg))))
        · skip
          exact absurd (show (40 : Int32) ≤ nI (f0 + (40 - f0)) by rw [show f0 + (40 - f0) = 40 by omega]; decide) h_2
      | succ q_j9 ih_j9 =>
        intro j9  hi_j9 hno 
        refine A_aload_n dX8_gap_23 rfl rfl ?_
        refine B_getR (r := 81) dX8_gap_24 flX8_62 (hM 0 _ rfl) rfl ?_
        refine A_iload_n dX8_gap_27 rfl rfl ?_
        refine B_ialdV (i := p1) (nI (f0 + j9)) dX8_gap_28 (hM 21 _ rfl) (by decide) (rfl) (by omega) ((me_21 _ _ _ _).trans ((congrFun cr_Fe_Fe _).trans az_up_self)) ?_
        refine A_bipush (v := 40) dX8_gap_29 (by decide) ?_
        refine A_icmp_ge (tgt := 55) dX8_gap_31 rfl (fun h_4 => ?_) (fun h_4 => ?_)
        · skip
          exact absurd h_4 (nI_ge (b := 40) (by omega) (by decide))
        · skip
          refine A_aload_n dX8_gap_34 rfl rfl ?_
          refine A_callV (n := 0) dX8_gap_35 kvX8_coldestOf mlX8_236 rfl (az_rc_obj clX8 (hM 0 _ rfl)) (r_coldestOf l G (d + 29) sh sg la kp tr (sFe (xN σ) (va_up (cFe (xN σ)) p1 (nI (f0 + j9)))) hM (co_Fe hO) (cv_Fe hL)) (by omega) (Nat.le_refl _) (Nat.le_refl _) rfl (Nat.le_of_ble_eq_true rfl) (fun r S1 hp => ?_)
          obtain ⟨rfl, rfl⟩ := hp
          show AW l G mX8_gap (d + 32) (az_F G Post) 0 0 38 [some (.ref 60), some (.int (nI p1)), some (.int (nI f0)), none] [.int (oI (zbest (sFe (xN σ) (va_up (cFe (xN σ)) p1 (nI (f0 + j9))))))] (sh, (mput sg 60 (sFe (xN σ) (va_up (cFe (xN σ)) p1 (nI (f0 + j9))))), la)
          refine A_iload_n dX8_gap_38 rfl rfl ?_
          refine A_icmp_ne (tgt := 55) dX8_gap_39 rfl (fun h_5 => ?_) (fun h_5 => ?_)
          · skip
            refine A_aload_n dX8_gap_55 rfl rfl ?_
            refine A_callV (n := 0) dX8_gap_56 kvX8_coldestOf mlX8_236 rfl (az_rc_obj clX8 (hM 0 _ rfl)) (r_coldestOf l G (d + 29) sh sg la kp tr (sFe (xN σ) (va_up (cFe (xN σ)) p1 (nI (f0 + j9)))) hM (co_Fe hO) (cv_Fe hL)) (by omega) (Nat.le_refl _) (Nat.le_refl _) rfl (Nat.le_of_ble_eq_true rfl) (fun r S1 hp => ?_)
            obtain ⟨rfl, rfl⟩ := hp
            show AW l G mX8_gap (d + 32) (az_F G Post) 0 0 59 [some (.ref 60), some (.int (nI p1)), some (.int (nI f0)), none] [.int (oI (zbest (sFe (xN σ) (va_up (cFe (xN σ)) p1 (nI (f0 + j9))))))] (sh, (mput sg 60 (sFe (xN σ) (va_up (cFe (xN σ)) p1 (nI (f0 + j9))))), la)
            refine A_iload_n dX8_gap_59 rfl rfl ?_
            refine A_icmp_ne (tgt := 67) dX8_gap_60 rfl (fun h_6 => ?_) (fun h_6 => ?_)
            · skip
              refine A_aload_n dX8_gap_67 rfl rfl ?_
              refine B_getR (r := 81) dX8_gap_68 flX8_62 (hM 0 _ rfl) rfl ?_
              refine A_iload_n dX8_gap_71 rfl rfl ?_
              refine B_ialdV (i := p1) (nI (f0 + j9)) dX8_gap_72 (hM 21 _ rfl) (by decide) (rfl) (by omega) ((me_21 _ _ _ _).trans ((congrFun cr_Fe_Fe _).trans az_up_self)) ?_
              refine A_iload_n dX8_gap_73 rfl rfl ?_
              refine A_isub dX8_gap_74 ?_
              refine A_istore_n (lo2 := [some (.ref 60), some (.int (nI p1)), some (.int (nI f0)), some (.int (nI (f0 + j9) - nI f0))]) dX8_gap_75 rfl (by decide) rfl ?_
              refine A_aload_n dX8_gap_76 rfl rfl ?_
              refine B_getR (r := 81) dX8_gap_77 flX8_62 (hM 0 _ rfl) rfl ?_
              refine A_iload_n dX8_gap_80 rfl rfl ?_
              refine A_iload_n dX8_gap_81 rfl rfl ?_
              refine B_iast (i := p1) dX8_gap_82 (hM 21 _ rfl) (by decide) (rfl) (by omega) ?_
              refine B_sg (show _ = (mput sg 60 (sFe (xN σ) (va_up (va_up (cFe (xN σ)) p1 (nI (f0 + j9))) p1 (nI f0)))) from (mx_21 _ _ _ _ _).trans (congrArg (mput sg 60) cu_Fe_Fe)) ?_
              refine B_sg (show _ = mput sg 60 (xN σ) from congrArg (mput sg 60) ((congrArg (sFe (xN σ)) (az_up_up _ _ _ _)).trans (sFe_up (xN σ) p1 _ ef0))) ?_
              refine A_iload_n dX8_gap_83 rfl rfl ?_
              have hq : (q_gap σ (nI p1)) = ((nI (f0 + j9) - nI f0), σ) := by
                unfold q_gap
                rw [if_pos h_1', hc_p1, hc_f0, zfind_some (i := j9) (by omega) (by unfold q_gaP zfe; rw [(show cFe (xN σ) p1 + nI j9 = nI (f0 + j9) by rw [ef0, nI_add]), decide_eq_false (fun q => h_6 ((oI_p (by omega) (zbest_l (co_Fe hO))).mpr q))]; rfl) hno]
                show (nI j9, σ) = _
                rw [nI_sub (by omega) (by omega), show f0 + j9 - f0 = j9 by omega]
              exact A_iret dX8_gap_84 rfl (hP _ _ (RQ_i hq (hR.fin0 (sC.rf sg))))
            · skip
              exact absurd h_6 h_5
          · skip
            refine A_aload_n dX8_gap_42 rfl rfl ?_
            refine B_getR (r := 81) dX8_gap_43 flX8_62 (hM 0 _ rfl) rfl ?_
            refine A_iload_n dX8_gap_46 rfl rfl ?_
            refine A_dup2 dX8_gap_47 rfl rfl ?_
            refine B_ialdV (i := p1) (nI (f0 + j9)) dX8_gap_48 (hM 21 _ rfl) (by decide) (rfl) (by omega) ((me_21 _ _ _ _).trans ((congrFun cr_Fe_Fe _).trans az_up_self)) ?_
            refine A_iconst (v := 1) dX8_gap_49 (by decide) ?_
            refine A_iadd dX8_gap_50 ?_
            refine B_iast (i := p1) dX8_gap_51 (hM 21 _ rfl) (by decide) (rfl) (by omega) ?_
            refine B_sg (show _ = (mput sg 60 (sFe (xN σ) (va_up (va_up (cFe (xN σ)) p1 (nI (f0 + j9))) p1 (nI (f0 + j9) + 1)))) from (mx_21 _ _ _ _ _).trans (congrArg (mput sg 60) cu_Fe_Fe)) ?_
            refine B_sg (show _ = mput sg 60 (sFe (xN σ) (va_up (cFe (xN σ)) p1 (nI (f0 + (j9 + 1))))) from congrArg (fun z => mput sg 60 (sFe (xN σ) z)) ((az_up_up _ _ _ _).trans (congrArg (va_up (cFe (xN σ)) p1) (nI_1 (f0 + j9))))) ?_
            refine A_goto (tgt := 23) dX8_gap_52 rfl ?_
            refine ih_j9 (j9 + 1) (by omega) (lt_s hno (by unfold q_gaP zfe; rw [(show cFe (xN σ) p1 + nI j9 = nI (f0 + j9) by rw [ef0, nI_add]), decide_eq_true ((oI_p (by omega) (zbest_l (co_Fe hO))).mp h_5)]; rfl))
    exact loop ((40 - f0)) 0 (by omega) lt_0
  · skip
    have h_1' := b2i_0.mp h_1
    refine A_aload_n dX8_gap_9 rfl rfl ?_
    refine A_bipush (v := (-2)) dX8_gap_10 (by decide) ?_
    refine A_callV (n := 0) dX8_gap_12 kvX8_refuse mlX8_101 rfl (az_rc_obj clX8 (hM 0 _ rfl)) (c_X8_refuse l G (d + 31) sh (mput sg 60 (xN σ)) la kp tr (-2) 0 hM (by decide) (by decide)) (by omega) (Nat.le_refl _) (Nat.le_refl _) rfl (Nat.le_of_ble_eq_true rfl) (fun r S1 hp => ?_)
    obtain ⟨rfl, rfl⟩ := hp
    show AW l G mX8_gap (d + 32) (az_F G Post) 0 0 15 [some (.ref 60), some (.int p), none, none] [.int (-2)] (sh, (az_w (mput sg 60 (xN σ)) 76 (0 + 2) ((mput sg 60 (xN σ)) 76 (0 + 2) + 1)), la)
    have hq : (q_gap σ p) = ((-2), (rfs σ 0)) := by
      unfold q_gap
      try simp only [h_1', and_true, true_and, and_false, false_and, and_self, or_true, true_or, or_false, false_or, not_true_eq_false, not_false_eq_true, if_true, if_false, ite_true, ite_false, decide_true, decide_false, reduceIte]
      first | done | rfl
    exact A_iret dX8_gap_15 rfl (hP _ _ (RQ_i hq ((hR.fin0 (sC.rf sg)).ref (k := 0) (by decide))))
theorem zqk_eq {c : CT} {p j f0 : Nat} (ef : cFe c p = nI f0) (hf : f0 ≤ 40) (hj : f0 + j ≤ 40) (hno : ∀ k, k < j → zsF c p (cFe c p + nI k) = true) (hy : f0 + j = 40 ∨ zsF c p (cFe c p + nI j) = false) : zqk c p = j := by
  refine fa_first_eq (by omega) ?_ (fun k hk => ?_)
  · rcases hy with h | h
    · rw [ef, nI_add, h]; simp [show (40 : Int32) ≤ nI 40 from by decide]
    · rw [h]; rfl
  · rw [hno k hk, ef, nI_add, decide_eq_false (show ¬ (40 : Int32) ≤ nI (f0 + k) from nI_ge (b := 40) (by omega) (by decide))]
    rfl
theorem zallb_s {p : Nat → Bool} {n : Nat} : zallb p (n + 1) = (zallb p n && p n) := by
  unfold zallb
  have hle := fa_first_le (fun k => !p k) n
  by_cases h : fa_first (fun k => !p k) n = n
  · have hno := fun k hk => fa_first_no (fun k => !p k) n k (by rw [h]; exact hk)
    cases hp : p n
    · rw [fa_first_eq (i := n) (by omega) (by simp [hp]) hno]; simp
    · rw [fa_first_none (n := n + 1) (fun k hk => by
        by_cases e : k = n
        · subst e; simp [hp]
        · exact hno k (by omega))]
      simp [h]
  · have hlt : fa_first (fun k => !p k) n < n := by omega
    have hy := fa_first_yes _ _ hlt
    have hno := fa_first_no (fun k => !p k) n
    rw [fa_first_eq (i := fa_first (fun k => !p k) n) (n := n + 1) (by omega) hy hno]
    simp [h]; omega
theorem zallb_i {p : Nat → Bool} {n : Nat} : zallb p n = true ↔ ∀ k, k < n → p k = true := by
  induction n with
  | zero => exact ⟨fun _ k hk => absurd hk (by omega), fun _ => rfl⟩
  | succ n ih =>
    rw [zallb_s, Bool.and_eq_true_iff, ih]
    constructor
    · rintro ⟨h1, h2⟩ k hk
      by_cases e : k = n
      · subst e; exact h2
      · exact h1 k (by omega)
    · exact fun h => ⟨fun k hk => h k (by omega), h n (by omega)⟩
theorem zquiet_q (c : CT) : zquiet c = if zallb (fun j => !(zqP c j)) (cN c) = true then l_sum (fun j => nI (zqk c j)) (cN c) else -1 := by
  unfold zquiet
  by_cases h : zallb (fun j => !(zqP c j)) (cN c) = true
  · rw [if_pos h, if_pos (zfind_none (fun k hk => by have := zallb_i.mp h k hk; simpa using this))]
  · rw [if_neg h, if_neg (fun q => h (zallb_i.mpr (fun k hk => by have := zfind_no q hk; simp [this])))]
theorem b2i_and1 (p : Bool) (q : Prop) [Decidable q] (hq : q) : b2i (p = true) &&& 1 = b2i (p = true) := by cases p <;> decide
theorem b2i_and {a b : Bool} : b2i (a = true) &&& b2i (b = true) = b2i ((a && b) = true) := by cases a <;> cases b <;> decide
set_option maxHeartbeats 1000000 in
set_option maxRecDepth 100000 in
theorem y_quiet (l : Launch) (G : az_Gh) (d : Nat) (sh : List az_Sh) (sg : Nat → Nat → Int32) (la : Nat → Nat → Int64) (g : GGM) (σ : SGM) (kp tr : Option Nat)  (hM : az_at sh 60 (lyM 60 kp tr)) (hR : RX g sg la σ kp tr) (hW : WF σ)  : AM l G (d + 32) mX8_quiet [.ref 60] (sh, sg, la) 0 0 (RQ sh g kp tr (.int (q_quiet σ)) σ) := by
  refine az_am knX8_quiet (Nat.le_of_ble_eq_true rfl) rfl (fun Post hP => ?_)
  show AW l G mX8_quiet (d + 32) (az_F G Post) 0 0 0 [some (.ref 60), none, none, none, none] [] (sh, sg, la)
  have hO := hW.1.1.1
  have hL := cW_lv hW.1
  have haw := hW.1.2.2.1
  have h8 := hO.2
  refine B_sg hR.z.symm ?_
  refine A_iconst (v := 0) dX8_quiet_0 (by decide) ?_
  refine A_istore_n (lo2 := [some (.ref 60), some (.int 0), none, none, none]) dX8_quiet_1 rfl (by decide) rfl ?_
  refine A_iconst (v := 1) dX8_quiet_2 (by decide) ?_
  refine A_istore_n (lo2 := [some (.ref 60), some (.int 0), some (.int 1), none, none]) dX8_quiet_3 rfl (by decide) rfl ?_
  refine A_iconst (v := 0) dX8_quiet_4 (by decide) ?_
  refine A_istore_n (lo2 := [some (.ref 60), some (.int 0), some (.int 1), some (.int 0), none]) dX8_quiet_5 rfl (by decide) rfl ?_
  show AW l G mX8_quiet (d + 32) (az_F G Post) 0 0 6 [some (.ref 60), some (.int 0), some (.int (b2i (zallb (fun j => !(zqP (xN σ) j)) 0 = true))), some (.int 0), none] [] (sh, (mput sg 60 (xN σ)), la)
  have loop : ∀ (q_i9 i9 : Nat) (x1 : Int32) (x2 : Int32), i9 + q_i9 = (cN (xN σ)) → x1 = l_sum (fun j => nI (zqk (xN σ) j)) i9 → x2 = b2i (zallb (fun j => !(zqP (xN σ) j)) i9 = true) → AW l G mX8_quiet (d + 32) (az_F G Post) 0 0 6 [some (.ref 60), some (.int x1), some (.int x2), some (.int (nI i9)), none] [] (sh, (mput sg 60 (xN σ)), la) := by
    intro q_i9
    induction q_i9 with
    | zero =>
      intro i9 x1 x2 hi_i9  e_x1 e_x2
      have hN_i9 : i9 = (cN (xN σ)) := by omega
      subst i9
      refine A_iload_n dX8_quiet_6 rfl rfl ?_
      refine A_aload_n dX8_quiet_7 rfl rfl ?_
      refine B_getV (nI (cN (xN σ))) dX8_quiet_8 flX8_88 (hM 0 _ rfl) rfl ((mr_14 _ _ _).trans hO.1) ?_
      refine A_icmp_ge (tgt := 96) dX8_quiet_11 rfl (fun h_1 => ?_) (fun h_1 => ?_)
      · skip
        refine A_iload_n dX8_quiet_96 rfl rfl ?_
        refine A_if_eq (tgt := 104) dX8_quiet_97 rfl (fun h_2 => ?_) (fun h_2 => ?_)
        · skip
          refine A_iconst (v := (-1)) dX8_quiet_104 (by decide) ?_
          have hq : (q_quiet σ) = (-1) := by
            unfold q_quiet
            rw [zquiet_q, if_neg (b2i_0.mp (e_x2.symm.trans h_2))]
          exact A_iret dX8_quiet_105 rfl (hP _ _ (RQ_0 hq (hR.fin0 (sC.rf sg))))
        · skip
          refine A_iload_n dX8_quiet_100 rfl rfl ?_
          refine A_goto (tgt := 105) dX8_quiet_101 rfl ?_
          have hq : (q_quiet σ) = x1 := by
            unfold q_quiet
            rw [zquiet_q, if_pos (b2i_n.mp (fun q => h_2 (e_x2.trans q))), e_x1]
          exact A_iret dX8_quiet_105 rfl (hP _ _ (RQ_0 hq (hR.fin0 (sC.rf sg))))
      · skip
        exact absurd (Int32.le_refl _) h_1
    | succ q_i9 ih =>
      intro i9 x1 x2 hi_i9  e_x1 e_x2
      obtain ⟨f0, hf0, ef0⟩ := iR_nI (m := 40) (hW.1.1.2.2.2 i9 (by omega)).2.2.1
      refine A_iload_n dX8_quiet_6 rfl rfl ?_
      refine A_aload_n dX8_quiet_7 rfl rfl ?_
      refine B_getV (nI (cN (xN σ))) dX8_quiet_8 flX8_88 (hM 0 _ rfl) rfl ((mr_14 _ _ _).trans hO.1) ?_
      refine A_icmp_ge (tgt := 96) dX8_quiet_11 rfl (fun h_3 => ?_) (fun h_3 => ?_)
      · skip
        exact absurd h_3 (nI_ge (by omega) (by omega))
      · skip
        refine A_aload_n dX8_quiet_14 rfl rfl ?_
        refine B_getR (r := 81) dX8_quiet_15 flX8_62 (hM 0 _ rfl) rfl ?_
        refine A_iload_n dX8_quiet_18 rfl rfl ?_
        refine B_ialdV (i := i9) (nI f0) dX8_quiet_19 (hM 21 _ rfl) (by decide) (rfl) (by omega) ((me_21 _ _ _ _).trans ef0) ?_
        refine A_istore (lo2 := [some (.ref 60), some (.int x1), some (.int x2), some (.int (nI i9)), some (.int (nI f0))]) dX8_quiet_20 (by decide) rfl ?_
        refine B_sg (show _ = mput sg 60 (sFe (xN σ) (va_up (cFe (xN σ)) i9 (nI (f0 + 0)))) from congrArg (mput sg 60) (sFe_up (xN σ) i9 _ (by rw [ef0]; rfl)).symm) ?_
        have loop2 : ∀ (q_j9 j9 : Nat), j9 + q_j9 = (40 - f0) → (∀ k, k < j9 → zsF (xN σ) i9 (cFe (xN σ) i9 + nI k) = true) → AW l G mX8_quiet (d + 32) (az_F G Post) 0 0 22 [some (.ref 60), some (.int x1), some (.int x2), some (.int (nI i9)), some (.int (nI f0))] [] (sh, (mput sg 60 (sFe (xN σ) (va_up (cFe (xN σ)) i9 (nI (f0 + j9))))), la) := by
          intro q_j9
          induction q_j9 with
          | zero =>
            intro j9  hi_j9 hno 
            have hN_j9 : j9 = (40 - f0) := by omega
            subst j9
            refine A_aload_n dX8_quiet_22 rfl rfl ?_
            refine B_getR (r := 81) dX8_quiet_23 flX8_62 (hM 0 _ rfl) rfl ?_
            refine A_iload_n dX8_quiet_26 rfl rfl ?_
            refine B_ialdV (i := i9) (nI (f0 + (40 - f0))) dX8_quiet_27 (hM 21 _ rfl) (by decide) (rfl) (by omega) ((me_21 _ _ _ _).trans ((congrFun cr_Fe_Fe _).trans az_up_self)) ?_
            refine A_bipush (v := 40) dX8_quiet_28 (by decide) ?_
            refine A_icmp_ge (tgt := 54) dX8_quiet_30 rfl (fun h_4 => ?_) (fun h_4 => ?_)
            · skip
              have hqk : zqk (xN σ) i9 = (40 - f0) := zqk_eq ef0 hf0 (by omega) hno (Or.inl (by omega))
              have hqP : zqP (xN σ) i9 = zsp (sFe (xN σ) (va_up (cFe (xN σ)) i9 (nI (f0 + (40 - f0))))) i9 := by unfold zqP zsF; rw [hqk, ef0, nI_add]
              refine A_iload_n dX8_quiet_54 rfl rfl ?_
              refine A_aload_n dX8_quiet_55 rfl rfl ?_
              refine A_iload_n dX8_quiet_56 rfl rfl ?_
              refine A_callV (n := 0) dX8_quiet_57 kvX8_speaksNow mlX8_239 rfl (az_rc_obj clX8 (hM 0 _ rfl)) (r_speaksNow l G (d + 29) sh sg la kp tr (sFe (xN σ) (va_up (cFe (xN σ)) i9 (nI (f0 + (40 - f0))))) i9 hM (co_Fe hO) (cv_Fe hL) (cp_Fe (by omega)) (cg_Fe (by rw [haw]; exact nI_n1 (by omega)))) (by omega) (Nat.le_refl _) (Nat.le_refl _) rfl (Nat.le_of_ble_eq_true rfl) (fun r S1 hp => ?_)
              obtain ⟨rfl, rfl⟩ := hp
              show AW l G mX8_quiet (d + 32) (az_F G Post) 0 0 60 [some (.ref 60), some (.int x1), some (.int x2), some (.int (nI i9)), some (.int (nI f0))] [.int (b2i (zsp (sFe (xN σ) (va_up (cFe (xN σ)) i9 (nI (f0 + (40 - f0))))) i9 = true)), .int x2] (sh, (mput sg 60 (sFe (xN σ) (va_up (cFe (xN σ)) i9 (nI (f0 + (40 - f0)))))), la)
              refine A_if_ne (tgt := 67) dX8_quiet_60 rfl (fun h_5 => ?_) (fun h_5 => ?_)
              · skip
                have h_5' := b2i_n.mp h_5
                refine A_iconst (v := 0) dX8_quiet_67 (by decide) ?_
                refine A_iand dX8_quiet_68 ?_
                refine A_istore_n (lo2 := [some (.ref 60), some (.int x1), some (.int (x2 &&& 0)), some (.int (nI i9)), some (.int (nI f0))]) dX8_quiet_69 rfl (by decide) rfl ?_
                refine A_iload_n dX8_quiet_70 rfl rfl ?_
                refine A_aload_n dX8_quiet_71 rfl rfl ?_
                refine B_getR (r := 81) dX8_quiet_72 flX8_62 (hM 0 _ rfl) rfl ?_
                refine A_iload_n dX8_quiet_75 rfl rfl ?_
                refine B_ialdV (i := i9) (nI (f0 + (40 - f0))) dX8_quiet_76 (hM 21 _ rfl) (by decide) (rfl) (by omega) ((me_21 _ _ _ _).trans ((congrFun cr_Fe_Fe _).trans az_up_self)) ?_
                refine A_iload dX8_quiet_77 rfl ?_
                refine A_isub dX8_quiet_79 ?_
                refine A_iadd dX8_quiet_80 ?_
                refine A_istore_n (lo2 := [some (.ref 60), some (.int (x1 + (nI (f0 + (40 - f0)) - nI f0))), some (.int (x2 &&& 0)), some (.int (nI i9)), some (.int (nI f0))]) dX8_quiet_81 rfl (by decide) rfl ?_
                refine A_aload_n dX8_quiet_82 rfl rfl ?_
                refine B_getR (r := 81) dX8_quiet_83 flX8_62 (hM 0 _ rfl) rfl ?_
                refine A_iload_n dX8_quiet_86 rfl rfl ?_
                refine A_iload dX8_quiet_87 rfl ?_
                refine B_iast (i := i9) dX8_quiet_89 (hM 21 _ rfl) (by decide) (rfl) (by omega) ?_
                refine B_sg (show _ = (mput sg 60 (sFe (xN σ) (va_up (va_up (cFe (xN σ)) i9 (nI (f0 + (40 - f0)))) i9 (nI f0)))) from (mx_21 _ _ _ _ _).trans (congrArg (mput sg 60) cu_Fe_Fe)) ?_
                refine B_sg (show _ = mput sg 60 (xN σ) from congrArg (mput sg 60) ((congrArg (sFe (xN σ)) (az_up_up _ _ _ _)).trans (sFe_up (xN σ) i9 _ ef0))) ?_
                refine A_iinc (v := nI (i9 + 1)) (lo2 := [some (.ref 60), some (.int (x1 + (nI (f0 + (40 - f0)) - nI f0))), some (.int (x2 &&& 0)), some (.int (nI (i9 + 1))), some (.int (nI f0))]) dX8_quiet_90 rfl (nI_1 i9) (by decide) rfl ?_
                refine A_goto (tgt := 6) dX8_quiet_93 rfl ?_
                refine A_forget (lo2 := [some (.ref 60), some (.int (x1 + (nI (f0 + (40 - f0)) - nI f0))), some (.int (x2 &&& 0)), some (.int (nI (i9 + 1))), none]) ⟨rfl, rfl, rfl, rfl, trivial⟩ ?_
                refine ih (i9 + 1) _ _ (by omega) ?_ ?_
                · skip
                  rw [e_x1, nI_sub (by omega) (by omega), show f0 + (40 - f0) - f0 = (40 - f0) by omega]; show _ = l_sum _ i9 + nI (zqk (xN σ) i9); rw [hqk]
                · skip
                  rw [e_x2, zallb_s]; exact (by rw [hqP, h_5']; cases zallb (fun j => !(zqP (xN σ) j)) i9 <;> decide)
              · skip
                have h_5' := b2i_0.mp h_5
                refine A_iconst (v := 1) dX8_quiet_63 (by decide) ?_
                refine A_goto (tgt := 68) dX8_quiet_64 rfl ?_
                refine A_iand dX8_quiet_68 ?_
                refine A_istore_n (lo2 := [some (.ref 60), some (.int x1), some (.int (x2 &&& 1)), some (.int (nI i9)), some (.int (nI f0))]) dX8_quiet_69 rfl (by decide) rfl ?_
                refine A_iload_n dX8_quiet_70 rfl rfl ?_
                refine A_aload_n dX8_quiet_71 rfl rfl ?_
                refine B_getR (r := 81) dX8_quiet_72 flX8_62 (hM 0 _ rfl) rfl ?_
                refine A_iload_n dX8_quiet_75 rfl rfl ?_
                refine B_ialdV (i := i9) (nI (f0 + (40 - f0))) dX8_quiet_76 (hM 21 _ rfl) (by decide) (rfl) (by omega) ((me_21 _ _ _ _).trans ((congrFun cr_Fe_Fe _).trans az_up_self)) ?_
                refine A_iload dX8_quiet_77 rfl ?_
                refine A_isub dX8_quiet_79 ?_
                refine A_iadd dX8_quiet_80 ?_
                refine A_istore_n (lo2 := [some (.ref 60), some (.int (x1 + (nI (f0 + (40 - f0)) - nI f0))), some (.int (x2 &&& 1)), some (.int (nI i9)), some (.int (nI f0))]) dX8_quiet_81 rfl (by decide) rfl ?_
                refine A_aload_n dX8_quiet_82 rfl rfl ?_
                refine B_getR (r := 81) dX8_quiet_83 flX8_62 (hM 0 _ rfl) rfl ?_
                refine A_iload_n dX8_quiet_86 rfl rfl ?_
                refine A_iload dX8_quiet_87 rfl ?_
                refine B_iast (i := i9) dX8_quiet_89 (hM 21 _ rfl) (by decide) (rfl) (by omega) ?_
                refine B_sg (show _ = (mput sg 60 (sFe (xN σ) (va_up (va_up (cFe (xN σ)) i9 (nI (f0 + (40 - f0)))) i9 (nI f0)))) from (mx_21 _ _ _ _ _).trans (congrArg (mput sg 60) cu_Fe_Fe)) ?_
                refine B_sg (show _ = mput sg 60 (xN σ) from congrArg (mput sg 60) ((congrArg (sFe (xN σ)) (az_up_up _ _ _ _)).trans (sFe_up (xN σ) i9 _ ef0))) ?_
                refine A_iinc (v := nI (i9 + 1)) (lo2 := [some (.ref 60), some (.int (x1 + (nI (f0 + (40 - f0)) - nI f0))), some (.int (x2 &&& 1)), some (.int (nI (i9 + 1))), some (.int (nI f0))]) dX8_quiet_90 rfl (nI_1 i9) (by decide) rfl ?_
                refine A_goto (tgt := 6) dX8_quiet_93 rfl ?_
                refine A_forget (lo2 := [some (.ref 60), some (.int (x1 + (nI (f0 + (40 - f0)) - nI f0))), some (.int (x2 &&& 1)), some (.int (nI (i9 + 1))), none]) ⟨rfl, rfl, rfl, rfl, trivial⟩ ?_
                refine ih (i9 + 1) _ _ (by omega) ?_ ?_
                · skip
                  rw [e_x1, nI_sub (by omega) (by omega), show f0 + (40 - f0) - f0 = (40 - f0) by omega]; show _ = l_sum _ i9 + nI (zqk (xN σ) i9); rw [hqk]
                · skip
                  rw [e_x2, zallb_s]; exact (by rw [hqP, Bool.eq_false_iff.mpr h_5']; cases zallb (fun j => !(zqP (xN σ) j)) i9 <;> decide)
            · skip
              exact absurd (show (40 : Int32) ≤ nI (f0 + (40 - f0)) by rw [show f0 + (40 - f0) = 40 by omega]; decide) h_4
          | succ q_j9 ih_j9 =>
            intro j9  hi_j9 hno 
            refine A_aload_n dX8_quiet_22 rfl rfl ?_
            refine B_getR (r := 81) dX8_quiet_23 flX8_62 (hM 0 _ rfl) rfl ?_
            refine A_iload_n dX8_quiet_26 rfl rfl ?_
            refine B_ialdV (i := i9) (nI (f0 + j9)) dX8_quiet_27 (hM 21 _ rfl) (by decide) (rfl) (by omega) ((me_21 _ _ _ _).trans ((congrFun cr_Fe_Fe _).trans az_up_self)) ?_
            refine A_bipush (v := 40) dX8_quiet_28 (by decide) ?_
            refine A_icmp_ge (tgt := 54) dX8_quiet_30 rfl (fun h_6 => ?_) (fun h_6 => ?_)
            · skip
              exact absurd h_6 (nI_ge (b := 40) (by omega) (by decide))
            · skip
              refine A_aload_n dX8_quiet_33 rfl rfl ?_
              refine A_iload_n dX8_quiet_34 rfl rfl ?_
              refine A_callV (n := 0) dX8_quiet_35 kvX8_speaksNow mlX8_239 rfl (az_rc_obj clX8 (hM 0 _ rfl)) (r_speaksNow l G (d + 29) sh sg la kp tr (sFe (xN σ) (va_up (cFe (xN σ)) i9 (nI (f0 + j9)))) i9 hM (co_Fe hO) (cv_Fe hL) (cp_Fe (by omega)) (cg_Fe (by rw [haw]; exact nI_n1 (by omega)))) (by omega) (Nat.le_refl _) (Nat.le_refl _) rfl (Nat.le_of_ble_eq_true rfl) (fun r S1 hp => ?_)
              obtain ⟨rfl, rfl⟩ := hp
              show AW l G mX8_quiet (d + 32) (az_F G Post) 0 0 38 [some (.ref 60), some (.int x1), some (.int x2), some (.int (nI i9)), some (.int (nI f0))] [.int (b2i (zsp (sFe (xN σ) (va_up (cFe (xN σ)) i9 (nI (f0 + j9)))) i9 = true))] (sh, (mput sg 60 (sFe (xN σ) (va_up (cFe (xN σ)) i9 (nI (f0 + j9))))), la)
              refine A_if_eq (tgt := 54) dX8_quiet_38 rfl (fun h_7 => ?_) (fun h_7 => ?_)
              · skip
                have h_7' := b2i_0.mp h_7
                have hqk : zqk (xN σ) i9 = j9 := zqk_eq ef0 hf0 (by omega) hno (Or.inr (by rw [show cFe (xN σ) i9 + nI j9 = nI (f0 + j9) by rw [ef0, nI_add]]; exact Bool.eq_false_iff.mpr h_7'))
                have hqP : zqP (xN σ) i9 = zsp (sFe (xN σ) (va_up (cFe (xN σ)) i9 (nI (f0 + j9)))) i9 := by unfold zqP zsF; rw [hqk, ef0, nI_add]
                refine A_iload_n dX8_quiet_54 rfl rfl ?_
                refine A_aload_n dX8_quiet_55 rfl rfl ?_
                refine A_iload_n dX8_quiet_56 rfl rfl ?_
                refine A_callV (n := 0) dX8_quiet_57 kvX8_speaksNow mlX8_239 rfl (az_rc_obj clX8 (hM 0 _ rfl)) (r_speaksNow l G (d + 29) sh sg la kp tr (sFe (xN σ) (va_up (cFe (xN σ)) i9 (nI (f0 + j9)))) i9 hM (co_Fe hO) (cv_Fe hL) (cp_Fe (by omega)) (cg_Fe (by rw [haw]; exact nI_n1 (by omega)))) (by omega) (Nat.le_refl _) (Nat.le_refl _) rfl (Nat.le_of_ble_eq_true rfl) (fun r S1 hp => ?_)
                obtain ⟨rfl, rfl⟩ := hp
                show AW l G mX8_quiet (d + 32) (az_F G Post) 0 0 60 [some (.ref 60), some (.int x1), some (.int x2), some (.int (nI i9)), some (.int (nI f0))] [.int (b2i (zsp (sFe (xN σ) (va_up (cFe (xN σ)) i9 (nI (f0 + j9)))) i9 = true)), .int x2] (sh, (mput sg 60 (sFe (xN σ) (va_up (cFe (xN σ)) i9 (nI (f0 + j9))))), la)
                refine A_if_ne (tgt := 67) dX8_quiet_60 rfl (fun h_8 => ?_) (fun h_8 => ?_)
                · skip
                  have h_8' := b2i_n.mp h_8
                  refine A_iconst (v := 0) dX8_quiet_67 (by decide) ?_
                  refine A_iand dX8_quiet_68 ?_
                  refine A_istore_n (lo2 := [some (.ref 60), some (.int x1), some (.int (x2 &&& 0)), some (.int (nI i9)), some (.int (nI f0))]) dX8_quiet_69 rfl (by decide) rfl ?_
                  refine A_iload_n dX8_quiet_70 rfl rfl ?_
                  refine A_aload_n dX8_quiet_71 rfl rfl ?_
                  refine B_getR (r := 81) dX8_quiet_72 flX8_62 (hM 0 _ rfl) rfl ?_
                  refine A_iload_n dX8_quiet_75 rfl rfl ?_
                  refine B_ialdV (i := i9) (nI (f0 + j9)) dX8_quiet_76 (hM 21 _ rfl) (by decide) (rfl) (by omega) ((me_21 _ _ _ _).trans ((congrFun cr_Fe_Fe _).trans az_up_self)) ?_
                  refine A_iload dX8_quiet_77 rfl ?_
                  refine A_isub dX8_quiet_79 ?_
                  refine A_iadd dX8_quiet_80 ?_
                  refine A_istore_n (lo2 := [some (.ref 60), some (.int (x1 + (nI (f0 + j9) - nI f0))), some (.int (x2 &&& 0)), some (.int (nI i9)), some (.int (nI f0))]) dX8_quiet_81 rfl (by decide) rfl ?_
                  refine A_aload_n dX8_quiet_82 rfl rfl ?_
                  refine B_getR (r := 81) dX8_quiet_83 flX8_62 (hM 0 _ rfl) rfl ?_
                  refine A_iload_n dX8_quiet_86 rfl rfl ?_
                  refine A_iload dX8_quiet_87 rfl ?_
                  refine B_iast (i := i9) dX8_quiet_89 (hM 21 _ rfl) (by decide) (rfl) (by omega) ?_
                  refine B_sg (show _ = (mput sg 60 (sFe (xN σ) (va_up (va_up (cFe (xN σ)) i9 (nI (f0 + j9))) i9 (nI f0)))) from (mx_21 _ _ _ _ _).trans (congrArg (mput sg 60) cu_Fe_Fe)) ?_
                  refine B_sg (show _ = mput sg 60 (xN σ) from congrArg (mput sg 60) ((congrArg (sFe (xN σ)) (az_up_up _ _ _ _)).trans (sFe_up (xN σ) i9 _ ef0))) ?_
                  refine A_iinc (v := nI (i9 + 1)) (lo2 := [some (.ref 60), some (.int (x1 + (nI (f0 + j9) - nI f0))), some (.int (x2 &&& 0)), some (.int (nI (i9 + 1))), some (.int (nI f0))]) dX8_quiet_90 rfl (nI_1 i9) (by decide) rfl ?_
                  refine A_goto (tgt := 6) dX8_quiet_93 rfl ?_
                  refine A_forget (lo2 := [some (.ref 60), some (.int (x1 + (nI (f0 + j9) - nI f0))), some (.int (x2 &&& 0)), some (.int (nI (i9 + 1))), none]) ⟨rfl, rfl, rfl, rfl, trivial⟩ ?_
                  refine ih (i9 + 1) _ _ (by omega) ?_ ?_
                  · skip
                    rw [e_x1, nI_sub (by omega) (by omega), show f0 + j9 - f0 = j9 by omega]; show _ = l_sum _ i9 + nI (zqk (xN σ) i9); rw [hqk]
                  · skip
                    rw [e_x2, zallb_s]; exact (by rw [hqP, h_8']; cases zallb (fun j => !(zqP (xN σ) j)) i9 <;> decide)
                · skip
                  have h_8' := b2i_0.mp h_8
                  refine A_iconst (v := 1) dX8_quiet_63 (by decide) ?_
                  refine A_goto (tgt := 68) dX8_quiet_64 rfl ?_
                  refine A_iand dX8_quiet_68 ?_
                  refine A_istore_n (lo2 := [some (.ref 60), some (.int x1), some (.int (x2 &&& 1)), some (.int (nI i9)), some (.int (nI f0))]) dX8_quiet_69 rfl (by decide) rfl ?_
                  refine A_iload_n dX8_quiet_70 rfl rfl ?_
                  refine A_aload_n dX8_quiet_71 rfl rfl ?_
                  refine B_getR (r := 81) dX8_quiet_72 flX8_62 (hM 0 _ rfl) rfl ?_
                  refine A_iload_n dX8_quiet_75 rfl rfl ?_
                  refine B_ialdV (i := i9) (nI (f0 + j9)) dX8_quiet_76 (hM 21 _ rfl) (by decide) (rfl) (by omega) ((me_21 _ _ _ _).trans ((congrFun cr_Fe_Fe _).trans az_up_self)) ?_
                  refine A_iload dX8_quiet_77 rfl ?_
                  refine A_isub dX8_quiet_79 ?_
                  refine A_iadd dX8_quiet_80 ?_
                  refine A_istore_n (lo2 := [some (.ref 60), some (.int (x1 + (nI (f0 + j9) - nI f0))), some (.int (x2 &&& 1)), some (.int (nI i9)), some (.int (nI f0))]) dX8_quiet_81 rfl (by decide) rfl ?_
                  refine A_aload_n dX8_quiet_82 rfl rfl ?_
                  refine B_getR (r := 81) dX8_quiet_83 flX8_62 (hM 0 _ rfl) rfl ?_
                  refine A_iload_n dX8_quiet_86 rfl rfl ?_
                  refine A_iload dX8_quiet_87 rfl ?_
                  refine B_iast (i := i9) dX8_quiet_89 (hM 21 _ rfl) (by decide) (rfl) (by omega) ?_
                  refine B_sg (show _ = (mput sg 60 (sFe (xN σ) (va_up (va_up (cFe (xN σ)) i9 (nI (f0 + j9))) i9 (nI f0)))) from (mx_21 _ _ _ _ _).trans (congrArg (mput sg 60) cu_Fe_Fe)) ?_
                  refine B_sg (show _ = mput sg 60 (xN σ) from congrArg (mput sg 60) ((congrArg (sFe (xN σ)) (az_up_up _ _ _ _)).trans (sFe_up (xN σ) i9 _ ef0))) ?_
                  refine A_iinc (v := nI (i9 + 1)) (lo2 := [some (.ref 60), some (.int (x1 + (nI (f0 + j9) - nI f0))), some (.int (x2 &&& 1)), some (.int (nI (i9 + 1))), some (.int (nI f0))]) dX8_quiet_90 rfl (nI_1 i9) (by decide) rfl ?_
                  refine A_goto (tgt := 6) dX8_quiet_93 rfl ?_
                  refine A_forget (lo2 := [some (.ref 60), some (.int (x1 + (nI (f0 + j9) - nI f0))), some (.int (x2 &&& 1)), some (.int (nI (i9 + 1))), none]) ⟨rfl, rfl, rfl, rfl, trivial⟩ ?_
                  refine ih (i9 + 1) _ _ (by omega) ?_ ?_
                  · skip
                    rw [e_x1, nI_sub (by omega) (by omega), show f0 + j9 - f0 = j9 by omega]; show _ = l_sum _ i9 + nI (zqk (xN σ) i9); rw [hqk]
                  · skip
                    rw [e_x2, zallb_s]; exact (by rw [hqP, Bool.eq_false_iff.mpr h_8']; cases zallb (fun j => !(zqP (xN σ) j)) i9 <;> decide)
              · skip
                have h_7' := b2i_n.mp h_7
                refine A_aload_n dX8_quiet_41 rfl rfl ?_
                refine B_getR (r := 81) dX8_quiet_42 flX8_62 (hM 0 _ rfl) rfl ?_
                refine A_iload_n dX8_quiet_45 rfl rfl ?_
                refine A_dup2 dX8_quiet_46 rfl rfl ?_
                refine B_ialdV (i := i9) (nI (f0 + j9)) dX8_quiet_47 (hM 21 _ rfl) (by decide) (rfl) (by omega) ((me_21 _ _ _ _).trans ((congrFun cr_Fe_Fe _).trans az_up_self)) ?_
                refine A_iconst (v := 1) dX8_quiet_48 (by decide) ?_
                refine A_iadd dX8_quiet_49 ?_
                refine B_iast (i := i9) dX8_quiet_50 (hM 21 _ rfl) (by decide) (rfl) (by omega) ?_
                refine B_sg (show _ = (mput sg 60 (sFe (xN σ) (va_up (va_up (cFe (xN σ)) i9 (nI (f0 + j9))) i9 (nI (f0 + j9) + 1)))) from (mx_21 _ _ _ _ _).trans (congrArg (mput sg 60) cu_Fe_Fe)) ?_
                refine B_sg (show _ = mput sg 60 (sFe (xN σ) (va_up (cFe (xN σ)) i9 (nI (f0 + (j9 + 1))))) from congrArg (fun z => mput sg 60 (sFe (xN σ) z)) ((az_up_up _ _ _ _).trans (congrArg (va_up (cFe (xN σ)) i9) (nI_1 (f0 + j9))))) ?_
                refine A_goto (tgt := 22) dX8_quiet_51 rfl ?_
                refine ih_j9 (j9 + 1) (by omega) (lt_s hno (by rw [show cFe (xN σ) i9 + nI j9 = nI (f0 + j9) by rw [ef0, nI_add]]; exact h_7'))
        exact loop2 ((40 - f0)) 0 (by omega) lt_0
  exact loop ((cN (xN σ))) 0 _ _ (by omega) (rfl) (rfl)
