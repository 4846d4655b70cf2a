theorem cr_Seed_Seed {c : CT} {x0 : Int32} : cSeed (sSeed c x0) = x0 := by rw [cs_SeedSeed]
theorem sWin_id (c : CT) : sWin c (cWin c) = c := by simp only [sWin, cPp, cAir, cFall, cDay, cWin, cCoal, cSeed, cLov, cAway, cKd, cAa, cPr, cBr, cFe]
theorem cool_day (c : CT) : cDay (zcool 1 c) = cDay c := by rw [zcool_s, cs_DayFe, cs_DayAir]
theorem zpass_a {c e : CT} (he : (if cWin c = -1 ∧ zso c = true then sWin c (cDay c) else c) = e) (hd : iR (cDay c) 999) (hde : cDay e = cDay c) (h : cDay (zcool 1 e) < 999) : sDay (zcool 1 e) (cDay (zcool 1 e) + 1) = zpass c := by
  have q : zpass c = sDay (zcool 1 e) (mnI 999 (cDay (zcool 1 e) + 1)) := by unfold zpass; rw [he]
  rw [q, cool_day, hde, (iR_day hd).2, if_pos (by rw [cool_day, hde] at h; exact h)]
theorem zpass_b {c e : CT} (he : (if cWin c = -1 ∧ zso c = true then sWin c (cDay c) else c) = e) (hd : iR (cDay c) 999) (hde : cDay e = cDay c) (h : ¬ cDay (zcool 1 e) < 999) : sDay (zcool 1 e) 999 = zpass c := by
  have q : zpass c = sDay (zcool 1 e) (mnI 999 (cDay (zcool 1 e) + 1)) := by unfold zpass; rw [he]
  rw [q, cool_day, hde, (iR_day hd).2, if_neg (by rw [cool_day, hde] at h; exact h)]
set_option maxHeartbeats 1000000 in
set_option maxRecDepth 100000 in
theorem r_passes (l : Launch) (G : az_Gh) (d : Nat) (sh : List az_Sh) (u : Nat → Nat → Int32) (la : Nat → Nat → Int64) (kp tr : Option Nat) (c : CT)  (hM : az_at sh 60 (lyM 60 kp tr)) (hO : cOk c) (hL : cLv c) (hd : iR (cDay c) 999) : FM l G (d + 4) mX8_passes [.ref 60] (sh, (mput u 60 c), la) (none) (sh, mput u 60 (zpass c), la) := by
  refine az_fm knX8_passes (Nat.le_of_ble_eq_true rfl) rfl (fun Post hP => ?_)
  show AW l G mX8_passes (d + 4) (az_F G Post) 0 0 0 [some (.ref 60)] [] (sh, (mput u 60 c), la)
  refine A_aload_n dX8_passes_0 rfl rfl ?_
  refine A_aload_n dX8_passes_1 rfl rfl ?_
  refine B_getV (cWin c) dX8_passes_2 flX8_44 (hM 0 _ rfl) rfl (mr_12 _ _ _) ?_
  refine A_iconst (v := (-1)) dX8_passes_5 (by decide) ?_
  refine A_icmp_ne (tgt := 23) dX8_passes_6 rfl (fun h_1 => ?_) (fun h_1 => ?_)
  · skip
    refine A_aload_n dX8_passes_23 rfl rfl ?_
    refine B_getV (cWin c) dX8_passes_24 flX8_44 (hM 0 _ rfl) rfl (mr_12 _ _ _) ?_
    refine B_putI dX8_passes_27 fwX8_44 (hM 0 _ rfl) rfl ?_
    refine B_sg (show _ = (mput u 60 (sWin c (cWin c))) from mw_12 _ _ _ _) ?_
    refine B_sg (show _ = mput u 60 c from congrArg (mput u 60) (sWin_id c)) ?_
    refine A_aload_n dX8_passes_30 rfl rfl ?_
    refine A_callV (n := 0) dX8_passes_31 kvX8_cools mlX8_259 rfl (az_rc_obj clX8 (hM 0 _ rfl)) (r_cools l G (d + 2) sh u la kp tr c hM hO) (by omega) (Nat.le_refl _) (Nat.le_refl _) rfl (Nat.le_of_ble_eq_true rfl) (fun r S1 hp => ?_)
    obtain ⟨rfl, rfl⟩ := hp
    show AW l G mX8_passes (d + 4) (az_F G Post) 0 0 34 [some (.ref 60)] [] (sh, (mput u 60 (zcool 1 c)), la)
    refine A_aload_n dX8_passes_34 rfl rfl ?_
    refine A_aload_n dX8_passes_35 rfl rfl ?_
    refine B_getV (cDay (zcool 1 c)) dX8_passes_36 flX8_139 (hM 0 _ rfl) rfl (mr_11 _ _ _) ?_
    refine A_sipush (v := 999) dX8_passes_39 (by decide) ?_
    refine A_icmp_ge (tgt := 54) dX8_passes_42 rfl (fun h_2 => ?_) (fun h_2 => ?_)
    · skip
      refine A_sipush (v := 999) dX8_passes_54 (by decide) ?_
      refine B_putI dX8_passes_57 fwX8_139 (hM 0 _ rfl) rfl ?_
      refine B_sg (show _ = (mput u 60 (sDay (zcool 1 c) 999)) from mw_11 _ _ _ _) ?_
      exact A_vret dX8_passes_60 rfl (az_pv hP (congrArg (fun z => (sh, mput u 60 z, la)) (zpass_b (if_neg (fun q => h_1 q.1)) hd rfl (Int32.not_lt.mpr h_2))))
    · skip
      refine A_aload_n dX8_passes_45 rfl rfl ?_
      refine B_getV (cDay (zcool 1 c)) dX8_passes_46 flX8_139 (hM 0 _ rfl) rfl (mr_11 _ _ _) ?_
      refine A_iconst (v := 1) dX8_passes_49 (by decide) ?_
      refine A_iadd dX8_passes_50 ?_
      refine A_goto (tgt := 57) dX8_passes_51 rfl ?_
      refine B_putI dX8_passes_57 fwX8_139 (hM 0 _ rfl) rfl ?_
      refine B_sg (show _ = (mput u 60 (sDay (zcool 1 c) (cDay (zcool 1 c) + 1))) from mw_11 _ _ _ _) ?_
      exact A_vret dX8_passes_60 rfl (az_pv hP (congrArg (fun z => (sh, mput u 60 z, la)) (zpass_a (if_neg (fun q => h_1 q.1)) hd rfl (Int32.not_le.mp h_2))))
  · skip
    refine A_aload_n dX8_passes_9 rfl rfl ?_
    refine A_callV (n := 0) dX8_passes_10 kvX8_isSoNow mlX8_244 rfl (az_rc_obj clX8 (hM 0 _ rfl)) (r_isSoNow l G d sh u la kp tr c hM hO hL) (by omega) (Nat.le_refl _) (Nat.le_refl _) rfl (Nat.le_of_ble_eq_true rfl) (fun r S1 hp => ?_)
    obtain ⟨rfl, rfl⟩ := hp
    show AW l G mX8_passes (d + 4) (az_F G Post) 0 0 13 [some (.ref 60)] [.int (b2i (zso c = true)), .ref 60] (sh, (mput u 60 c), la)
    refine A_if_eq (tgt := 23) dX8_passes_13 rfl (fun h_3 => ?_) (fun h_3 => ?_)
    · skip
      have h_3' := b2i_0.mp h_3
      refine A_aload_n dX8_passes_23 rfl rfl ?_
      refine B_getV (cWin c) dX8_passes_24 flX8_44 (hM 0 _ rfl) rfl (mr_12 _ _ _) ?_
      refine B_putI dX8_passes_27 fwX8_44 (hM 0 _ rfl) rfl ?_
      refine B_sg (show _ = (mput u 60 (sWin c (cWin c))) from mw_12 _ _ _ _) ?_
      refine B_sg (show _ = mput u 60 c from congrArg (mput u 60) (sWin_id c)) ?_
      refine A_aload_n dX8_passes_30 rfl rfl ?_
      refine A_callV (n := 0) dX8_passes_31 kvX8_cools mlX8_259 rfl (az_rc_obj clX8 (hM 0 _ rfl)) (r_cools l G (d + 2) sh u la kp tr c hM hO) (by omega) (Nat.le_refl _) (Nat.le_refl _) rfl (Nat.le_of_ble_eq_true rfl) (fun r S1 hp => ?_)
      obtain ⟨rfl, rfl⟩ := hp
      show AW l G mX8_passes (d + 4) (az_F G Post) 0 0 34 [some (.ref 60)] [] (sh, (mput u 60 (zcool 1 c)), la)
      refine A_aload_n dX8_passes_34 rfl rfl ?_
      refine A_aload_n dX8_passes_35 rfl rfl ?_
      refine B_getV (cDay (zcool 1 c)) dX8_passes_36 flX8_139 (hM 0 _ rfl) rfl (mr_11 _ _ _) ?_
      refine A_sipush (v := 999) dX8_passes_39 (by decide) ?_
      refine A_icmp_ge (tgt := 54) dX8_passes_42 rfl (fun h_4 => ?_) (fun h_4 => ?_)
      · skip
        refine A_sipush (v := 999) dX8_passes_54 (by decide) ?_
        refine B_putI dX8_passes_57 fwX8_139 (hM 0 _ rfl) rfl ?_
        refine B_sg (show _ = (mput u 60 (sDay (zcool 1 c) 999)) from mw_11 _ _ _ _) ?_
        exact A_vret dX8_passes_60 rfl (az_pv hP (congrArg (fun z => (sh, mput u 60 z, la)) (zpass_b (if_neg (fun q => h_3' q.2)) hd rfl (Int32.not_lt.mpr h_4))))
      · skip
        refine A_aload_n dX8_passes_45 rfl rfl ?_
        refine B_getV (cDay (zcool 1 c)) dX8_passes_46 flX8_139 (hM 0 _ rfl) rfl (mr_11 _ _ _) ?_
        refine A_iconst (v := 1) dX8_passes_49 (by decide) ?_
        refine A_iadd dX8_passes_50 ?_
        refine A_goto (tgt := 57) dX8_passes_51 rfl ?_
        refine B_putI dX8_passes_57 fwX8_139 (hM 0 _ rfl) rfl ?_
        refine B_sg (show _ = (mput u 60 (sDay (zcool 1 c) (cDay (zcool 1 c) + 1))) from mw_11 _ _ _ _) ?_
        exact A_vret dX8_passes_60 rfl (az_pv hP (congrArg (fun z => (sh, mput u 60 z, la)) (zpass_a (if_neg (fun q => h_3' q.2)) hd rfl (Int32.not_le.mp h_4))))
    · skip
      have h_3' := b2i_n.mp h_3
      refine A_aload_n dX8_passes_16 rfl rfl ?_
      refine B_getV (cDay c) dX8_passes_17 flX8_139 (hM 0 _ rfl) rfl (mr_11 _ _ _) ?_
      refine A_goto (tgt := 27) dX8_passes_20 rfl ?_
      refine B_putI dX8_passes_27 fwX8_44 (hM 0 _ rfl) rfl ?_
      refine B_sg (show _ = (mput u 60 (sWin c (cDay c))) from mw_12 _ _ _ _) ?_
      refine A_aload_n dX8_passes_30 rfl rfl ?_
      refine A_callV (n := 0) dX8_passes_31 kvX8_cools mlX8_259 rfl (az_rc_obj clX8 (hM 0 _ rfl)) (r_cools l G (d + 2) sh u la kp tr (sWin c (cDay c)) hM (co_Win hO)) (by omega) (Nat.le_refl _) (Nat.le_refl _) rfl (Nat.le_of_ble_eq_true rfl) (fun r S1 hp => ?_)
      obtain ⟨rfl, rfl⟩ := hp
      show AW l G mX8_passes (d + 4) (az_F G Post) 0 0 34 [some (.ref 60)] [] (sh, (mput u 60 (zcool 1 (sWin c (cDay c)))), la)
      refine A_aload_n dX8_passes_34 rfl rfl ?_
      refine A_aload_n dX8_passes_35 rfl rfl ?_
      refine B_getV (cDay (zcool 1 (sWin c (cDay c)))) dX8_passes_36 flX8_139 (hM 0 _ rfl) rfl (mr_11 _ _ _) ?_
      refine A_sipush (v := 999) dX8_passes_39 (by decide) ?_
      refine A_icmp_ge (tgt := 54) dX8_passes_42 rfl (fun h_5 => ?_) (fun h_5 => ?_)
      · skip
        refine A_sipush (v := 999) dX8_passes_54 (by decide) ?_
        refine B_putI dX8_passes_57 fwX8_139 (hM 0 _ rfl) rfl ?_
        refine B_sg (show _ = (mput u 60 (sDay (zcool 1 (sWin c (cDay c))) 999)) from mw_11 _ _ _ _) ?_
        exact A_vret dX8_passes_60 rfl (az_pv hP (congrArg (fun z => (sh, mput u 60 z, la)) (zpass_b (if_pos ⟨h_1, h_3'⟩) hd (cs_DayWin _ _) (Int32.not_lt.mpr h_5))))
      · skip
        refine A_aload_n dX8_passes_45 rfl rfl ?_
        refine B_getV (cDay (zcool 1 (sWin c (cDay c)))) dX8_passes_46 flX8_139 (hM 0 _ rfl) rfl (mr_11 _ _ _) ?_
        refine A_iconst (v := 1) dX8_passes_49 (by decide) ?_
        refine A_iadd dX8_passes_50 ?_
        refine A_goto (tgt := 57) dX8_passes_51 rfl ?_
        refine B_putI dX8_passes_57 fwX8_139 (hM 0 _ rfl) rfl ?_
        refine B_sg (show _ = (mput u 60 (sDay (zcool 1 (sWin c (cDay c))) (cDay (zcool 1 (sWin c (cDay c))) + 1))) from mw_11 _ _ _ _) ?_
        exact A_vret dX8_passes_60 rfl (az_pv hP (congrArg (fun z => (sh, mput u 60 z, la)) (zpass_a (if_pos ⟨h_1, h_3'⟩) hd (cs_DayWin _ _) (Int32.not_le.mp h_5))))
theorem in_1 {n : Int32} (h : (1 : Int64) ≤ n.toInt64 ∧ n.toInt64 ≤ 60) : 1 ≤ n ∧ n ≤ 60 := by
  have q := in_i (x := n) (a := 1) (b := 60)
  rw [show (1 : Int32).toInt64 = 1 from by decide, show (60 : Int32).toInt64 = 60 from by decide] at q
  exact q.mp h
theorem in_1' {n : Int32} (h : 1 ≤ n ∧ n ≤ 60) : (1 : Int64) ≤ n.toInt64 ∧ n.toInt64 ≤ 60 := by
  have q := in_i (x := n) (a := 1) (b := 60)
  rw [show (1 : Int32).toInt64 = 1 from by decide, show (60 : Int32).toInt64 = 60 from by decide] at q
  exact q.mpr h
set_option maxHeartbeats 1000000 in
set_option maxRecDepth 100000 in
theorem y_days (l : Launch) (G : az_Gh) (d : Nat) (sh : List az_Sh) (sg : Nat → Nat → Int32) (la : Nat → Nat → Int64) (g : GGM) (σ : SGM) (kp tr : Option Nat) (n : Int32) (hM : az_at sh 60 (lyM 60 kp tr)) (hR : RX g sg la σ kp tr) (hW : WF σ)  : AM l G (d + 32) mX8_days [.ref 60, .int n] (sh, sg, la) 0 0 (RQ sh g kp tr (.int (q_days σ n).1) (q_days σ n).2) := by
  refine az_am knX8_days (Nat.le_of_ble_eq_true rfl) rfl (fun Post hP => ?_)
  show AW l G mX8_days (d + 32) (az_F G Post) 0 0 0 [some (.ref 60), some (.int n), none] [] (sh, sg, la)
  have hO := hW.1.1.1
  have hL := cW_lv hW.1
  have haw := hW.1.2.2.1
  have h8 := hO.2
  refine B_sg hR.z.symm ?_
  refine A_iload_n dX8_days_0 rfl rfl ?_
  refine A_i2l dX8_days_1 ?_
  refine A_lconst (v := 1) dX8_days_2 (by decide) ?_
  refine A_ldc2 (v := 60) dX8_days_3 lcX8_291 ?_
  refine A_callS (n := 0) dX8_days_6 ksX8_in mlX8_91 rfl (c_X8_in l G (d + 31) sh (mput sg 60 (xN σ)) la (Int32.toInt64 n) 1 60) (by omega) (Nat.le_refl _) (Nat.le_refl _) rfl (Nat.le_of_ble_eq_true rfl) (fun r S1 hp => ?_)
  obtain ⟨rfl, rfl⟩ := hp
  show AW l G mX8_days (d + 32) (az_F G Post) 0 0 9 [some (.ref 60), some (.int n), none] [.int (b2i (1 ≤ (Int32.toInt64 n) ∧ (Int32.toInt64 n) ≤ 60))] (sh, (mput sg 60 (xN σ)), la)
  refine A_if_ne (tgt := 19) dX8_days_9 rfl (fun h_1 => ?_) (fun h_1 => ?_)
  · skip
    have h_1' := b2i_n.mp h_1
    have hnn : 1 ≤ n ∧ n ≤ 60 := in_1 h_1'
    obtain ⟨n1, hn1, rfl⟩ := nI_ex (m := 60) ⟨Int32.le_trans (by decide) hnn.1, hnn.2⟩
    have hc_n1 : (nI n1).toNatClampNeg = n1 := nI_clamp (by omega)
    refine A_iconst (v := 0) dX8_days_19 (by decide) ?_
    refine A_istore_n (lo2 := [some (.ref 60), some (.int (nI n1)), some (.int 0)]) dX8_days_20 rfl (by decide) rfl ?_
    show AW l G mX8_days (d + 32) (az_F G Post) 0 0 21 [some (.ref 60), some (.int (nI n1)), some (.int 0)] [] (sh, mput sg 60 (zpn2 0 (xN σ)), la)
    have loop : ∀ (q_i9 i9 : Nat), i9 + q_i9 = n1 → AW l G mX8_days (d + 32) (az_F G Post) 0 0 21 [some (.ref 60), some (.int (nI n1)), some (.int (nI i9))] [] (sh, (mput sg 60 (zpn2 i9 (xN σ))), la) := by
      intro q_i9
      induction q_i9 with
      | zero =>
        intro i9  hi_i9  
        have hN_i9 : i9 = n1 := by omega
        subst i9
        refine A_iload_n dX8_days_21 rfl rfl ?_
        refine A_iload_n dX8_days_22 rfl rfl ?_
        refine A_icmp_ge (tgt := 36) dX8_days_23 rfl (fun h_2 => ?_) (fun h_2 => ?_)
        · skip
          refine A_aload_n dX8_days_36 rfl rfl ?_
          refine B_getV (cWin (zpn2 n1 (xN σ))) dX8_days_37 flX8_44 (hM 0 _ rfl) rfl (mr_12 _ _ _) ?_
          have hq : (q_days σ (nI n1)) = (cWin (zpn2 n1 (xN σ)), (yN σ (zpn2 n1 (xN σ)))) := by
            unfold q_days
            rw [if_pos hnn, hc_n1]
          exact A_iret dX8_days_40 rfl (hP _ _ (RQ_i hq (hR.fin (sC.rf sg) _)))
        · skip
          exact absurd (Int32.le_refl _) h_2
      | succ q_i9 ih =>
        intro i9  hi_i9  
        refine A_iload_n dX8_days_21 rfl rfl ?_
        refine A_iload_n dX8_days_22 rfl rfl ?_
        refine A_icmp_ge (tgt := 36) dX8_days_23 rfl (fun h_3 => ?_) (fun h_3 => ?_)
        · skip
          exact absurd h_3 (nI_ge (by omega) (by omega))
        · skip
          refine A_aload_n dX8_days_26 rfl rfl ?_
          refine A_callV (n := 0) dX8_days_27 kvX8_passes mlX8_348 rfl (az_rc_obj clX8 (hM 0 _ rfl)) (r_passes l G (d + 27) sh sg la kp tr (zpn2 i9 (xN σ)) hM (cW_pn2 hW.1 i9).1.1.1 (cW_lv (cW_pn2 hW.1 i9).1) (cW_pn2 hW.1 i9).1.2.2.2.2) (by omega) (Nat.le_refl _) (Nat.le_refl _) rfl (Nat.le_of_ble_eq_true rfl) (fun r S1 hp => ?_)
          obtain ⟨rfl, rfl⟩ := hp
          show AW l G mX8_days (d + 32) (az_F G Post) 0 0 30 [some (.ref 60), some (.int (nI n1)), some (.int (nI i9))] [] (sh, (mput sg 60 (zpass (zpn2 i9 (xN σ)))), la)
          refine A_iinc (v := nI (i9 + 1)) (lo2 := [some (.ref 60), some (.int (nI n1)), some (.int (nI (i9 + 1)))]) dX8_days_30 rfl (nI_1 i9) (by decide) rfl ?_
          refine A_goto (tgt := 21) dX8_days_33 rfl ?_
          refine ih (i9 + 1) (by omega)
    exact loop (n1) 0 (by omega)
  · skip
    have h_1' := b2i_0.mp h_1
    refine A_aload_n dX8_days_12 rfl rfl ?_
    refine A_bipush (v := (-2)) dX8_days_13 (by decide) ?_
    refine A_callV (n := 0) dX8_days_15 kvX8_refuse mlX8_101 rfl (az_rc_obj clX8 (hM 0 _ rfl)) (c_X8_refuse l G (d + 31) sh (mput sg 60 (xN σ)) la kp tr (-2) 0 hM (by decide) (by decide)) (by omega) (Nat.le_refl _) (Nat.le_refl _) rfl (Nat.le_of_ble_eq_true rfl) (fun r S1 hp => ?_)
    obtain ⟨rfl, rfl⟩ := hp
    show AW l G mX8_days (d + 32) (az_F G Post) 0 0 18 [some (.ref 60), some (.int n), none] [.int (-2)] (sh, (az_w (mput sg 60 (xN σ)) 76 (0 + 2) ((mput sg 60 (xN σ)) 76 (0 + 2) + 1)), la)
    have hq : (q_days σ n) = ((-2), (rfs σ 0)) := by
      unfold q_days
      rw [if_neg (fun q => h_1' (in_1' q))]
      first | done | rfl
    exact A_iret dX8_days_18 rfl (hP _ _ (RQ_i hq ((hR.fin0 (sC.rf sg)).ref (k := 0) (by decide))))
set_option maxHeartbeats 1000000 in
set_option maxRecDepth 100000 in
theorem r_drawBelow (l : Launch) (G : az_Gh) (d : Nat) (sh : List az_Sh) (u : Nat → Nat → Int32) (la : Nat → Nat → Int64) (kp tr : Option Nat) (c : CT) (n : Int32) (hM : az_at sh 60 (lyM 60 kp tr)) (hn : 0 < n) : FM l G (d) mX8_drawBelow [.ref 60, .int n] (sh, (mput u 60 c), la) (some (.int (zdraw c n))) (sh, mput u 60 (zseed c), la) := by
  refine az_fm knX8_drawBelow (Nat.le_of_ble_eq_true rfl) rfl (fun Post hP => ?_)
  show AW l G mX8_drawBelow (d) (az_F G Post) 0 0 0 [some (.ref 60), some (.int n)] [] (sh, (mput u 60 c), la)
  refine A_aload_n dX8_drawBelow_0 rfl rfl ?_
  refine A_aload_n dX8_drawBelow_1 rfl rfl ?_
  refine B_getV (cSeed c) dX8_drawBelow_2 flX8_65 (hM 0 _ rfl) rfl (mr_20 _ _ _) ?_
  refine A_ldcw (v := 1103515245) dX8_drawBelow_5 lcX8_351 ?_
  refine A_imul dX8_drawBelow_8 ?_
  refine A_sipush (v := 12345) dX8_drawBelow_9 (by decide) ?_
  refine A_iadd dX8_drawBelow_12 ?_
  refine B_putI dX8_drawBelow_13 fwX8_65 (hM 0 _ rfl) rfl ?_
  refine B_sg (show _ = (mput u 60 (sSeed c ((cSeed c * 1103515245) + 12345))) from mw_20 _ _ _ _) ?_
  refine A_aload_n dX8_drawBelow_16 rfl rfl ?_
  refine B_getV (((cSeed c * 1103515245) + 12345)) dX8_drawBelow_17 flX8_65 (hM 0 _ rfl) rfl ((mr_20 _ _ _).trans cr_Seed_Seed) ?_
  refine A_bipush (v := 16) dX8_drawBelow_20 (by decide) ?_
  refine A_iushr dX8_drawBelow_22 ?_
  refine A_iload_n dX8_drawBelow_23 rfl rfl ?_
  refine A_irem dX8_drawBelow_24 (fun q => by rw [q] at hn; exact absurd hn (by decide)) ?_
  refine A_iret dX8_drawBelow_25 rfl (az_pi hP ?_ (rfl))
  rfl
set_option maxHeartbeats 1000000 in
set_option maxRecDepth 100000 in
theorem y_drawn (l : Launch) (G : az_Gh) (d : Nat) (sh : List az_Sh) (sg : Nat → Nat → Int32) (la : Nat → Nat → Int64) (g : GGM) (σ : SGM) (kp tr : Option Nat) (n : Int32) (hM : az_at sh 60 (lyM 60 kp tr)) (hR : RX g sg la σ kp tr) (hW : WF σ)  : AM l G (d + 32) mX8_drawn [.ref 60, .int n] (sh, sg, la) 0 0 (RQ sh g kp tr (.int (q_drawn σ n).1) (q_drawn σ n).2) := by
  refine az_am knX8_drawn (Nat.le_of_ble_eq_true rfl) rfl (fun Post hP => ?_)
  show AW l G mX8_drawn (d + 32) (az_F G Post) 0 0 0 [some (.ref 60), some (.int n), none, none, none] [] (sh, sg, la)
  have hO := hW.1.1.1
  have hL := cW_lv hW.1
  have haw := hW.1.2.2.1
  have h8 := hO.2
  refine B_sg hR.z.symm ?_
  refine A_iload_n dX8_drawn_0 rfl rfl ?_
  refine A_i2l dX8_drawn_1 ?_
  refine A_lconst (v := 1) dX8_drawn_2 (by decide) ?_
  refine A_ldc2 (v := 60) dX8_drawn_3 lcX8_291 ?_
  refine A_callS (n := 0) dX8_drawn_6 ksX8_in mlX8_91 rfl (c_X8_in l G (d + 31) sh (mput sg 60 (xN σ)) la (Int32.toInt64 n) 1 60) (by omega) (Nat.le_refl _) (Nat.le_refl _) rfl (Nat.le_of_ble_eq_true rfl) (fun r S1 hp => ?_)
  obtain ⟨rfl, rfl⟩ := hp
  show AW l G mX8_drawn (d + 32) (az_F G Post) 0 0 9 [some (.ref 60), some (.int n), none, none, none] [.int (b2i (1 ≤ (Int32.toInt64 n) ∧ (Int32.toInt64 n) ≤ 60))] (sh, (mput sg 60 (xN σ)), la)
  refine A_if_ne (tgt := 19) dX8_drawn_9 rfl (fun h_1 => ?_) (fun h_1 => ?_)
  · skip
    have h_1' := b2i_n.mp h_1
    have hnn : 1 ≤ n ∧ n ≤ 60 := in_1 h_1'
    obtain ⟨n1, hn1, rfl⟩ := nI_ex (m := 60) ⟨Int32.le_trans (by decide) hnn.1, hnn.2⟩
    have hc_n1 : (nI n1).toNatClampNeg = n1 := nI_clamp (by omega)
    refine A_iconst (v := 0) dX8_drawn_19 (by decide) ?_
    refine A_istore_n (lo2 := [some (.ref 60), some (.int (nI n1)), some (.int 0), none, none]) dX8_drawn_20 rfl (by decide) rfl ?_
    refine A_iconst (v := 0) dX8_drawn_21 (by decide) ?_
    refine A_istore_n (lo2 := [some (.ref 60), some (.int (nI n1)), some (.int 0), some (.int 0), none]) dX8_drawn_22 rfl (by decide) rfl ?_
    show AW l G mX8_drawn (d + 32) (az_F G Post) 0 0 23 [some (.ref 60), some (.int (nI n1)), some (.int 0), some (.int 0), none] [] (sh, mput sg 60 (zdwn 0 (xN σ)), la)
    have loop : ∀ (q_i9 i9 : Nat) (x2 : Int32), i9 + q_i9 = n1 → x2 = nI (fa_cnt (fun k => zso (zdw (zdwn k (xN σ)))) i9) → AW l G mX8_drawn (d + 32) (az_F G Post) 0 0 23 [some (.ref 60), some (.int (nI n1)), some (.int x2), some (.int (nI i9)), none] [] (sh, (mput sg 60 (zdwn i9 (xN σ))), la) := by
      intro q_i9
      induction q_i9 with
      | zero =>
        intro i9 x2 hi_i9  e_x2
        have hN_i9 : i9 = n1 := by omega
        subst i9
        refine A_iload_n dX8_drawn_23 rfl rfl ?_
        refine A_iload_n dX8_drawn_24 rfl rfl ?_
        refine A_icmp_ge (tgt := 102) dX8_drawn_25 rfl (fun h_2 => ?_) (fun h_2 => ?_)
        · skip
          refine A_iload_n dX8_drawn_102 rfl rfl ?_
          have hq : (q_drawn σ (nI n1)) = (x2, (yN σ (zdwn n1 (xN σ)))) := by
            unfold q_drawn
            rw [if_pos hnn, hc_n1, e_x2]
          exact A_iret dX8_drawn_103 rfl (hP _ _ (RQ_i hq (hR.fin (sC.rf sg) _)))
        · skip
          exact absurd (Int32.le_refl _) h_2
      | succ q_i9 ih =>
        intro i9 x2 hi_i9  e_x2
        have hWi := (cW_dwn hW.1 i9).1
        have hpos : 0 < cPp (zdwn i9 (xN σ)) + 1 := by rw [hWi.1.1.1, nI_1]; exact nI_lt (a := 0) (by omega) (by have := hWi.1.1.2; omega)
        refine A_iload_n dX8_drawn_23 rfl rfl ?_
        refine A_iload_n dX8_drawn_24 rfl rfl ?_
        refine A_icmp_ge (tgt := 102) dX8_drawn_25 rfl (fun h_3 => ?_) (fun h_3 => ?_)
        · skip
          exact absurd h_3 (nI_ge (by omega) (by omega))
        · skip
          refine A_aload_n dX8_drawn_28 rfl rfl ?_
          refine A_aload_n dX8_drawn_29 rfl rfl ?_
          refine A_iconst (v := 4) dX8_drawn_30 (by decide) ?_
          refine A_callV (n := 0) dX8_drawn_31 kvX8_drawBelow mlX8_352 rfl (az_rc_obj clX8 (hM 0 _ rfl)) (r_drawBelow l G (d + 31) sh sg la kp tr (zdwn i9 (xN σ)) 4 hM (by decide)) (by omega) (Nat.le_refl _) (Nat.le_refl _) rfl (Nat.le_of_ble_eq_true rfl) (fun r S1 hp => ?_)
          obtain ⟨rfl, rfl⟩ := hp
          show AW l G mX8_drawn (d + 32) (az_F G Post) 0 0 34 [some (.ref 60), some (.int (nI n1)), some (.int x2), some (.int (nI i9)), none] [.int (zdraw (zdwn i9 (xN σ)) 4), .ref 60] (sh, (mput sg 60 (zseed (zdwn i9 (xN σ)))), la)
          refine B_putI dX8_drawn_34 fwX8_41 (hM 0 _ rfl) rfl ?_
          refine B_sg (show _ = (mput sg 60 (sFall (zseed (zdwn i9 (xN σ))) (zdraw (zdwn i9 (xN σ)) 4))) from mw_10 _ _ _ _) ?_
          show AW l G mX8_drawn (d + 32) (az_F G Post) 0 0 37 [some (.ref 60), some (.int (nI n1)), some (.int x2), some (.int (nI i9)), none] [] (sh, (mput sg 60 (zdw1 (zdwn i9 (xN σ)))), la)
          refine A_aload_n dX8_drawn_37 rfl rfl ?_
          refine A_aload_n dX8_drawn_38 rfl rfl ?_
          refine B_getV (cPp (zdw1 (zdwn i9 (xN σ)))) dX8_drawn_39 flX8_88 (hM 0 _ rfl) rfl (mr_14 _ _ _) ?_
          refine A_iconst (v := 1) dX8_drawn_42 (by decide) ?_
          refine A_iadd dX8_drawn_43 ?_
          refine B_top (show cPp (zdw1 (zdwn i9 (xN σ))) + 1 = cPp (zdwn i9 (xN σ)) + 1 by rw [cPp_dw1]) ?_
          refine A_callV (n := 0) dX8_drawn_44 kvX8_drawBelow mlX8_352 rfl (az_rc_obj clX8 (hM 0 _ rfl)) (r_drawBelow l G (d + 31) sh sg la kp tr (zdw1 (zdwn i9 (xN σ))) (cPp (zdwn i9 (xN σ)) + 1) hM hpos) (by omega) (Nat.le_refl _) (Nat.le_refl _) rfl (Nat.le_of_ble_eq_true rfl) (fun r S1 hp => ?_)
          obtain ⟨rfl, rfl⟩ := hp
          show AW l G mX8_drawn (d + 32) (az_F G Post) 0 0 47 [some (.ref 60), some (.int (nI n1)), some (.int x2), some (.int (nI i9)), none] [.int (zdraw (zdw1 (zdwn i9 (xN σ))) (cPp (zdwn i9 (xN σ)) + 1))] (sh, (mput sg 60 (zseed (zdw1 (zdwn i9 (xN σ))))), la)
          obtain ⟨r9, hr9, er9⟩ := dw_rng hWi
          refine B_top er9 ?_
          have hcN : cN (zseed (zdw1 (zdwn i9 (xN σ)))) = cN (zdwn i9 (xN σ)) := by rw [cN_seed, cN_dw1]
          have h8i := hWi.1.1.2
          refine A_istore (lo2 := [some (.ref 60), some (.int (nI n1)), some (.int x2), some (.int (nI i9)), some (.int (nI r9))]) dX8_drawn_47 (by decide) rfl ?_
          refine A_iload dX8_drawn_49 rfl ?_
          refine A_aload_n dX8_drawn_51 rfl rfl ?_
          refine B_getV (nI (cN (zdwn i9 (xN σ)))) dX8_drawn_52 flX8_88 (hM 0 _ rfl) rfl ((mr_14 _ _ _).trans ((cW_seed (cW_dw1 hWi)).1.1.1.trans (congrArg nI hcN))) ?_
          refine A_icmp_ge (tgt := 77) dX8_drawn_55 rfl (fun h_4 => ?_) (fun h_4 => ?_)
          · skip
            refine B_sg (show _ = mput sg 60 (zdw (zdwn i9 (xN σ))) from congrArg (mput sg 60) (by unfold zdw; rw [er9, nI_clamp (by omega), if_neg (fun q => absurd h_4 (nI_ge q (by omega)))])) ?_
            refine A_iload_n dX8_drawn_77 rfl rfl ?_
            refine A_aload_n dX8_drawn_78 rfl rfl ?_
            refine A_callV (n := 0) dX8_drawn_79 kvX8_isSoNow mlX8_244 rfl (az_rc_obj clX8 (hM 0 _ rfl)) (r_isSoNow l G (d + 28) sh sg la kp tr (zdw (zdwn i9 (xN σ))) hM (cW_dw hWi).1.1.1 (cW_lv (cW_dw hWi).1)) (by omega) (Nat.le_refl _) (Nat.le_refl _) rfl (Nat.le_of_ble_eq_true rfl) (fun r S1 hp => ?_)
            obtain ⟨rfl, rfl⟩ := hp
            show AW l G mX8_drawn (d + 32) (az_F G Post) 0 0 82 [some (.ref 60), some (.int (nI n1)), some (.int x2), some (.int (nI i9)), some (.int (nI r9))] [.int (b2i (zso (zdw (zdwn i9 (xN σ))) = true)), .int x2] (sh, (mput sg 60 (zdw (zdwn i9 (xN σ)))), la)
            refine A_if_eq (tgt := 89) dX8_drawn_82 rfl (fun h_5 => ?_) (fun h_5 => ?_)
            · skip
              have h_5' := b2i_0.mp h_5
              refine A_iconst (v := 0) dX8_drawn_89 (by decide) ?_
              refine A_iadd dX8_drawn_90 ?_
              refine A_istore_n (lo2 := [some (.ref 60), some (.int (nI n1)), some (.int (x2 + 0)), some (.int (nI i9)), some (.int (nI r9))]) dX8_drawn_91 rfl (by decide) rfl ?_
              refine A_aload_n dX8_drawn_92 rfl rfl ?_
              refine A_callV (n := 0) dX8_drawn_93 kvX8_passes mlX8_348 rfl (az_rc_obj clX8 (hM 0 _ rfl)) (r_passes l G (d + 27) sh sg la kp tr (zdw (zdwn i9 (xN σ))) hM (cW_dw hWi).1.1.1 (cW_lv (cW_dw hWi).1) (cW_dw hWi).1.2.2.2.2) (by omega) (Nat.le_refl _) (Nat.le_refl _) rfl (Nat.le_of_ble_eq_true rfl) (fun r S1 hp => ?_)
              obtain ⟨rfl, rfl⟩ := hp
              show AW l G mX8_drawn (d + 32) (az_F G Post) 0 0 96 [some (.ref 60), some (.int (nI n1)), some (.int (x2 + 0)), some (.int (nI i9)), some (.int (nI r9))] [] (sh, (mput sg 60 (zpass (zdw (zdwn i9 (xN σ))))), la)
              refine A_iinc (v := nI (i9 + 1)) (lo2 := [some (.ref 60), some (.int (nI n1)), some (.int (x2 + 0)), some (.int (nI (i9 + 1))), some (.int (nI r9))]) dX8_drawn_96 rfl (nI_1 i9) (by decide) rfl ?_
              refine A_goto (tgt := 23) dX8_drawn_99 rfl ?_
              refine A_forget (lo2 := [some (.ref 60), some (.int (nI n1)), some (.int (x2 + 0)), some (.int (nI (i9 + 1))), none]) ⟨rfl, rfl, rfl, rfl, trivial⟩ ?_
              refine ih (i9 + 1) _ (by omega) ?_
              · skip
                rw [e_x2, ← cnt_b2i (fun k => zso (zdw (zdwn k (xN σ)))) i9, b2i, if_neg h_5']
            · skip
              have h_5' := b2i_n.mp h_5
              refine A_iconst (v := 1) dX8_drawn_85 (by decide) ?_
              refine A_goto (tgt := 90) dX8_drawn_86 rfl ?_
              refine A_iadd dX8_drawn_90 ?_
              refine A_istore_n (lo2 := [some (.ref 60), some (.int (nI n1)), some (.int (x2 + 1)), some (.int (nI i9)), some (.int (nI r9))]) dX8_drawn_91 rfl (by decide) rfl ?_
              refine A_aload_n dX8_drawn_92 rfl rfl ?_
              refine A_callV (n := 0) dX8_drawn_93 kvX8_passes mlX8_348 rfl (az_rc_obj clX8 (hM 0 _ rfl)) (r_passes l G (d + 27) sh sg la kp tr (zdw (zdwn i9 (xN σ))) hM (cW_dw hWi).1.1.1 (cW_lv (cW_dw hWi).1) (cW_dw hWi).1.2.2.2.2) (by omega) (Nat.le_refl _) (Nat.le_refl _) rfl (Nat.le_of_ble_eq_true rfl) (fun r S1 hp => ?_)
              obtain ⟨rfl, rfl⟩ := hp
              show AW l G mX8_drawn (d + 32) (az_F G Post) 0 0 96 [some (.ref 60), some (.int (nI n1)), some (.int (x2 + 1)), some (.int (nI i9)), some (.int (nI r9))] [] (sh, (mput sg 60 (zpass (zdw (zdwn i9 (xN σ))))), la)
              refine A_iinc (v := nI (i9 + 1)) (lo2 := [some (.ref 60), some (.int (nI n1)), some (.int (x2 + 1)), some (.int (nI (i9 + 1))), some (.int (nI r9))]) dX8_drawn_96 rfl (nI_1 i9) (by decide) rfl ?_
              refine A_goto (tgt := 23) dX8_drawn_99 rfl ?_
              refine A_forget (lo2 := [some (.ref 60), some (.int (nI n1)), some (.int (x2 + 1)), some (.int (nI (i9 + 1))), none]) ⟨rfl, rfl, rfl, rfl, trivial⟩ ?_
              refine ih (i9 + 1) _ (by omega) ?_
              · skip
                rw [e_x2, ← cnt_b2i (fun k => zso (zdw (zdwn k (xN σ)))) i9, b2i, if_pos h_5']
          · skip
            refine A_aload_n dX8_drawn_58 rfl rfl ?_
            refine B_getR (r := 81) dX8_drawn_59 flX8_62 (hM 0 _ rfl) rfl ?_
            refine A_iload dX8_drawn_62 rfl ?_
            refine A_aload_n dX8_drawn_64 rfl rfl ?_
            refine B_getR (r := 81) dX8_drawn_65 flX8_62 (hM 0 _ rfl) rfl ?_
            refine A_iload dX8_drawn_68 rfl ?_
            refine B_ialdV (i := r9) (cFe (zseed (zdw1 (zdwn i9 (xN σ)))) r9) dX8_drawn_70 (hM 21 _ rfl) (by decide) (rfl) (by have := (nI_ltI (by omega) (by omega)).mp (Int32.not_le.mp h_4); omega) (me_21 _ _ _ _) ?_
            refine A_iconst (v := 1) dX8_drawn_71 (by decide) ?_
            refine A_iadd dX8_drawn_72 ?_
            refine A_callS (n := 0) dX8_drawn_73 ksX8_full mlX8_279 rfl (c_X8_full l G (d + 31) sh (mput sg 60 (zseed (zdw1 (zdwn i9 (xN σ))))) la (cFe (zseed (zdw1 (zdwn i9 (xN σ)))) r9 + 1)) (by omega) (Nat.le_refl _) (Nat.le_refl _) rfl (Nat.le_of_ble_eq_true rfl) (fun r S1 hp => ?_)
            obtain ⟨rfl, rfl⟩ := hp
            show AW l G mX8_drawn (d + 32) (az_F G Post) 0 0 76 [some (.ref 60), some (.int (nI n1)), some (.int x2), some (.int (nI i9)), some (.int (nI r9))] [.int (mnI 40 (cFe (zseed (zdw1 (zdwn i9 (xN σ)))) r9 + 1)), .int (nI r9), .ref 81] (sh, (mput sg 60 (zseed (zdw1 (zdwn i9 (xN σ))))), la)
            refine B_iast (i := r9) dX8_drawn_76 (hM 21 _ rfl) (by decide) (rfl) (by have := (nI_ltI (by omega) (by omega)).mp (Int32.not_le.mp h_4); omega) ?_
            refine B_sg (show _ = (mput sg 60 (sFe (zseed (zdw1 (zdwn i9 (xN σ)))) (va_up (cFe (zseed (zdw1 (zdwn i9 (xN σ))))) r9 (mnI 40 (cFe (zseed (zdw1 (zdwn i9 (xN σ)))) r9 + 1))))) from mx_21 _ _ _ _ _) ?_
            refine B_sg (show _ = mput sg 60 (zdw (zdwn i9 (xN σ))) from congrArg (mput sg 60) (by unfold zdw zmore; rw [er9, nI_clamp (by omega), if_pos ((nI_ltI (by omega) (by omega)).mp (Int32.not_le.mp h_4))])) ?_
            refine A_iload_n dX8_drawn_77 rfl rfl ?_
            refine A_aload_n dX8_drawn_78 rfl rfl ?_
            refine A_callV (n := 0) dX8_drawn_79 kvX8_isSoNow mlX8_244 rfl (az_rc_obj clX8 (hM 0 _ rfl)) (r_isSoNow l G (d + 28) sh sg la kp tr (zdw (zdwn i9 (xN σ))) hM (cW_dw hWi).1.1.1 (cW_lv (cW_dw hWi).1)) (by omega) (Nat.le_refl _) (Nat.le_refl _) rfl (Nat.le_of_ble_eq_true rfl) (fun r S1 hp => ?_)
            obtain ⟨rfl, rfl⟩ := hp
            show AW l G mX8_drawn (d + 32) (az_F G Post) 0 0 82 [some (.ref 60), some (.int (nI n1)), some (.int x2), some (.int (nI i9)), some (.int (nI r9))] [.int (b2i (zso (zdw (zdwn i9 (xN σ))) = true)), .int x2] (sh, (mput sg 60 (zdw (zdwn i9 (xN σ)))), la)
            refine A_if_eq (tgt := 89) dX8_drawn_82 rfl (fun h_6 => ?_) (fun h_6 => ?_)
            · skip
              have h_6' := b2i_0.mp h_6
              refine A_iconst (v := 0) dX8_drawn_89 (by decide) ?_
              refine A_iadd dX8_drawn_90 ?_
              refine A_istore_n (lo2 := [some (.ref 60), some (.int (nI n1)), some (.int (x2 + 0)), some (.int (nI i9)), some (.int (nI r9))]) dX8_drawn_91 rfl (by decide) rfl ?_
              refine A_aload_n dX8_drawn_92 rfl rfl ?_
              refine A_callV (n := 0) dX8_drawn_93 kvX8_passes mlX8_348 rfl (az_rc_obj clX8 (hM 0 _ rfl)) (r_passes l G (d + 27) sh sg la kp tr (zdw (zdwn i9 (xN σ))) hM (cW_dw hWi).1.1.1 (cW_lv (cW_dw hWi).1) (cW_dw hWi).1.2.2.2.2) (by omega) (Nat.le_refl _) (Nat.le_refl _) rfl (Nat.le_of_ble_eq_true rfl) (fun r S1 hp => ?_)
              obtain ⟨rfl, rfl⟩ := hp
              show AW l G mX8_drawn (d + 32) (az_F G Post) 0 0 96 [some (.ref 60), some (.int (nI n1)), some (.int (x2 + 0)), some (.int (nI i9)), some (.int (nI r9))] [] (sh, (mput sg 60 (zpass (zdw (zdwn i9 (xN σ))))), la)
              refine A_iinc (v := nI (i9 + 1)) (lo2 := [some (.ref 60), some (.int (nI n1)), some (.int (x2 + 0)), some (.int (nI (i9 + 1))), some (.int (nI r9))]) dX8_drawn_96 rfl (nI_1 i9) (by decide) rfl ?_
              refine A_goto (tgt := 23) dX8_drawn_99 rfl ?_
              refine A_forget (lo2 := [some (.ref 60), some (.int (nI n1)), some (.int (x2 + 0)), some (.int (nI (i9 + 1))), none]) ⟨rfl, rfl, rfl, rfl, trivial⟩ ?_
              refine ih (i9 + 1) _ (by omega) ?_
              · skip
                rw [e_x2, ← cnt_b2i (fun k => zso (zdw (zdwn k (xN σ)))) i9, b2i, if_neg h_6']
            · skip
              have h_6' := b2i_n.mp h_6
              refine A_iconst (v := 1) dX8_drawn_85 (by decide) ?_
              refine A_goto (tgt := 90) dX8_drawn_86 rfl ?_
              refine A_iadd dX8_drawn_90 ?_
              refine A_istore_n (lo2 := [some (.ref 60), some (.int (nI n1)), some (.int (x2 + 1)), some (.int (nI i9)), some (.int (nI r9))]) dX8_drawn_91 rfl (by decide) rfl ?_
              refine A_aload_n dX8_drawn_92 rfl rfl ?_
              refine A_callV (n := 0) dX8_drawn_93 kvX8_passes mlX8_348 rfl (az_rc_obj clX8 (hM 0 _ rfl)) (r_passes l G (d + 27) sh sg la kp tr (zdw (zdwn i9 (xN σ))) hM (cW_dw hWi).1.1.1 (cW_lv (cW_dw hWi).1) (cW_dw hWi).1.2.2.2.2) (by omega) (Nat.le_refl _) (Nat.le_refl _) rfl (Nat.le_of_ble_eq_true rfl) (fun r S1 hp => ?_)
              obtain ⟨rfl, rfl⟩ := hp
              show AW l G mX8_drawn (d + 32) (az_F G Post) 0 0 96 [some (.ref 60), some (.int (nI n1)), some (.int (x2 + 1)), some (.int (nI i9)), some (.int (nI r9))] [] (sh, (mput sg 60 (zpass (zdw (zdwn i9 (xN σ))))), la)
              refine A_iinc (v := nI (i9 + 1)) (lo2 := [some (.ref 60), some (.int (nI n1)), some (.int (x2 + 1)), some (.int (nI (i9 + 1))), some (.int (nI r9))]) dX8_drawn_96 rfl (nI_1 i9) (by decide) rfl ?_
              refine A_goto (tgt := 23) dX8_drawn_99 rfl ?_
              refine A_forget (lo2 := [some (.ref 60), some (.int (nI n1)), some (.int (x2 + 1)), some (.int (nI (i9 + 1))), none]) ⟨rfl, rfl, rfl, rfl, trivial⟩ ?_
              refine ih (i9 + 1) _ (by omega) ?_
              · skip
                rw [e_x2, ← cnt_b2i (fun k => zso (zdw (zdwn k (xN σ)))) i9, b2i, if_pos h_6']
    exact loop (n1) 0 _ (by omega) (rfl)
  · skip
    have h_1' := b2i_0.mp h_1
    refine A_aload_n dX8_drawn_12 rfl rfl ?_
    refine A_bipush (v := (-2)) dX8_drawn_13 (by decide) ?_
    refine A_callV (n := 0) dX8_drawn_15 kvX8_refuse mlX8_101 rfl (az_rc_obj clX8 (hM 0 _ rfl)) (c_X8_refuse l G (d + 31) sh (mput sg 60 (xN σ)) la kp tr (-2) 0 hM (by decide) (by decide)) (by omega) (Nat.le_refl _) (Nat.le_refl _) rfl (Nat.le_of_ble_eq_true rfl) (fun r S1 hp => ?_)
    obtain ⟨rfl, rfl⟩ := hp
    show AW l G mX8_drawn (d + 32) (az_F G Post) 0 0 18 [some (.ref 60), some (.int n), none, none, none] [.int (-2)] (sh, (az_w (mput sg 60 (xN σ)) 76 (0 + 2) ((mput sg 60 (xN σ)) 76 (0 + 2) + 1)), la)
    have hq : (q_drawn σ n) = ((-2), (rfs σ 0)) := by
      unfold q_drawn
      rw [if_neg (fun q => h_1' (in_1' q))]
      first | done | rfl
    exact A_iret dX8_drawn_18 rfl (hP _ _ (RQ_i hq ((hR.fin0 (sC.rf sg)).ref (k := 0) (by decide))))
