set_option maxHeartbeats 1000000 in
set_option maxRecDepth 100000 in
theorem x_days (l : Launch) (G : az_Gh) (d : Nat) (sh : List az_Sh) (sg : Nat → Nat → Int32) (la : Nat → Nat → Int64) (g : GGM) (σ : SGM) (n : Int32) (hX : az_at sh 0 lyX) (hK : KX g sg la σ) : AM l G (d + 32) mX7_days [.ref 0, .int n] (sh, sg, la) 0 0 (XQ sh g (.int (q_days σ n).1) (q_days σ n).2) := by
  refine az_am knX7_days (Nat.le_of_ble_eq_true rfl) rfl (fun Post hP => ?_)
  show AW l G mX7_days (d + 32) (az_F G Post) 0 0 0 [some (.ref 0), some (.int n), none] [] (sh, sg, la)
  have hC := lyX_now hX
  have h8N := hK.ok.2
  refine B_sg hK.z1.symm ?_
  refine A_iload_n dX7_days_0 rfl rfl ?_
  refine A_iconst (v := 1) dX7_days_1 (by decide) ?_
  refine A_icmp_lt (tgt := 11) dX7_days_2 rfl (fun h_1 => ?_) (fun h_1 => ?_)
  · skip
    refine A_aload_n dX7_days_11 rfl rfl ?_
    refine A_bipush (v := (-2)) dX7_days_12 (by decide) ?_
    refine A_callV (n := 0) dX7_days_14 kvX7_refuse mlX7_77 rfl (az_rc_obj clX7 (hX 0 _ rfl)) (c_X7_refuse l G (d + 30) sh (zput sg 1 (xN σ)) la (-2) 0 hX (by decide) (by decide)) (by omega) (Nat.le_refl _) (Nat.le_refl _) rfl (Nat.le_of_ble_eq_true rfl) (fun r S1 hp => ?_)
    obtain ⟨rfl, rfl⟩ := hp
    show AW l G mX7_days (d + 32) (az_F G Post) 0 0 17 [some (.ref 0), some (.int n), none] [.int (-2)] (sh, (az_w (zput sg 1 (xN σ)) 43 0 ((zput sg 1 (xN σ)) 43 0 + 1)), la)
    have hq : (q_days σ n) = ((-2), (rfs σ 0)) := by
      unfold q_days
      rw [if_neg (fun q => Int32.not_lt.mpr q.1 h_1)]
      first | done | rfl
    exact A_iret dX7_days_17 rfl (hP _ _ (XQ_i hq (hK.on1.ref (by decide))))
  · skip
    refine A_iload_n dX7_days_5 rfl rfl ?_
    refine A_bipush (v := 60) dX7_days_6 (by decide) ?_
    refine A_icmp_le (tgt := 18) dX7_days_8 rfl (fun h_2 => ?_) (fun h_2 => ?_)
    · skip
      have hnn : 1 ≤ n ∧ n ≤ 60 := ⟨Int32.not_lt.mp h_1, h_2⟩
      obtain ⟨n1, hn1, rfl⟩ := nI_ex (m := 60) ⟨Int32.le_trans (by decide) hnn.1, hnn.2⟩
      have hc_n1 : (nI n1).toNatClampNeg = n1 := nI_clamp (by omega)
      refine A_iconst (v := 0) dX7_days_18 (by decide) ?_
      refine A_istore_n (lo2 := [some (.ref 0), some (.int (nI n1)), some (.int 0)]) dX7_days_19 rfl (by decide) rfl ?_
      show AW l G mX7_days (d + 32) (az_F G Post) 0 0 20 [some (.ref 0), some (.int (nI n1)), some (.int 0)] [] (sh, zput sg 1 (zpn2 0 (xN σ)), la)
      have loop : ∀ (q_i9 i9 : Nat), i9 + q_i9 = n1 → AW l G mX7_days (d + 32) (az_F G Post) 0 0 20 [some (.ref 0), some (.int (nI n1)), some (.int (nI i9))] [] (sh, (zput sg 1 (zpn2 i9 (xN σ))), la) := by
        intro q_i9
        induction q_i9 with
        | zero =>
          intro i9  hi_i9  
          have hN_i9 : i9 = n1 := by omega
          subst i9
          refine A_iload_n dX7_days_20 rfl rfl ?_
          refine A_iload_n dX7_days_21 rfl rfl ?_
          refine A_icmp_ge (tgt := 38) dX7_days_22 rfl (fun h_3 => ?_) (fun h_3 => ?_)
          · skip
            refine A_aload_n dX7_days_38 rfl rfl ?_
            refine B_getR (r := 1) dX7_days_39 flX7_10 (hX 0 _ rfl) rfl ?_
            refine B_getV (cWin (zpn2 n1 (xN σ))) dX7_days_42 flX7_174 (hX 1 _ rfl) rfl (zr_9 _ _ _) ?_
            have hq : (q_days σ (nI n1)) = (cWin (zpn2 n1 (xN σ)), (yN σ (zpn2 n1 (xN σ)))) := by
              unfold q_days
              rw [if_pos hnn, hc_n1]
              first | done | rfl
            exact A_iret dX7_days_45 rfl (hP _ _ (XQ_i hq (hK.setN (WF_N hK.wf (cW_pn2 hK.cw n1).1 (Nat.le_of_eq (cW_pn2 hK.cw n1).2.symm)))))
          · skip
            exact absurd (Int32.le_refl _) h_3
        | succ q_i9 ih =>
          intro i9  hi_i9  
          refine A_iload_n dX7_days_20 rfl rfl ?_
          refine A_iload_n dX7_days_21 rfl rfl ?_
          refine A_icmp_ge (tgt := 38) dX7_days_22 rfl (fun h_4 => ?_) (fun h_4 => ?_)
          · skip
            exact absurd h_4 (nI_ge (by omega) (by omega))
          · skip
            refine A_aload_n dX7_days_25 rfl rfl ?_
            refine B_getR (r := 1) dX7_days_26 flX7_10 (hX 0 _ rfl) rfl ?_
            refine A_callV (n := 0) dX7_days_29 kvX2_passDay mlX7_323 rfl (az_rc_obj clX2 (hX 1 _ rfl)) (z_X2_passDay l G (d + 27) sh sg la 1 (zpn2 i9 (xN σ)) hC ((cW_pn2 hK.cw i9).1).1) (by omega) (Nat.le_refl _) (Nat.le_refl _) rfl (Nat.le_of_ble_eq_true rfl) (fun r S1 hp => ?_)
            obtain ⟨rfl, rfl⟩ := hp
            show AW l G mX7_days (d + 32) (az_F G Post) 0 0 32 [some (.ref 0), some (.int (nI n1)), some (.int (nI i9))] [] (sh, (zput sg 1 (zpass (zpn2 i9 (xN σ)))), la)
            refine A_iinc (v := nI (i9 + 1)) (lo2 := [some (.ref 0), some (.int (nI n1)), some (.int (nI (i9 + 1)))]) dX7_days_32 rfl (nI_1 i9) (by decide) rfl ?_
            refine A_goto (tgt := 20) dX7_days_35 rfl ?_
            refine ih (i9 + 1) (by omega)
      exact loop (n1) 0 (by omega)
    · skip
      refine A_aload_n dX7_days_11 rfl rfl ?_
      refine A_bipush (v := (-2)) dX7_days_12 (by decide) ?_
      refine A_callV (n := 0) dX7_days_14 kvX7_refuse mlX7_77 rfl (az_rc_obj clX7 (hX 0 _ rfl)) (c_X7_refuse l G (d + 30) sh (zput sg 1 (xN σ)) la (-2) 0 hX (by decide) (by decide)) (by omega) (Nat.le_refl _) (Nat.le_refl _) rfl (Nat.le_of_ble_eq_true rfl) (fun r S1 hp => ?_)
      obtain ⟨rfl, rfl⟩ := hp
      show AW l G mX7_days (d + 32) (az_F G Post) 0 0 17 [some (.ref 0), some (.int n), none] [.int (-2)] (sh, (az_w (zput sg 1 (xN σ)) 43 0 ((zput sg 1 (xN σ)) 43 0 + 1)), la)
      have hq : (q_days σ n) = ((-2), (rfs σ 0)) := by
        unfold q_days
        rw [if_neg (fun q => h_2 q.2)]
        first | done | rfl
      exact A_iret dX7_days_17 rfl (hP _ _ (XQ_i hq (hK.on1.ref (by decide))))
set_option maxHeartbeats 1000000 in
set_option maxRecDepth 100000 in
theorem x_drawn (l : Launch) (G : az_Gh) (d : Nat) (sh : List az_Sh) (sg : Nat → Nat → Int32) (la : Nat → Nat → Int64) (g : GGM) (σ : SGM) (n : Int32) (hX : az_at sh 0 lyX) (hK : KX g sg la σ) : AM l G (d + 32) mX7_drawn [.ref 0, .int n] (sh, sg, la) 0 0 (XQ sh g (.int (q_drawn σ n).1) (q_drawn σ n).2) := by
  refine az_am knX7_drawn (Nat.le_of_ble_eq_true rfl) rfl (fun Post hP => ?_)
  show AW l G mX7_drawn (d + 32) (az_F G Post) 0 0 0 [some (.ref 0), some (.int n), none, none] [] (sh, sg, la)
  have hC := lyX_now hX
  have h8N := hK.ok.2
  refine B_sg hK.z1.symm ?_
  refine A_iload_n dX7_drawn_0 rfl rfl ?_
  refine A_iconst (v := 1) dX7_drawn_1 (by decide) ?_
  refine A_icmp_lt (tgt := 11) dX7_drawn_2 rfl (fun h_1 => ?_) (fun h_1 => ?_)
  · skip
    refine A_aload_n dX7_drawn_11 rfl rfl ?_
    refine A_bipush (v := (-2)) dX7_drawn_12 (by decide) ?_
    refine A_callV (n := 0) dX7_drawn_14 kvX7_refuse mlX7_77 rfl (az_rc_obj clX7 (hX 0 _ rfl)) (c_X7_refuse l G (d + 30) sh (zput sg 1 (xN σ)) la (-2) 0 hX (by decide) (by decide)) (by omega) (Nat.le_refl _) (Nat.le_refl _) rfl (Nat.le_of_ble_eq_true rfl) (fun r S1 hp => ?_)
    obtain ⟨rfl, rfl⟩ := hp
    show AW l G mX7_drawn (d + 32) (az_F G Post) 0 0 17 [some (.ref 0), some (.int n), none, none] [.int (-2)] (sh, (az_w (zput sg 1 (xN σ)) 43 0 ((zput sg 1 (xN σ)) 43 0 + 1)), la)
    have hq : (q_drawn σ n) = ((-2), (rfs σ 0)) := by
      unfold q_drawn
      rw [if_neg (fun q => Int32.not_lt.mpr q.1 h_1)]
      first | done | rfl
    exact A_iret dX7_drawn_17 rfl (hP _ _ (XQ_i hq (hK.on1.ref (by decide))))
  · skip
    refine A_iload_n dX7_drawn_5 rfl rfl ?_
    refine A_bipush (v := 60) dX7_drawn_6 (by decide) ?_
    refine A_icmp_le (tgt := 18) dX7_drawn_8 rfl (fun h_2 => ?_) (fun h_2 => ?_)
    · skip
      have hnn : 1 ≤ n ∧ n ≤ 60 := ⟨Int32.not_lt.mp h_1, h_2⟩
      obtain ⟨n1, hn1, rfl⟩ := nI_ex (m := 60) ⟨Int32.le_trans (by decide) hnn.1, hnn.2⟩
      have hc_n1 : (nI n1).toNatClampNeg = n1 := nI_clamp (by omega)
      refine A_iconst (v := 0) dX7_drawn_18 (by decide) ?_
      refine A_istore_n (lo2 := [some (.ref 0), some (.int (nI n1)), some (.int 0), none]) dX7_drawn_19 rfl (by decide) rfl ?_
      refine A_iconst (v := 0) dX7_drawn_20 (by decide) ?_
      refine A_istore_n (lo2 := [some (.ref 0), some (.int (nI n1)), some (.int 0), some (.int 0)]) dX7_drawn_21 rfl (by decide) rfl ?_
      show AW l G mX7_drawn (d + 32) (az_F G Post) 0 0 22 [some (.ref 0), some (.int (nI n1)), some (.int 0), some (.int 0)] [] (sh, zput sg 1 (zdwn 0 (xN σ)), la)
      have loop : ∀ (q_i9 i9 : Nat) (x2 : Int32), i9 + q_i9 = n1 → x2 = nI (fa_cnt (fun k => zso (zdw (zdwn k (xN σ)))) i9) → AW l G mX7_drawn (d + 32) (az_F G Post) 0 0 22 [some (.ref 0), some (.int (nI n1)), some (.int x2), some (.int (nI i9))] [] (sh, (zput sg 1 (zdwn i9 (xN σ))), la) := by
        intro q_i9
        induction q_i9 with
        | zero =>
          intro i9 x2 hi_i9  e_x2
          have hN_i9 : i9 = n1 := by omega
          subst i9
          refine A_iload_n dX7_drawn_22 rfl rfl ?_
          refine A_iload_n dX7_drawn_23 rfl rfl ?_
          refine A_icmp_ge (tgt := 92) dX7_drawn_24 rfl (fun h_3 => ?_) (fun h_3 => ?_)
          · skip
            refine A_iload_n dX7_drawn_92 rfl rfl ?_
            have hq : (q_drawn σ (nI n1)) = (x2, (yN σ (zdwn n1 (xN σ)))) := by
              unfold q_drawn
              rw [if_pos hnn, hc_n1, e_x2]
            exact A_iret dX7_drawn_93 rfl (hP _ _ (XQ_i hq (hK.setN (WF_N hK.wf (cW_dwn hK.cw n1).1 (Nat.le_of_eq (cW_dwn hK.cw n1).2.symm)))))
          · skip
            exact absurd (Int32.le_refl _) h_3
        | succ q_i9 ih =>
          intro i9 x2 hi_i9  e_x2
          have hW := (cW_dwn hK.cw i9).1
          have hpos : 0 < cPp (zdwn i9 (xN σ)) + 1 := by rw [hW.1.1.1, nI_1]; exact nI_lt (a := 0) (by omega) (by have := hW.1.1.2; omega)
          refine A_iload_n dX7_drawn_22 rfl rfl ?_
          refine A_iload_n dX7_drawn_23 rfl rfl ?_
          refine A_icmp_ge (tgt := 92) dX7_drawn_24 rfl (fun h_4 => ?_) (fun h_4 => ?_)
          · skip
            exact absurd h_4 (nI_ge (by omega) (by omega))
          · skip
            refine A_aload_n dX7_drawn_27 rfl rfl ?_
            refine B_getR (r := 1) dX7_drawn_28 flX7_10 (hX 0 _ rfl) rfl ?_
            refine A_aload_n dX7_drawn_31 rfl rfl ?_
            refine B_getR (r := 1) dX7_drawn_32 flX7_10 (hX 0 _ rfl) rfl ?_
            refine A_iconst (v := 4) dX7_drawn_35 (by decide) ?_
            refine A_callV (n := 0) dX7_drawn_36 kvX2_drawBelow mlX7_326 rfl (az_rc_obj clX2 (hX 1 _ rfl)) (z_X2_drawBelow l G (d + 31) sh sg la 1 (zdwn i9 (xN σ)) 4 hC (by decide)) (by omega) (Nat.le_refl _) (Nat.le_refl _) rfl (Nat.le_of_ble_eq_true rfl) (fun r S1 hp => ?_)
            obtain ⟨rfl, rfl⟩ := hp
            show AW l G mX7_drawn (d + 32) (az_F G Post) 0 0 39 [some (.ref 0), some (.int (nI n1)), some (.int x2), some (.int (nI i9))] [.int (zdraw (zdwn i9 (xN σ)) 4), .ref 1] (sh, (zput sg 1 (zseed (zdwn i9 (xN σ)))), la)
            refine B_putI dX7_drawn_39 fwX7_298 (hX 1 _ rfl) rfl ?_
            refine B_sg (show _ = (zput sg 1 (sFall (zseed (zdwn i9 (xN σ))) (zdraw (zdwn i9 (xN σ)) 4))) from zw_7 _ _ _ _) ?_
            show AW l G mX7_drawn (d + 32) (az_F G Post) 0 0 42 [some (.ref 0), some (.int (nI n1)), some (.int x2), some (.int (nI i9))] [] (sh, (zput sg 1 (zdw1 (zdwn i9 (xN σ)))), la)
            refine A_aload_n dX7_drawn_42 rfl rfl ?_
            refine B_getR (r := 1) dX7_drawn_43 flX7_10 (hX 0 _ rfl) rfl ?_
            refine A_aload_n dX7_drawn_46 rfl rfl ?_
            refine B_getR (r := 1) dX7_drawn_47 flX7_10 (hX 0 _ rfl) rfl ?_
            refine A_aload_n dX7_drawn_50 rfl rfl ?_
            refine B_getR (r := 1) dX7_drawn_51 flX7_10 (hX 0 _ rfl) rfl ?_
            refine B_getV (cPp (zdw1 (zdwn i9 (xN σ)))) dX7_drawn_54 flX7_213 (hX 1 _ rfl) rfl (zr_5 _ _ _) ?_
            refine A_iconst (v := 1) dX7_drawn_57 (by decide) ?_
            refine A_iadd dX7_drawn_58 ?_
            refine B_top (show cPp (zdw1 (zdwn i9 (xN σ))) + 1 = cPp (zdwn i9 (xN σ)) + 1 by rw [cPp_dw1]) ?_
            refine A_callV (n := 0) dX7_drawn_59 kvX2_drawBelow mlX7_326 rfl (az_rc_obj clX2 (hX 1 _ rfl)) (z_X2_drawBelow l G (d + 31) sh sg la 1 (zdw1 (zdwn i9 (xN σ))) (cPp (zdwn i9 (xN σ)) + 1) hC hpos) (by omega) (Nat.le_refl _) (Nat.le_refl _) rfl (Nat.le_of_ble_eq_true rfl) (fun r S1 hp => ?_)
            obtain ⟨rfl, rfl⟩ := hp
            show AW l G mX7_drawn (d + 32) (az_F G Post) 0 0 62 [some (.ref 0), some (.int (nI n1)), some (.int x2), some (.int (nI i9))] [.int (zdraw (zdw1 (zdwn i9 (xN σ))) (cPp (zdwn i9 (xN σ)) + 1)), .ref 1] (sh, (zput sg 1 (zseed (zdw1 (zdwn i9 (xN σ))))), la)
            refine A_iconst (v := 1) dX7_drawn_62 (by decide) ?_
            refine A_callV (n := 0) dX7_drawn_63 kvX2_feedMore mlX7_329 rfl (az_rc_obj clX2 (hX 1 _ rfl)) (kx_feedDraw l G (d + 30) sh sg la (zdwn i9 (xN σ)) hC hW) (by omega) (Nat.le_refl _) (Nat.le_refl _) rfl (Nat.le_of_ble_eq_true rfl) (fun r S1 hp => ?_)
            obtain ⟨rfl, rfl⟩ := hp
            show AW l G mX7_drawn (d + 32) (az_F G Post) 0 0 66 [some (.ref 0), some (.int (nI n1)), some (.int x2), some (.int (nI i9))] [] (sh, (zput sg 1 (zdw (zdwn i9 (xN σ)))), la)
            refine A_iload_n dX7_drawn_66 rfl rfl ?_
            refine A_aload_n dX7_drawn_67 rfl rfl ?_
            refine B_getR (r := 1) dX7_drawn_68 flX7_10 (hX 0 _ rfl) rfl ?_
            refine A_callV (n := 0) dX7_drawn_71 kvX2_standsSo mlX7_216 rfl (az_rc_obj clX2 (hX 1 _ rfl)) (z_X2_standsSo l G (d + 28) sh sg la 1 (zdw (zdwn i9 (xN σ))) hC ((cW_dw hW).1).1) (by omega) (Nat.le_refl _) (Nat.le_refl _) rfl (Nat.le_of_ble_eq_true rfl) (fun r S1 hp => ?_)
            obtain ⟨rfl, rfl⟩ := hp
            show AW l G mX7_drawn (d + 32) (az_F G Post) 0 0 74 [some (.ref 0), some (.int (nI n1)), some (.int x2), some (.int (nI i9))] [.int (b2i (zso (zdw (zdwn i9 (xN σ))) = true)), .int x2] (sh, (zput sg 1 (zdw (zdwn i9 (xN σ)))), la)
            refine A_callS (n := 0) dX7_drawn_74 ksX7_asNumber mlX7_177 rfl (c_X7_asNumber l G (d + 31) sh (zput sg 1 (zdw (zdwn i9 (xN σ)))) la (zso (zdw (zdwn i9 (xN σ))) = true)) (by omega) (Nat.le_refl _) (Nat.le_refl _) rfl (Nat.le_of_ble_eq_true rfl) (fun r S1 hp => ?_)
            obtain ⟨rfl, rfl⟩ := hp
            show AW l G mX7_drawn (d + 32) (az_F G Post) 0 0 77 [some (.ref 0), some (.int (nI n1)), some (.int x2), some (.int (nI i9))] [.int (b2i (zso (zdw (zdwn i9 (xN σ))) = true)), .int x2] (sh, (zput sg 1 (zdw (zdwn i9 (xN σ)))), la)
            refine A_iadd dX7_drawn_77 ?_
            refine A_istore_n (lo2 := [some (.ref 0), some (.int (nI n1)), some (.int (x2 + b2i (zso (zdw (zdwn i9 (xN σ))) = true))), some (.int (nI i9))]) dX7_drawn_78 rfl (by decide) rfl ?_
            refine A_aload_n dX7_drawn_79 rfl rfl ?_
            refine B_getR (r := 1) dX7_drawn_80 flX7_10 (hX 0 _ rfl) rfl ?_
            refine A_callV (n := 0) dX7_drawn_83 kvX2_passDay mlX7_323 rfl (az_rc_obj clX2 (hX 1 _ rfl)) (z_X2_passDay l G (d + 27) sh sg la 1 (zdw (zdwn i9 (xN σ))) hC ((cW_dw hW).1).1) (by omega) (Nat.le_refl _) (Nat.le_refl _) rfl (Nat.le_of_ble_eq_true rfl) (fun r S1 hp => ?_)
            obtain ⟨rfl, rfl⟩ := hp
            show AW l G mX7_drawn (d + 32) (az_F G Post) 0 0 86 [some (.ref 0), some (.int (nI n1)), some (.int (x2 + b2i (zso (zdw (zdwn i9 (xN σ))) = true))), some (.int (nI i9))] [] (sh, (zput sg 1 (zpass (zdw (zdwn i9 (xN σ))))), la)
            refine A_iinc (v := nI (i9 + 1)) (lo2 := [some (.ref 0), some (.int (nI n1)), some (.int (x2 + b2i (zso (zdw (zdwn i9 (xN σ))) = true))), some (.int (nI (i9 + 1)))]) dX7_drawn_86 rfl (nI_1 i9) (by decide) rfl ?_
            refine A_goto (tgt := 22) dX7_drawn_89 rfl ?_
            refine ih (i9 + 1) _ (by omega) ?_
            · skip
              rw [e_x2]; exact cnt_b2i (fun k => zso (zdw (zdwn k (xN σ)))) i9
      exact loop (n1) 0 _ (by omega) (rfl)
    · skip
      refine A_aload_n dX7_drawn_11 rfl rfl ?_
      refine A_bipush (v := (-2)) dX7_drawn_12 (by decide) ?_
      refine A_callV (n := 0) dX7_drawn_14 kvX7_refuse mlX7_77 rfl (az_rc_obj clX7 (hX 0 _ rfl)) (c_X7_refuse l G (d + 30) sh (zput sg 1 (xN σ)) la (-2) 0 hX (by decide) (by decide)) (by omega) (Nat.le_refl _) (Nat.le_refl _) rfl (Nat.le_of_ble_eq_true rfl) (fun r S1 hp => ?_)
      obtain ⟨rfl, rfl⟩ := hp
      show AW l G mX7_drawn (d + 32) (az_F G Post) 0 0 17 [some (.ref 0), some (.int n), none, none] [.int (-2)] (sh, (az_w (zput sg 1 (xN σ)) 43 0 ((zput sg 1 (xN σ)) 43 0 + 1)), la)
      have hq : (q_drawn σ n) = ((-2), (rfs σ 0)) := by
        unfold q_drawn
        rw [if_neg (fun q => h_2 q.2)]
        first | done | rfl
      exact A_iret dX7_drawn_17 rfl (hP _ _ (XQ_i hq (hK.on1.ref (by decide))))
set_option maxHeartbeats 1000000 in
set_option maxRecDepth 100000 in
theorem x_image (l : Launch) (G : az_Gh) (d : Nat) (sh : List az_Sh) (sg : Nat → Nat → Int32) (la : Nat → Nat → Int64) (g : GGM) (σ : SGM)  (hX : az_at sh 0 lyX) (hK : KX g sg la σ) : AM l G (d + 32) mX7_image [.ref 0] (sh, sg, la) 0 0 (XQ sh g (.int (q_image σ).1) (q_image σ).2) := by
  refine az_am knX7_image (Nat.le_of_ble_eq_true rfl) rfl (fun Post hP => ?_)
  show AW l G mX7_image (d + 32) (az_F G Post) 0 0 0 [some (.ref 0)] [] (sh, sg, la)
  have hC := lyX_now hX
  have h8N := hK.ok.2
  refine A_aload_n dX7_image_0 rfl rfl ?_
  refine B_getR (r := 7) dX7_image_1 flX7_16 (hX 0 _ rfl) rfl ?_
  refine A_aload_n dX7_image_4 rfl rfl ?_
  refine B_getR (r := 1) dX7_image_5 flX7_10 (hX 0 _ rfl) rfl ?_
  refine B_sg (zput_self sg 7).symm ?_
  refine A_callV (n := 0) dX7_image_8 kvX2_load mlX7_197 rfl (az_rc_obj clX2 (hX 7 _ rfl)) (z_X2_load l G (d + 29) sh sg la 7 (ct sg 7) 1 (lyX_kept hX) hC (by omega) hK.2.2.1.2.2 (by rw [hK.now]; exact hK.ctl)) (by omega) (Nat.le_refl _) (Nat.le_refl _) rfl (Nat.le_of_ble_eq_true rfl) (fun r S1 hp => ?_)
  obtain ⟨rfl, rfl⟩ := hp
  refine B_sg (congrArg (zput sg 7) hK.now) ?_
  show AW l G mX7_image (d + 32) (az_F G Post) 0 0 11 [some (.ref 0)] [] (sh, (zput sg 7 (xN σ)), la)
  refine A_aload_n dX7_image_11 rfl rfl ?_
  refine A_iconst (v := 1) dX7_image_12 (by decide) ?_
  refine B_putZ dX7_image_13 fwX7_64 (hX 0 _ rfl) rfl rfl rfl ?_
  refine A_iconst (v := 1) dX7_image_16 (by decide) ?_
  have hq : (q_image σ) = (1, (yK σ (xN σ))) := by
    rfl
  exact A_iret dX7_image_17 rfl (hP _ _ (XQ_i hq (hK.setK ⟨hK.wf.1, fun k hk => (Option.some.inj hk) ▸ hK.wf.1, hK.wf.2.2⟩)))
set_option maxHeartbeats 1000000 in
set_option maxRecDepth 100000 in
theorem x_back (l : Launch) (G : az_Gh) (d : Nat) (sh : List az_Sh) (sg : Nat → Nat → Int32) (la : Nat → Nat → Int64) (g : GGM) (σ : SGM)  (hX : az_at sh 0 lyX) (hK : KX g sg la σ) : AM l G (d + 32) mX7_back [.ref 0] (sh, sg, la) 0 0 (XQ sh g (.int (q_back σ).1) (q_back σ).2) := by
  refine az_am knX7_back (Nat.le_of_ble_eq_true rfl) rfl (fun Post hP => ?_)
  show AW l G mX7_back (d + 32) (az_F G Post) 0 0 0 [some (.ref 0), none] [] (sh, sg, la)
  have hC := lyX_now hX
  have h8N := hK.ok.2
  refine A_aload_n dX7_back_0 rfl rfl ?_
  refine B_getV (b2i ((xK σ).isSome = true)) dX7_back_1 flX7_64 (hX 0 _ rfl) rfl (hK.2.2.1.1) ?_
  refine A_if_ne (tgt := 14) dX7_back_4 rfl (fun h_1 => ?_) (fun h_1 => ?_)
  · skip
    have h_1' := b2i_n.mp h_1
    refine A_aload_n dX7_back_14 rfl rfl ?_
    refine B_getR (r := 1) dX7_back_15 flX7_10 (hX 0 _ rfl) rfl ?_
    refine A_aload_n dX7_back_18 rfl rfl ?_
    refine B_getR (r := 7) dX7_back_19 flX7_16 (hX 0 _ rfl) rfl ?_
    obtain ⟨c9, hc9⟩ := Option.isSome_iff_exists.mp h_1'
    have hk9 := hK.2.2.1.2.1 c9 hc9
    have hw9 := hK.wf.2.1 c9 hc9
    refine B_sg hK.z1.symm ?_
    refine A_callV (n := 0) dX7_back_22 kvX2_load mlX7_197 rfl (az_rc_obj clX2 (hX 1 _ rfl)) (z_X2_load l G (d + 29) sh sg la 1 (xN σ) 7 hC (lyX_kept hX) (by omega) hK.ctl (by rw [hk9]; exact hw9.2.1)) (by omega) (Nat.le_refl _) (Nat.le_refl _) rfl (Nat.le_of_ble_eq_true rfl) (fun r S1 hp => ?_)
    obtain ⟨rfl, rfl⟩ := hp
    refine B_sg (congrArg (zput sg 1) hk9) ?_
    show AW l G mX7_back (d + 32) (az_F G Post) 0 0 25 [some (.ref 0), none] [] (sh, (zput sg 1 c9), la)
    refine A_iconst (v := 0) dX7_back_25 (by decide) ?_
    refine A_istore_n (lo2 := [some (.ref 0), some (.int 0)]) dX7_back_26 rfl (by decide) rfl ?_
    have loop : ∀ (q_i9 i9 : Nat) (s9 : Nat → Nat → Int32), i9 + q_i9 = 8 → K0 g s9 la (yS (yN σ c9) (zbk c9 i9 (xS σ))) → AW l G mX7_back (d + 32) (az_F G Post) 0 0 27 [some (.ref 0), some (.int (nI i9))] [] (sh, s9, la) := by
      intro q_i9
      induction q_i9 with
      | zero =>
        intro i9 s9 hi_i9 k0 
        have hN_i9 : i9 = 8 := by omega
        subst i9
        refine A_iload_n dX7_back_27 rfl rfl ?_
        refine A_bipush (v := 8) dX7_back_28 (by decide) ?_
        refine A_icmp_ge (tgt := 80) dX7_back_30 rfl (fun h_2 => ?_) (fun h_2 => ?_)
        · skip
          refine A_iconst (v := 1) dX7_back_80 (by decide) ?_
          have hq : (q_back σ) = (1, (yS (yN σ c9) (zbk c9 8 (xS σ)))) := by
            unfold q_back
            rw [hc9]
          exact A_iret dX7_back_81 rfl (hP _ _ (XQ_i hq (k0.kx (WF_bk hK.wf hc9))))
        · skip
          exact absurd (Int32.le_refl _) h_2
      | succ q_i9 ih =>
        intro i9 s9 hi_i9 k0 
        have h8_i9 : i9 < 8 := by omega
        have hS_i9 := lyX_shelf hX h8_i9
        have ksh : kSh s9 la i9 (xS σ i9) := by have q := k0.2.2.2.1 i9 h8_i9; rw [show xS (yS (yN σ c9) (zbk c9 i9 (xS σ))) i9 = xS σ i9 from zbk_at _ _ _] at q; exact q
        have kpp : s9 1 5 = cPp c9 := by have q := k0.1; exact congrArg cPp q
        refine A_iload_n dX7_back_27 rfl rfl ?_
        refine A_bipush (v := 8) dX7_back_28 (by decide) ?_
        refine A_icmp_ge (tgt := 80) dX7_back_30 rfl (fun h_3 => ?_) (fun h_3 => ?_)
        · skip
          exact absurd h_3 (nI_ge (b := 8) (by omega) (by decide))
        · skip
          refine A_aload_n dX7_back_33 rfl rfl ?_
          refine B_getR (r := 42) dX7_back_34 flX7_56 (hX 0 _ rfl) rfl ?_
          refine A_iload_n dX7_back_37 rfl rfl ?_
          refine B_aald (i := i9) (r := (44 + 2 * i9)) dX7_back_38 (hX 42 _ rfl) (by decide) rfl rfl (by decide) (rfl) (by omega) (zsh_r h8_i9) ?_
          refine A_callV (n := 0) dX7_back_39 kvX4_holdsOne mlX7_96 rfl (az_rc_obj clX4 (hS_i9 0 _ rfl)) ((by have q := c_X4_holdsOne l G (d + 31) sh s9 la (44 + 2 * i9) hS_i9; rw [ksh.2.2.1] at q; exact q)) (by omega) (Nat.le_refl _) (Nat.le_refl _) rfl (Nat.le_of_ble_eq_true rfl) (fun r S1 hp => ?_)
          obtain ⟨rfl, rfl⟩ := hp
          show AW l G mX7_back (d + 32) (az_F G Post) 0 0 42 [some (.ref 0), some (.int (nI i9))] [.int (b2i (¬ fSh (xS σ i9) = -1))] (sh, s9, la)
          refine A_if_eq (tgt := 74) dX7_back_42 rfl (fun h_4 => ?_) (fun h_4 => ?_)
          · skip
            have h_4' := b2i_0.mp h_4
            refine A_iinc (v := nI (i9 + 1)) (lo2 := [some (.ref 0), some (.int (nI (i9 + 1)))]) dX7_back_74 rfl (nI_1 i9) (by decide) rfl ?_
            refine A_goto (tgt := 27) dX7_back_77 rfl ?_
            refine ih (i9 + 1) _ (by omega) (by rw [← zbk_n (Or.inl (Decidable.not_not.mp h_4'))]; exact k0)
          · skip
            have h_4' := b2i_n.mp h_4
            refine A_aload_n dX7_back_45 rfl rfl ?_
            refine B_getR (r := 1) dX7_back_46 flX7_10 (hX 0 _ rfl) rfl ?_
            refine A_aload_n dX7_back_49 rfl rfl ?_
            refine B_getR (r := 42) dX7_back_50 flX7_56 (hX 0 _ rfl) rfl ?_
            refine A_iload_n dX7_back_53 rfl rfl ?_
            refine B_aald (i := i9) (r := (44 + 2 * i9)) dX7_back_54 (hX 42 _ rfl) (by decide) rfl rfl (by decide) (rfl) (by omega) (zsh_r h8_i9) ?_
            refine B_getV (fSh (xS σ i9)) dX7_back_55 flX7_124 (hS_i9 0 _ rfl) rfl (ksh.2.2.1) ?_
            refine A_callV (n := 0) dX7_back_58 kvX2_hasOne mlX7_127 rfl (az_rc_obj clX2 (hX 1 _ rfl)) ((by have q := c_X2_hasOne l G (d + 31) sh s9 la 1 (fSh (xS σ i9)) hC; rw [kpp] at q; exact q)) (by omega) (Nat.le_refl _) (Nat.le_refl _) rfl (Nat.le_of_ble_eq_true rfl) (fun r S1 hp => ?_)
            obtain ⟨rfl, rfl⟩ := hp
            show AW l G mX7_back (d + 32) (az_F G Post) 0 0 61 [some (.ref 0), some (.int (nI i9))] [.int (b2i (0 ≤ fSh (xS σ i9) ∧ fSh (xS σ i9) < cPp c9))] (sh, s9, la)
            refine A_if_ne (tgt := 74) dX7_back_61 rfl (fun h_5 => ?_) (fun h_5 => ?_)
            · skip
              have h_5' := b2i_n.mp h_5
              refine A_iinc (v := nI (i9 + 1)) (lo2 := [some (.ref 0), some (.int (nI (i9 + 1)))]) dX7_back_74 rfl (nI_1 i9) (by decide) rfl ?_
              refine A_goto (tgt := 27) dX7_back_77 rfl ?_
              refine ih (i9 + 1) _ (by omega) (by rw [← zbk_n (Or.inr h_5')]; exact k0)
            · skip
              have h_5' := b2i_0.mp h_5
              refine A_aload_n dX7_back_64 rfl rfl ?_
              refine B_getR (r := 42) dX7_back_65 flX7_56 (hX 0 _ rfl) rfl ?_
              refine A_iload_n dX7_back_68 rfl rfl ?_
              refine B_aald (i := i9) (r := (44 + 2 * i9)) dX7_back_69 (hX 42 _ rfl) (by decide) rfl rfl (by decide) (rfl) (by omega) (zsh_r h8_i9) ?_
              refine A_iconst (v := (-1)) dX7_back_70 (by decide) ?_
              refine A_callV (n := 0) dX7_back_71 kvX4_holdOne mlX7_130 rfl (az_rc_obj clX4 (hS_i9 0 _ rfl)) (c_X4_holdOne l G (d + 31) sh s9 la (44 + 2 * i9) (-1) hS_i9) (by omega) (Nat.le_refl _) (Nat.le_refl _) rfl (Nat.le_of_ble_eq_true rfl) (fun r S1 hp => ?_)
              obtain ⟨rfl, rfl⟩ := hp
              show AW l G mX7_back (d + 32) (az_F G Post) 0 0 74 [some (.ref 0), some (.int (nI i9))] [] (sh, (az_w (az_w (az_w s9 (44 + 2 * i9) 1 (-1)) (44 + 2 * i9) 2 0) (44 + 2 * i9) 3 (-1)), la)
              refine A_iinc (v := nI (i9 + 1)) (lo2 := [some (.ref 0), some (.int (nI (i9 + 1)))]) dX7_back_74 rfl (nI_1 i9) (by decide) rfl ?_
              refine A_goto (tgt := 27) dX7_back_77 rfl ?_
              refine ih (i9 + 1) _ (by omega) (by have q := k0.setS (s' := (az_w (az_w (az_w s9 (44 + 2 * i9) 1 (-1)) (44 + 2 * i9) 2 0) (44 + 2 * i9) 3 (-1))) (f := (-1, 0, -1, fEl (xS σ i9))) h8_i9 (fun k hk => by rw [az_w_ne hk, az_w_ne hk, az_w_ne hk]) ⟨by rw [az_w_nj (by decide), az_w_nj (by decide), az_w_at]; rfl, by rw [az_w_nj (by decide), az_w_at]; rfl, az_w_at _ _ _ _, ksh.2.2.2⟩; rw [show yS (yS (yN σ c9) (zbk c9 i9 (xS σ))) (va_up (xS (yS (yN σ c9) (zbk c9 i9 (xS σ)))) i9 (-1, 0, -1, fEl (xS σ i9))) = yS (yN σ c9) (zbk c9 (i9 + 1) (xS σ)) from congrArg (yS (yN σ c9)) (zbk_y h_4' h_5')] at q; exact q)
    exact loop (8) 0 _ (by omega) (by rw [zbk_0]; exact hK.k0.setN)
  · skip
    have h_1' := b2i_0.mp h_1
    refine A_aload_n dX7_back_7 rfl rfl ?_
    refine A_bipush (v := (-5)) dX7_back_8 (by decide) ?_
    refine A_callV (n := 0) dX7_back_10 kvX7_refuse mlX7_77 rfl (az_rc_obj clX7 (hX 0 _ rfl)) (c_X7_refuse l G (d + 30) sh sg la (-5) 3 hX (by decide) (by decide)) (by omega) (Nat.le_refl _) (Nat.le_refl _) rfl (Nat.le_of_ble_eq_true rfl) (fun r S1 hp => ?_)
    obtain ⟨rfl, rfl⟩ := hp
    show AW l G mX7_back (d + 32) (az_F G Post) 0 0 13 [some (.ref 0), none] [.int (-5)] (sh, (az_w sg 43 3 (sg 43 3 + 1)), la)
    have hq : (q_back σ) = ((-5), (rfs σ 3)) := by
      unfold q_back
      rw [show xK σ = none from Option.not_isSome_iff_eq_none.mp h_1']
      first | done | rfl
    exact A_iret dX7_back_13 rfl (hP _ _ (XQ_i hq (hK.ref (by decide))))
set_option maxHeartbeats 1000000 in
set_option maxRecDepth 100000 in
theorem x_country (l : Launch) (G : az_Gh) (d : Nat) (sh : List az_Sh) (sg : Nat → Nat → Int32) (la : Nat → Nat → Int64) (g : GGM) (σ : SGM)  (hX : az_at sh 0 lyX) (hK : KX g sg la σ) : AM l G (d + 32) mX7_country [.ref 0] (sh, sg, la) 0 0 (XQ sh g (.int (q_country σ).1) (q_country σ).2) := by
  refine az_am knX7_country (Nat.le_of_ble_eq_true rfl) rfl (fun Post hP => ?_)
  show AW l G mX7_country (d + 32) (az_F G Post) 0 0 0 [some (.ref 0), none, none] [] (sh, sg, la)
  have hC := lyX_now hX
  have h8N := hK.ok.2
  refine A_aload_n dX7_country_0 rfl rfl ?_
  refine B_getR (r := 13) dX7_country_1 flX7_22 (hX 0 _ rfl) rfl ?_
  refine A_aload_n dX7_country_4 rfl rfl ?_
  refine B_getR (r := 1) dX7_country_5 flX7_10 (hX 0 _ rfl) rfl ?_
  have hF := lyX_fore hX
  have hT : az_at sh 14 (lyC 14) := lyF_C hF
  refine B_sg (zput_self sg 14).symm ?_
  refine A_callV (n := 0) dX7_country_8 kvX3_begin mlX7_189 rfl (az_rc_obj clX3 (hX 13 _ rfl)) (f_X3_begin l G (d + 28) sh sg la 13 1 (ct sg 14) (xN σ) hF hC (by omega) hK.now hK.tl.1 hK.ctl hK.rng) (by omega) (Nat.le_refl _) (Nat.le_refl _) rfl (Nat.le_of_ble_eq_true rfl) (fun r S1 hp => ?_)
  obtain ⟨rfl, rfl⟩ := hp
  show AW l G mX7_country (d + 32) (az_F G Post) 0 0 11 [some (.ref 0), none, none] [.ref 14] (sh, (zput sg 14 (xN σ)), la)
  refine A_astore_n (lo2 := [some (.ref 0), some (.ref 14), none]) dX7_country_11 rfl (by decide) rfl ?_
  refine A_aload_n dX7_country_12 rfl rfl ?_
  refine B_getR (r := 40) dX7_country_13 flX7_50 (hX 0 _ rfl) rfl ?_
  refine A_aload_n dX7_country_16 rfl rfl ?_
  have hcw := cW_rd (T := xTb σ) (m := xTn σ) 250 1 0 (xN σ) (Nat.zero_le _) hK.cw
  have hrd : zrd (sg 41) (xTn σ) 250 1 0 (xN σ) = q_rd σ := by unfold q_rd; rw [hK.2.2.2.1.2]
  refine A_callV (n := 0) dX7_country_17 kvX5_readInto mlX7_193 rfl (az_rc_obj clX5 (hX 40 _ rfl)) (c_X5_readInto l G (d + 25) sh sg la 40 (xTn σ) 14 (xN σ) (lyX_tape hX) hK.2.2.2.1.1 hK.wf.2.2.1 hT (by omega) hK.ok) (by omega) (Nat.le_refl _) (Nat.le_refl _) rfl (Nat.le_of_ble_eq_true rfl) (fun r S1 hp => ?_)
  obtain ⟨rfl, t9, s9, e9, rfl⟩ := hp
  rw [show zrd (sg (40 + 1)) (xTn σ) 250 1 0 (xN σ) = q_rd σ from hrd]
  have hKt : KX g (zTp sg 40 t9 s9 e9) la σ := hK.setT (n := xTn σ) (b := xTb σ) hK.wf.2.2.1 (fun k q1 q2 => zTp_ne q1) (by rw [zTp_1]; exact hK.2.2.2.1.1) (by rw [zTp_ne (by decide)]; exact hK.2.2.2.1.2)
  show AW l G mX7_country (d + 32) (az_F G Post) 0 0 20 [some (.ref 0), some (.ref 14), none] [.int (q_rd σ).1] (sh, (zput (zTp sg 40 t9 s9 e9) 14 (q_rd σ).2), la)
  refine A_istore_n (lo2 := [some (.ref 0), some (.ref 14), some (.int (q_rd σ).1)]) dX7_country_20 rfl (by decide) rfl ?_
  refine A_aload_n dX7_country_21 rfl rfl ?_
  refine B_getR (r := 40) dX7_country_22 flX7_50 (hX 0 _ rfl) rfl ?_
  refine A_callV (n := 0) dX7_country_25 kvX5_clear mlX7_185 rfl (az_rc_obj clX5 (hX 40 _ rfl)) (c_X5_clear l G (d + 31) sh (zput (zTp sg 40 t9 s9 e9) 14 (q_rd σ).2) la 40 (lyX_tape hX)) (by omega) (Nat.le_refl _) (Nat.le_refl _) rfl (Nat.le_of_ble_eq_true rfl) (fun r S1 hp => ?_)
  obtain ⟨rfl, rfl⟩ := hp
  have hKc : KX g (az_w (zput (zTp sg 40 t9 s9 e9) 14 (q_rd σ).2) 40 1 0) la (yT σ 0 (xTb σ)) := KX.setT (hKt.put14 hcw.1.2.1) (n := 0) (b := xTb σ) (by omega) (fun k q1 q2 => az_w_ne q1) (az_w_at _ _ _ _) (by rw [az_w_ne (by decide)]; exact (hKt.put14 hcw.1.2.1).2.2.2.1.2)
  show AW l G mX7_country (d + 32) (az_F G Post) 0 0 28 [some (.ref 0), some (.ref 14), some (.int (q_rd σ).1)] [.int ((zput (zTp sg 40 t9 s9 e9) 14 (q_rd σ).2) 40 1)] (sh, (az_w (zput (zTp sg 40 t9 s9 e9) 14 (q_rd σ).2) 40 1 0), la)
  refine A_pop dX7_country_28 rfl ?_
  refine A_iload_n dX7_country_29 rfl rfl ?_
  refine A_if_ge (tgt := 42) dX7_country_30 rfl (fun h_1 => ?_) (fun h_1 => ?_)
  · skip
    refine A_aload_n dX7_country_42 rfl rfl ?_
    refine B_getR (r := 1) dX7_country_43 flX7_10 (hX 0 _ rfl) rfl ?_
    refine A_aload_n dX7_country_46 rfl rfl ?_
    refine B_sg hKc.z1.symm ?_
    have e14 : ct (az_w (zput (zTp sg 40 t9 s9 e9) 14 (q_rd σ).2) 40 1 0) 14 = (q_rd σ).2 := by rw [ct_w (by omega), ct_zput]
    refine A_callV (n := 0) dX7_country_47 kvX2_load mlX7_197 rfl (az_rc_obj clX2 (hX 1 _ rfl)) (z_X2_load l G (d + 29) sh (az_w (zput (zTp sg 40 t9 s9 e9) 14 (q_rd σ).2) 40 1 0) la 1 (xN (yT σ 0 (xTb σ))) 14 hC hT (by omega) hK.ctl (by rw [e14]; exact hcw.1.2.1)) (by omega) (Nat.le_refl _) (Nat.le_refl _) rfl (Nat.le_of_ble_eq_true rfl) (fun r S1 hp => ?_)
    obtain ⟨rfl, rfl⟩ := hp
    refine B_sg (congrArg (zput (az_w (zput (zTp sg 40 t9 s9 e9) 14 (q_rd σ).2) 40 1 0) 1) e14) ?_
    show AW l G mX7_country (d + 32) (az_F G Post) 0 0 50 [some (.ref 0), some (.ref 14), some (.int (q_rd σ).1)] [] (sh, (zput (az_w (zput (zTp sg 40 t9 s9 e9) 14 (q_rd σ).2) 40 1 0) 1 (q_rd σ).2), la)
    refine A_iload_n dX7_country_50 rfl rfl ?_
    have hq : (q_country σ) = ((q_rd σ).1, (yN (yT σ 0 (xTb σ)) (q_rd σ).2)) := by
      unfold q_country
      rw [if_pos h_1]
    exact A_iret dX7_country_51 rfl (hP _ _ (XQ_i hq (hKc.setN (WF_N hKc.wf hcw.1 hcw.2))))
  · skip
    refine A_aload_n dX7_country_33 rfl rfl ?_
    refine A_bipush (v := (-2)) dX7_country_34 (by decide) ?_
    refine A_callV (n := 0) dX7_country_36 kvX7_refuse mlX7_77 rfl (az_rc_obj clX7 (hX 0 _ rfl)) (c_X7_refuse l G (d + 30) sh (az_w (zput (zTp sg 40 t9 s9 e9) 14 (q_rd σ).2) 40 1 0) la (-2) 0 hX (by decide) (by decide)) (by omega) (Nat.le_refl _) (Nat.le_refl _) rfl (Nat.le_of_ble_eq_true rfl) (fun r S1 hp => ?_)
    obtain ⟨rfl, rfl⟩ := hp
    show AW l G mX7_country (d + 32) (az_F G Post) 0 0 39 [some (.ref 0), some (.ref 14), some (.int (q_rd σ).1)] [.int (-2)] (sh, (az_w (az_w (zput (zTp sg 40 t9 s9 e9) 14 (q_rd σ).2) 40 1 0) 43 0 ((az_w (zput (zTp sg 40 t9 s9 e9) 14 (q_rd σ).2) 40 1 0) 43 0 + 1)), la)
    refine A_pop dX7_country_39 rfl ?_
    refine A_iload_n dX7_country_40 rfl rfl ?_
    have hq : (q_country σ) = ((q_rd σ).1, (rfs (yT σ 0 (xTb σ)) 0)) := by
      unfold q_country
      rw [if_neg h_1]
    exact A_iret dX7_country_41 rfl (hP _ _ (XQ_i hq (hKc.ref (by decide))))
