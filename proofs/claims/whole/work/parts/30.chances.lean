theorem i2l_0 {k : Int32} (h : k.toInt64 = 0) : k = 0 := Int32.toInt_inj.mp (by have q := congrArg Int64.toInt h; rw [Int32.toInt_toInt64] at q; exact q)
set_option maxHeartbeats 600000 in
set_option maxRecDepth 100000 in
theorem c_X1_fallOnce (l : Launch) (G : az_Gh) (d : Nat) (sh : List az_Sh) (sg : Nat → Nat → Int32) (la : Nat → Nat → Int64) (k : Nat) (w : Nat → Nat) (hk : sh[k]? = some (100, 41, [])) (hw : sg k = zI w) : FM l G (d + 1) mX1_fallOnce [.ref k] (sh, sg, la) (none) (sh, va_up sg k (zI (zfo w)), la) := by
  refine az_fm knX1_fallOnce (Nat.le_of_ble_eq_true rfl) rfl (fun Post hP => ?_)
  show AW l G mX1_fallOnce (d + 1) (az_F G Post) 0 0 0 [some (.ref k), none, none, none] [] (sh, sg, la)
  refine A_iconst (v := 0) dX1_fallOnce_0 (by decide) ?_
  refine A_istore_n (lo2 := [some (.ref k), some (.int 0), none, none]) dX1_fallOnce_1 rfl (by decide) rfl ?_
  have loop : ∀ (q_i9 i9 : Nat) (s1 : Nat → Nat → Int32), i9 + q_i9 = 41 → s1 = va_up sg k (zI (zfs w i9)) → AW l G mX1_fallOnce (d + 1) (az_F G Post) 0 0 2 [some (.ref k), some (.int (nI i9)), none, none] [] (sh, s1, la) := by
    intro q_i9
    induction q_i9 with
    | zero =>
      intro i9 s1 hi_i9  e_s1
      have hN_i9 : i9 = 41 := by omega
      subst hN_i9
      refine A_iload_n dX1_fallOnce_2 rfl rfl ?_
      refine A_aload_n dX1_fallOnce_3 rfl rfl ?_
      refine B_alenI dX1_fallOnce_4 hk ?_
      refine A_icmp_ge (tgt := 48) dX1_fallOnce_5 rfl (fun h_1 => ?_) (fun h_1 => ?_)
      · skip
        exact A_vret dX1_fallOnce_48 rfl (az_pv hP (by rw [e_s1]; rfl))
      · skip
        exact absurd (by decide) h_1
    | succ q_i9 ih =>
      intro i9 s1 hi_i9  e_s1
      refine A_iload_n dX1_fallOnce_2 rfl rfl ?_
      refine A_aload_n dX1_fallOnce_3 rfl rfl ?_
      refine B_alenI dX1_fallOnce_4 hk ?_
      refine A_icmp_ge (tgt := 48) dX1_fallOnce_5 rfl (fun h_2 => ?_) (fun h_2 => ?_)
      · skip
        exact absurd h_2 (nI_ge (b := 41) (by omega) (by decide))
      · skip
        refine A_aload_n dX1_fallOnce_8 rfl rfl ?_
        refine A_iload_n dX1_fallOnce_9 rfl rfl ?_
        refine B_ialdV (i := i9) (nI (zfs w i9 i9)) dX1_fallOnce_10 hk (by decide) (rfl) (by omega) (by rw [e_s1, az_up_self]; rfl) ?_
        refine A_istore_n (lo2 := [some (.ref k), some (.int (nI i9)), some (.int (nI (zfs w i9 i9))), none]) dX1_fallOnce_11 rfl (by decide) rfl ?_
        refine A_aload_n dX1_fallOnce_12 rfl rfl ?_
        refine A_iload_n dX1_fallOnce_13 rfl rfl ?_
        refine A_iconst (v := 0) dX1_fallOnce_14 (by decide) ?_
        refine B_iast (i := i9) dX1_fallOnce_15 hk (by decide) (rfl) (by omega) ?_
        refine A_iconst (v := 0) dX1_fallOnce_16 (by decide) ?_
        refine A_istore_n (lo2 := [some (.ref k), some (.int (nI i9)), some (.int (nI (zfs w i9 i9))), some (.int 0)]) dX1_fallOnce_17 rfl (by decide) rfl ?_
        have loop2 : ∀ (q_j9 j9 : Nat) (s2 : Nat → Nat → Int32), j9 + q_j9 = 4 → s2 = va_up sg k (zI (zfi (zfs w i9) i9 (zfs w i9 i9) j9)) → AW l G mX1_fallOnce (d + 1) (az_F G Post) 0 0 18 [some (.ref k), some (.int (nI i9)), some (.int (nI (zfs w i9 i9))), some (.int (nI j9))] [] (sh, s2, la) := by
          intro q_j9
          induction q_j9 with
          | zero =>
            intro j9 s2 hi_j9  e_s2
            have hN_j9 : j9 = 4 := by omega
            subst hN_j9
            refine A_iload_n dX1_fallOnce_18 rfl rfl ?_
            refine A_iconst (v := 4) dX1_fallOnce_19 (by decide) ?_
            refine A_icmp_ge (tgt := 42) dX1_fallOnce_20 rfl (fun h_3 => ?_) (fun h_3 => ?_)
            · skip
              refine A_iinc (v := nI (i9 + 1)) (lo2 := [some (.ref k), some (.int (nI (i9 + 1))), some (.int (nI (zfs w i9 i9))), some (.int (nI 4))]) dX1_fallOnce_42 rfl (nI_1 i9) (by decide) rfl ?_
              refine A_goto (tgt := 2) dX1_fallOnce_45 rfl ?_
              refine A_forget (lo2 := [some (.ref k), some (.int (nI (i9 + 1))), none, none]) ⟨rfl, rfl, trivial⟩ ?_
              refine ih (i9 + 1) _ (by omega) ?_
              · skip
                rw [e_s2]; rfl
            · skip
              exact absurd (by decide) h_3
          | succ q_j9 ih_j9 =>
            intro j9 s2 hi_j9  e_s2
            refine A_iload_n dX1_fallOnce_18 rfl rfl ?_
            refine A_iconst (v := 4) dX1_fallOnce_19 (by decide) ?_
            refine A_icmp_ge (tgt := 42) dX1_fallOnce_20 rfl (fun h_4 => ?_) (fun h_4 => ?_)
            · skip
              exact absurd h_4 (nI_ge (b := 4) (by omega) (by decide))
            · skip
              refine A_aload_n dX1_fallOnce_23 rfl rfl ?_
              refine A_iconst (v := 0) dX1_fallOnce_24 (by decide) ?_
              refine A_iload_n dX1_fallOnce_25 rfl rfl ?_
              refine A_iload_n dX1_fallOnce_26 rfl rfl ?_
              refine A_isub dX1_fallOnce_27 ?_
              refine A_mx0 dX1_fallOnce_28 mlX1_60 (by omega) (Nat.le_of_ble_eq_true rfl) ?_
              refine A_dup2 dX1_fallOnce_31 rfl rfl ?_
              refine B_ialdV (i := (i9 - j9)) (nI (zfi (zfs w i9) i9 (zfs w i9 i9) j9 (i9 - j9))) dX1_fallOnce_32 hk (by decide) (mx0_sub (by omega) (by omega)) (by omega) (by rw [e_s2, az_up_self]; rfl) ?_
              refine A_iload_n dX1_fallOnce_33 rfl rfl ?_
              refine A_iadd dX1_fallOnce_34 ?_
              refine B_iast (i := (i9 - j9)) dX1_fallOnce_35 hk (by decide) (mx0_sub (by omega) (by omega)) (by omega) ?_
              refine A_iinc (v := nI (j9 + 1)) (lo2 := [some (.ref k), some (.int (nI i9)), some (.int (nI (zfs w i9 i9))), some (.int (nI (j9 + 1)))]) dX1_fallOnce_36 rfl (nI_1 j9) (by decide) rfl ?_
              refine A_goto (tgt := 18) dX1_fallOnce_39 rfl ?_
              refine ih_j9 (j9 + 1) _ (by omega) ?_
              · skip
                rw [e_s2, az_w_up]; exact congrArg (va_up sg k) ((congrArg (va_up _ _) (nI_add _ _)).trans (zI_up _ _ _))
        exact loop2 (4) 0 _ (by omega) (by rw [e_s1, az_w_up]; exact congrArg (va_up sg k) (zI_up _ _ 0))
  exact loop (41) 0 _ (by omega) (by show sg = va_up sg k (zI w); rw [← hw, az_up_id])
set_option maxHeartbeats 600000 in
set_option maxRecDepth 100000 in
theorem c_X1_dropSoWays (l : Launch) (G : az_Gh) (d : Nat) (sh : List az_Sh) (sg : Nat → Nat → Int32) (la : Nat → Nat → Int64) (o : Nat) (k : Int32) (W : Nat → Int32) (q : Nat → Nat) (c : CT) (a0 : Int32) (hH : az_at sh o (lyH o)) (hR : cRng c) : AM l G (d + 4) mX1_dropSoWays [.ref o] (sh, zput (zU sg o k W (zI q)) (o + 1) (sAir c a0), la) 0 0 (fun r1 S1 => r1 = none ∧ ∃ a, S1 = (sh, zput (zU sg o k W (zI (zdr c q 41))) (o + 1) (sAir c a), la)) := by
  refine az_am knX1_dropSoWays (Nat.le_of_ble_eq_true rfl) rfl (fun Post hP => ?_)
  show AW l G mX1_dropSoWays (d + 4) (az_F G Post) 0 0 0 [some (.ref o), none] [] (sh, (zput (zU sg o k W (zI q)) (o + 1) (sAir c a0)), la)
  have hT := lyH_C hH
  refine B_sg (show _ = (zput (zU sg o k W (zI (zdr c q 0))) (o + 1) (sAir c a0)) from by rw [zdr_0]) ?_
  refine A_iconst (v := 0) dX1_dropSoWays_0 (by decide) ?_
  refine A_istore_n (lo2 := [some (.ref o), some (.int 0)]) dX1_dropSoWays_1 rfl (by decide) rfl ?_
  have loop : ∀ (q_i9 i9 : Nat) (a1 : Int32), i9 + q_i9 = 41 → AW l G mX1_dropSoWays (d + 4) (az_F G Post) 0 0 2 [some (.ref o), some (.int (nI i9))] [] (sh, (zput (zU sg o k W (zI (zdr c q i9))) (o + 1) (sAir c a1)), la) := by
    intro q_i9
    induction q_i9 with
    | zero =>
      intro i9 a1 hi_i9  
      have hN_i9 : i9 = 41 := by omega
      subst hN_i9
      refine A_iload_n dX1_dropSoWays_2 rfl rfl ?_
      refine A_bipush (v := 40) dX1_dropSoWays_3 (by decide) ?_
      refine A_icmp_gt (tgt := 48) dX1_dropSoWays_5 rfl (fun h_1 => ?_) (fun h_1 => ?_)
      · skip
        exact A_vret dX1_dropSoWays_48 rfl (hP _ _ ⟨rfl, _, rfl⟩)
      · skip
        exact absurd (by decide) h_1
    | succ q_i9 ih =>
      intro i9 a1 hi_i9  
      refine A_iload_n dX1_dropSoWays_2 rfl rfl ?_
      refine A_bipush (v := 40) dX1_dropSoWays_3 (by decide) ?_
      refine A_icmp_gt (tgt := 48) dX1_dropSoWays_5 rfl (fun h_2 => ?_) (fun h_2 => ?_)
      · skip
        exact absurd h_2 (nI_nlt (b := i9) (a := 40) (by omega) (by decide))
      · skip
        refine A_aload_n dX1_dropSoWays_8 rfl rfl ?_
        refine B_getR (r := (o + 1)) dX1_dropSoWays_9 flX1_12 (hH 0 _ rfl) rfl ?_
        refine A_iload_n dX1_dropSoWays_12 rfl rfl ?_
        refine B_putI dX1_dropSoWays_13 fwX1_39 (hH 1 _ rfl) rfl ?_
        refine B_sg (show _ = (zput (zU sg o k W (zI (zdr c q i9))) (o + 1) (sAir c (nI i9))) from zw_6 _ _ _ _) ?_
        refine B_sg (show _ = (zput (zU sg o k W (zI (zdr c q i9))) (o + 1) (sAir c (nI i9))) from rfl) ?_
        refine A_aload_n dX1_dropSoWays_16 rfl rfl ?_
        refine B_getR (r := (o + 8)) dX1_dropSoWays_17 flX1_22 (hH 0 _ rfl) rfl ?_
        refine A_iload_n dX1_dropSoWays_20 rfl rfl ?_
        refine B_ialdV (i := i9) (zI (zdr c q i9) i9) dX1_dropSoWays_21 (hH 8 _ rfl) (by decide) (rfl) (by omega) ((congrFun (zput_ne (by omega)) _).trans (congrFun (zU_8 _ _ _ _ _) _)) ?_
        refine A_if_eq (tgt := 42) dX1_dropSoWays_22 rfl (fun h_3 => ?_) (fun h_3 => ?_)
        · skip
          refine B_sg (show _ = (zput (zU sg o k W (zI (zdr c q (i9 + 1)))) (o + 1) (sAir c (nI i9))) from congrArg (fun z => zput (zU sg o k W z) (o + 1) (sAir c (nI i9))) (zdr_z h_3)) ?_
          refine A_iinc (v := nI (i9 + 1)) (lo2 := [some (.ref o), some (.int (nI (i9 + 1)))]) dX1_dropSoWays_42 rfl (nI_1 i9) (by decide) rfl ?_
          refine A_goto (tgt := 2) dX1_dropSoWays_45 rfl ?_
          refine ih (i9 + 1) _ (by omega)
        · skip
          refine A_aload_n dX1_dropSoWays_25 rfl rfl ?_
          refine B_getR (r := (o + 1)) dX1_dropSoWays_26 flX1_12 (hH 0 _ rfl) rfl ?_
          refine A_callV (n := 0) dX1_dropSoWays_29 kvX2_standsSo mlX1_66 rfl (az_rc_obj clX2 (hH 1 _ rfl)) (z_X2_standsSo l G d sh (zU sg o k W (zI (zdr c q i9))) la (o + 1) (sAir c (nI i9)) hT (cRng_air hR (by omega))) (by omega) (Nat.le_refl _) (Nat.le_refl _) rfl (Nat.le_of_ble_eq_true rfl) (fun r S1 hp => ?_)
          obtain ⟨rfl, rfl⟩ := hp
          show AW l G mX1_dropSoWays (d + 4) (az_F G Post) 0 0 32 [some (.ref o), some (.int (nI i9))] [.int (b2i (zso (sAir c (nI i9)) = true))] (sh, (zput (zU sg o k W (zI (zdr c q i9))) (o + 1) (sAir c (nI i9))), la)
          refine A_if_eq (tgt := 42) dX1_dropSoWays_32 rfl (fun h_4 => ?_) (fun h_4 => ?_)
          · skip
            have h_4' := b2i_0.mp h_4
            refine B_sg (show _ = (zput (zU sg o k W (zI (zdr c q (i9 + 1)))) (o + 1) (sAir c (nI i9))) from congrArg (fun z => zput (zU sg o k W z) (o + 1) (sAir c (nI i9))) (zdr_n (b2i_0.mp h_4))) ?_
            refine A_iinc (v := nI (i9 + 1)) (lo2 := [some (.ref o), some (.int (nI (i9 + 1)))]) dX1_dropSoWays_42 rfl (nI_1 i9) (by decide) rfl ?_
            refine A_goto (tgt := 2) dX1_dropSoWays_45 rfl ?_
            refine ih (i9 + 1) _ (by omega)
          · skip
            have h_4' := b2i_n.mp h_4
            refine A_aload_n dX1_dropSoWays_35 rfl rfl ?_
            refine B_getR (r := (o + 8)) dX1_dropSoWays_36 flX1_22 (hH 0 _ rfl) rfl ?_
            refine A_iload_n dX1_dropSoWays_39 rfl rfl ?_
            refine A_iconst (v := 0) dX1_dropSoWays_40 (by decide) ?_
            refine B_iast (i := i9) dX1_dropSoWays_41 (hH 8 _ rfl) (by decide) (rfl) (by omega) ?_
            refine B_sg (show _ = (zput (zU sg o k W (zI (zdr c q (i9 + 1)))) (o + 1) (sAir c (nI i9))) from zU_e8.trans (congrArg (fun z => zput (zU sg o k W z) (o + 1) (sAir c (nI i9))) (zdr_y (b2i_n.mp h_4)))) ?_
            refine A_iinc (v := nI (i9 + 1)) (lo2 := [some (.ref o), some (.int (nI (i9 + 1)))]) dX1_dropSoWays_42 rfl (nI_1 i9) (by decide) rfl ?_
            refine A_goto (tgt := 2) dX1_dropSoWays_45 rfl ?_
            refine ih (i9 + 1) _ (by omega)
  exact loop (41) 0 _ (by omega)
set_option maxHeartbeats 600000 in
set_option maxRecDepth 100000 in
theorem c_X1_spread (l : Launch) (G : az_Gh) (d : Nat) (sh : List az_Sh) (sg : Nat → Nat → Int32) (la : Nat → Nat → Int64) (o n0 : Nat) (c cn : CT) (t na : Nat) (hH : az_at sh o (lyH o)) (hC2 : az_at sh n0 (lyC n0)) (hd : n0 + 5 < o ∨ o + 9 ≤ n0) (hcn : ct sg n0 = cn) (ht : cTl c) (ht2 : cTl cn) (hRn : cRng cn) (hna : cAir cn = nI na) (hn4 : na ≤ 40) (ht5 : t ≤ 5) (h7 : ∀ j, 41 ≤ j → sg (o + 7) j = 0) (h8q : ∀ j, 41 ≤ j → sg (o + 8) j = 0) : AM l G (d + 5) mX1_spread [.ref o, .ref n0, .int (nI t)] (sh, zput sg (o + 1) c, la) 0 0 (fun r1 S1 => r1 = none ∧ ∃ e, cTl e ∧ S1 = (sh, zput (zU sg o (nI (4 ^ t)) (zI (zW na t)) (zI (zQ (sFall cn 0) na t))) (o + 1) e, la)) := by
  refine az_am knX1_spread (Nat.le_of_ble_eq_true rfl) rfl (fun Post hP => ?_)
  show AW l G mX1_spread (d + 5) (az_F G Post) 0 0 0 [some (.ref o), some (.ref n0), some (.int (nI t)), none] [] (sh, (zput sg (o + 1) c), la)
  have hT := lyH_C hH
  refine A_aload_n dX1_spread_0 rfl rfl ?_
  refine B_getR (r := (o + 1)) dX1_spread_1 flX1_12 (hH 0 _ rfl) rfl ?_
  refine A_aload_n dX1_spread_4 rfl rfl ?_
  refine A_callV (n := 0) dX1_spread_5 kvX2_load mlX1_29 rfl (az_rc_obj clX2 (hH 1 _ rfl)) (z_X2_load l G (d + 2) sh sg la (o + 1) c n0 hT hC2 (by omega) ht (by rw [hcn]; exact ht2)) (by omega) (Nat.le_refl _) (Nat.le_refl _) rfl (Nat.le_of_ble_eq_true rfl) (fun r S1 hp => ?_)
  obtain ⟨rfl, rfl⟩ := hp
  show AW l G mX1_spread (d + 5) (az_F G Post) 0 0 8 [some (.ref o), some (.ref n0), some (.int (nI t)), none] [] (sh, (zput sg (o + 1) (ct sg n0)), la)
  refine B_sg (show _ = (zput (zU sg o (sg o 3) (sg (o + 7)) (sg (o + 8))) (o + 1) cn) from (congrArg (fun z => zput sg (o + 1) z) hcn).trans (congrArg (fun z => zput z (o + 1) cn) (zU_0 sg o))) ?_
  refine A_aload_n dX1_spread_8 rfl rfl ?_
  refine B_getR (r := (o + 7)) dX1_spread_9 flX1_18 (hH 0 _ rfl) rfl ?_
  refine A_iconst (v := 0) dX1_spread_12 (by decide) ?_
  refine A_callS (n := 0) dX1_spread_13 ksJ7_fill_53178 mlX1_33 rfl (c_J7_fill_53178 l G (d + 4) sh (zput (zU sg o (sg o 3) (sg (o + 7)) (sg (o + 8))) (o + 1) cn) la (o + 7) 41 0 (hH 7 _ rfl) (by omega)) (by omega) (Nat.le_refl _) (Nat.le_refl _) rfl (Nat.le_of_ble_eq_true rfl) (fun r S1 hp => ?_)
  obtain ⟨rfl, rfl⟩ := hp
  show AW l G mX1_spread (d + 5) (az_F G Post) 0 0 16 [some (.ref o), some (.ref n0), some (.int (nI t)), none] [] (sh, (va_up (zput (zU sg o (sg o 3) (sg (o + 7)) (sg (o + 8))) (o + 1) cn) (o + 7) (zfill ((zput (zU sg o (sg o 3) (sg (o + 7)) (sg (o + 8))) (o + 1) cn) (o + 7)) 41 0)), la)
  refine B_sg (show _ = (zput (zU sg o (sg o 3) (zI (fun _ => 0)) (sg (o + 8))) (o + 1) cn) from zU_w7.trans (congrArg (fun z => zput (zU sg o (sg o 3) z (sg (o + 8))) (o + 1) cn) ((congrArg (fun z => zfill z 41 0) ((zput_ne (by omega)).trans (zU_7 _ _ _ _ _))).trans (zfill_z h7)))) ?_
  refine A_aload_n dX1_spread_16 rfl rfl ?_
  refine B_getR (r := (o + 8)) dX1_spread_17 flX1_22 (hH 0 _ rfl) rfl ?_
  refine A_iconst (v := 0) dX1_spread_20 (by decide) ?_
  refine A_callS (n := 0) dX1_spread_21 ksJ7_fill_53178 mlX1_33 rfl (c_J7_fill_53178 l G (d + 4) sh (zput (zU sg o (sg o 3) (zI (fun _ => 0)) (sg (o + 8))) (o + 1) cn) la (o + 8) 41 0 (hH 8 _ rfl) (by omega)) (by omega) (Nat.le_refl _) (Nat.le_refl _) rfl (Nat.le_of_ble_eq_true rfl) (fun r S1 hp => ?_)
  obtain ⟨rfl, rfl⟩ := hp
  show AW l G mX1_spread (d + 5) (az_F G Post) 0 0 24 [some (.ref o), some (.ref n0), some (.int (nI t)), none] [] (sh, (va_up (zput (zU sg o (sg o 3) (zI (fun _ => 0)) (sg (o + 8))) (o + 1) cn) (o + 8) (zfill ((zput (zU sg o (sg o 3) (zI (fun _ => 0)) (sg (o + 8))) (o + 1) cn) (o + 8)) 41 0)), la)
  refine B_sg (show _ = (zput (zU sg o (sg o 3) (zI (fun _ => 0)) (zI (fun _ => 0))) (o + 1) cn) from zU_w8.trans (congrArg (fun z => zput (zU sg o (sg o 3) (zI (fun _ => 0)) z) (o + 1) cn) ((congrArg (fun z => zfill z 41 0) ((zput_ne (by omega)).trans (zU_8 _ _ _ _ _))).trans (zfill_z h8q)))) ?_
  refine A_aload_n dX1_spread_24 rfl rfl ?_
  refine A_iconst (v := 1) dX1_spread_25 (by decide) ?_
  refine B_putI dX1_spread_26 fwX1_25 (hH 0 _ rfl) rfl ?_
  refine B_sg (show _ = (zput (zU sg o 1 (zI (fun _ => 0)) (zI (fun _ => 0))) (o + 1) cn) from zU_wk) ?_
  refine A_aload_n dX1_spread_29 rfl rfl ?_
  refine B_getV (nI na) dX1_spread_30 flX1_39 (hC2 0 _ rfl) rfl ((congrFun ((zput_ne (by omega)).trans (zU_ne (by omega))) 6).trans (by rw [show sg n0 6 = cAir (ct sg n0) from rfl, hcn]; exact hna)) ?_
  refine A_bipush (v := 40) dX1_spread_33 (by decide) ?_
  refine A_callS (n := 0) dX1_spread_35 ksX7_isWithin mlX1_42 rfl (c_X7_isWithin l G (d + 4) sh (zput (zU sg o 1 (zI (fun _ => 0)) (zI (fun _ => 0))) (o + 1) cn) la (nI na) 40) (by omega) (Nat.le_refl _) (Nat.le_refl _) rfl (Nat.le_of_ble_eq_true rfl) (fun r S1 hp => ?_)
  obtain ⟨rfl, rfl⟩ := hp
  show AW l G mX1_spread (d + 5) (az_F G Post) 0 0 38 [some (.ref o), some (.ref n0), some (.int (nI t)), none] [.int (b2i (0 ≤ nI na ∧ nI na ≤ 40))] (sh, (zput (zU sg o 1 (zI (fun _ => 0)) (zI (fun _ => 0))) (o + 1) cn), la)
  refine A_if_eq (tgt := 61) dX1_spread_38 rfl (fun h_1 => ?_) (fun h_1 => ?_)
  · skip
    have h_1' := b2i_0.mp h_1
    exact absurd ⟨nI_pos' (by omega), nI_le (b := 40) hn4 (by decide)⟩ (b2i_0.mp h_1)
  · skip
    have h_1' := b2i_n.mp h_1
    refine A_aload_n dX1_spread_41 rfl rfl ?_
    refine B_getR (r := (o + 7)) dX1_spread_42 flX1_18 (hH 0 _ rfl) rfl ?_
    refine A_aload_n dX1_spread_45 rfl rfl ?_
    refine B_getV (nI na) dX1_spread_46 flX1_39 (hC2 0 _ rfl) rfl ((congrFun ((zput_ne (by omega)).trans (zU_ne (by omega))) 6).trans (by rw [show sg n0 6 = cAir (ct sg n0) from rfl, hcn]; exact hna)) ?_
    refine A_iconst (v := 1) dX1_spread_49 (by decide) ?_
    refine B_iast (i := na) dX1_spread_50 (hH 7 _ rfl) (by decide) (rfl) (by omega) ?_
    refine B_sg (show _ = (zput (zU sg o 1 (zI (zW na 0)) (zI (fun _ => 0))) (o + 1) cn) from zU_e7.trans (congrArg (fun z => zput (zU sg o 1 z (zI (fun _ => 0))) (o + 1) cn) (zI_up _ _ 1))) ?_
    refine A_aload_n dX1_spread_51 rfl rfl ?_
    refine B_getR (r := (o + 8)) dX1_spread_52 flX1_22 (hH 0 _ rfl) rfl ?_
    refine A_aload_n dX1_spread_55 rfl rfl ?_
    refine B_getV (nI na) dX1_spread_56 flX1_39 (hC2 0 _ rfl) rfl ((congrFun ((zput_ne (by omega)).trans (zU_ne (by omega))) 6).trans (by rw [show sg n0 6 = cAir (ct sg n0) from rfl, hcn]; exact hna)) ?_
    refine A_iconst (v := 1) dX1_spread_59 (by decide) ?_
    refine B_iast (i := na) dX1_spread_60 (hH 8 _ rfl) (by decide) (rfl) (by omega) ?_
    refine B_sg (show _ = (zput (zU sg o 1 (zI (zW na 0)) (zI (zW na 0))) (o + 1) cn) from zU_e8.trans (congrArg (fun z => zput (zU sg o 1 (zI (zW na 0)) z) (o + 1) cn) (zI_up _ _ 1))) ?_
    refine A_aload_n dX1_spread_61 rfl rfl ?_
    refine B_getR (r := (o + 1)) dX1_spread_62 flX1_12 (hH 0 _ rfl) rfl ?_
    refine A_iconst (v := 0) dX1_spread_65 (by decide) ?_
    refine B_putI dX1_spread_66 fwX1_46 (hH 1 _ rfl) rfl ?_
    refine B_sg (show _ = (zput (zU sg o 1 (zI (zW na 0)) (zI (zW na 0))) (o + 1) (sFall cn 0)) from zw_7 _ _ _ _) ?_
    refine B_sg (show _ = (zput (zU sg o 1 (zI (zW na 0)) (zI (zW na 0))) (o + 1) (sAir (sFall cn 0) (cAir cn))) from rfl) ?_
    refine A_aload_n dX1_spread_69 rfl rfl ?_
    refine A_callV (n := 0) dX1_spread_70 kvX1_dropSoWays mlX1_49 rfl (az_rc_obj clX1 (hH 0 _ rfl)) (c_X1_dropSoWays l G d sh sg la o 1 (zI (zW na 0)) (zW na 0) (sFall cn 0) (cAir cn) hH (cRng_fall0 hRn)) (by omega) (Nat.le_refl _) (Nat.le_refl _) rfl (Nat.le_of_ble_eq_true rfl) (fun r S1 hp => ?_)
    obtain ⟨rfl, a2, rfl⟩ := hp
    show AW l G mX1_spread (d + 5) (az_F G Post) 0 0 73 [some (.ref o), some (.ref n0), some (.int (nI t)), none] [] (sh, (zput (zU sg o 1 (zI (zW na 0)) (zI (zQ (sFall cn 0) na 0))) (o + 1) (sAir (sFall cn 0) a2)), la)
    refine A_iconst (v := 0) dX1_spread_73 (by decide) ?_
    refine A_istore_n (lo2 := [some (.ref o), some (.ref n0), some (.int (nI t)), some (.int 0)]) dX1_spread_74 rfl (by decide) rfl ?_
    have loop : ∀ (q_i9 i9 : Nat) (a1 : Int32), i9 + q_i9 = t → AW l G mX1_spread (d + 5) (az_F G Post) 0 0 75 [some (.ref o), some (.ref n0), some (.int (nI t)), some (.int (nI i9))] [] (sh, (zput (zU sg o (nI (4 ^ i9)) (zI (zW na i9)) (zI (zQ (sFall cn 0) na i9))) (o + 1) (sAir (zdays i9 (sFall cn 0)) a1)), la) := by
      intro q_i9
      induction q_i9 with
      | zero =>
        intro i9 a1 hi_i9  
        have hN_i9 : i9 = t := by omega
        subst hN_i9
        refine A_iload_n dX1_spread_75 rfl rfl ?_
        refine A_iload_n dX1_spread_76 rfl rfl ?_
        refine A_icmp_ge (tgt := 122) dX1_spread_77 rfl (fun h_2 => ?_) (fun h_2 => ?_)
        · skip
          exact A_vret dX1_spread_122 rfl (hP _ _ ⟨rfl, _, cTl_air (cTl_days (cTl_fall ht2 0) hRn.1.2 _) _, rfl⟩)
        · skip
          exact absurd (Int32.le_refl _) h_2
      | succ q_i9 ih =>
        intro i9 a1 hi_i9  
        refine A_iload_n dX1_spread_75 rfl rfl ?_
        refine A_iload_n dX1_spread_76 rfl rfl ?_
        refine A_icmp_ge (tgt := 122) dX1_spread_77 rfl (fun h_3 => ?_) (fun h_3 => ?_)
        · skip
          exact absurd h_3 (nI_ge (by omega) (by omega))
        · skip
          refine A_aload_n dX1_spread_80 rfl rfl ?_
          refine B_getR (r := (o + 7)) dX1_spread_81 flX1_18 (hH 0 _ rfl) rfl ?_
          refine A_callS (n := 0) dX1_spread_84 ksX1_fallOnce mlX1_52 rfl (c_X1_fallOnce l G (d + 3) sh (zput (zU sg o (nI (4 ^ i9)) (zI (zW na i9)) (zI (zQ (sFall cn 0) na i9))) (o + 1) (sAir (zdays i9 (sFall cn 0)) a1)) la (o + 7) (zW na i9) (hH 7 _ rfl) ((zput_ne (by omega)).trans (zU_7 _ _ _ _ _))) (by omega) (Nat.le_refl _) (Nat.le_refl _) rfl (Nat.le_of_ble_eq_true rfl) (fun r S1 hp => ?_)
          obtain ⟨rfl, rfl⟩ := hp
          show AW l G mX1_spread (d + 5) (az_F G Post) 0 0 87 [some (.ref o), some (.ref n0), some (.int (nI t)), some (.int (nI i9))] [] (sh, (va_up (zput (zU sg o (nI (4 ^ i9)) (zI (zW na i9)) (zI (zQ (sFall cn 0) na i9))) (o + 1) (sAir (zdays i9 (sFall cn 0)) a1)) (o + 7) (zI (zfo (zW na i9)))), la)
          refine B_sg (show _ = (zput (zU sg o (nI (4 ^ i9)) (zI (zW na (i9 + 1))) (zI (zQ (sFall cn 0) na i9))) (o + 1) (sAir (zdays i9 (sFall cn 0)) a1)) from zU_w7) ?_
          refine A_aload_n dX1_spread_87 rfl rfl ?_
          refine B_getR (r := (o + 8)) dX1_spread_88 flX1_22 (hH 0 _ rfl) rfl ?_
          refine A_callS (n := 0) dX1_spread_91 ksX1_fallOnce mlX1_52 rfl (c_X1_fallOnce l G (d + 3) sh (zput (zU sg o (nI (4 ^ i9)) (zI (zW na (i9 + 1))) (zI (zQ (sFall cn 0) na i9))) (o + 1) (sAir (zdays i9 (sFall cn 0)) a1)) la (o + 8) (zQ (sFall cn 0) na i9) (hH 8 _ rfl) ((zput_ne (by omega)).trans (zU_8 _ _ _ _ _))) (by omega) (Nat.le_refl _) (Nat.le_refl _) rfl (Nat.le_of_ble_eq_true rfl) (fun r S1 hp => ?_)
          obtain ⟨rfl, rfl⟩ := hp
          show AW l G mX1_spread (d + 5) (az_F G Post) 0 0 94 [some (.ref o), some (.ref n0), some (.int (nI t)), some (.int (nI i9))] [] (sh, (va_up (zput (zU sg o (nI (4 ^ i9)) (zI (zW na (i9 + 1))) (zI (zQ (sFall cn 0) na i9))) (o + 1) (sAir (zdays i9 (sFall cn 0)) a1)) (o + 8) (zI (zfo (zQ (sFall cn 0) na i9)))), la)
          refine B_sg (show _ = (zput (zU sg o (nI (4 ^ i9)) (zI (zW na (i9 + 1))) (zI (zfo (zQ (sFall cn 0) na i9)))) (o + 1) (sAir (zdays i9 (sFall cn 0)) a1)) from zU_w8) ?_
          refine A_aload_n dX1_spread_94 rfl rfl ?_
          refine A_dup dX1_spread_95 rfl ?_
          refine B_getV (nI (4 ^ i9)) dX1_spread_96 flX1_25 (hH 0 _ rfl) rfl ((congrFun (zput_ne (by omega)) 3).trans (zU_3 _ _ _ _ _)) ?_
          refine A_iconst (v := 4) dX1_spread_99 (by decide) ?_
          refine A_imul dX1_spread_100 ?_
          refine B_putI dX1_spread_101 fwX1_25 (hH 0 _ rfl) rfl ?_
          refine B_sg (show _ = (zput (zU sg o (nI (4 ^ (i9 + 1))) (zI (zW na (i9 + 1))) (zI (zfo (zQ (sFall cn 0) na i9)))) (o + 1) (sAir (zdays i9 (sFall cn 0)) a1)) from zU_wk.trans (congrArg (fun z => zput (zU sg o z _ _) (o + 1) _) (nI_mul (4 ^ i9) 4))) ?_
          refine A_aload_n dX1_spread_104 rfl rfl ?_
          refine B_getR (r := (o + 1)) dX1_spread_105 flX1_12 (hH 0 _ rfl) rfl ?_
          refine A_iconst (v := 1) dX1_spread_108 (by decide) ?_
          refine A_callV (n := 0) dX1_spread_109 kvX2_coolDown mlX1_56 rfl (az_rc_obj clX2 (hH 1 _ rfl)) (z_X2_coolDown l G (d + 3) sh (zU sg o (nI (4 ^ (i9 + 1))) (zI (zW na (i9 + 1))) (zI (zfo (zQ (sFall cn 0) na i9)))) la (o + 1) (sAir (zdays i9 (sFall cn 0)) a1) 1 hT (show cOk (sAir (zdays i9 (sFall cn 0)) a1) from (zdays_Rng (cRng_fall0 hRn) _).1)) (by omega) (Nat.le_refl _) (Nat.le_refl _) rfl (Nat.le_of_ble_eq_true rfl) (fun r S1 hp => ?_)
          obtain ⟨rfl, rfl⟩ := hp
          show AW l G mX1_spread (d + 5) (az_F G Post) 0 0 112 [some (.ref o), some (.ref n0), some (.int (nI t)), some (.int (nI i9))] [] (sh, (zput (zU sg o (nI (4 ^ (i9 + 1))) (zI (zW na (i9 + 1))) (zI (zfo (zQ (sFall cn 0) na i9)))) (o + 1) (zcool 1 (sAir (zdays i9 (sFall cn 0)) a1))), la)
          obtain ⟨a3, ha3⟩ := zcool_air (zdays i9 (sFall cn 0)) 1 a1
          refine B_sg (show _ = (zput (zU sg o (nI (4 ^ (i9 + 1))) (zI (zW na (i9 + 1))) (zI (zfo (zQ (sFall cn 0) na i9)))) (o + 1) (sAir (zdays (i9 + 1) (sFall cn 0)) a3)) from congrArg (fun z => zput (zU sg o (nI (4 ^ (i9 + 1))) (zI (zW na (i9 + 1))) (zI (zfo (zQ (sFall cn 0) na i9)))) (o + 1) z) ha3) ?_
          refine A_aload_n dX1_spread_112 rfl rfl ?_
          refine A_callV (n := 0) dX1_spread_113 kvX1_dropSoWays mlX1_49 rfl (az_rc_obj clX1 (hH 0 _ rfl)) (c_X1_dropSoWays l G d sh sg la o (nI (4 ^ (i9 + 1))) (zI (zW na (i9 + 1))) (zfo (zQ (sFall cn 0) na i9)) (zdays (i9 + 1) (sFall cn 0)) a3 hH (zdays_Rng (cRng_fall0 hRn) _)) (by omega) (Nat.le_refl _) (Nat.le_refl _) rfl (Nat.le_of_ble_eq_true rfl) (fun r S1 hp => ?_)
          obtain ⟨rfl, a2, rfl⟩ := hp
          show AW l G mX1_spread (d + 5) (az_F G Post) 0 0 116 [some (.ref o), some (.ref n0), some (.int (nI t)), some (.int (nI i9))] [] (sh, (zput (zU sg o (nI (4 ^ (i9 + 1))) (zI (zW na (i9 + 1))) (zI (zQ (sFall cn 0) na (i9 + 1)))) (o + 1) (sAir (zdays (i9 + 1) (sFall cn 0)) a2)), la)
          refine A_iinc (v := nI (i9 + 1)) (lo2 := [some (.ref o), some (.ref n0), some (.int (nI t)), some (.int (nI (i9 + 1)))]) dX1_spread_116 rfl (nI_1 i9) (by decide) rfl ?_
          refine A_goto (tgt := 75) dX1_spread_119 rfl ?_
          refine ih (i9 + 1) _ (by omega)
    exact loop (t) 0 _ (by omega)
set_option maxHeartbeats 600000 in
set_option maxRecDepth 100000 in
theorem c_X1_likely (l : Launch) (G : az_Gh) (d : Nat) (sh : List az_Sh) (sg : Nat → Nat → Int32) (la : Nat → Nat → Int64) (o : Nat) (k : Int32) (wf q : Nat → Nat) (c : CT) (hH : az_at sh o (lyH o)) : FM l G (d) mX1_likely [.ref o] (sh, (zput (zU sg o k (zI wf) (zI q)) (o + 1) c), la) (some (.int (zlik k (nI (zsm q 41))))) (sh, (zput (zU sg o k (zI wf) (zI q)) (o + 1) c), la) := by
  refine az_fm knX1_likely (Nat.le_of_ble_eq_true rfl) rfl (fun Post hP => ?_)
  show AW l G mX1_likely (d) (az_F G Post) 0 0 0 [some (.ref o), none, none] [] (sh, (zput (zU sg o k (zI wf) (zI q)) (o + 1) c), la)
  refine A_iconst (v := 0) dX1_likely_0 (by decide) ?_
  refine A_istore_n (lo2 := [some (.ref o), some (.int 0), none]) dX1_likely_1 rfl (by decide) rfl ?_
  refine A_iconst (v := 0) dX1_likely_2 (by decide) ?_
  refine A_istore_n (lo2 := [some (.ref o), some (.int 0), some (.int 0)]) dX1_likely_3 rfl (by decide) rfl ?_
  have loop : ∀ (q_i9 i9 : Nat) (x1 : Int32), i9 + q_i9 = 41 → x1 = nI (zsm q i9) → AW l G mX1_likely (d) (az_F G Post) 0 0 4 [some (.ref o), some (.int x1), some (.int (nI i9))] [] (sh, (zput (zU sg o k (zI wf) (zI q)) (o + 1) c), la) := by
    intro q_i9
    induction q_i9 with
    | zero =>
      intro i9 x1 hi_i9  e_x1
      have hN_i9 : i9 = 41 := by omega
      subst hN_i9
      refine A_iload_n dX1_likely_4 rfl rfl ?_
      refine A_bipush (v := 40) dX1_likely_5 (by decide) ?_
      refine A_icmp_gt (tgt := 25) dX1_likely_7 rfl (fun h_1 => ?_) (fun h_1 => ?_)
      · skip
        refine A_aload_n dX1_likely_25 rfl rfl ?_
        refine B_getV (k) dX1_likely_26 flX1_25 (hH 0 _ rfl) rfl ((congrFun (zput_ne (by omega)) 3).trans (zU_3 _ _ _ _ _)) ?_
        refine A_iconst (v := 1) dX1_likely_29 (by decide) ?_
        refine A_icmp_ge (tgt := 37) dX1_likely_30 rfl (fun h_2 => ?_) (fun h_2 => ?_)
        · skip
          refine A_aload_n dX1_likely_37 rfl rfl ?_
          refine B_getV (k) dX1_likely_38 flX1_25 (hH 0 _ rfl) rfl ((congrFun (zput_ne (by omega)) 3).trans (zU_3 _ _ _ _ _)) ?_
          refine A_iload_n dX1_likely_41 rfl rfl ?_
          refine A_isub dX1_likely_42 ?_
          refine A_i2l dX1_likely_43 ?_
          refine A_ldc2 (v := 1000000) dX1_likely_44 lcX1_70 ?_
          refine A_lmul dX1_likely_47 ?_
          refine A_aload_n dX1_likely_48 rfl rfl ?_
          refine B_getV (k) dX1_likely_49 flX1_25 (hH 0 _ rfl) rfl ((congrFun (zput_ne (by omega)) 3).trans (zU_3 _ _ _ _ _)) ?_
          refine A_i2l dX1_likely_52 ?_
          refine A_ldiv dX1_likely_53 (fun q9 => absurd (show (1 : Int32) ≤ k from h_2) (by rw [i2l_0 q9]; decide)) ?_
          refine A_l2i dX1_likely_54 ?_
          refine A_iret dX1_likely_55 rfl (az_pi hP ?_ (rfl))
          (show _ = zlik k _; unfold zlik; rw [if_neg (Int32.not_lt.mpr h_2), e_x1])
        · skip
          refine A_iconst (v := 0) dX1_likely_33 (by decide) ?_
          refine A_goto (tgt := 55) dX1_likely_34 rfl ?_
          refine A_iret dX1_likely_55 rfl (az_pi hP ?_ (rfl))
          (show _ = zlik k _; unfold zlik; rw [if_pos (Int32.not_le.mp h_2)])
      · skip
        exact absurd (by decide) h_1
    | succ q_i9 ih =>
      intro i9 x1 hi_i9  e_x1
      refine A_iload_n dX1_likely_4 rfl rfl ?_
      refine A_bipush (v := 40) dX1_likely_5 (by decide) ?_
      refine A_icmp_gt (tgt := 25) dX1_likely_7 rfl (fun h_3 => ?_) (fun h_3 => ?_)
      · skip
        exact absurd h_3 (nI_nlt (b := i9) (a := 40) (by omega) (by decide))
      · skip
        refine A_iload_n dX1_likely_10 rfl rfl ?_
        refine A_aload_n dX1_likely_11 rfl rfl ?_
        refine B_getR (r := (o + 8)) dX1_likely_12 flX1_22 (hH 0 _ rfl) rfl ?_
        refine A_iload_n dX1_likely_15 rfl rfl ?_
        refine B_ialdV (i := i9) (nI (q i9)) dX1_likely_16 (hH 8 _ rfl) (by decide) (rfl) (by omega) ((congrFun (zput_ne (by omega)) _).trans (congrFun (zU_8 _ _ _ _ _) _)) ?_
        refine A_iadd dX1_likely_17 ?_
        refine A_istore_n (lo2 := [some (.ref o), some (.int (x1 + nI (q i9))), some (.int (nI i9))]) dX1_likely_18 rfl (by decide) rfl ?_
        refine A_iinc (v := nI (i9 + 1)) (lo2 := [some (.ref o), some (.int (x1 + nI (q i9))), some (.int (nI (i9 + 1)))]) dX1_likely_19 rfl (nI_1 i9) (by decide) rfl ?_
        refine A_goto (tgt := 4) dX1_likely_22 rfl ?_
        refine ih (i9 + 1) _ (by omega) ?_
        · skip
          rw [e_x1]; exact nI_add _ _
  exact loop (41) 0 _ (by omega) (rfl)
set_option maxHeartbeats 600000 in
set_option maxRecDepth 100000 in
theorem c_X1_meanAir (l : Launch) (G : az_Gh) (d : Nat) (sh : List az_Sh) (sg : Nat → Nat → Int32) (la : Nat → Nat → Int64) (o : Nat) (k : Int32) (wf q : Nat → Nat) (c : CT) (hH : az_at sh o (lyH o)) : FM l G (d) mX1_meanAir [.ref o] (sh, (zput (zU sg o k (zI wf) (zI q)) (o + 1) c), la) (some (.int (zmean k (zsmL wf 41)))) (sh, (zput (zU sg o k (zI wf) (zI q)) (o + 1) c), la) := by
  refine az_fm knX1_meanAir (Nat.le_of_ble_eq_true rfl) rfl (fun Post hP => ?_)
  show AW l G mX1_meanAir (d) (az_F G Post) 0 0 0 [some (.ref o), none, none, none] [] (sh, (zput (zU sg o k (zI wf) (zI q)) (o + 1) c), la)
  refine A_lconst (v := 0) dX1_meanAir_0 (by decide) ?_
  refine A_lstore_n (lo2 := [some (.ref o), some (.long 0), none, none]) dX1_meanAir_1 rfl (by decide) rfl ?_
  refine A_iconst (v := 0) dX1_meanAir_2 (by decide) ?_
  refine A_istore_n (lo2 := [some (.ref o), some (.long 0), none, some (.int 0)]) dX1_meanAir_3 rfl (by decide) rfl ?_
  have loop : ∀ (q_i9 i9 : Nat) (L1 : Int64), i9 + q_i9 = 41 → L1 = zsmL wf i9 → AW l G mX1_meanAir (d) (az_F G Post) 0 0 4 [some (.ref o), some (.long L1), none, some (.int (nI i9))] [] (sh, (zput (zU sg o k (zI wf) (zI q)) (o + 1) c), la) := by
    intro q_i9
    induction q_i9 with
    | zero =>
      intro i9 L1 hi_i9  e_L1
      have hN_i9 : i9 = 41 := by omega
      subst hN_i9
      refine A_iload_n dX1_meanAir_4 rfl rfl ?_
      refine A_bipush (v := 40) dX1_meanAir_5 (by decide) ?_
      refine A_icmp_gt (tgt := 29) dX1_meanAir_7 rfl (fun h_1 => ?_) (fun h_1 => ?_)
      · skip
        refine A_aload_n dX1_meanAir_29 rfl rfl ?_
        refine B_getV (k) dX1_meanAir_30 flX1_25 (hH 0 _ rfl) rfl ((congrFun (zput_ne (by omega)) 3).trans (zU_3 _ _ _ _ _)) ?_
        refine A_iconst (v := 1) dX1_meanAir_33 (by decide) ?_
        refine A_icmp_ge (tgt := 41) dX1_meanAir_34 rfl (fun h_2 => ?_) (fun h_2 => ?_)
        · skip
          refine A_lload_n dX1_meanAir_41 rfl rfl ?_
          refine A_ldc2 (v := 1000) dX1_meanAir_42 lcX1_72 ?_
          refine A_lmul dX1_meanAir_45 ?_
          refine A_aload_n dX1_meanAir_46 rfl rfl ?_
          refine B_getV (k) dX1_meanAir_47 flX1_25 (hH 0 _ rfl) rfl ((congrFun (zput_ne (by omega)) 3).trans (zU_3 _ _ _ _ _)) ?_
          refine A_i2l dX1_meanAir_50 ?_
          refine A_ldiv dX1_meanAir_51 (fun q9 => absurd (show (1 : Int32) ≤ k from h_2) (by rw [i2l_0 q9]; decide)) ?_
          refine A_l2i dX1_meanAir_52 ?_
          refine A_iret dX1_meanAir_53 rfl (az_pi hP ?_ (rfl))
          (show _ = zmean k _; unfold zmean; rw [if_neg (Int32.not_lt.mpr h_2), e_L1])
        · skip
          refine A_iconst (v := 0) dX1_meanAir_37 (by decide) ?_
          refine A_goto (tgt := 53) dX1_meanAir_38 rfl ?_
          refine A_iret dX1_meanAir_53 rfl (az_pi hP ?_ (rfl))
          (show _ = zmean k _; unfold zmean; rw [if_pos (Int32.not_le.mp h_2)])
      · skip
        exact absurd (by decide) h_1
    | succ q_i9 ih =>
      intro i9 L1 hi_i9  e_L1
      refine A_iload_n dX1_meanAir_4 rfl rfl ?_
      refine A_bipush (v := 40) dX1_meanAir_5 (by decide) ?_
      refine A_icmp_gt (tgt := 29) dX1_meanAir_7 rfl (fun h_3 => ?_) (fun h_3 => ?_)
      · skip
        exact absurd h_3 (nI_nlt (b := i9) (a := 40) (by omega) (by decide))
      · skip
        refine A_lload_n dX1_meanAir_10 rfl rfl ?_
        refine A_iload_n dX1_meanAir_11 rfl rfl ?_
        refine A_i2l dX1_meanAir_12 ?_
        refine A_aload_n dX1_meanAir_13 rfl rfl ?_
        refine B_getR (r := (o + 7)) dX1_meanAir_14 flX1_18 (hH 0 _ rfl) rfl ?_
        refine A_iload_n dX1_meanAir_17 rfl rfl ?_
        refine B_ialdV (i := i9) (nI (wf i9)) dX1_meanAir_18 (hH 7 _ rfl) (by decide) (rfl) (by omega) ((congrFun (zput_ne (by omega)) _).trans (congrFun (zU_7 _ _ _ _ _) _)) ?_
        refine A_i2l dX1_meanAir_19 ?_
        refine A_lmul dX1_meanAir_20 ?_
        refine A_ladd dX1_meanAir_21 ?_
        refine A_lstore_n (lo2 := [some (.ref o), some (.long (L1 + (Int32.toInt64 (nI i9) * Int32.toInt64 (nI (wf i9))))), none, some (.int (nI i9))]) dX1_meanAir_22 rfl (by decide) rfl ?_
        refine A_iinc (v := nI (i9 + 1)) (lo2 := [some (.ref o), some (.long (L1 + (Int32.toInt64 (nI i9) * Int32.toInt64 (nI (wf i9))))), none, some (.int (nI (i9 + 1)))]) dX1_meanAir_23 rfl (nI_1 i9) (by decide) rfl ?_
        refine A_goto (tgt := 4) dX1_meanAir_26 rfl ?_
        refine ih (i9 + 1) _ (by omega) ?_
        · skip
          rw [e_L1]; rfl
  exact loop (41) 0 _ (by omega) (rfl)
