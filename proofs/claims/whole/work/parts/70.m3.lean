theorem cw_Air_AirFallFe {c : CT} {x0 : Int32} {x1 : Int32} {x2 : Nat → Int32} {y : Int32} : sAir (sFe (sFall (sAir c x0) x1) x2) y = (sAir (sFe (sFall c x1) x2) y) := by rw [sc_AirFall, sc_AirFe, ss_Air]
theorem cw_Fall_FallFeAir {c : CT} {x0 : Int32} {x1 : Nat → Int32} {x2 : Int32} {y : Int32} : sFall (sAir (sFe (sFall c x0) x1) x2) y = (sFall (sAir (sFe c x1) x2) y) := by rw [sc_FallFe, sc_FallAir, ss_Fall]
theorem cr_Pp_AirFallFe {c : CT} {x0 : Int32} {x1 : Int32} {x2 : Nat → Int32} : cPp (sFe (sFall (sAir c x0) x1) x2) = cPp c := by rw [cs_PpFe, cs_PpFall, cs_PpAir]
theorem cr_Fe_AirFallFe {c : CT} {x0 : Int32} {x1 : Int32} {x2 : Nat → Int32} : cFe (sFe (sFall (sAir c x0) x1) x2) = x2 := by rw [cs_FeFe]
theorem cu_Fe_AirFallFe {c : CT} {x0 : Int32} {x1 : Int32} {x2 : Nat → Int32} {i : Nat} {y : Int32} : sFe (sFe (sFall (sAir c x0) x1) x2) (va_up (cFe (sFe (sFall (sAir c x0) x1) x2)) i y) = (sFe (sFall (sAir c x0) x1) (va_up x2 i y)) := by rw [cr_Fe_AirFallFe, ss_Fe]
set_option maxHeartbeats 1000000 in
set_option maxRecDepth 100000 in
theorem r_goesBack (l : Launch) (G : az_Gh) (d : Nat) (sh : List az_Sh) (u : Nat → Nat → Int32) (la : Nat → Nat → Int64) (kp tr : Option Nat) (c : CT) (e9 : CT) (hM : az_at sh 60 (lyM 60 kp tr)) (hO : cOk c) (hk : kpt u c) (hd9 : mdf c e9) : FM l G (d) mX8_goesBack [.ref 60] (sh, (mput u 60 e9), la) (none) (sh, mput u 60 c, la) := by
  refine az_fm knX8_goesBack (Nat.le_of_ble_eq_true rfl) rfl (fun Post hP => ?_)
  show AW l G mX8_goesBack (d) (az_F G Post) 0 0 0 [some (.ref 60), none] [] (sh, (mput u 60 e9), la)
  have h8 := hO.2
  obtain ⟨a9, f9, fe9, rfl, hf9⟩ := hd9
  show AW l G mX8_goesBack (d) (az_F G Post) 0 0 0 [some (.ref 60), none] [] (sh, (mput u 60 (sFe (sFall (sAir c a9) f9) fe9)), la)
  refine A_aload_n dX8_goesBack_0 rfl rfl ?_
  refine A_aload_n dX8_goesBack_1 rfl rfl ?_
  refine B_getV (cAir c) dX8_goesBack_2 flX8_253 (hM 0 _ rfl) rfl ((mput_f rfl).trans hk.1) ?_
  refine B_putI dX8_goesBack_5 fwX8_37 (hM 0 _ rfl) rfl ?_
  refine B_sg (show _ = (mput u 60 (sAir (sFe (sFall c f9) fe9) (cAir c))) from (mw_9 _ _ _ _).trans (congrArg (mput u 60) cw_Air_AirFallFe)) ?_
  refine A_aload_n dX8_goesBack_8 rfl rfl ?_
  refine A_aload_n dX8_goesBack_9 rfl rfl ?_
  refine B_getV (cFall c) dX8_goesBack_10 flX8_256 (hM 0 _ rfl) rfl ((mput_f rfl).trans hk.2.1) ?_
  refine B_putI dX8_goesBack_13 fwX8_41 (hM 0 _ rfl) rfl ?_
  refine B_sg (show _ = (mput u 60 (sFall (sAir (sFe c fe9) (cAir c)) (cFall c))) from (mw_10 _ _ _ _).trans (congrArg (mput u 60) cw_Fall_FallFeAir)) ?_
  refine A_iconst (v := 0) dX8_goesBack_16 (by decide) ?_
  refine A_istore_n (lo2 := [some (.ref 60), some (.int 0)]) dX8_goesBack_17 rfl (by decide) rfl ?_
  refine B_sg (show _ = mput u 60 (sFe (sFall (sAir c (cAir c)) (cFall c)) (fa_fill (cFe c) fe9 0)) from congrArg (mput u 60) (by rw [fa_fill_0]; exact mk0 _ _ _ _)) ?_
  have loop : ∀ (q_i9 i9 : Nat), i9 + q_i9 = cN c → AW l G mX8_goesBack (d) (az_F G Post) 0 0 18 [some (.ref 60), some (.int (nI i9))] [] (sh, (mput u 60 (sFe (sFall (sAir c (cAir c)) (cFall c)) (fa_fill (cFe c) fe9 i9))), la) := by
    intro q_i9
    induction q_i9 with
    | zero =>
      intro i9  hi_i9  
      have hN_i9 : i9 = cN c := by omega
      subst i9
      refine A_iload_n dX8_goesBack_18 rfl rfl ?_
      refine A_aload_n dX8_goesBack_19 rfl rfl ?_
      refine B_getV (nI (cN c)) dX8_goesBack_20 flX8_88 (hM 0 _ rfl) rfl (((mr_14 _ _ _).trans cr_Pp_AirFallFe).trans hO.1) ?_
      refine A_icmp_ge (tgt := 44) dX8_goesBack_23 rfl (fun h_1 => ?_) (fun h_1 => ?_)
      · skip
        exact A_vret dX8_goesBack_44 rfl (az_pv hP (congrArg (fun z => (sh, mput u 60 z, la)) ((mk0 _ _ _ _).symm.trans (mback c fe9 hf9))))
      · skip
        exact absurd (Int32.le_refl _) h_1
    | succ q_i9 ih =>
      intro i9  hi_i9  
      refine A_iload_n dX8_goesBack_18 rfl rfl ?_
      refine A_aload_n dX8_goesBack_19 rfl rfl ?_
      refine B_getV (nI (cN c)) dX8_goesBack_20 flX8_88 (hM 0 _ rfl) rfl (((mr_14 _ _ _).trans cr_Pp_AirFallFe).trans hO.1) ?_
      refine A_icmp_ge (tgt := 44) dX8_goesBack_23 rfl (fun h_2 => ?_) (fun h_2 => ?_)
      · skip
        exact absurd h_2 (nI_ge (by omega) (by omega))
      · skip
        refine A_aload_n dX8_goesBack_26 rfl rfl ?_
        refine B_getR (r := 81) dX8_goesBack_27 flX8_62 (hM 0 _ rfl) rfl ?_
        refine A_iload_n dX8_goesBack_30 rfl rfl ?_
        refine A_aload_n dX8_goesBack_31 rfl rfl ?_
        refine B_getR (r := 83) dX8_goesBack_32 flX8_74 (hM 0 _ rfl) rfl ?_
        refine A_iload_n dX8_goesBack_35 rfl rfl ?_
        refine B_ialdV (i := i9) (cFe c i9) dX8_goesBack_36 (hM 23 _ rfl) (by decide) (rfl) (by omega) ((congrFun (mput_ne (by decide) (by decide)) _).trans (hk.2.2 _ (by omega))) ?_
        refine B_iast (i := i9) dX8_goesBack_37 (hM 21 _ rfl) (by decide) (rfl) (by omega) ?_
        refine B_sg (show _ = (mput u 60 (sFe (sFall (sAir c (cAir c)) (cFall c)) (va_up (fa_fill (cFe c) fe9 i9) i9 (cFe c i9)))) from (mx_21 _ _ _ _ _).trans (congrArg (mput u 60) cu_Fe_AirFallFe)) ?_
        refine B_sg (show _ = mput u 60 (sFe (sFall (sAir c (cAir c)) (cFall c)) (fa_fill (cFe c) fe9 (i9 + 1))) from congrArg (fun z => mput u 60 (sFe (sFall (sAir c (cAir c)) (cFall c)) z)) (fa_fill_up _ _ _)) ?_
        refine A_iinc (v := nI (i9 + 1)) (lo2 := [some (.ref 60), some (.int (nI (i9 + 1)))]) dX8_goesBack_38 rfl (nI_1 i9) (by decide) rfl ?_
        refine A_goto (tgt := 18) dX8_goesBack_41 rfl ?_
        refine ih (i9 + 1) (by omega)
  exact loop (cN c) 0 (by omega)
set_option maxHeartbeats 1000000 in
set_option maxRecDepth 100000 in
theorem r_whenSo (l : Launch) (G : az_Gh) (d : Nat) (sh : List az_Sh) (u : Nat → Nat → Int32) (la : Nat → Nat → Int64) (kp tr : Option Nat) (c : CT)  (hM : az_at sh 60 (lyM 60 kp tr)) (hO : cOk c) (hL : cLv c) : FM l G (d + 4) mX8_whenSo [.ref 60] (sh, (mput u 60 c), la) (some (.int (nI (zwhen c 60)))) (sh, mput (az_w u 60 34 (mwho c)) 60 (zdays (zwhen c 60) c), la) := by
  refine az_fm knX8_whenSo (Nat.le_of_ble_eq_true rfl) rfl (fun Post hP => ?_)
  show AW l G mX8_whenSo (d + 4) (az_F G Post) 0 0 0 [some (.ref 60), none] [] (sh, (mput u 60 c), la)
  have h8 := hO.2
  refine A_iconst (v := 0) dX8_whenSo_0 (by decide) ?_
  refine A_istore_n (lo2 := [some (.ref 60), some (.int 0)]) dX8_whenSo_1 rfl (by decide) rfl ?_
  show AW l G mX8_whenSo (d + 4) (az_F G Post) 0 0 2 [some (.ref 60), some (.int 0)] [] (sh, mput u 60 (zdays 0 c), la)
  have loop : ∀ (q_i9 i9 : Nat), i9 + q_i9 = 61 → (∀ k, k < i9 → zso (zdays k c) = false) → AW l G mX8_whenSo (d + 4) (az_F G Post) 0 0 2 [some (.ref 60), some (.int (nI i9))] [] (sh, (mput u 60 (zdays i9 c)), la) := by
    intro q_i9
    induction q_i9 with
    | zero =>
      intro i9  hi_i9 hno 
      have hN_i9 : i9 = 61 := by omega
      subst i9
      refine A_iload_n dX8_whenSo_2 rfl rfl ?_
      refine A_bipush (v := 60) dX8_whenSo_3 (by decide) ?_
      refine A_icmp_gt (tgt := 25) dX8_whenSo_5 rfl (fun h_1 => ?_) (fun h_1 => ?_)
      · skip
        refine A_aload_n dX8_whenSo_25 rfl rfl ?_
        refine A_iload_n dX8_whenSo_26 rfl rfl ?_
        refine A_bipush (v := 60) dX8_whenSo_27 (by decide) ?_
        refine A_icmp_gt (tgt := 39) dX8_whenSo_29 rfl (fun h_2 => ?_) (fun h_2 => ?_)
        · skip
          refine A_iconst (v := (-1)) dX8_whenSo_39 (by decide) ?_
          refine B_putI dX8_whenSo_40 fwX8_262 (hM 0 _ rfl) rfl ?_
          refine B_sg (show _ = (mput (az_w u 60 34 (-1)) 60 (zdays 61 c)) from mput_wj rfl) ?_
          refine A_iload_n dX8_whenSo_43 rfl rfl ?_
          have hz : zwhen c 60 = 61 := fa_first_none hno
          refine A_iret dX8_whenSo_44 rfl (az_pi hP (by rw [hz]) (by rw [hz, mwho, hz, if_neg (by omega)]))
        · skip
          exact absurd (by decide) h_2
      · skip
        exact absurd (by decide) h_1
    | succ q_i9 ih =>
      intro i9  hi_i9 hno 
      refine A_iload_n dX8_whenSo_2 rfl rfl ?_
      refine A_bipush (v := 60) dX8_whenSo_3 (by decide) ?_
      refine A_icmp_gt (tgt := 25) dX8_whenSo_5 rfl (fun h_3 => ?_) (fun h_3 => ?_)
      · skip
        exact absurd h_3 (nI_nlt (b := i9) (a := 60) (by omega) (by decide))
      · skip
        refine A_aload_n dX8_whenSo_8 rfl rfl ?_
        refine A_callV (n := 0) dX8_whenSo_9 kvX8_isSoNow mlX8_244 rfl (az_rc_obj clX8 (hM 0 _ rfl)) (r_isSoNow l G d sh u la kp tr (zdays i9 c) hM (cOk_days hO i9) (cLv_days hL i9)) (by omega) (Nat.le_refl _) (Nat.le_refl _) rfl (Nat.le_of_ble_eq_true rfl) (fun r S1 hp => ?_)
        obtain ⟨rfl, rfl⟩ := hp
        show AW l G mX8_whenSo (d + 4) (az_F G Post) 0 0 12 [some (.ref 60), some (.int (nI i9))] [.int (b2i (zso (zdays i9 c) = true))] (sh, (mput u 60 (zdays i9 c)), la)
        refine A_if_ne (tgt := 25) dX8_whenSo_12 rfl (fun h_4 => ?_) (fun h_4 => ?_)
        · skip
          have h_4' := b2i_n.mp h_4
          refine A_aload_n dX8_whenSo_25 rfl rfl ?_
          refine A_iload_n dX8_whenSo_26 rfl rfl ?_
          refine A_bipush (v := 60) dX8_whenSo_27 (by decide) ?_
          refine A_icmp_gt (tgt := 39) dX8_whenSo_29 rfl (fun h_5 => ?_) (fun h_5 => ?_)
          · skip
            exact absurd h_5 (nI_nlt (b := i9) (a := 60) (by omega) (by decide))
          · skip
            refine A_aload_n dX8_whenSo_32 rfl rfl ?_
            refine A_callV (n := 0) dX8_whenSo_33 kvX8_coldestOf mlX8_236 rfl (az_rc_obj clX8 (hM 0 _ rfl)) (r_coldestOf l G (d + 1) sh u la kp tr (zdays i9 c) hM (cOk_days hO i9) (cLv_days hL i9)) (by omega) (Nat.le_refl _) (Nat.le_refl _) rfl (Nat.le_of_ble_eq_true rfl) (fun r S1 hp => ?_)
            obtain ⟨rfl, rfl⟩ := hp
            show AW l G mX8_whenSo (d + 4) (az_F G Post) 0 0 36 [some (.ref 60), some (.int (nI i9))] [.int (oI (zbest (zdays i9 c))), .ref 60] (sh, (mput u 60 (zdays i9 c)), la)
            refine A_goto (tgt := 40) dX8_whenSo_36 rfl ?_
            refine B_putI dX8_whenSo_40 fwX8_262 (hM 0 _ rfl) rfl ?_
            refine B_sg (show _ = (mput (az_w u 60 34 (oI (zbest (zdays i9 c)))) 60 (zdays i9 c)) from mput_wj rfl) ?_
            refine A_iload_n dX8_whenSo_43 rfl rfl ?_
            have hz : zwhen c 60 = i9 := fa_first_eq (by omega) h_4' hno
            refine A_iret dX8_whenSo_44 rfl (az_pi hP (by rw [hz]) (by rw [hz, mwho, hz, if_pos (by omega)]))
        · skip
          have h_4' := b2i_0.mp h_4
          refine A_aload_n dX8_whenSo_15 rfl rfl ?_
          refine A_callV (n := 0) dX8_whenSo_16 kvX8_cools mlX8_259 rfl (az_rc_obj clX8 (hM 0 _ rfl)) (r_cools l G (d + 2) sh u la kp tr (zdays i9 c) hM (cOk_days hO i9)) (by omega) (Nat.le_refl _) (Nat.le_refl _) rfl (Nat.le_of_ble_eq_true rfl) (fun r S1 hp => ?_)
          obtain ⟨rfl, rfl⟩ := hp
          show AW l G mX8_whenSo (d + 4) (az_F G Post) 0 0 19 [some (.ref 60), some (.int (nI i9))] [] (sh, (mput u 60 (zcool 1 (zdays i9 c))), la)
          refine A_iinc (v := nI (i9 + 1)) (lo2 := [some (.ref 60), some (.int (nI (i9 + 1)))]) dX8_whenSo_19 rfl (nI_1 i9) (by decide) rfl ?_
          refine A_goto (tgt := 2) dX8_whenSo_22 rfl ?_
          refine ih (i9 + 1) (by omega) (lt_s hno (Bool.eq_false_iff.mpr h_4'))
  exact loop (61) 0 (by omega) lt_0
set_option maxHeartbeats 1000000 in
set_option maxRecDepth 100000 in
theorem r_lasts (l : Launch) (G : az_Gh) (d : Nat) (sh : List az_Sh) (u : Nat → Nat → Int32) (la : Nat → Nat → Int64) (kp tr : Option Nat) (c : CT) (p : Nat) (hM : az_at sh 60 (lyM 60 kp tr)) (hO : cOk c) (hL : cLv c) (hp : p < cN c) (hg : ¬ nI p = cAway c) : FM l G (d + 4) mX8_lasts [.ref 60, .int (nI p)] (sh, (mput u 60 c), la) (some (.int (nI (zhear c p)))) (sh, mput (mkp u c) 60 c, la) := by
  refine az_fm knX8_lasts (Nat.le_of_ble_eq_true rfl) rfl (fun Post hP => ?_)
  show AW l G mX8_lasts (d + 4) (az_F G Post) 0 0 0 [some (.ref 60), some (.int (nI p)), none] [] (sh, (mput u 60 c), la)
  have h8 := hO.2
  refine A_aload_n dX8_lasts_0 rfl rfl ?_
  refine A_callV (n := 0) dX8_lasts_1 kvX8_keeps mlX8_265 rfl (az_rc_obj clX8 (hM 0 _ rfl)) (r_keeps l G (d + 3) sh u la kp tr c hM hO) (by omega) (Nat.le_refl _) (Nat.le_refl _) rfl (Nat.le_of_ble_eq_true rfl) (fun r S1 hp => ?_)
  obtain ⟨rfl, rfl⟩ := hp
  show AW l G mX8_lasts (d + 4) (az_F G Post) 0 0 4 [some (.ref 60), some (.int (nI p)), none] [] (sh, (mput (mkp u c) 60 c), la)
  refine A_iconst (v := 0) dX8_lasts_4 (by decide) ?_
  refine A_istore_n (lo2 := [some (.ref 60), some (.int (nI p)), some (.int 0)]) dX8_lasts_5 rfl (by decide) rfl ?_
  show AW l G mX8_lasts (d + 4) (az_F G Post) 0 0 6 [some (.ref 60), some (.int (nI p)), some (.int 0)] [] (sh, mput (mkp u c) 60 (zdays 0 c), la)
  have loop : ∀ (q_i9 i9 : Nat), i9 + q_i9 = 61 → (∀ k, k < i9 → zsp (zdays k c) p = false) → AW l G mX8_lasts (d + 4) (az_F G Post) 0 0 6 [some (.ref 60), some (.int (nI p)), some (.int (nI i9))] [] (sh, (mput (mkp u c) 60 (zdays i9 c)), la) := by
    intro q_i9
    induction q_i9 with
    | zero =>
      intro i9  hi_i9 hno 
      have hN_i9 : i9 = 61 := by omega
      subst i9
      refine A_iload_n dX8_lasts_6 rfl rfl ?_
      refine A_bipush (v := 60) dX8_lasts_7 (by decide) ?_
      refine A_icmp_gt (tgt := 30) dX8_lasts_9 rfl (fun h_1 => ?_) (fun h_1 => ?_)
      · skip
        refine A_aload_n dX8_lasts_30 rfl rfl ?_
        refine A_callV (n := 0) dX8_lasts_31 kvX8_goesBack mlX8_271 rfl (az_rc_obj clX8 (hM 0 _ rfl)) (r_goesBack l G (d + 3) sh (mkp u c) la kp tr c (zdays 61 c) hM hO (kpt_kp u c) (mdf_days (mdf_rf c) _)) (by omega) (Nat.le_refl _) (Nat.le_refl _) rfl (Nat.le_of_ble_eq_true rfl) (fun r S1 hp => ?_)
        obtain ⟨rfl, rfl⟩ := hp
        show AW l G mX8_lasts (d + 4) (az_F G Post) 0 0 34 [some (.ref 60), some (.int (nI p)), some (.int (nI 61))] [] (sh, (mput (mkp u c) 60 c), la)
        refine A_iload_n dX8_lasts_34 rfl rfl ?_
        refine A_iret dX8_lasts_35 rfl (az_pi hP ?_ (rfl))
        exact congrArg nI (show _ = zhear c p from (fa_first_none hno).symm)
      · skip
        exact absurd (by decide) h_1
    | succ q_i9 ih =>
      intro i9  hi_i9 hno 
      refine A_iload_n dX8_lasts_6 rfl rfl ?_
      refine A_bipush (v := 60) dX8_lasts_7 (by decide) ?_
      refine A_icmp_gt (tgt := 30) dX8_lasts_9 rfl (fun h_2 => ?_) (fun h_2 => ?_)
      · skip
        exact absurd h_2 (nI_nlt (b := i9) (a := 60) (by omega) (by decide))
      · skip
        refine A_aload_n dX8_lasts_12 rfl rfl ?_
        refine A_iload_n dX8_lasts_13 rfl rfl ?_
        refine A_callV (n := 0) dX8_lasts_14 kvX8_speaksNow mlX8_239 rfl (az_rc_obj clX8 (hM 0 _ rfl)) (r_speaksNow l G (d + 1) sh (mkp u c) la kp tr (zdays i9 c) p hM (cOk_days hO i9) (cLv_days hL i9) (by rw [zdays_N]; exact hp) (by rw [cAw_days]; exact hg)) (by omega) (Nat.le_refl _) (Nat.le_refl _) rfl (Nat.le_of_ble_eq_true rfl) (fun r S1 hp => ?_)
        obtain ⟨rfl, rfl⟩ := hp
        show AW l G mX8_lasts (d + 4) (az_F G Post) 0 0 17 [some (.ref 60), some (.int (nI p)), some (.int (nI i9))] [.int (b2i (zsp (zdays i9 c) p = true))] (sh, (mput (mkp u c) 60 (zdays i9 c)), la)
        refine A_if_ne (tgt := 30) dX8_lasts_17 rfl (fun h_3 => ?_) (fun h_3 => ?_)
        · skip
          have h_3' := b2i_n.mp h_3
          refine A_aload_n dX8_lasts_30 rfl rfl ?_
          refine A_callV (n := 0) dX8_lasts_31 kvX8_goesBack mlX8_271 rfl (az_rc_obj clX8 (hM 0 _ rfl)) (r_goesBack l G (d + 3) sh (mkp u c) la kp tr c (zdays i9 c) hM hO (kpt_kp u c) (mdf_days (mdf_rf c) _)) (by omega) (Nat.le_refl _) (Nat.le_refl _) rfl (Nat.le_of_ble_eq_true rfl) (fun r S1 hp => ?_)
          obtain ⟨rfl, rfl⟩ := hp
          show AW l G mX8_lasts (d + 4) (az_F G Post) 0 0 34 [some (.ref 60), some (.int (nI p)), some (.int (nI i9))] [] (sh, (mput (mkp u c) 60 c), la)
          refine A_iload_n dX8_lasts_34 rfl rfl ?_
          refine A_iret dX8_lasts_35 rfl (az_pi hP ?_ (rfl))
          exact congrArg nI (show _ = zhear c p from (fa_first_eq (p := fun k => zsp (zdays k c) p) (by omega) h_3' hno).symm)
        · skip
          have h_3' := b2i_0.mp h_3
          refine A_aload_n dX8_lasts_20 rfl rfl ?_
          refine A_callV (n := 0) dX8_lasts_21 kvX8_cools mlX8_259 rfl (az_rc_obj clX8 (hM 0 _ rfl)) (r_cools l G (d + 2) sh (mkp u c) la kp tr (zdays i9 c) hM (cOk_days hO i9)) (by omega) (Nat.le_refl _) (Nat.le_refl _) rfl (Nat.le_of_ble_eq_true rfl) (fun r S1 hp => ?_)
          obtain ⟨rfl, rfl⟩ := hp
          show AW l G mX8_lasts (d + 4) (az_F G Post) 0 0 24 [some (.ref 60), some (.int (nI p)), some (.int (nI i9))] [] (sh, (mput (mkp u c) 60 (zcool 1 (zdays i9 c))), la)
          refine A_iinc (v := nI (i9 + 1)) (lo2 := [some (.ref 60), some (.int (nI p)), some (.int (nI (i9 + 1)))]) dX8_lasts_24 rfl (nI_1 i9) (by decide) rfl ?_
          refine A_goto (tgt := 6) dX8_lasts_27 rfl ?_
          refine ih (i9 + 1) (by omega) (lt_s hno (Bool.eq_false_iff.mpr h_3'))
  exact loop (61) 0 (by omega) lt_0
set_option maxHeartbeats 1000000 in
set_option maxRecDepth 100000 in
theorem r_rankOf (l : Launch) (G : az_Gh) (d : Nat) (sh : List az_Sh) (u : Nat → Nat → Int32) (la : Nat → Nat → Int64) (kp tr : Option Nat) (c : CT) (p : Nat) (hM : az_at sh 60 (lyM 60 kp tr)) (hO : cOk c) (hL : cLv c) (haw : cAway c = -1) (hp : p < cN c) : FM l G (d + 2) mX8_rankOf [.ref 60, .int (nI p)] (sh, (mput u 60 c), la) (some (.int (nI (zbef c p)))) (sh, mput u 60 c, la) := by
  refine az_fm knX8_rankOf (Nat.le_of_ble_eq_true rfl) rfl (fun Post hP => ?_)
  show AW l G mX8_rankOf (d + 2) (az_F G Post) 0 0 0 [some (.ref 60), some (.int (nI p)), none, none] [] (sh, (mput u 60 c), la)
  have h8 := hO.2
  refine A_iconst (v := 0) dX8_rankOf_0 (by decide) ?_
  refine A_istore_n (lo2 := [some (.ref 60), some (.int (nI p)), some (.int 0), none]) dX8_rankOf_1 rfl (by decide) rfl ?_
  refine A_iconst (v := 0) dX8_rankOf_2 (by decide) ?_
  refine A_istore_n (lo2 := [some (.ref 60), some (.int (nI p)), some (.int 0), some (.int 0)]) dX8_rankOf_3 rfl (by decide) rfl ?_
  have loop : ∀ (q_i9 i9 : Nat) (x2 : Int32), i9 + q_i9 = cN c → x2 = nI (fa_cnt (zah c p) i9) → AW l G mX8_rankOf (d + 2) (az_F G Post) 0 0 4 [some (.ref 60), some (.int (nI p)), some (.int x2), some (.int (nI i9))] [] (sh, (mput u 60 c), la) := by
    intro q_i9
    induction q_i9 with
    | zero =>
      intro i9 x2 hi_i9  e_x2
      have hN_i9 : i9 = cN c := by omega
      subst i9
      refine A_iload_n dX8_rankOf_4 rfl rfl ?_
      refine A_aload_n dX8_rankOf_5 rfl rfl ?_
      refine B_getV (nI (cN c)) dX8_rankOf_6 flX8_88 (hM 0 _ rfl) rfl ((mr_14 _ _ _).trans hO.1) ?_
      refine A_icmp_ge (tgt := 57) dX8_rankOf_9 rfl (fun h_1 => ?_) (fun h_1 => ?_)
      · skip
        refine A_iload_n dX8_rankOf_57 rfl rfl ?_
        refine A_iret dX8_rankOf_58 rfl (az_pi hP ?_ (rfl))
        rw [e_x2]; rfl
      · skip
        exact absurd (Int32.le_refl _) h_1
    | succ q_i9 ih =>
      intro i9 x2 hi_i9  e_x2
      refine A_iload_n dX8_rankOf_4 rfl rfl ?_
      refine A_aload_n dX8_rankOf_5 rfl rfl ?_
      refine B_getV (nI (cN c)) dX8_rankOf_6 flX8_88 (hM 0 _ rfl) rfl ((mr_14 _ _ _).trans hO.1) ?_
      refine A_icmp_ge (tgt := 57) dX8_rankOf_9 rfl (fun h_2 => ?_) (fun h_2 => ?_)
      · skip
        exact absurd h_2 (nI_ge (by omega) (by omega))
      · skip
        refine A_iload_n dX8_rankOf_12 rfl rfl ?_
        refine A_aload_n dX8_rankOf_13 rfl rfl ?_
        refine A_iload_n dX8_rankOf_14 rfl rfl ?_
        refine A_callV (n := 0) dX8_rankOf_15 kvX8_cold mlX8_122 rfl (az_rc_obj clX8 (hM 0 _ rfl)) (r_cold l G d sh u la kp tr c i9 hM hO hL (by omega) (by rw [haw]; exact nI_n1 (by omega))) (by omega) (Nat.le_refl _) (Nat.le_refl _) rfl (Nat.le_of_ble_eq_true rfl) (fun r S1 hp => ?_)
        obtain ⟨rfl, rfl⟩ := hp
        show AW l G mX8_rankOf (d + 2) (az_F G Post) 0 0 18 [some (.ref 60), some (.int (nI p)), some (.int x2), some (.int (nI i9))] [.int (zc c i9), .int x2] (sh, (mput u 60 c), la)
        refine A_aload_n dX8_rankOf_18 rfl rfl ?_
        refine A_iload_n dX8_rankOf_19 rfl rfl ?_
        refine A_callV (n := 0) dX8_rankOf_20 kvX8_cold mlX8_122 rfl (az_rc_obj clX8 (hM 0 _ rfl)) (r_cold l G d sh u la kp tr c p hM hO hL (by omega) (by rw [haw]; exact nI_n1 (by omega))) (by omega) (Nat.le_refl _) (Nat.le_refl _) rfl (Nat.le_of_ble_eq_true rfl) (fun r S1 hp => ?_)
        obtain ⟨rfl, rfl⟩ := hp
        show AW l G mX8_rankOf (d + 2) (az_F G Post) 0 0 23 [some (.ref 60), some (.int (nI p)), some (.int x2), some (.int (nI i9))] [.int (zc c p), .int (zc c i9), .int x2] (sh, (mput u 60 c), la)
        refine A_icmp_gt (tgt := 44) dX8_rankOf_23 rfl (fun h_3 => ?_) (fun h_3 => ?_)
        · skip
          refine A_iconst (v := 1) dX8_rankOf_44 (by decide) ?_
          refine A_goto (tgt := 49) dX8_rankOf_45 rfl ?_
          refine A_iadd dX8_rankOf_49 ?_
          refine A_istore_n (lo2 := [some (.ref 60), some (.int (nI p)), some (.int (x2 + 1)), some (.int (nI i9))]) dX8_rankOf_50 rfl (by decide) rfl ?_
          refine A_iinc (v := nI (i9 + 1)) (lo2 := [some (.ref 60), some (.int (nI p)), some (.int (x2 + 1)), some (.int (nI (i9 + 1)))]) dX8_rankOf_51 rfl (nI_1 i9) (by decide) rfl ?_
          refine A_goto (tgt := 4) dX8_rankOf_54 rfl ?_
          refine ih (i9 + 1) _ (by omega) ?_
          · skip
            rw [e_x2, fa_cnt_yes (p := zah c p) (show zah c p i9 = true from (zah_i c p i9).mpr (Or.inl (Int32.lt_iff_toInt_lt.mp h_3)))]; exact nI_1 _
        · skip
          refine A_aload_n dX8_rankOf_26 rfl rfl ?_
          refine A_iload_n dX8_rankOf_27 rfl rfl ?_
          refine A_callV (n := 0) dX8_rankOf_28 kvX8_cold mlX8_122 rfl (az_rc_obj clX8 (hM 0 _ rfl)) (r_cold l G d sh u la kp tr c i9 hM hO hL (by omega) (by rw [haw]; exact nI_n1 (by omega))) (by omega) (Nat.le_refl _) (Nat.le_refl _) rfl (Nat.le_of_ble_eq_true rfl) (fun r S1 hp => ?_)
          obtain ⟨rfl, rfl⟩ := hp
          show AW l G mX8_rankOf (d + 2) (az_F G Post) 0 0 31 [some (.ref 60), some (.int (nI p)), some (.int x2), some (.int (nI i9))] [.int (zc c i9), .int x2] (sh, (mput u 60 c), la)
          refine A_aload_n dX8_rankOf_31 rfl rfl ?_
          refine A_iload_n dX8_rankOf_32 rfl rfl ?_
          refine A_callV (n := 0) dX8_rankOf_33 kvX8_cold mlX8_122 rfl (az_rc_obj clX8 (hM 0 _ rfl)) (r_cold l G d sh u la kp tr c p hM hO hL (by omega) (by rw [haw]; exact nI_n1 (by omega))) (by omega) (Nat.le_refl _) (Nat.le_refl _) rfl (Nat.le_of_ble_eq_true rfl) (fun r S1 hp => ?_)
          obtain ⟨rfl, rfl⟩ := hp
          show AW l G mX8_rankOf (d + 2) (az_F G Post) 0 0 36 [some (.ref 60), some (.int (nI p)), some (.int x2), some (.int (nI i9))] [.int (zc c p), .int (zc c i9), .int x2] (sh, (mput u 60 c), la)
          refine A_icmp_ne (tgt := 48) dX8_rankOf_36 rfl (fun h_4 => ?_) (fun h_4 => ?_)
          · skip
            refine A_iconst (v := 0) dX8_rankOf_48 (by decide) ?_
            refine A_iadd dX8_rankOf_49 ?_
            refine A_istore_n (lo2 := [some (.ref 60), some (.int (nI p)), some (.int (x2 + 0)), some (.int (nI i9))]) dX8_rankOf_50 rfl (by decide) rfl ?_
            refine A_iinc (v := nI (i9 + 1)) (lo2 := [some (.ref 60), some (.int (nI p)), some (.int (x2 + 0)), some (.int (nI (i9 + 1)))]) dX8_rankOf_51 rfl (nI_1 i9) (by decide) rfl ?_
            refine A_goto (tgt := 4) dX8_rankOf_54 rfl ?_
            refine ih (i9 + 1) _ (by omega) ?_
            · skip
              rw [e_x2, fa_cnt_no (p := zah c p) (show zah c p i9 = false from Bool.eq_false_iff.mpr (fun q => by have z := (zah_i c p i9).mp q; have z3 : ¬ (zc c p).toInt < (zc c i9).toInt := fun y => h_3 (Int32.lt_iff_toInt_lt.mpr y); have z4 : ¬ (zc c i9).toInt = (zc c p).toInt := fun y => h_4 (Int32.toInt_inj.mp y); omega))]; exact Int32.add_zero _
          · skip
            refine A_iload_n dX8_rankOf_39 rfl rfl ?_
            refine A_iload_n dX8_rankOf_40 rfl rfl ?_
            refine A_icmp_ge (tgt := 48) dX8_rankOf_41 rfl (fun h_5 => ?_) (fun h_5 => ?_)
            · skip
              have hji : ¬ i9 < p := fun q => absurd h_5 (nI_ge q (by omega))
              refine A_iconst (v := 0) dX8_rankOf_48 (by decide) ?_
              refine A_iadd dX8_rankOf_49 ?_
              refine A_istore_n (lo2 := [some (.ref 60), some (.int (nI p)), some (.int (x2 + 0)), some (.int (nI i9))]) dX8_rankOf_50 rfl (by decide) rfl ?_
              refine A_iinc (v := nI (i9 + 1)) (lo2 := [some (.ref 60), some (.int (nI p)), some (.int (x2 + 0)), some (.int (nI (i9 + 1)))]) dX8_rankOf_51 rfl (nI_1 i9) (by decide) rfl ?_
              refine A_goto (tgt := 4) dX8_rankOf_54 rfl ?_
              refine ih (i9 + 1) _ (by omega) ?_
              · skip
                rw [e_x2, fa_cnt_no (p := zah c p) (show zah c p i9 = false from Bool.eq_false_iff.mpr (fun q => by have z := (zah_i c p i9).mp q; have z2 := congrArg Int32.toInt h_4; omega))]; exact Int32.add_zero _
            · skip
              have hji : i9 < p := by
                rcases Nat.lt_or_ge i9 p with q | q
                · exact q
                · exact absurd (nI_le q (by omega)) h_5
              refine A_iconst (v := 1) dX8_rankOf_44 (by decide) ?_
              refine A_goto (tgt := 49) dX8_rankOf_45 rfl ?_
              refine A_iadd dX8_rankOf_49 ?_
              refine A_istore_n (lo2 := [some (.ref 60), some (.int (nI p)), some (.int (x2 + 1)), some (.int (nI i9))]) dX8_rankOf_50 rfl (by decide) rfl ?_
              refine A_iinc (v := nI (i9 + 1)) (lo2 := [some (.ref 60), some (.int (nI p)), some (.int (x2 + 1)), some (.int (nI (i9 + 1)))]) dX8_rankOf_51 rfl (nI_1 i9) (by decide) rfl ?_
              refine A_goto (tgt := 4) dX8_rankOf_54 rfl ?_
              refine ih (i9 + 1) _ (by omega) ?_
              · skip
                rw [e_x2, fa_cnt_yes (p := zah c p) (show zah c p i9 = true from (zah_i c p i9).mpr (Or.inr ⟨hji, (congrArg Int32.toInt h_4).symm⟩))]; exact nI_1 _
  exact loop (cN c) 0 _ (by omega) (rfl)
set_option maxHeartbeats 1000000 in
set_option maxRecDepth 100000 in
theorem r_ranked (l : Launch) (G : az_Gh) (d : Nat) (sh : List az_Sh) (u : Nat → Nat → Int32) (la : Nat → Nat → Int64) (kp tr : Option Nat) (c : CT) (i : Nat) (hM : az_at sh 60 (lyM 60 kp tr)) (hO : cOk c) (hL : cLv c) (haw : cAway c = -1) (hi : i < cN c) : FM l G (d + 3) mX8_ranked [.ref 60, .int (nI i)] (sh, (mput u 60 c), la) (some (.int (oI (zrank c (nI i))))) (sh, mput u 60 c, la) := by
  refine az_fm knX8_ranked (Nat.le_of_ble_eq_true rfl) rfl (fun Post hP => ?_)
  show AW l G mX8_ranked (d + 3) (az_F G Post) 0 0 0 [some (.ref 60), some (.int (nI i)), none] [] (sh, (mput u 60 c), la)
  have h8 := hO.2
  obtain ⟨k9, ek9, hk9, eb9, hno9⟩ := zrank_ex hO hi
  refine A_iconst (v := 0) dX8_ranked_0 (by decide) ?_
  refine A_istore_n (lo2 := [some (.ref 60), some (.int (nI i)), some (.int 0)]) dX8_ranked_1 rfl (by decide) rfl ?_
  have loop : ∀ (q_i9 i9 : Nat), i9 + q_i9 = k9 → AW l G mX8_ranked (d + 3) (az_F G Post) 0 0 2 [some (.ref 60), some (.int (nI i)), some (.int (nI i9))] [] (sh, (mput u 60 c), la) := by
    intro q_i9
    induction q_i9 with
    | zero =>
      intro i9  hi_i9  
      have hN_i9 : i9 = k9 := by omega
      subst i9
      refine A_aload_n dX8_ranked_2 rfl rfl ?_
      refine A_iload_n dX8_ranked_3 rfl rfl ?_
      refine A_callV (n := 0) dX8_ranked_4 kvX8_rankOf mlX8_247 rfl (az_rc_obj clX8 (hM 0 _ rfl)) (r_rankOf l G d sh u la kp tr c k9 hM hO hL haw (by omega)) (by omega) (Nat.le_refl _) (Nat.le_refl _) rfl (Nat.le_of_ble_eq_true rfl) (fun r S1 hp => ?_)
      obtain ⟨rfl, rfl⟩ := hp
      show AW l G mX8_ranked (d + 3) (az_F G Post) 0 0 7 [some (.ref 60), some (.int (nI i)), some (.int (nI k9))] [.int (nI (zbef c k9))] (sh, (mput u 60 c), la)
      refine A_iload_n dX8_ranked_7 rfl rfl ?_
      refine A_icmp_eq (tgt := 17) dX8_ranked_8 rfl (fun h_1 => ?_) (fun h_1 => ?_)
      · skip
        refine A_iload_n dX8_ranked_17 rfl rfl ?_
        refine A_iret dX8_ranked_18 rfl (az_pi hP ?_ (rfl))
        rw [ek9]; rfl
      · skip
        exact absurd (congrArg nI eb9) h_1
    | succ q_i9 ih =>
      intro i9  hi_i9  
      refine A_aload_n dX8_ranked_2 rfl rfl ?_
      refine A_iload_n dX8_ranked_3 rfl rfl ?_
      refine A_callV (n := 0) dX8_ranked_4 kvX8_rankOf mlX8_247 rfl (az_rc_obj clX8 (hM 0 _ rfl)) (r_rankOf l G d sh u la kp tr c i9 hM hO hL haw (by omega)) (by omega) (Nat.le_refl _) (Nat.le_refl _) rfl (Nat.le_of_ble_eq_true rfl) (fun r S1 hp => ?_)
      obtain ⟨rfl, rfl⟩ := hp
      show AW l G mX8_ranked (d + 3) (az_F G Post) 0 0 7 [some (.ref 60), some (.int (nI i)), some (.int (nI i9))] [.int (nI (zbef c i9))] (sh, (mput u 60 c), la)
      refine A_iload_n dX8_ranked_7 rfl rfl ?_
      refine A_icmp_eq (tgt := 17) dX8_ranked_8 rfl (fun h_2 => ?_) (fun h_2 => ?_)
      · skip
        exact absurd ((nI_eq (by have := zbef_lt (c := c) (show i9 < cN c by omega); omega) (by omega)).mp h_2) (hno9 i9 (by omega))
      · skip
        refine A_iinc (v := nI (i9 + 1)) (lo2 := [some (.ref 60), some (.int (nI i)), some (.int (nI (i9 + 1)))]) dX8_ranked_11 rfl (nI_1 i9) (by decide) rfl ?_
        refine A_goto (tgt := 2) dX8_ranked_14 rfl ?_
        refine ih (i9 + 1) (by omega)
  exact loop (k9) 0 (by omega)
theorem cOk_mf {c : CT} (h : cOk c) (g : Nat → Bool) (m : Int32) (i : Nat) : cOk (zmf c g m i) := co_Fe h
theorem cLv_mf {c : CT} (h : cLv c) (g : Nat → Bool) (m : Int32) (i : Nat) : cLv (zmf c g m i) := cv_Fe h
theorem zmf_at (c : CT) (g : Nat → Bool) (m : Int32) (i : Nat) : cFe (zmf c g m i) i = cFe c i := by unfold zmf; rw [cs_FeFe, if_neg (fun q => absurd q.1 (by omega))]
theorem zmf_y {c : CT} {g : Nat → Bool} {m : Int32} {i : Nat} (h : g i = true) : sFe (zmf c g m i) (va_up (cFe (zmf c g m i)) i (mnI 40 (cFe (zmf c g m i) i + m))) = zmf c g m (i + 1) := by
  rw [zmf_at]
  unfold zmf
  rw [cs_FeFe, ss_Fe]
  congr 1
  funext j
  by_cases e : j = i
  · subst e; rw [az_up_self, if_pos ⟨by omega, h⟩]
  · rw [az_up_ne e]
    by_cases q : j < i ∧ g j = true
    · rw [if_pos q, if_pos ⟨by omega, q.2⟩]
    · rw [if_neg q, if_neg (fun z => q ⟨by omega, z.2⟩)]
theorem zmf_n {c : CT} {g : Nat → Bool} {m : Int32} {i : Nat} (h : ¬ g i = true) : sFe (zmf c g m i) (va_up (cFe (zmf c g m i)) i (cFe (zmf c g m i) i)) = zmf c g m (i + 1) := by
  rw [az_up_id]
  unfold zmf
  rw [cs_FeFe, ss_Fe]
  congr 1
  funext j
  by_cases e : j = i
  · subst e; rw [if_neg (fun q => absurd q.1 (by omega)), if_neg (fun q => h q.2)]
  · by_cases q : j < i ∧ g j = true
    · rw [if_pos q, if_pos ⟨by omega, q.2⟩]
    · rw [if_neg q, if_neg (fun z => q ⟨by omega, z.2⟩)]
set_option maxHeartbeats 1000000 in
set_option maxRecDepth 100000 in
theorem r_isLater (l : Launch) (G : az_Gh) (d : Nat) (sh : List az_Sh) (u : Nat → Nat → Int32) (la : Nat → Nat → Int64) (kp tr : Option Nat) (c : CT) (w m : Int32) (t : Nat) (hM : az_at sh 60 (lyM 60 kp tr)) (hO : cOk c) (hL : cLv c) (ht : t ≤ 60) : AM l G (d + 5) mX8_isLater [.ref 60, .int w, .int m, .int (nI t)] (sh, (mput u 60 c), la) 0 0 (fun r1 S1 => r1 = some (.int (b2i (zno (zmf c (zG1 w) m (cN c)) t = true))) ∧ ∃ u2, sD u u2 ∧ S1 = (sh, mput u2 60 c, la)) := by
  refine az_am knX8_isLater (Nat.le_of_ble_eq_true rfl) rfl (fun Post hP => ?_)
  show AW l G mX8_isLater (d + 5) (az_F G Post) 0 0 0 [some (.ref 60), some (.int w), some (.int m), some (.int (nI t)), none] [] (sh, (mput u 60 c), la)
  have h8 := hO.2
  refine A_aload_n dX8_isLater_0 rfl rfl ?_
  refine A_callV (n := 0) dX8_isLater_1 kvX8_keeps mlX8_265 rfl (az_rc_obj clX8 (hM 0 _ rfl)) (r_keeps l G (d + 4) sh u la kp tr c hM hO) (by omega) (Nat.le_refl _) (Nat.le_refl _) rfl (Nat.le_of_ble_eq_true rfl) (fun r S1 hp => ?_)
  obtain ⟨rfl, rfl⟩ := hp
  show AW l G mX8_isLater (d + 5) (az_F G Post) 0 0 4 [some (.ref 60), some (.int w), some (.int m), some (.int (nI t)), none] [] (sh, (mput (mkp u c) 60 c), la)
  refine A_iconst (v := 0) dX8_isLater_4 (by decide) ?_
  refine A_istore (lo2 := [some (.ref 60), some (.int w), some (.int m), some (.int (nI t)), some (.int 0)]) dX8_isLater_5 (by decide) rfl ?_
  refine B_sg (congrArg (mput (mkp u c) 60) (show c = zmf c (zG1 w) m 0 from (zmf_0 _ _ _).symm)) ?_
  have loop : ∀ (q_i9 i9 : Nat), i9 + q_i9 = cN c → AW l G mX8_isLater (d + 5) (az_F G Post) 0 0 7 [some (.ref 60), some (.int w), some (.int m), some (.int (nI t)), some (.int (nI i9))] [] (sh, (mput (mkp u c) 60 (zmf c (zG1 w) m i9)), la) := by
    intro q_i9
    induction q_i9 with
    | zero =>
      intro i9  hi_i9  
      have hN_i9 : i9 = cN c := by omega
      subst i9
      refine A_iload dX8_isLater_7 rfl ?_
      refine A_aload_n dX8_isLater_9 rfl rfl ?_
      refine B_getV (nI (cN c)) dX8_isLater_10 flX8_88 (hM 0 _ rfl) rfl ((mr_14 _ _ _).trans ((cOk_mf hO _ _ _).1.trans (congrArg nI (cn_Fe _ _)))) ?_
      refine A_icmp_ge (tgt := 61) dX8_isLater_13 rfl (fun h_1 => ?_) (fun h_1 => ?_)
      · skip
        refine A_aload_n dX8_isLater_61 rfl rfl ?_
        refine A_callV (n := 0) dX8_isLater_62 kvX8_whenSo mlX8_268 rfl (az_rc_obj clX8 (hM 0 _ rfl)) (r_whenSo l G d sh (mkp u c) la kp tr (zmf c (zG1 w) m (cN c)) hM (cOk_mf hO _ _ _) (cLv_mf hL _ _ _)) (by omega) (Nat.le_refl _) (Nat.le_refl _) rfl (Nat.le_of_ble_eq_true rfl) (fun r S1 hp => ?_)
        obtain ⟨rfl, rfl⟩ := hp
        show AW l G mX8_isLater (d + 5) (az_F G Post) 0 0 65 [some (.ref 60), some (.int w), some (.int m), some (.int (nI t)), some (.int (nI (cN c)))] [.int (nI (zwhen (zmf c (zG1 w) m (cN c)) 60))] (sh, (mput (az_w (mkp u c) 60 34 (mwho (zmf c (zG1 w) m (cN c)))) 60 (zdays (zwhen (zmf c (zG1 w) m (cN c)) 60) (zmf c (zG1 w) m (cN c)))), la)
        refine A_iload_n dX8_isLater_65 rfl rfl ?_
        refine A_icmp_le (tgt := 73) dX8_isLater_66 rfl (fun h_2 => ?_) (fun h_2 => ?_)
        · skip
          refine A_iconst (v := 0) dX8_isLater_73 (by decide) ?_
          refine A_istore (lo2 := [some (.ref 60), some (.int w), some (.int m), some (.int (nI t)), some (.int 0)]) dX8_isLater_74 (by decide) rfl ?_
          refine A_aload_n dX8_isLater_76 rfl rfl ?_
          refine A_callV (n := 0) dX8_isLater_77 kvX8_goesBack mlX8_271 rfl (az_rc_obj clX8 (hM 0 _ rfl)) (r_goesBack l G (d + 4) sh (az_w (mkp u c) 60 34 (mwho (zmf c (zG1 w) m (cN c)))) la kp tr c (zdays (zwhen (zmf c (zG1 w) m (cN c)) 60) (zmf c (zG1 w) m (cN c))) hM hO (kpt_w (kpt_kp u c) (by decide) _) (mdf_days (mdf_mf (mdf_rf c) _ _ (Nat.le_refl _)) _)) (by omega) (Nat.le_refl _) (Nat.le_refl _) rfl (Nat.le_of_ble_eq_true rfl) (fun r S1 hp => ?_)
          obtain ⟨rfl, rfl⟩ := hp
          show AW l G mX8_isLater (d + 5) (az_F G Post) 0 0 80 [some (.ref 60), some (.int w), some (.int m), some (.int (nI t)), some (.int 0)] [] (sh, (mput (az_w (mkp u c) 60 34 (mwho (zmf c (zG1 w) m (cN c)))) 60 c), la)
          refine A_iload dX8_isLater_80 rfl ?_
          refine A_zret dX8_isLater_82 rfl (rfl) (hP _ _ ⟨congrArg (fun z => some (Value.int z)) ?_, _, (sD.kp u c).w34 _, rfl⟩)
          exact b2i_f (fun q => by rw [zno_60 ht] at q; exact absurd h_2 (nI_ge (of_decide_eq_true q) (by have := zwhen_le (zmf c (zG1 w) m (cN c)) 60; omega)))
        · skip
          refine A_iconst (v := 1) dX8_isLater_69 (by decide) ?_
          refine A_goto (tgt := 74) dX8_isLater_70 rfl ?_
          refine A_istore (lo2 := [some (.ref 60), some (.int w), some (.int m), some (.int (nI t)), some (.int 1)]) dX8_isLater_74 (by decide) rfl ?_
          refine A_aload_n dX8_isLater_76 rfl rfl ?_
          refine A_callV (n := 0) dX8_isLater_77 kvX8_goesBack mlX8_271 rfl (az_rc_obj clX8 (hM 0 _ rfl)) (r_goesBack l G (d + 4) sh (az_w (mkp u c) 60 34 (mwho (zmf c (zG1 w) m (cN c)))) la kp tr c (zdays (zwhen (zmf c (zG1 w) m (cN c)) 60) (zmf c (zG1 w) m (cN c))) hM hO (kpt_w (kpt_kp u c) (by decide) _) (mdf_days (mdf_mf (mdf_rf c) _ _ (Nat.le_refl _)) _)) (by omega) (Nat.le_refl _) (Nat.le_refl _) rfl (Nat.le_of_ble_eq_true rfl) (fun r S1 hp => ?_)
          obtain ⟨rfl, rfl⟩ := hp
          show AW l G mX8_isLater (d + 5) (az_F G Post) 0 0 80 [some (.ref 60), some (.int w), some (.int m), some (.int (nI t)), some (.int 1)] [] (sh, (mput (az_w (mkp u c) 60 34 (mwho (zmf c (zG1 w) m (cN c)))) 60 c), la)
          refine A_iload dX8_isLater_80 rfl ?_
          refine A_zret dX8_isLater_82 rfl (rfl) (hP _ _ ⟨congrArg (fun z => some (Value.int z)) ?_, _, (sD.kp u c).w34 _, rfl⟩)
          exact b2i_t (by rw [zno_60 ht]; exact decide_eq_true ((nI_ltI (by omega) (by have := zwhen_le (zmf c (zG1 w) m (cN c)) 60; omega)).mp (Int32.not_le.mp h_2)))
      · skip
        exact absurd (Int32.le_refl _) h_1
    | succ q_i9 ih =>
      intro i9  hi_i9  
      refine A_iload dX8_isLater_7 rfl ?_
      refine A_aload_n dX8_isLater_9 rfl rfl ?_
      refine B_getV (nI (cN c)) dX8_isLater_10 flX8_88 (hM 0 _ rfl) rfl ((mr_14 _ _ _).trans ((cOk_mf hO _ _ _).1.trans (congrArg nI (cn_Fe _ _)))) ?_
      refine A_icmp_ge (tgt := 61) dX8_isLater_13 rfl (fun h_3 => ?_) (fun h_3 => ?_)
      · skip
        exact absurd h_3 (nI_ge (by omega) (by omega))
      · skip
        refine A_aload_n dX8_isLater_16 rfl rfl ?_
        refine B_getR (r := 81) dX8_isLater_17 flX8_62 (hM 0 _ rfl) rfl ?_
        refine A_iload dX8_isLater_20 rfl ?_
        refine A_iload_n dX8_isLater_22 rfl rfl ?_
        refine A_iload dX8_isLater_23 rfl ?_
        refine A_ishr dX8_isLater_25 ?_
        refine A_iconst (v := 1) dX8_isLater_26 (by decide) ?_
        refine A_iand dX8_isLater_27 ?_
        refine A_iconst (v := 1) dX8_isLater_28 (by decide) ?_
        refine A_icmp_ne (tgt := 47) dX8_isLater_29 rfl (fun h_4 => ?_) (fun h_4 => ?_)
        · skip
          refine A_aload_n dX8_isLater_47 rfl rfl ?_
          refine B_getR (r := 81) dX8_isLater_48 flX8_62 (hM 0 _ rfl) rfl ?_
          refine A_iload dX8_isLater_51 rfl ?_
          refine B_ialdV (i := i9) (cFe (zmf c (zG1 w) m i9) i9) dX8_isLater_53 (hM 21 _ rfl) (by decide) (rfl) (by omega) (me_21 _ _ _ _) ?_
          refine B_iast (i := i9) dX8_isLater_54 (hM 21 _ rfl) (by decide) (rfl) (by omega) ?_
          refine B_sg (show _ = (mput (mkp u c) 60 (sFe (zmf c (zG1 w) m i9) (va_up (cFe (zmf c (zG1 w) m i9)) i9 (cFe (zmf c (zG1 w) m i9) i9)))) from mx_21 _ _ _ _ _) ?_
          refine B_sg (show _ = mput (mkp u c) 60 (zmf c (zG1 w) m (i9 + 1)) from congrArg (mput (mkp u c) 60) (zmf_n (fun q => h_4 (of_decide_eq_true q)))) ?_
          refine A_iinc (v := nI (i9 + 1)) (lo2 := [some (.ref 60), some (.int w), some (.int m), some (.int (nI t)), some (.int (nI (i9 + 1)))]) dX8_isLater_55 rfl (nI_1 i9) (by decide) rfl ?_
          refine A_goto (tgt := 7) dX8_isLater_58 rfl ?_
          refine ih (i9 + 1) (by omega)
        · skip
          refine A_aload_n dX8_isLater_32 rfl rfl ?_
          refine B_getR (r := 81) dX8_isLater_33 flX8_62 (hM 0 _ rfl) rfl ?_
          refine A_iload dX8_isLater_36 rfl ?_
          refine B_ialdV (i := i9) (cFe (zmf c (zG1 w) m i9) i9) dX8_isLater_38 (hM 21 _ rfl) (by decide) (rfl) (by omega) (me_21 _ _ _ _) ?_
          refine A_iload_n dX8_isLater_39 rfl rfl ?_
          refine A_iadd dX8_isLater_40 ?_
          refine A_callS (n := 0) dX8_isLater_41 ksX8_full mlX8_279 rfl (c_X8_full l G (d + 4) sh (mput (mkp u c) 60 (zmf c (zG1 w) m i9)) la (cFe (zmf c (zG1 w) m i9) i9 + m)) (by omega) (Nat.le_refl _) (Nat.le_refl _) rfl (Nat.le_of_ble_eq_true rfl) (fun r S1 hp => ?_)
          obtain ⟨rfl, rfl⟩ := hp
          show AW l G mX8_isLater (d + 5) (az_F G Post) 0 0 44 [some (.ref 60), some (.int w), some (.int m), some (.int (nI t)), some (.int (nI i9))] [.int (mnI 40 (cFe (zmf c (zG1 w) m i9) i9 + m)), .int (nI i9), .ref 81] (sh, (mput (mkp u c) 60 (zmf c (zG1 w) m i9)), la)
          refine A_goto (tgt := 54) dX8_isLater_44 rfl ?_
          refine B_iast (i := i9) dX8_isLater_54 (hM 21 _ rfl) (by decide) (rfl) (by omega) ?_
          refine B_sg (show _ = (mput (mkp u c) 60 (sFe (zmf c (zG1 w) m i9) (va_up (cFe (zmf c (zG1 w) m i9)) i9 (mnI 40 (cFe (zmf c (zG1 w) m i9) i9 + m))))) from mx_21 _ _ _ _ _) ?_
          refine B_sg (show _ = mput (mkp u c) 60 (zmf c (zG1 w) m (i9 + 1)) from congrArg (mput (mkp u c) 60) (zmf_y (decide_eq_true h_4))) ?_
          refine A_iinc (v := nI (i9 + 1)) (lo2 := [some (.ref 60), some (.int w), some (.int m), some (.int (nI t)), some (.int (nI (i9 + 1)))]) dX8_isLater_55 rfl (nI_1 i9) (by decide) rfl ?_
          refine A_goto (tgt := 7) dX8_isLater_58 rfl ?_
          refine ih (i9 + 1) (by omega)
  exact loop (cN c) 0 (by omega)
set_option maxHeartbeats 1000000 in
set_option maxRecDepth 100000 in
theorem r_isJust (l : Launch) (G : az_Gh) (d : Nat) (sh : List az_Sh) (u : Nat → Nat → Int32) (la : Nat → Nat → Int64) (kp tr : Option Nat) (c : CT) (w : Int32) (t : Nat) (hM : az_at sh 60 (lyM 60 kp tr)) (hO : cOk c) (hL : cLv c) (ht : t ≤ 60) : AM l G (d + 5) mX8_isJust [.ref 60, .int w, .int (nI t)] (sh, (mput u 60 c), la) 0 0 (fun r1 S1 => r1 = some (.int (b2i (zwhen (zmf c (zG1 w) 20 (cN c)) t = t))) ∧ ∃ u2, sD u u2 ∧ S1 = (sh, mput u2 60 c, la)) := by
  refine az_am knX8_isJust (Nat.le_of_ble_eq_true rfl) rfl (fun Post hP => ?_)
  show AW l G mX8_isJust (d + 5) (az_F G Post) 0 0 0 [some (.ref 60), some (.int w), some (.int (nI t)), none] [] (sh, (mput u 60 c), la)
  have h8 := hO.2
  refine A_aload_n dX8_isJust_0 rfl rfl ?_
  refine A_callV (n := 0) dX8_isJust_1 kvX8_keeps mlX8_265 rfl (az_rc_obj clX8 (hM 0 _ rfl)) (r_keeps l G (d + 4) sh u la kp tr c hM hO) (by omega) (Nat.le_refl _) (Nat.le_refl _) rfl (Nat.le_of_ble_eq_true rfl) (fun r S1 hp => ?_)
  obtain ⟨rfl, rfl⟩ := hp
  show AW l G mX8_isJust (d + 5) (az_F G Post) 0 0 4 [some (.ref 60), some (.int w), some (.int (nI t)), none] [] (sh, (mput (mkp u c) 60 c), la)
  refine A_iconst (v := 0) dX8_isJust_4 (by decide) ?_
  refine A_istore_n (lo2 := [some (.ref 60), some (.int w), some (.int (nI t)), some (.int 0)]) dX8_isJust_5 rfl (by decide) rfl ?_
  refine B_sg (congrArg (mput (mkp u c) 60) (show c = zmf c (zG1 w) 20 0 from (zmf_0 _ _ _).symm)) ?_
  have loop : ∀ (q_i9 i9 : Nat), i9 + q_i9 = cN c → AW l G mX8_isJust (d + 5) (az_F G Post) 0 0 6 [some (.ref 60), some (.int w), some (.int (nI t)), some (.int (nI i9))] [] (sh, (mput (mkp u c) 60 (zmf c (zG1 w) 20 i9)), la) := by
    intro q_i9
    induction q_i9 with
    | zero =>
      intro i9  hi_i9  
      have hN_i9 : i9 = cN c := by omega
      subst i9
      refine A_iload_n dX8_isJust_6 rfl rfl ?_
      refine A_aload_n dX8_isJust_7 rfl rfl ?_
      refine B_getV (nI (cN c)) dX8_isJust_8 flX8_88 (hM 0 _ rfl) rfl ((mr_14 _ _ _).trans ((cOk_mf hO _ _ _).1.trans (congrArg nI (cn_Fe _ _)))) ?_
      refine A_icmp_ge (tgt := 56) dX8_isJust_11 rfl (fun h_1 => ?_) (fun h_1 => ?_)
      · skip
        refine A_aload_n dX8_isJust_56 rfl rfl ?_
        refine A_callV (n := 0) dX8_isJust_57 kvX8_whenSo mlX8_268 rfl (az_rc_obj clX8 (hM 0 _ rfl)) (r_whenSo l G d sh (mkp u c) la kp tr (zmf c (zG1 w) 20 (cN c)) hM (cOk_mf hO _ _ _) (cLv_mf hL _ _ _)) (by omega) (Nat.le_refl _) (Nat.le_refl _) rfl (Nat.le_of_ble_eq_true rfl) (fun r S1 hp => ?_)
        obtain ⟨rfl, rfl⟩ := hp
        show AW l G mX8_isJust (d + 5) (az_F G Post) 0 0 60 [some (.ref 60), some (.int w), some (.int (nI t)), some (.int (nI (cN c)))] [.int (nI (zwhen (zmf c (zG1 w) 20 (cN c)) 60))] (sh, (mput (az_w (mkp u c) 60 34 (mwho (zmf c (zG1 w) 20 (cN c)))) 60 (zdays (zwhen (zmf c (zG1 w) 20 (cN c)) 60) (zmf c (zG1 w) 20 (cN c)))), la)
        refine A_iload_n dX8_isJust_60 rfl rfl ?_
        refine A_icmp_ne (tgt := 68) dX8_isJust_61 rfl (fun h_2 => ?_) (fun h_2 => ?_)
        · skip
          refine A_iconst (v := 0) dX8_isJust_68 (by decide) ?_
          refine A_istore_n (lo2 := [some (.ref 60), some (.int w), some (.int (nI t)), some (.int 0)]) dX8_isJust_69 rfl (by decide) rfl ?_
          refine A_aload_n dX8_isJust_70 rfl rfl ?_
          refine A_callV (n := 0) dX8_isJust_71 kvX8_goesBack mlX8_271 rfl (az_rc_obj clX8 (hM 0 _ rfl)) (r_goesBack l G (d + 4) sh (az_w (mkp u c) 60 34 (mwho (zmf c (zG1 w) 20 (cN c)))) la kp tr c (zdays (zwhen (zmf c (zG1 w) 20 (cN c)) 60) (zmf c (zG1 w) 20 (cN c))) hM hO (kpt_w (kpt_kp u c) (by decide) _) (mdf_days (mdf_mf (mdf_rf c) _ _ (Nat.le_refl _)) _)) (by omega) (Nat.le_refl _) (Nat.le_refl _) rfl (Nat.le_of_ble_eq_true rfl) (fun r S1 hp => ?_)
          obtain ⟨rfl, rfl⟩ := hp
          show AW l G mX8_isJust (d + 5) (az_F G Post) 0 0 74 [some (.ref 60), some (.int w), some (.int (nI t)), some (.int 0)] [] (sh, (mput (az_w (mkp u c) 60 34 (mwho (zmf c (zG1 w) 20 (cN c)))) 60 c), la)
          refine A_iload_n dX8_isJust_74 rfl rfl ?_
          refine A_zret dX8_isJust_75 rfl (rfl) (hP _ _ ⟨congrArg (fun z => some (Value.int z)) ?_, _, (sD.kp u c).w34 _, rfl⟩)
          exact b2i_f (fun q => h_2 (congrArg nI ((zwhen_min ht).2.mp q)))
        · skip
          refine A_iconst (v := 1) dX8_isJust_64 (by decide) ?_
          refine A_goto (tgt := 69) dX8_isJust_65 rfl ?_
          refine A_istore_n (lo2 := [some (.ref 60), some (.int w), some (.int (nI t)), some (.int 1)]) dX8_isJust_69 rfl (by decide) rfl ?_
          refine A_aload_n dX8_isJust_70 rfl rfl ?_
          refine A_callV (n := 0) dX8_isJust_71 kvX8_goesBack mlX8_271 rfl (az_rc_obj clX8 (hM 0 _ rfl)) (r_goesBack l G (d + 4) sh (az_w (mkp u c) 60 34 (mwho (zmf c (zG1 w) 20 (cN c)))) la kp tr c (zdays (zwhen (zmf c (zG1 w) 20 (cN c)) 60) (zmf c (zG1 w) 20 (cN c))) hM hO (kpt_w (kpt_kp u c) (by decide) _) (mdf_days (mdf_mf (mdf_rf c) _ _ (Nat.le_refl _)) _)) (by omega) (Nat.le_refl _) (Nat.le_refl _) rfl (Nat.le_of_ble_eq_true rfl) (fun r S1 hp => ?_)
          obtain ⟨rfl, rfl⟩ := hp
          show AW l G mX8_isJust (d + 5) (az_F G Post) 0 0 74 [some (.ref 60), some (.int w), some (.int (nI t)), some (.int 1)] [] (sh, (mput (az_w (mkp u c) 60 34 (mwho (zmf c (zG1 w) 20 (cN c)))) 60 c), la)
          refine A_iload_n dX8_isJust_74 rfl rfl ?_
          refine A_zret dX8_isJust_75 rfl (rfl) (hP _ _ ⟨congrArg (fun z => some (Value.int z)) ?_, _, (sD.kp u c).w34 _, rfl⟩)
          exact b2i_t ((zwhen_min ht).2.mpr ((nI_eq (by have := zwhen_le (zmf c (zG1 w) 20 (cN c)) 60; omega) (by omega)).mp h_2))
      · skip
        exact absurd (Int32.le_refl _) h_1
    | succ q_i9 ih =>
      intro i9  hi_i9  
      refine A_iload_n dX8_isJust_6 rfl rfl ?_
      refine A_aload_n dX8_isJust_7 rfl rfl ?_
      refine B_getV (nI (cN c)) dX8_isJust_8 flX8_88 (hM 0 _ rfl) rfl ((mr_14 _ _ _).trans ((cOk_mf hO _ _ _).1.trans (congrArg nI (cn_Fe _ _)))) ?_
      refine A_icmp_ge (tgt := 56) dX8_isJust_11 rfl (fun h_3 => ?_) (fun h_3 => ?_)
      · skip
        exact absurd h_3 (nI_ge (by omega) (by omega))
      · skip
        refine A_aload_n dX8_isJust_14 rfl rfl ?_
        refine B_getR (r := 81) dX8_isJust_15 flX8_62 (hM 0 _ rfl) rfl ?_
        refine A_iload_n dX8_isJust_18 rfl rfl ?_
        refine A_iload_n dX8_isJust_19 rfl rfl ?_
        refine A_iload_n dX8_isJust_20 rfl rfl ?_
        refine A_ishr dX8_isJust_21 ?_
        refine A_iconst (v := 1) dX8_isJust_22 (by decide) ?_
        refine A_iand dX8_isJust_23 ?_
        refine A_iconst (v := 1) dX8_isJust_24 (by decide) ?_
        refine A_icmp_ne (tgt := 43) dX8_isJust_25 rfl (fun h_4 => ?_) (fun h_4 => ?_)
        · skip
          refine A_aload_n dX8_isJust_43 rfl rfl ?_
          refine B_getR (r := 81) dX8_isJust_44 flX8_62 (hM 0 _ rfl) rfl ?_
          refine A_iload_n dX8_isJust_47 rfl rfl ?_
          refine B_ialdV (i := i9) (cFe (zmf c (zG1 w) 20 i9) i9) dX8_isJust_48 (hM 21 _ rfl) (by decide) (rfl) (by omega) (me_21 _ _ _ _) ?_
          refine B_iast (i := i9) dX8_isJust_49 (hM 21 _ rfl) (by decide) (rfl) (by omega) ?_
          refine B_sg (show _ = (mput (mkp u c) 60 (sFe (zmf c (zG1 w) 20 i9) (va_up (cFe (zmf c (zG1 w) 20 i9)) i9 (cFe (zmf c (zG1 w) 20 i9) i9)))) from mx_21 _ _ _ _ _) ?_
          refine B_sg (show _ = mput (mkp u c) 60 (zmf c (zG1 w) 20 (i9 + 1)) from congrArg (mput (mkp u c) 60) (zmf_n (fun q => h_4 (of_decide_eq_true q)))) ?_
          refine A_iinc (v := nI (i9 + 1)) (lo2 := [some (.ref 60), some (.int w), some (.int (nI t)), some (.int (nI (i9 + 1)))]) dX8_isJust_50 rfl (nI_1 i9) (by decide) rfl ?_
          refine A_goto (tgt := 6) dX8_isJust_53 rfl ?_
          refine ih (i9 + 1) (by omega)
        · skip
          refine A_aload_n dX8_isJust_28 rfl rfl ?_
          refine B_getR (r := 81) dX8_isJust_29 flX8_62 (hM 0 _ rfl) rfl ?_
          refine A_iload_n dX8_isJust_32 rfl rfl ?_
          refine B_ialdV (i := i9) (cFe (zmf c (zG1 w) 20 i9) i9) dX8_isJust_33 (hM 21 _ rfl) (by decide) (rfl) (by omega) (me_21 _ _ _ _) ?_
          refine A_bipush (v := 20) dX8_isJust_34 (by decide) ?_
          refine A_iadd dX8_isJust_36 ?_
          refine A_callS (n := 0) dX8_isJust_37 ksX8_full mlX8_279 rfl (c_X8_full l G (d + 4) sh (mput (mkp u c) 60 (zmf c (zG1 w) 20 i9)) la (cFe (zmf c (zG1 w) 20 i9) i9 + 20)) (by omega) (Nat.le_refl _) (Nat.le_refl _) rfl (Nat.le_of_ble_eq_true rfl) (fun r S1 hp => ?_)
          obtain ⟨rfl, rfl⟩ := hp
          show AW l G mX8_isJust (d + 5) (az_F G Post) 0 0 40 [some (.ref 60), some (.int w), some (.int (nI t)), some (.int (nI i9))] [.int (mnI 40 (cFe (zmf c (zG1 w) 20 i9) i9 + 20)), .int (nI i9), .ref 81] (sh, (mput (mkp u c) 60 (zmf c (zG1 w) 20 i9)), la)
          refine A_goto (tgt := 49) dX8_isJust_40 rfl ?_
          refine B_iast (i := i9) dX8_isJust_49 (hM 21 _ rfl) (by decide) (rfl) (by omega) ?_
          refine B_sg (show _ = (mput (mkp u c) 60 (sFe (zmf c (zG1 w) 20 i9) (va_up (cFe (zmf c (zG1 w) 20 i9)) i9 (mnI 40 (cFe (zmf c (zG1 w) 20 i9) i9 + 20))))) from mx_21 _ _ _ _ _) ?_
          refine B_sg (show _ = mput (mkp u c) 60 (zmf c (zG1 w) 20 (i9 + 1)) from congrArg (mput (mkp u c) 60) (zmf_y (decide_eq_true h_4))) ?_
          refine A_iinc (v := nI (i9 + 1)) (lo2 := [some (.ref 60), some (.int w), some (.int (nI t)), some (.int (nI (i9 + 1)))]) dX8_isJust_50 rfl (nI_1 i9) (by decide) rfl ?_
          refine A_goto (tgt := 6) dX8_isJust_53 rfl ?_
          refine ih (i9 + 1) (by omega)
  exact loop (cN c) 0 (by omega)
set_option maxHeartbeats 1000000 in
set_option maxRecDepth 100000 in
theorem r_whenWithout (l : Launch) (G : az_Gh) (d : Nat) (sh : List az_Sh) (u : Nat → Nat → Int32) (la : Nat → Nat → Int64) (kp tr : Option Nat) (c : CT) (p : Nat) (hM : az_at sh 60 (lyM 60 kp tr)) (hW : cW c) (hp : p < cN c) : FM l G (d + 5) mX8_whenWithout [.ref 60, .int (nI p)] (sh, (mput u 60 c), la) (some (.int (nI (zwhen (zleave c p) 60)))) (sh, mput (az_w (mkp u c) 60 34 (mwho (zleave c p))) 60 c, la) := by
  refine az_fm knX8_whenWithout (Nat.le_of_ble_eq_true rfl) rfl (fun Post hP => ?_)
  show AW l G mX8_whenWithout (d + 5) (az_F G Post) 0 0 0 [some (.ref 60), some (.int (nI p)), none] [] (sh, (mput u 60 c), la)
  have hO := hW.1.1
  have hL := cW_lv hW
  have h8 := hO.2
  have haw := hW.2.2.1
  refine A_aload_n dX8_whenWithout_0 rfl rfl ?_
  refine A_callV (n := 0) dX8_whenWithout_1 kvX8_keeps mlX8_265 rfl (az_rc_obj clX8 (hM 0 _ rfl)) (r_keeps l G (d + 4) sh u la kp tr c hM hO) (by omega) (Nat.le_refl _) (Nat.le_refl _) rfl (Nat.le_of_ble_eq_true rfl) (fun r S1 hp => ?_)
  obtain ⟨rfl, rfl⟩ := hp
  show AW l G mX8_whenWithout (d + 5) (az_F G Post) 0 0 4 [some (.ref 60), some (.int (nI p)), none] [] (sh, (mput (mkp u c) 60 c), la)
  refine A_aload_n dX8_whenWithout_4 rfl rfl ?_
  refine A_iload_n dX8_whenWithout_5 rfl rfl ?_
  refine B_putI dX8_whenWithout_6 fwX8_71 (hM 0 _ rfl) rfl ?_
  refine B_sg (show _ = (mput (mkp u c) 60 (sAway c (nI p))) from mw_30 _ _ _ _) ?_
  refine B_sg (show _ = mput (mkp u c) 60 (zleave c p) from (mput_lov _ _ _ _).symm) ?_
  refine A_aload_n dX8_whenWithout_9 rfl rfl ?_
  refine A_callV (n := 0) dX8_whenWithout_10 kvX8_whenSo mlX8_268 rfl (az_rc_obj clX8 (hM 0 _ rfl)) (r_whenSo l G d sh (mkp u c) la kp tr (zleave c p) hM (cOk_leave hW.1.1 p) (cLv_leave hW hp)) (by omega) (Nat.le_refl _) (Nat.le_refl _) rfl (Nat.le_of_ble_eq_true rfl) (fun r S1 hp => ?_)
  obtain ⟨rfl, rfl⟩ := hp
  show AW l G mX8_whenWithout (d + 5) (az_F G Post) 0 0 13 [some (.ref 60), some (.int (nI p)), none] [.int (nI (zwhen (zleave c p) 60))] (sh, (mput (az_w (mkp u c) 60 34 (mwho (zleave c p))) 60 (zdays (zwhen (zleave c p) 60) (zleave c p))), la)
  refine A_istore_n (lo2 := [some (.ref 60), some (.int (nI p)), some (.int (nI (zwhen (zleave c p) 60)))]) dX8_whenWithout_13 rfl (by decide) rfl ?_
  refine A_aload_n dX8_whenWithout_14 rfl rfl ?_
  refine A_iconst (v := (-1)) dX8_whenWithout_15 (by decide) ?_
  refine B_putI dX8_whenWithout_16 fwX8_71 (hM 0 _ rfl) rfl ?_
  refine B_sg (show _ = (mput (az_w (mkp u c) 60 34 (mwho (zleave c p))) 60 (sAway (zdays (zwhen (zleave c p) 60) (zleave c p)) (-1))) from mw_30 _ _ _ _) ?_
  refine B_sg (show _ = mput (az_w (mkp u c) 60 34 (mwho (zleave c p))) 60 (zdays (zwhen (zleave c p) 60) c) from mput_back haw p _) ?_
  refine A_aload_n dX8_whenWithout_19 rfl rfl ?_
  refine A_callV (n := 0) dX8_whenWithout_20 kvX8_goesBack mlX8_271 rfl (az_rc_obj clX8 (hM 0 _ rfl)) (r_goesBack l G (d + 4) sh (az_w (mkp u c) 60 34 (mwho (zleave c p))) la kp tr c (zdays (zwhen (zleave c p) 60) c) hM hO (kpt_w (kpt_kp u c) (by decide) _) (mdf_days (mdf_rf c) _)) (by omega) (Nat.le_refl _) (Nat.le_refl _) rfl (Nat.le_of_ble_eq_true rfl) (fun r S1 hp => ?_)
  obtain ⟨rfl, rfl⟩ := hp
  show AW l G mX8_whenWithout (d + 5) (az_F G Post) 0 0 23 [some (.ref 60), some (.int (nI p)), some (.int (nI (zwhen (zleave c p) 60)))] [] (sh, (mput (az_w (mkp u c) 60 34 (mwho (zleave c p))) 60 c), la)
  refine A_iload_n dX8_whenWithout_23 rfl rfl ?_
  refine A_iret dX8_whenWithout_24 rfl (az_pi hP ?_ (rfl))
  rfl
