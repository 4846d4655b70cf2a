def zcp (f g : Nat → Int32) (i : Nat) : Nat → Int32 := fun j => if j < i then f j else g j
theorem zcp_0 (f g : Nat → Int32) : zcp f g 0 = g := funext (fun _ => if_neg (Nat.not_lt_zero _))
theorem zcp_s (f g : Nat → Int32) (i : Nat) : va_up (zcp f g i) i (f i) = zcp f g (i + 1) := by
  funext j
  by_cases h : j = i
  · subst h; rw [az_up_self]; exact (if_pos (Nat.lt_succ_self _)).symm
  · rw [az_up_ne h]
    unfold zcp
    by_cases q : j < i
    · rw [if_pos q, if_pos (by omega)]
    · rw [if_neg q, if_neg (by omega)]
theorem zcp_8 {f g : Nat → Int32} (h : ∀ j, 8 ≤ j → f j = g j) : zcp f g 8 = f := by
  funext j
  unfold zcp
  by_cases q : j < 8
  · exact if_pos q
  · rw [if_neg q]; exact (h j (by omega)).symm
set_option maxHeartbeats 1000000 in
set_option maxRecDepth 100000 in
theorem r_copied (l : Launch) (G : az_Gh) (d : Nat) (sh : List az_Sh) (sg : Nat → Nat → Int32) (la : Nat → Nat → Int64) (a b : Nat) (hA : sh[a]? = some (100, 8, [])) (hB : sh[b]? = some (100, 8, [])) (hab : a ≠ b) (ht : ∀ j, 8 ≤ j → sg a j = sg b j) : FM l G d mX8_copied [.ref a, .ref b] (sh, sg, la) none (sh, va_up sg b (sg a), la) := by
  refine az_fm knX8_copied (Nat.le_of_ble_eq_true rfl) rfl (fun Post hP => ?_)
  show AW l G mX8_copied d (az_F G Post) 0 0 0 [some (.ref a), some (.ref b), none] [] (sh, sg, la)
  have loop : ∀ (q i : Nat), i + q = 8 → AW l G mX8_copied d (az_F G Post) 0 0 2 [some (.ref a), some (.ref b), some (.int (nI i))] [] (sh, va_up sg b (zcp (sg a) (sg b) i), la) := by
    intro q
    induction q with
    | zero =>
      intro i hi
      have hN : i = 8 := by omega
      subst i
      refine A_iload_n dX8_copied_2 rfl rfl ?_
      refine A_aload_n dX8_copied_3 rfl rfl ?_
      refine B_alenI dX8_copied_4 hA ?_
      refine A_icmp_ge (tgt := 20) dX8_copied_5 rfl (fun h_1 => ?_) (fun h_1 => ?_)
      · skip
        refine A_vret dX8_copied_20 rfl (az_pv hP ?_)
        rw [zcp_8 ht]
      · exact absurd (Int32.le_refl _) h_1
    | succ q ih =>
      intro i hi
      refine A_iload_n dX8_copied_2 rfl rfl ?_
      refine A_aload_n dX8_copied_3 rfl rfl ?_
      refine B_alenI dX8_copied_4 hA ?_
      refine A_icmp_ge (tgt := 20) dX8_copied_5 rfl (fun h_1 => ?_) (fun h_1 => ?_)
      · exact absurd h_1 (nI_ge (by omega) (by omega))
      · skip
        refine A_aload_n dX8_copied_8 rfl rfl ?_
        refine A_iload_n dX8_copied_9 rfl rfl ?_
        refine A_aload_n dX8_copied_10 rfl rfl ?_
        refine A_iload_n dX8_copied_11 rfl rfl ?_
        refine B_iald (i := i) dX8_copied_12 hA (by decide) rfl (by omega) ?_
        refine B_top (congrFun (az_up_ne hab) i) ?_
        refine B_iast (i := i) dX8_copied_13 hB (by decide) rfl (by omega) ?_
        refine B_sg (show _ = va_up sg b (zcp (sg a) (sg b) (i + 1)) by unfold az_w; rw [az_up_self, zcp_s, az_up_up]) ?_
        refine A_iinc (v := nI (i + 1)) (lo2 := [some (.ref a), some (.ref b), some (.int (nI (i + 1)))]) dX8_copied_14 rfl (nI_1 i) (by decide) rfl ?_
        refine A_goto (tgt := 2) dX8_copied_17 rfl ?_
        exact ih (i + 1) (by omega)
  refine A_iconst (v := 0) dX8_copied_0 (by decide) ?_
  refine A_istore_n (lo2 := [some (.ref a), some (.ref b), some (.int 0)]) dX8_copied_1 rfl (by decide) rfl ?_
  refine B_sg (show sg = va_up sg b (zcp (sg a) (sg b) 0) by rw [zcp_0, az_up_id]) ?_
  exact loop 8 0 rfl
theorem tk_fin (sg : Nat → Nat → Int32) (o : Nat) (c c2 : CT) (hw : cAway c2 = cAway c) : mput sg o (sSeed (sFe (sBr (sPr (sAa (sKd (sPp (sCoal (sWin (sDay (sFall (sAir c (cAir c2)) (cFall c2)) (cDay c2)) (cWin c2)) (cCoal c2)) (cPp c2)) (cKd c2)) (cAa c2)) (cPr c2)) (cBr c2)) (cFe c2)) (cSeed c2)) = mput sg o c2 := by
  obtain ⟨a1, a2, a3, a4, a5, a6, a7, a8, a9, a10, a11, a12, a13, a14⟩ := c
  obtain ⟨b1, b2, b3, b4, b5, b6, b7, b8, b9, b10, b11, b12, b13, b14⟩ := c2
  simp only [sPp, sAir, sFall, sDay, sWin, sCoal, sSeed, sLov, sAway, sKd, sAa, sPr, sBr, sFe, cPp, cAir, cFall, cDay, cWin, cCoal, cSeed, cLov, cAway, cKd, cAa, cPr, cBr, cFe] at hw ⊢
  subst hw
  rfl
theorem lyM_f {sh : List az_Sh} {o : Nat} {kp tr : Option Nat} (h : az_at sh o (lyM o kp tr)) : ∀ i, 17 ≤ i → i ≤ 21 → sh[o + i]? = some (100, 8, []) := by
  intro i h1 h2
  rcases (by omega : i = 17 ∨ i = 18 ∨ i = 19 ∨ i = 20 ∨ i = 21) with rfl | rfl | rfl | rfl | rfl
  · exact h 17 _ rfl
  · exact h 18 _ rfl
  · exact h 19 _ rfl
  · exact h 20 _ rfl
  · exact h 21 _ rfl
set_option maxHeartbeats 1000000 in
set_option maxRecDepth 100000 in
theorem r_takeFrom (l : Launch) (G : az_Gh) (d : Nat) (sh : List az_Sh) (sg : Nat → Nat → Int32) (la : Nat → Nat → Int64) (o o2 : Nat) (kp tr kp2 tr2 : Option Nat) (c c2 : CT) (hA : az_at sh o (lyM o kp tr)) (hB : az_at sh o2 (lyM o2 kp2 tr2)) (hd : o + 32 < o2 ∨ o2 + 32 < o) (hc : mput sg o c = sg) (hc2 : mput sg o2 c2 = sg) (hw : cAway c2 = cAway c) (ht : cTl c) (ht2 : cTl c2) : FM l G (d + 1) mX8_takeFrom [.ref o, .ref o2] (sh, sg, la) none (sh, mput sg o c2, la) := by
  refine az_fm knX8_takeFrom (Nat.le_of_ble_eq_true rfl) rfl (fun Post hP => ?_)
  show AW l G mX8_takeFrom (d + 1) (az_F G Post) 0 0 0 [some (.ref o), some (.ref o2)] [] (sh, sg, la)
  refine B_sg hc.symm ?_
  have hne : o2 ≠ o := by omega
  refine A_aload_n dX8_takeFrom_0 rfl rfl ?_
  refine A_aload_n dX8_takeFrom_1 rfl rfl ?_
  refine B_getV (cAir c2) dX8_takeFrom_2 flX8_37 (hB 0 _ rfl) rfl ((congrFun (mput_ne hne (by omega)) 9).trans ((congrFun (congrFun hc2.symm o2) 9).trans (mr_9 sg o2 c2))) ?_
  refine B_putI dX8_takeFrom_5 fwX8_37 (hA 0 _ rfl) rfl ?_
  refine B_sg (mw_9 _ _ _ _) ?_
  refine A_aload_n dX8_takeFrom_8 rfl rfl ?_
  refine A_aload_n dX8_takeFrom_9 rfl rfl ?_
  refine B_getV (cFall c2) dX8_takeFrom_10 flX8_41 (hB 0 _ rfl) rfl ((congrFun (mput_ne hne (by omega)) 10).trans ((congrFun (congrFun hc2.symm o2) 10).trans (mr_10 sg o2 c2))) ?_
  refine B_putI dX8_takeFrom_13 fwX8_41 (hA 0 _ rfl) rfl ?_
  refine B_sg (mw_10 _ _ _ _) ?_
  refine A_aload_n dX8_takeFrom_16 rfl rfl ?_
  refine A_aload_n dX8_takeFrom_17 rfl rfl ?_
  refine B_getV (cDay c2) dX8_takeFrom_18 flX8_139 (hB 0 _ rfl) rfl ((congrFun (mput_ne hne (by omega)) 11).trans ((congrFun (congrFun hc2.symm o2) 11).trans (mr_11 sg o2 c2))) ?_
  refine B_putI dX8_takeFrom_21 fwX8_139 (hA 0 _ rfl) rfl ?_
  refine B_sg (mw_11 _ _ _ _) ?_
  refine A_aload_n dX8_takeFrom_24 rfl rfl ?_
  refine A_aload_n dX8_takeFrom_25 rfl rfl ?_
  refine B_getV (cWin c2) dX8_takeFrom_26 flX8_44 (hB 0 _ rfl) rfl ((congrFun (mput_ne hne (by omega)) 12).trans ((congrFun (congrFun hc2.symm o2) 12).trans (mr_12 sg o2 c2))) ?_
  refine B_putI dX8_takeFrom_29 fwX8_44 (hA 0 _ rfl) rfl ?_
  refine B_sg (mw_12 _ _ _ _) ?_
  refine A_aload_n dX8_takeFrom_32 rfl rfl ?_
  refine A_aload_n dX8_takeFrom_33 rfl rfl ?_
  refine B_getV (cCoal c2) dX8_takeFrom_34 flX8_47 (hB 0 _ rfl) rfl ((congrFun (mput_ne hne (by omega)) 13).trans ((congrFun (congrFun hc2.symm o2) 13).trans (mr_13 sg o2 c2))) ?_
  refine B_putI dX8_takeFrom_37 fwX8_47 (hA 0 _ rfl) rfl ?_
  refine B_sg (mw_13 _ _ _ _) ?_
  refine A_aload_n dX8_takeFrom_40 rfl rfl ?_
  refine A_aload_n dX8_takeFrom_41 rfl rfl ?_
  refine B_getV (cPp c2) dX8_takeFrom_42 flX8_88 (hB 0 _ rfl) rfl ((congrFun (mput_ne hne (by omega)) 14).trans ((congrFun (congrFun hc2.symm o2) 14).trans (mr_14 sg o2 c2))) ?_
  refine B_putI dX8_takeFrom_45 fwX8_88 (hA 0 _ rfl) rfl ?_
  refine B_sg (mw_14 _ _ _ _) ?_
  have ht6 : cTl (sPp (sCoal (sWin (sDay (sFall (sAir c (cAir c2)) (cFall c2)) (cDay c2)) (cWin c2)) (cCoal c2)) (cPp c2)) := ht
  generalize hg : (sPp (sCoal (sWin (sDay (sFall (sAir c (cAir c2)) (cFall c2)) (cDay c2)) (cWin c2)) (cCoal c2)) (cPp c2)) = c6 at ht6 ⊢
  refine A_aload_n dX8_takeFrom_48 rfl rfl ?_
  refine B_getR dX8_takeFrom_49 flX8_50 (hB 0 _ rfl) rfl ?_
  refine A_aload_n dX8_takeFrom_52 rfl rfl ?_
  refine B_getR dX8_takeFrom_53 flX8_50 (hA 0 _ rfl) rfl ?_
  have e17 : mput sg o c6 (o2 + 17) = cKd c2 := (mput_ne (by omega) (by omega)).trans ((congrFun hc2.symm (o2 + 17)).trans (ma_17 sg o2 c2))
  refine A_callS (n := 0) dX8_takeFrom_56 ksX8_copied mlX8_355 rfl (r_copied l G d sh (mput sg o c6) la (o2 + 17) (o + 17) (lyM_f hB 17 (by decide) (by decide)) (lyM_f hA 17 (by decide) (by decide)) (by omega) (fun j hj => by rw [e17, ma_17]; exact ((ht2 j hj).1).trans (ht6 j hj).1.symm)) (by omega) (Nat.le_refl _) (Nat.le_refl _) rfl (Nat.le_of_ble_eq_true rfl) (fun r S1 hp => ?_)
  obtain ⟨rfl, rfl⟩ := hp
  rw [e17, mu_17]
  show AW l G mX8_takeFrom (d + 1) (az_F G Post) 0 0 59 [some (.ref o), some (.ref o2)] [] (sh, mput sg o (sKd c6 (cKd c2)), la)
  refine A_aload_n dX8_takeFrom_59 rfl rfl ?_
  refine B_getR dX8_takeFrom_60 flX8_53 (hB 0 _ rfl) rfl ?_
  refine A_aload_n dX8_takeFrom_63 rfl rfl ?_
  refine B_getR dX8_takeFrom_64 flX8_53 (hA 0 _ rfl) rfl ?_
  have e18 : mput sg o (sKd c6 (cKd c2)) (o2 + 18) = cAa c2 := (mput_ne (by omega) (by omega)).trans ((congrFun hc2.symm (o2 + 18)).trans (ma_18 sg o2 c2))
  refine A_callS (n := 0) dX8_takeFrom_67 ksX8_copied mlX8_355 rfl (r_copied l G d sh (mput sg o (sKd c6 (cKd c2))) la (o2 + 18) (o + 18) (lyM_f hB 18 (by decide) (by decide)) (lyM_f hA 18 (by decide) (by decide)) (by omega) (fun j hj => by rw [e18, ma_18]; exact ((ht2 j hj).2.1).trans (ht6 j hj).2.1.symm)) (by omega) (Nat.le_refl _) (Nat.le_refl _) rfl (Nat.le_of_ble_eq_true rfl) (fun r S1 hp => ?_)
  obtain ⟨rfl, rfl⟩ := hp
  rw [e18, mu_18]
  show AW l G mX8_takeFrom (d + 1) (az_F G Post) 0 0 70 [some (.ref o), some (.ref o2)] [] (sh, mput sg o (sAa (sKd c6 (cKd c2)) (cAa c2)), la)
  refine A_aload_n dX8_takeFrom_70 rfl rfl ?_
  refine B_getR dX8_takeFrom_71 flX8_56 (hB 0 _ rfl) rfl ?_
  refine A_aload_n dX8_takeFrom_74 rfl rfl ?_
  refine B_getR dX8_takeFrom_75 flX8_56 (hA 0 _ rfl) rfl ?_
  have e19 : mput sg o (sAa (sKd c6 (cKd c2)) (cAa c2)) (o2 + 19) = cPr c2 := (mput_ne (by omega) (by omega)).trans ((congrFun hc2.symm (o2 + 19)).trans (ma_19 sg o2 c2))
  refine A_callS (n := 0) dX8_takeFrom_78 ksX8_copied mlX8_355 rfl (r_copied l G d sh (mput sg o (sAa (sKd c6 (cKd c2)) (cAa c2))) la (o2 + 19) (o + 19) (lyM_f hB 19 (by decide) (by decide)) (lyM_f hA 19 (by decide) (by decide)) (by omega) (fun j hj => by rw [e19, ma_19]; exact ((ht2 j hj).2.2.1).trans (ht6 j hj).2.2.1.symm)) (by omega) (Nat.le_refl _) (Nat.le_refl _) rfl (Nat.le_of_ble_eq_true rfl) (fun r S1 hp => ?_)
  obtain ⟨rfl, rfl⟩ := hp
  rw [e19, mu_19]
  show AW l G mX8_takeFrom (d + 1) (az_F G Post) 0 0 81 [some (.ref o), some (.ref o2)] [] (sh, mput sg o (sPr (sAa (sKd c6 (cKd c2)) (cAa c2)) (cPr c2)), la)
  refine A_aload_n dX8_takeFrom_81 rfl rfl ?_
  refine B_getR dX8_takeFrom_82 flX8_59 (hB 0 _ rfl) rfl ?_
  refine A_aload_n dX8_takeFrom_85 rfl rfl ?_
  refine B_getR dX8_takeFrom_86 flX8_59 (hA 0 _ rfl) rfl ?_
  have e20 : mput sg o (sPr (sAa (sKd c6 (cKd c2)) (cAa c2)) (cPr c2)) (o2 + 20) = cBr c2 := (mput_ne (by omega) (by omega)).trans ((congrFun hc2.symm (o2 + 20)).trans (ma_20 sg o2 c2))
  refine A_callS (n := 0) dX8_takeFrom_89 ksX8_copied mlX8_355 rfl (r_copied l G d sh (mput sg o (sPr (sAa (sKd c6 (cKd c2)) (cAa c2)) (cPr c2))) la (o2 + 20) (o + 20) (lyM_f hB 20 (by decide) (by decide)) (lyM_f hA 20 (by decide) (by decide)) (by omega) (fun j hj => by rw [e20, ma_20]; exact ((ht2 j hj).2.2.2.1).trans (ht6 j hj).2.2.2.1.symm)) (by omega) (Nat.le_refl _) (Nat.le_refl _) rfl (Nat.le_of_ble_eq_true rfl) (fun r S1 hp => ?_)
  obtain ⟨rfl, rfl⟩ := hp
  rw [e20, mu_20]
  show AW l G mX8_takeFrom (d + 1) (az_F G Post) 0 0 92 [some (.ref o), some (.ref o2)] [] (sh, mput sg o (sBr (sPr (sAa (sKd c6 (cKd c2)) (cAa c2)) (cPr c2)) (cBr c2)), la)
  refine A_aload_n dX8_takeFrom_92 rfl rfl ?_
  refine B_getR dX8_takeFrom_93 flX8_62 (hB 0 _ rfl) rfl ?_
  refine A_aload_n dX8_takeFrom_96 rfl rfl ?_
  refine B_getR dX8_takeFrom_97 flX8_62 (hA 0 _ rfl) rfl ?_
  have e21 : mput sg o (sBr (sPr (sAa (sKd c6 (cKd c2)) (cAa c2)) (cPr c2)) (cBr c2)) (o2 + 21) = cFe c2 := (mput_ne (by omega) (by omega)).trans ((congrFun hc2.symm (o2 + 21)).trans (ma_21 sg o2 c2))
  refine A_callS (n := 0) dX8_takeFrom_100 ksX8_copied mlX8_355 rfl (r_copied l G d sh (mput sg o (sBr (sPr (sAa (sKd c6 (cKd c2)) (cAa c2)) (cPr c2)) (cBr c2))) la (o2 + 21) (o + 21) (lyM_f hB 21 (by decide) (by decide)) (lyM_f hA 21 (by decide) (by decide)) (by omega) (fun j hj => by rw [e21, ma_21]; exact ((ht2 j hj).2.2.2.2).trans (ht6 j hj).2.2.2.2.symm)) (by omega) (Nat.le_refl _) (Nat.le_refl _) rfl (Nat.le_of_ble_eq_true rfl) (fun r S1 hp => ?_)
  obtain ⟨rfl, rfl⟩ := hp
  rw [e21, mu_21]
  show AW l G mX8_takeFrom (d + 1) (az_F G Post) 0 0 103 [some (.ref o), some (.ref o2)] [] (sh, mput sg o (sFe (sBr (sPr (sAa (sKd c6 (cKd c2)) (cAa c2)) (cPr c2)) (cBr c2)) (cFe c2)), la)
  refine A_aload_n dX8_takeFrom_103 rfl rfl ?_
  refine A_aload_n dX8_takeFrom_104 rfl rfl ?_
  refine B_getV (cSeed c2) dX8_takeFrom_105 flX8_65 (hB 0 _ rfl) rfl ((congrFun (mput_ne hne (by omega)) 20).trans ((congrFun (congrFun hc2.symm o2) 20).trans (mr_20 sg o2 c2))) ?_
  refine B_putI dX8_takeFrom_108 fwX8_65 (hA 0 _ rfl) rfl ?_
  refine B_sg (mw_20 _ _ _ _) ?_
  subst hg
  exact A_vret dX8_takeFrom_111 rfl (az_pv hP (by rw [tk_fin sg o c c2 hw]))
