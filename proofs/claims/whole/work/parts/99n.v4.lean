theorem nI_quo {x y : Nat} (hx : x < 2 ^ 31) (hy : y < 2 ^ 31) : nI x / nI y = nI (x / y) := by
  refine Int32.toInt_inj.mp ?_
  have hq : x / y ≤ x := Nat.div_le_self x y
  rw [Int32.toInt_div, nI_toInt hx, nI_toInt hy, nI_toInt (by omega), ← Int.ofNat_tdiv]
  generalize x / y = z at hq ⊢
  exact Int.bmod_eq_of_le (by omega) (by omega)
theorem lN_quo {x y : Nat} (hx : x < 2 ^ 31) (hy : y < 2 ^ 31) : lN x / lN y = lN (x / y) := by
  refine Int64.toInt_inj.mp ?_
  have hq : x / y ≤ x := Nat.div_le_self x y
  rw [Int64.toInt_div, lN_toInt hx, lN_toInt hy, lN_toInt (by omega), ← Int.ofNat_tdiv]
  generalize x / y = z at hq ⊢
  exact Int.bmod_eq_of_le (by omega) (by omega)
theorem p4_le {t : Nat} (h : t ≤ 5) : 1 ≤ 4 ^ t ∧ 4 ^ t ≤ 1024 := by
  have hk : t = 0 ∨ t = 1 ∨ t = 2 ∨ t = 3 ∨ t = 4 ∨ t = 5 := by omega
  rcases hk with rfl | rfl | rfl | rfl | rfl | rfl <;> decide
theorem p4_sh : ∀ t, t < 6 → (1 : Int32) <<< ((2 * nI t) &&& 31) = nI (4 ^ t) := by decide +kernel
theorem odds_c {c : CT} {a : Nat} (ha : cAir c = nI a) : c = sFall (sAir (sFall c 0) (nI a)) (cFall c) := by rw [← ha]; rfl
theorem odds_a {c : CT} {a t : Nat} (ha : cAir c = nI a) (h40 : a ≤ 40) (ht : t ≤ 5) : zlik (nI (4 ^ t)) (nI (zsm (zQ (sFall c 0) a t) 41)) = (1000000 * (rS t false c).toInt64 / (nI (4 ^ t)).toInt64).toInt32 := by
  have h4 := p4_le ht
  have e : rS t false c = nI (nS t (sFall c 0) false a) := (congrArg (rS t false) (odds_c ha)).trans (rS_n t false _ a _ h40)
  have hK : nI (4 ^ t) - nI (nU t (sFall c 0) a) = nI (nS t (sFall c 0) false a) := by rw [← nS_U t (sFall c 0) a, ← nI_add, Int32.add_sub_cancel]
  have hn : ¬ nI (4 ^ t) < 1 := nI_nlt (b := 1) h4.1 (by omega)
  unfold zlik
  rw [if_neg hn, zQ_U _ h40, hK, e, Int64.mul_comm]
theorem odds_b {c : CT} {a t : Nat} (ha : cAir c = nI a) (h40 : a ≤ 40) (ht : t ≤ 5) : zmean (nI (4 ^ t)) (zsmL (zW a t) 41) = (1000 * rV t c) / nI (4 ^ t) := by
  have h4 := p4_le ht
  have e : rV t c = nI (nV t a) := (congrArg (rV t) (odds_c ha)).trans (rV_n t _ a _ h40)
  have hV := nV_le t a h40
  have hz : zsmL (zW a t) 41 = lN (nV t a) := by
    rw [zsmL_n (by decide) (fun i hi => ?_), zW_V h40]
    have h1 := zsm_ge (zW a t) 41 i hi
    rw [zW_4 h40] at h1
    omega
  have hn : ¬ nI (4 ^ t) < 1 := nI_nlt (b := 1) h4.1 (by omega)
  unfold zmean
  rw [if_neg hn, hz, e, nI_l (by omega), show (1000 : Int64) = lN 1000 from rfl, lN_mul, show (1000 : Int32) = nI 1000 from rfl, nI_mul, lN_quo (by omega) (by omega), nI_quo (by omega) (by omega), lN_i, Nat.mul_comm]
theorem kpt_F {t : Nat} {u v : Nat → Nat → Int32} {c : CT} (h : kpt u c) (hs : sF t u v) : kpt v c := ⟨(hs.2 31 (by decide) (by decide)).trans h.1, (hs.2 32 (by decide) (by decide)).trans h.2.1, fun j hj => (congrFun (hs.1 83 (by decide) (by omega)) j).trans (h.2.2 j hj)⟩
theorem sC_F {t : Nat} {s u v : Nat → Nat → Int32} (h : sC s u) (hs : sF t u v) (ht : t ≤ 5) : sC s v := by
  refine ⟨fun k a b => (hs.1 k a (by omega)).trans (h.1 k a b), fun j a => (hs.2 j ?_ ?_).trans (h.2 j a)⟩
  · intro e; subst e; cases a
  · intro e; subst e; cases a
set_option maxHeartbeats 1000000 in
set_option maxRecDepth 100000 in
theorem y_odds (l : Launch) (G : az_Gh) (d : Nat) (sh : List az_Sh) (sg : Nat → Nat → Int32) (la : Nat → Nat → Int64) (g : GGM) (σ : SGM) (kp tr : Option Nat) (t w : Int32) (hM : az_at sh 60 (lyM 60 kp tr)) (hR : RX g sg la σ kp tr) (hW : WF σ) : AM l G (d + 32) mX8_odds [.ref 60, .int t, .int w] (sh, sg, la) 0 0 (RQ sh g kp tr (.int (q_odds σ t w).1) (q_odds σ t w).2) := by
  refine az_am knX8_odds (Nat.le_of_ble_eq_true rfl) rfl (fun Post hP => ?_)
  show AW l G mX8_odds (d + 32) (az_F G Post) 0 0 0 [some (.ref 60), some (.int t), some (.int w), none] [] (sh, sg, la)
  have hO := hW.1.1.1
  have hL := cW_lv hW.1
  have h8 := hO.2
  refine B_sg hR.z.symm ?_
  have refu : ¬ ((0 ≤ t ∧ t ≤ 5) ∧ (0 ≤ w ∧ w ≤ 1)) → AW l G mX8_odds (d + 32) (az_F G Post) 0 0 22 [some (.ref 60), some (.int t), some (.int w), none] [] (sh, mput sg 60 (xN σ), la) := by
    intro hno
    refine A_aload_n dX8_odds_22 rfl rfl ?_
    refine A_bipush (v := (-2)) dX8_odds_23 (by decide) ?_
    refine A_callV (n := 0) dX8_odds_25 kvX8_refuse mlX8_101 rfl (az_rc_obj clX8 (hM 0 _ rfl)) (c_X8_refuse l G (d + 31) sh (mput sg 60 (xN σ)) la kp tr (-2) 0 hM (by decide) (by decide)) (by omega) (Nat.le_refl _) (Nat.le_refl _) rfl (Nat.le_of_ble_eq_true rfl) (fun r S1 hp => ?_)
    obtain ⟨rfl, rfl⟩ := hp
    show AW l G mX8_odds (d + 32) (az_F G Post) 0 0 28 [some (.ref 60), some (.int t), some (.int w), none] [.int (-2)] (sh, (az_w (mput sg 60 (xN σ)) 76 (0 + 2) ((mput sg 60 (xN σ)) 76 (0 + 2) + 1)), la)
    have hq : q_odds σ t w = ((-2), (rfs σ 0)) := (if_neg hno).trans rfl
    exact A_iret dX8_odds_28 rfl (hP _ _ (RQ_i hq ((hR.fin0 (sC.rf sg)).ref (k := 0) (by decide))))
  refine A_iload_n dX8_odds_0 rfl rfl ?_
  refine A_i2l dX8_odds_1 ?_
  refine A_lconst (v := 0) dX8_odds_2 (by decide) ?_
  refine A_ldc2 (v := 5) dX8_odds_3 lcX8_116 ?_
  refine A_callS (n := 0) dX8_odds_6 ksX8_in mlX8_91 rfl (c_X8_inI l G (d + 31) sh (mput sg 60 (xN σ)) la t 5 5 (by decide)) (by omega) (Nat.le_refl _) (Nat.le_refl _) rfl (Nat.le_of_ble_eq_true rfl) (fun r S1 hp => ?_)
  obtain ⟨rfl, rfl⟩ := hp
  show AW l G mX8_odds (d + 32) (az_F G Post) 0 0 9 [some (.ref 60), some (.int t), some (.int w), none] [.int (b2i (0 ≤ t ∧ t ≤ 5))] (sh, mput sg 60 (xN σ), la)
  refine A_if_eq (tgt := 22) dX8_odds_9 rfl (fun h_1 => refu (fun z => b2i_0.mp h_1 z.1)) (fun h_1 => ?_)
  refine A_iload_n dX8_odds_12 rfl rfl ?_
  refine A_i2l dX8_odds_13 ?_
  refine A_lconst (v := 0) dX8_odds_14 (by decide) ?_
  refine A_lconst (v := 1) dX8_odds_15 (by decide) ?_
  refine A_callS (n := 0) dX8_odds_16 ksX8_in mlX8_91 rfl (c_X8_inI l G (d + 31) sh (mput sg 60 (xN σ)) la w 1 1 (by decide)) (by omega) (Nat.le_refl _) (Nat.le_refl _) rfl (Nat.le_of_ble_eq_true rfl) (fun r S1 hp => ?_)
  obtain ⟨rfl, rfl⟩ := hp
  show AW l G mX8_odds (d + 32) (az_F G Post) 0 0 19 [some (.ref 60), some (.int t), some (.int w), none] [.int (b2i (0 ≤ w ∧ w ≤ 1))] (sh, mput sg 60 (xN σ), la)
  refine A_if_ne (tgt := 29) dX8_odds_19 rfl (fun h_2 => ?_) (fun h_2 => refu (fun z => b2i_0.mp h_2 z.2))
  have hyes := And.intro (b2i_n.mp h_1) (b2i_n.mp h_2)
  clear refu h_1 h_2
  obtain ⟨t1, ht1, rfl⟩ := nI_ex (m := 5) hyes.1
  have hc_t1 : (nI t1).toNatClampNeg = t1 := nI_clamp (by omega)
  have haR := hW.1.1.2.1
  obtain ⟨a, ha4, ha⟩ : ∃ a, a ≤ 40 ∧ cAir (xN σ) = nI a := iR_nI (m := 40) haR
  have hna : q_na σ = a := by unfold q_na; rw [ha]; exact nI_clamp (by omega)
  refine A_aload_n dX8_odds_29 rfl rfl ?_
  refine A_callV (n := 0) dX8_odds_30 kvX8_keeps mlX8_265 rfl (az_rc_obj clX8 (hM 0 _ rfl)) (r_keeps l G (d + 31) sh sg la kp tr (xN σ) hM hO) (by omega) (Nat.le_refl _) (Nat.le_refl _) rfl (Nat.le_of_ble_eq_true rfl) (fun r S1 hp => ?_)
  obtain ⟨rfl, rfl⟩ := hp
  show AW l G mX8_odds (d + 32) (az_F G Post) 0 0 33 [some (.ref 60), some (.int (nI t1)), some (.int w), none] [] (sh, mput (mkp sg (xN σ)) 60 (xN σ), la)
  refine A_aload_n dX8_odds_33 rfl rfl ?_
  refine A_iconst (v := 0) dX8_odds_34 (by decide) ?_
  refine B_putI dX8_odds_35 fwX8_336 (hM 0 _ rfl) rfl ?_
  refine B_sg (show _ = mput (az_w (mkp sg (xN σ)) 60 39 0) 60 (xN σ) from mput_wj rfl) ?_
  refine A_aload_n dX8_odds_38 rfl rfl ?_
  refine A_iconst (v := 0) dX8_odds_39 (by decide) ?_
  refine B_putI dX8_odds_40 fwX8_339 (hM 0 _ rfl) rfl ?_
  refine B_sg (show _ = mput (az_w (az_w (mkp sg (xN σ)) 60 39 0) 60 40 0) 60 (xN σ) from mput_wj rfl) ?_
  have hk0 : kpt (az_w (az_w (mkp sg (xN σ)) 60 39 0) 60 40 0) (xN σ) := kpt_w (kpt_w (kpt_kp sg (xN σ)) (by decide) 0) (by decide) 0
  have hs0 : sC sg (az_w (az_w (mkp sg (xN σ)) 60 39 0) 60 40 0) := (((sC.rf sg).kp (xN σ)).w (j := 39) rfl 0).w (j := 40) rfl 0
  have z39 : az_w (az_w (mkp sg (xN σ)) 60 39 0) 60 40 0 60 39 = 0 := (az_w_nj (by decide)).trans (az_w_at _ _ _ _)
  have z40 : az_w (az_w (mkp sg (xN σ)) 60 39 0) 60 40 0 60 40 = 0 := az_w_at _ _ _ _
  generalize az_w (az_w (mkp sg (xN σ)) 60 39 0) 60 40 0 = u at hk0 hs0 z39 z40 ⊢
  refine A_aload_n dX8_odds_43 rfl rfl ?_
  refine A_iload_n dX8_odds_44 rfl rfl ?_
  refine A_iconst (v := 0) dX8_odds_45 (by decide) ?_
  refine B_top (show (0 : Int32) = b2i (false = true) from rfl) ?_
  refine A_callV (n := 0) dX8_odds_46 kvX8_fans mlX8_342 rfl (az_rc_obj clX8 (hM 0 _ rfl)) (r_fans l G (d + 27 - t1) sh la kp tr hM t1 u false (xN σ) (by omega) hO hL) (by omega) (Nat.le_refl _) (Nat.le_refl _) rfl (Nat.le_of_ble_eq_true rfl) (fun r S1 hp => ?_)
  obtain ⟨rfl, u2, y2, hs2, d39, d40, rfl⟩ := hp
  show AW l G mX8_odds (d + 32) (az_F G Post) 0 0 49 [some (.ref 60), some (.int (nI t1)), some (.int w), none] [] (sh, mput u2 60 (sFall (xN σ) y2), la)
  rw [z39, Int32.zero_add] at d39
  rw [z40, Int32.zero_add] at d40
  refine A_aload_n dX8_odds_49 rfl rfl ?_
  refine A_callV (n := 0) dX8_odds_50 kvX8_goesBack mlX8_271 rfl (az_rc_obj clX8 (hM 0 _ rfl)) (r_goesBack l G (d + 31) sh u2 la kp tr (xN σ) (sFall (xN σ) y2) hM hO (kpt_F hk0 hs2) (mdf_fall (mdf_rf _) _)) (by omega) (Nat.le_refl _) (Nat.le_refl _) rfl (Nat.le_of_ble_eq_true rfl) (fun r S1 hp => ?_)
  obtain ⟨rfl, rfl⟩ := hp
  show AW l G mX8_odds (d + 32) (az_F G Post) 0 0 53 [some (.ref 60), some (.int (nI t1)), some (.int w), none] [] (sh, mput u2 60 (xN σ), la)
  have hRf := hR.fin0 (sC_F hs0 hs2 (by omega))
  refine A_iconst (v := 1) dX8_odds_53 (by decide) ?_
  refine A_iconst (v := 2) dX8_odds_54 (by decide) ?_
  refine A_iload_n dX8_odds_55 rfl rfl ?_
  refine A_imul dX8_odds_56 ?_
  refine A_ishl dX8_odds_57 ?_
  refine B_top (p4_sh t1 (by omega)) ?_
  refine A_istore_n (lo2 := [some (.ref 60), some (.int (nI t1)), some (.int w), some (.int (nI (4 ^ t1)))]) dX8_odds_58 rfl (by decide) rfl ?_
  have h4 := p4_le (t := t1) (by omega)
  refine A_iload_n dX8_odds_59 rfl rfl ?_
  refine A_if_ne (tgt := 79) dX8_odds_60 rfl (fun h_3 => ?_) (fun h_3 => ?_)
  · skip
    refine A_sipush (v := 1000) dX8_odds_79 (by decide) ?_
    refine A_aload_n dX8_odds_82 rfl rfl ?_
    refine B_getV (rV t1 (xN σ)) dX8_odds_83 flX8_339 (hM 0 _ rfl) rfl ((mput_f rfl).trans d40) ?_
    refine A_imul dX8_odds_86 ?_
    refine A_iload_n dX8_odds_87 rfl rfl ?_
    refine A_idiv dX8_odds_88 (nI_ne0 (by omega) (by omega)) ?_
    have hq : q_odds σ (nI t1) w = (1000 * rV t1 (xN σ) / nI (4 ^ t1), σ) := by
      unfold q_odds
      rw [if_pos hyes, if_neg h_3, hc_t1, hna, odds_b ha ha4 (by omega)]
    exact A_iret dX8_odds_89 rfl (hP _ _ (RQ_i hq hRf))
  · skip
    refine A_ldc2 (v := 1000000) dX8_odds_63 lcX8_346 ?_
    refine A_aload_n dX8_odds_66 rfl rfl ?_
    refine B_getV (rS t1 false (xN σ)) dX8_odds_67 flX8_336 (hM 0 _ rfl) rfl ((mput_f rfl).trans d39) ?_
    refine A_i2l dX8_odds_70 ?_
    refine A_lmul dX8_odds_71 ?_
    refine A_iload_n dX8_odds_72 rfl rfl ?_
    refine A_i2l dX8_odds_73 ?_
    refine A_ldiv dX8_odds_74 (by rw [nI_l (by omega)]; exact fun z => absurd ((lN_eq (b := 0) (by omega) (by decide)).mp z) (by omega)) ?_
    refine A_l2i dX8_odds_75 ?_
    refine A_goto (tgt := 89) dX8_odds_76 rfl ?_
    have hq : q_odds σ (nI t1) w = ((1000000 * (rS t1 false (xN σ)).toInt64 / (nI (4 ^ t1)).toInt64).toInt32, σ) := by
      unfold q_odds
      rw [if_pos hyes, if_pos h_3, hc_t1, hna, odds_a ha ha4 (by omega)]
    exact A_iret dX8_odds_89 rfl (hP _ _ (RQ_i hq hRf))
