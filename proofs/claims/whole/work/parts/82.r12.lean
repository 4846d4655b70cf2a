theorem cr_Pr_Pr {c : CT} {x0 : Nat → Int32} : cPr (sPr c x0) = x0 := by rw [cs_PrPr]
theorem cu_Pr_Pr {c : CT} {x0 : Nat → Int32} {i : Nat} {y : Int32} : sPr (sPr c x0) (va_up (cPr (sPr c x0)) i y) = (sPr c (va_up x0 i y)) := by rw [cr_Pr_Pr, ss_Pr]
theorem cr_Kd_Kd {c : CT} {x0 : Nat → Int32} : cKd (sKd c x0) = x0 := by rw [cs_KdKd]
theorem cu_Kd_Kd {c : CT} {x0 : Nat → Int32} {i : Nat} {y : Int32} : sKd (sKd c x0) (va_up (cKd (sKd c x0)) i y) = (sKd c (va_up x0 i y)) := by rw [cr_Kd_Kd, ss_Kd]
theorem b2i_dec (p : Prop) [Decidable p] : b2i p = b2i (decide p = true) := b2i_iff (decide_eq_true_iff).symm
theorem q_nt_t {σ : SGM} {s n : Int32} (h : q_tf σ s n = 0) : q_noTwos σ s n true = (0, σ) := by unfold q_noTwos; rw [if_pos rfl, if_pos h]
/-- the kind of one becomes another -/
def ckd (c : CT) (p : Nat) (v : Int32) : CT := sLov (sKd c (va_up (cKd c) p v)) (nI (mlov (sKd c (va_up (cKd c) p v))))
theorem cLv_kd (c : CT) (p : Nat) (v : Int32) : cLv (ckd c p v) := by
  unfold cLv ckd
  rw [cs_LovLov]
  congr 1
theorem cOk_kd {c : CT} (h : cOk c) (p : Nat) (v : Int32) : cOk (ckd c p v) := co_Lov (co_Kd h)
theorem zc_ckd {c : CT} (hL : cLv c) (hO : cOk c) {p : Nat} (hp : p < cN c) (hg : ¬ nI p = cAway c) (v a : Int32) : zc (sAir (ckd c p v) a) p = zcT v (sAir c a) p := by
  have e1 : cKd (sAir (ckd c p v) a) p = v := by unfold ckd; rw [cs_KdAir, cs_KdLov, cs_KdKd, az_up_self]
  have e2 : ∀ (d : CT), zcT v (sAir d a) p = zcold v (cAa d p) (cBr d p) (cFe d p) a (decide ((if cKd d p = 4 then 1 else 0) < cLov d)) := by
    intro d
    unfold zcT
    rw [cs_AaAir, cs_BrAir, cs_FeAir, cs_AirAir, cs_KdAir, cs_LovAir]
  unfold zc
  rw [e1, e2, e2]
  have hg2 : ¬ nI p = cAway (ckd c p v) := by unfold ckd; rw [cs_AwayLov, cs_AwayKd]; exact hg
  have hp2 : p < cN (ckd c p v) := by unfold ckd; rw [cn_Lov, cn_Kd]; exact hp
  have q1 := mlov_p (cLv_kd c p v) (cOk_kd hO p v) hp2 hg2
  have q2 := mlov_p hL hO hp hg
  have ee : (∃ o, o < cN (ckd c p v) ∧ mlb (ckd c p v) p o = true) ↔ (∃ o, o < cN c ∧ mlb c p o = true) := by
    have em : ∀ o, mlb (ckd c p v) p o = mlb c p o := by
      intro o
      unfold mlb ckd
      rw [cs_AwayLov, cs_AwayKd, cs_KdLov, cs_KdKd]
      by_cases z : o = p
      · rw [decide_eq_false (p := ¬ o = p) (fun q => q z)]; rfl
      · rw [az_up_ne z]
    have en : cN (ckd c p v) = cN c := by unfold ckd; rw [cn_Lov, cn_Kd]
    rw [en]
    constructor
    · rintro ⟨o, h1, h2⟩; exact ⟨o, h1, by rw [← em]; exact h2⟩
    · rintro ⟨o, h1, h2⟩; exact ⟨o, h1, by rw [em]; exact h2⟩
  rw [decide_eq_decide.mpr (q1.symm.trans (ee.trans q2))]
  have f1 : cAa (ckd c p v) = cAa c := by unfold ckd; rw [cs_AaLov, cs_AaKd]
  have f2 : cBr (ckd c p v) = cBr c := by unfold ckd; rw [cs_BrLov, cs_BrKd]
  have f3 : cFe (ckd c p v) = cFe c := by unfold ckd; rw [cs_FeLov, cs_FeKd]
  rw [f1, f2, f3]
theorem sPr_up (c : CT) (p : Nat) : sPr c (va_up (cPr c) p (cPr c p)) = c := by rw [az_up_id]; simp only [sPr, cPp, cAir, cFall, cDay, cWin, cCoal, cSeed, cLov, cAway, cKd, cAa, cPr, cBr, cFe]
theorem sKd_up (c : CT) (p : Nat) : sKd c (va_up (cKd c) p (cKd c p)) = c := by rw [az_up_id]; simp only [sKd, cPp, cAir, cFall, cDay, cWin, cCoal, cSeed, cLov, cAway, cKd, cAa, cPr, cBr, cFe]
theorem zallb_and {p q : Nat → Bool} {n : Nat} : zallb (fun k => p k && q k) n = true ↔ (zallb p n = true ∧ zallb q n = true) := by
  rw [zallb_i, zallb_i, zallb_i]
  constructor
  · intro h; exact ⟨fun k hk => (Bool.and_eq_true_iff.mp (h k hk)).1, fun k hk => (Bool.and_eq_true_iff.mp (h k hk)).2⟩
  · intro h k hk; exact Bool.and_eq_true_iff.mpr ⟨h.1 k hk, h.2 k hk⟩
set_option maxHeartbeats 1000000 in
set_option maxRecDepth 100000 in
theorem y_prides (l : Launch) (G : az_Gh) (d : Nat) (sh : List az_Sh) (sg : Nat → Nat → Int32) (la : Nat → Nat → Int64) (g : GGM) (σ : SGM) (kp tr : Option Nat) (s n p : Int32) (hM : az_at sh 60 (lyM 60 kp tr)) (hR : RX g sg la σ kp tr) (hW : WF σ)  : AM l G (d + 32) mX8_prides [.ref 60, .int s, .int n, .int p] (sh, sg, la) 0 0 (RQ sh g kp tr (.int (q_prides σ s n p).1) (q_prides σ s n p).2) := by
  refine az_am knX8_prides (Nat.le_of_ble_eq_true rfl) rfl (fun Post hP => ?_)
  show AW l G mX8_prides (d + 32) (az_F G Post) 0 0 0 [some (.ref 60), some (.int s), some (.int n), some (.int p), none, none, none, none] [] (sh, sg, la)
  have hO := hW.1.1.1
  have hL := cW_lv hW.1
  have haw := hW.1.2.2.1
  have h8 := hO.2
  refine B_sg hR.z.symm ?_
  refine A_aload_n dX8_prides_0 rfl rfl ?_
  refine A_iload_n dX8_prides_1 rfl rfl ?_
  refine A_iload_n dX8_prides_2 rfl rfl ?_
  refine A_aload_n dX8_prides_3 rfl rfl ?_
  refine A_iload_n dX8_prides_4 rfl rfl ?_
  refine A_i2l dX8_prides_5 ?_
  refine A_callV (n := 0) dX8_prides_6 kvX8_isPerson mlX8_112 rfl (az_rc_obj clX8 (hM 0 _ rfl)) (r_isPerson l G (d + 30) sh sg la kp tr (xN σ) p hM hO) (by omega) (Nat.le_refl _) (Nat.le_refl _) rfl (Nat.le_of_ble_eq_true rfl) (fun r S1 hp => ?_)
  obtain ⟨rfl, rfl⟩ := hp
  show AW l G mX8_prides (d + 32) (az_F G Post) 0 0 9 [some (.ref 60), some (.int s), some (.int n), some (.int p), none, none, none, none] [.int (b2i (0 ≤ p ∧ p < cPp (xN σ))), .int n, .int s, .ref 60] (sh, (mput sg 60 (xN σ)), la)
  refine B_top (b2i_dec (0 ≤ p ∧ p < cPp (xN σ))) ?_
  refine B_sg hR.z ?_
  refine A_callV (n := 0) dX8_prides_9 kvX8_noTwos mlX8_306 rfl (az_rc_obj clX8 (hM 0 _ rfl)) (y_noTwos l G (d + 26) sh sg la g σ kp tr s n (decide (0 ≤ p ∧ p < cPp (xN σ))) hM hR hW) (by omega) (Nat.le_refl _) (Nat.le_refl _) rfl (Nat.le_of_ble_eq_true rfl) (fun r S1 hp => ?_)
  obtain ⟨rfl, sg1, la1, rfl, hR1⟩ := hp
  show AW l G mX8_prides (d + 32) (az_F G Post) 0 0 12 [some (.ref 60), some (.int s), some (.int n), some (.int p), none, none, none, none] [.int (q_noTwos σ s n (decide (0 ≤ p ∧ p < cPp (xN σ)))).1] (sh, sg1, la1)
  refine A_istore (lo2 := [some (.ref 60), some (.int s), some (.int n), some (.int p), some (.int (q_noTwos σ s n (decide (0 ≤ p ∧ p < cPp (xN σ)))).1), none, none, none]) dX8_prides_12 (by decide) rfl ?_
  refine A_iload dX8_prides_14 rfl ?_
  refine A_if_eq (tgt := 22) dX8_prides_16 rfl (fun h_1 => ?_) (fun h_1 => ?_)
  · skip
    obtain ⟨hm9, htf⟩ := q_nt_0 h_1
    have enr : q_noTwos σ s n (decide (0 ≤ p ∧ p < cPp (xN σ))) = (0, σ) := by rw [show (decide (0 ≤ p ∧ p < cPp (xN σ))) = true from hm9]; exact q_nt_t htf
    rw [enr] at hR1
    have hR1 : RX g sg1 la1 σ kp tr := hR1
    obtain ⟨hnn, hrf⟩ := q_tf_0 htf
    obtain ⟨hsh, hb1, hb2, hb3⟩ := q_rf_0 hrf
    obtain ⟨s1, hs1, rfl⟩ := nI_ex (m := 7) hsh
    have hc_s1 : (nI s1).toNatClampNeg = s1 := nI_clamp (by omega)
    obtain ⟨n1, hn1, rfl⟩ := nI_ex (m := 20) hnn
    have hc_n1 : (nI n1).toNatClampNeg = n1 := nI_clamp (by omega)
    have hs8 : s1 < 8 := by omega
    have exf : xf σ (nI s1) = xS σ s1 := by unfold xf; rw [hc_s1]
    rw [exf] at hb1 hb2 hb3
    have hz4 := (hW.2.2.2 s1 hs8).2.1
    have hz2 : 2 * n1 ≤ fSz (xS σ s1) := by rw [show 2 * nI n1 = nI (2 * n1) from nI_mul 2 n1] at hb3; exact (nI_leI (by omega) (by omega)).mp hb3
    have hla1 := (hR1.sh hs8).2.2.2
    refine B_sg hR1.z.symm ?_
    have hpp := of_decide_eq_true hm9
    obtain ⟨p1, hp1, rfl⟩ := nI_exp hO hpp
    have hc_p1 : (nI p1).toNatClampNeg = p1 := nI_clamp (by omega)
    refine A_aload_n dX8_prides_22 rfl rfl ?_
    refine A_iload_n dX8_prides_23 rfl rfl ?_
    refine A_iload_n dX8_prides_24 rfl rfl ?_
    refine A_iconst (v := 1) dX8_prides_25 (by decide) ?_
    refine A_callV (n := 0) dX8_prides_26 kvX8_areAirs mlX8_310 rfl (az_rc_obj clX8 (hM 0 _ rfl)) (r_areAirs1 l G (d + 30) sh (mput sg1 60 (xN σ)) la1 kp tr σ s1 n1 hM hs8 hla1 hz2 hz4) (by omega) (Nat.le_refl _) (Nat.le_refl _) rfl (Nat.le_of_ble_eq_true rfl) (fun r S1 hp => ?_)
    obtain ⟨rfl, rfl⟩ := hp
    show AW l G mX8_prides (d + 32) (az_F G Post) 0 0 29 [some (.ref 60), some (.int (nI s1)), some (.int (nI n1)), some (.int (nI p1)), some (.int (q_noTwos σ (nI s1) (nI n1) (decide (0 ≤ (nI p1) ∧ (nI p1) < cPp (xN σ)))).1), none, none, none] [.int (b2i (zallb (fun k => q_airsB σ (nI s1) k && q_wheB σ (nI s1) k) n1 = true))] (sh, (mput sg1 60 (xN σ)), la1)
    refine A_if_ne (tgt := 39) dX8_prides_29 rfl (fun h_2 => ?_) (fun h_2 => ?_)
    · skip
      have h_2' := b2i_n.mp h_2
      refine A_aload_n dX8_prides_39 rfl rfl ?_
      refine B_getR (r := 79) dX8_prides_40 flX8_56 (hM 0 _ rfl) rfl ?_
      refine A_iload_n dX8_prides_43 rfl rfl ?_
      refine B_ialdV (i := p1) (cPr (xN σ) p1) dX8_prides_44 (hM 19 _ rfl) (by decide) (rfl) (by omega) (me_19 _ _ _ _) ?_
      refine A_istore (lo2 := [some (.ref 60), some (.int (nI s1)), some (.int (nI n1)), some (.int (nI p1)), some (.int (q_noTwos σ (nI s1) (nI n1) (decide (0 ≤ (nI p1) ∧ (nI p1) < cPp (xN σ)))).1), some (.int (cPr (xN σ) p1)), none, none]) dX8_prides_45 (by decide) rfl ?_
      refine A_iconst (v := 0) dX8_prides_47 (by decide) ?_
      refine A_istore (lo2 := [some (.ref 60), some (.int (nI s1)), some (.int (nI n1)), some (.int (nI p1)), some (.int (q_noTwos σ (nI s1) (nI n1) (decide (0 ≤ (nI p1) ∧ (nI p1) < cPp (xN σ)))).1), some (.int (cPr (xN σ) p1)), some (.int 0), none]) dX8_prides_48 (by decide) rfl ?_
      refine A_iconst (v := 0) dX8_prides_50 (by decide) ?_
      refine A_istore (lo2 := [some (.ref 60), some (.int (nI s1)), some (.int (nI n1)), some (.int (nI p1)), some (.int (q_noTwos σ (nI s1) (nI n1) (decide (0 ≤ (nI p1) ∧ (nI p1) < cPp (xN σ)))).1), some (.int (cPr (xN σ) p1)), some (.int 0), some (.int 0)]) dX8_prides_51 (by decide) rfl ?_
      refine B_sg (show _ = mput sg1 60 (sPr (xN σ) (va_up (cPr (xN σ)) p1 (cPr (xN σ) p1))) from congrArg (mput sg1 60) (sPr_up (xN σ) p1).symm) ?_
      have loop : ∀ (q_i9 i9 : Nat) (v9 : Int32) (x6 : Int32), i9 + q_i9 = 21 → x6 = zbits (q_aP σ (nI s1) n1 p1) i9 → AW l G mX8_prides (d + 32) (az_F G Post) 0 0 53 [some (.ref 60), some (.int (nI s1)), some (.int (nI n1)), some (.int (nI p1)), some (.int (q_noTwos σ (nI s1) (nI n1) (decide (0 ≤ (nI p1) ∧ (nI p1) < cPp (xN σ)))).1), some (.int (cPr (xN σ) p1)), some (.int x6), some (.int (nI i9))] [] (sh, (mput sg1 60 (sPr (xN σ) (va_up (cPr (xN σ)) p1 v9))), la1) := by
        intro q_i9
        induction q_i9 with
        | zero =>
          intro i9 v9 x6 hi_i9  e_x6
          have hN_i9 : i9 = 21 := by omega
          subst i9
          refine A_iload dX8_prides_53 rfl ?_
          refine A_bipush (v := 20) dX8_prides_55 (by decide) ?_
          refine A_icmp_gt (tgt := 98) dX8_prides_57 rfl (fun h_3 => ?_) (fun h_3 => ?_)
          · skip
            refine A_aload_n dX8_prides_98 rfl rfl ?_
            refine B_getR (r := 79) dX8_prides_99 flX8_56 (hM 0 _ rfl) rfl ?_
            refine A_iload_n dX8_prides_102 rfl rfl ?_
            refine A_iload dX8_prides_103 rfl ?_
            refine B_iast (i := p1) dX8_prides_105 (hM 19 _ rfl) (by decide) (rfl) (by omega) ?_
            refine B_sg (show _ = (mput sg1 60 (sPr (xN σ) (va_up (va_up (cPr (xN σ)) p1 v9) p1 (cPr (xN σ) p1)))) from (mx_19 _ _ _ _ _).trans (congrArg (mput sg1 60) cu_Pr_Pr)) ?_
            refine B_sg (show _ = mput sg1 60 (xN σ) from congrArg (mput sg1 60) ((congrArg (sPr (xN σ)) (az_up_up _ _ _ _)).trans (sPr_up (xN σ) p1))) ?_
            refine A_iload dX8_prides_106 rfl ?_
            have hq : (q_prides σ (nI s1) (nI n1) (nI p1)) = (x6, σ) := by
              unfold q_prides
              rw [if_pos hpp, if_pos htf, hc_n1, if_pos (zallb_and.mp h_2'), hc_p1, e_x6]
            exact A_iret dX8_prides_108 rfl (hP _ _ (RQ_i hq (hR1.fin0 (sC.rf sg1))))
          · skip
            exact absurd (by decide) h_3
        | succ q_i9 ih =>
          intro i9 v9 x6 hi_i9  e_x6
          refine A_iload dX8_prides_53 rfl ?_
          refine A_bipush (v := 20) dX8_prides_55 (by decide) ?_
          refine A_icmp_gt (tgt := 98) dX8_prides_57 rfl (fun h_4 => ?_) (fun h_4 => ?_)
          · skip
            exact absurd h_4 (nI_nlt (b := i9) (a := 20) (by omega) (by decide))
          · skip
            refine A_aload_n dX8_prides_60 rfl rfl ?_
            refine B_getR (r := 79) dX8_prides_61 flX8_56 (hM 0 _ rfl) rfl ?_
            refine A_iload_n dX8_prides_64 rfl rfl ?_
            refine A_iload dX8_prides_65 rfl ?_
            refine B_iast (i := p1) dX8_prides_67 (hM 19 _ rfl) (by decide) (rfl) (by omega) ?_
            refine B_sg (show _ = (mput sg1 60 (sPr (xN σ) (va_up (va_up (cPr (xN σ)) p1 v9) p1 (nI i9)))) from (mx_19 _ _ _ _ _).trans (congrArg (mput sg1 60) cu_Pr_Pr)) ?_
            refine B_sg (show _ = mput sg1 60 (sPr (xN σ) (va_up (cPr (xN σ)) p1 (nI i9))) from congrArg (fun z => mput sg1 60 (sPr (xN σ) z)) (az_up_up _ _ _ _)) ?_
            refine A_iload dX8_prides_68 rfl ?_
            refine A_aload_n dX8_prides_70 rfl rfl ?_
            refine A_iload_n dX8_prides_71 rfl rfl ?_
            refine A_iload_n dX8_prides_72 rfl rfl ?_
            refine A_iload_n dX8_prides_73 rfl rfl ?_
            refine A_iconst (v := 1) dX8_prides_74 (by decide) ?_
            refine A_callV (n := 0) dX8_prides_75 kvX8_isTold mlX8_314 rfl (az_rc_obj clX8 (hM 0 _ rfl)) (r_isTold1 l G (d + 28) sh sg1 la1 kp tr (sPr (xN σ) (va_up (cPr (xN σ)) p1 (nI i9))) σ s1 n1 p1 hM (co_Pr hO) (cv_Pr hL) (cp_Pr hp1) (cg_Pr (by rw [haw]; exact nI_n1 (by omega))) hs8 hla1 hz2 hz4) (by omega) (Nat.le_refl _) (Nat.le_refl _) rfl (Nat.le_of_ble_eq_true rfl) (fun r S1 hp => ?_)
            obtain ⟨rfl, rfl⟩ := hp
            show AW l G mX8_prides (d + 32) (az_F G Post) 0 0 78 [some (.ref 60), some (.int (nI s1)), some (.int (nI n1)), some (.int (nI p1)), some (.int (q_noTwos σ (nI s1) (nI n1) (decide (0 ≤ (nI p1) ∧ (nI p1) < cPp (xN σ)))).1), some (.int (cPr (xN σ) p1)), some (.int x6), some (.int (nI i9))] [.int (b2i (zallb (fun k => decide ((b2i (zsp (sAir (sPr (xN σ) (va_up (cPr (xN σ)) p1 (nI i9))) (q_r1 σ (nI s1) k).toInt32) p1 = true)).toInt64 = q_r2 σ (nI s1) k)) n1 = true)), .int x6] (sh, (mput sg1 60 (sPr (xN σ) (va_up (cPr (xN σ)) p1 (nI i9)))), la1)
            refine A_if_eq (tgt := 88) dX8_prides_78 rfl (fun h_5 => ?_) (fun h_5 => ?_)
            · skip
              have h_5' := b2i_0.mp h_5
              refine A_iconst (v := 0) dX8_prides_88 (by decide) ?_
              refine A_ior dX8_prides_89 ?_
              refine A_istore (lo2 := [some (.ref 60), some (.int (nI s1)), some (.int (nI n1)), some (.int (nI p1)), some (.int (q_noTwos σ (nI s1) (nI n1) (decide (0 ≤ (nI p1) ∧ (nI p1) < cPp (xN σ)))).1), some (.int (cPr (xN σ) p1)), some (.int (x6 ||| 0)), some (.int (nI i9))]) dX8_prides_90 (by decide) rfl ?_
              refine A_iinc (v := nI (i9 + 1)) (lo2 := [some (.ref 60), some (.int (nI s1)), some (.int (nI n1)), some (.int (nI p1)), some (.int (q_noTwos σ (nI s1) (nI n1) (decide (0 ≤ (nI p1) ∧ (nI p1) < cPp (xN σ)))).1), some (.int (cPr (xN σ) p1)), some (.int (x6 ||| 0)), some (.int (nI (i9 + 1)))]) dX8_prides_92 rfl (nI_1 i9) (by decide) rfl ?_
              refine A_goto (tgt := 53) dX8_prides_95 rfl ?_
              refine ih (i9 + 1) _ _ (by omega) ?_
              · skip
                rw [e_x6, Int32.or_zero]; exact (if_neg (show ¬ q_aP σ (nI s1) n1 p1 i9 = true from h_5')).symm
            · skip
              have h_5' := b2i_n.mp h_5
              refine A_iconst (v := 1) dX8_prides_81 (by decide) ?_
              refine A_iload dX8_prides_82 rfl ?_
              refine A_ishl dX8_prides_84 ?_
              refine A_goto (tgt := 89) dX8_prides_85 rfl ?_
              refine A_ior dX8_prides_89 ?_
              refine A_istore (lo2 := [some (.ref 60), some (.int (nI s1)), some (.int (nI n1)), some (.int (nI p1)), some (.int (q_noTwos σ (nI s1) (nI n1) (decide (0 ≤ (nI p1) ∧ (nI p1) < cPp (xN σ)))).1), some (.int (cPr (xN σ) p1)), some (.int (x6 ||| (1 <<< (nI i9 &&& 31)))), some (.int (nI i9))]) dX8_prides_90 (by decide) rfl ?_
              refine A_iinc (v := nI (i9 + 1)) (lo2 := [some (.ref 60), some (.int (nI s1)), some (.int (nI n1)), some (.int (nI p1)), some (.int (q_noTwos σ (nI s1) (nI n1) (decide (0 ≤ (nI p1) ∧ (nI p1) < cPp (xN σ)))).1), some (.int (cPr (xN σ) p1)), some (.int (x6 ||| (1 <<< (nI i9 &&& 31)))), some (.int (nI (i9 + 1)))]) dX8_prides_92 rfl (nI_1 i9) (by decide) rfl ?_
              refine A_goto (tgt := 53) dX8_prides_95 rfl ?_
              refine ih (i9 + 1) _ _ (by omega) ?_
              · skip
                rw [e_x6]; exact (if_pos (show q_aP σ (nI s1) n1 p1 i9 = true from h_5')).symm
      exact loop (21) 0 _ _ (by omega) (rfl)
    · skip
      have h_2' := b2i_0.mp h_2
      refine A_aload_n dX8_prides_32 rfl rfl ?_
      refine A_bipush (v := (-5)) dX8_prides_33 (by decide) ?_
      refine A_callV (n := 0) dX8_prides_35 kvX8_refuse mlX8_101 rfl (az_rc_obj clX8 (hM 0 _ rfl)) (c_X8_refuse l G (d + 31) sh (mput sg1 60 (xN σ)) la1 kp tr (-5) 3 hM (by decide) (by decide)) (by omega) (Nat.le_refl _) (Nat.le_refl _) rfl (Nat.le_of_ble_eq_true rfl) (fun r S1 hp => ?_)
      obtain ⟨rfl, rfl⟩ := hp
      show AW l G mX8_prides (d + 32) (az_F G Post) 0 0 38 [some (.ref 60), some (.int (nI s1)), some (.int (nI n1)), some (.int (nI p1)), some (.int (q_noTwos σ (nI s1) (nI n1) (decide (0 ≤ (nI p1) ∧ (nI p1) < cPp (xN σ)))).1), none, none, none] [.int (-5)] (sh, (az_w (mput sg1 60 (xN σ)) 76 (3 + 2) ((mput sg1 60 (xN σ)) 76 (3 + 2) + 1)), la1)
      have hq : (q_prides σ (nI s1) (nI n1) (nI p1)) = ((-5), (rfs σ 3)) := by
        unfold q_prides
        rw [if_pos hpp, if_pos htf, hc_n1, if_neg (fun q => h_2' (zallb_and.mpr q))]
        first | done | rfl
      exact A_iret dX8_prides_38 rfl (hP _ _ (RQ_i hq ((hR1.fin0 (sC.rf sg1)).ref (k := 3) (by decide))))
  · skip
    refine A_iload dX8_prides_19 rfl ?_
    have hq : (q_prides σ s n p) = ((q_noTwos σ s n (decide (0 ≤ p ∧ p < cPp (xN σ)))).1, (q_noTwos σ s n (decide (0 ≤ p ∧ p < cPp (xN σ)))).2) := by
      have hz : ¬ (q_noTwos σ s n (decide (0 ≤ p ∧ p < cPp (xN σ)))).1 = 0 := h_1
      unfold q_prides
      by_cases hp : (0 ≤ p ∧ p < cPp (xN σ))
      · have e : q_noTwos σ s n (decide (0 ≤ p ∧ p < cPp (xN σ))) = (if q_tf σ s n = 0 then (0, σ) else qr σ (q_tf σ s n)) := by unfold q_noTwos; rw [if_pos (decide_eq_true hp)]
        by_cases z : q_tf σ s n = 0
        · rw [e, if_pos z] at hz; exact absurd rfl hz
        · rw [if_pos hp, if_neg z, e, if_neg z]
      · rw [if_neg hp]; unfold q_noTwos; rw [if_neg (fun q => hp (of_decide_eq_true q))]
    exact A_iret dX8_prides_21 rfl (hP _ _ (RQ_i hq hR1))
set_option maxHeartbeats 1000000 in
set_option maxRecDepth 100000 in
theorem y_kinds (l : Launch) (G : az_Gh) (d : Nat) (sh : List az_Sh) (sg : Nat → Nat → Int32) (la : Nat → Nat → Int64) (g : GGM) (σ : SGM) (kp tr : Option Nat) (s n p : Int32) (hM : az_at sh 60 (lyM 60 kp tr)) (hR : RX g sg la σ kp tr) (hW : WF σ)  : AM l G (d + 32) mX8_kinds [.ref 60, .int s, .int n, .int p] (sh, sg, la) 0 0 (RQ sh g kp tr (.int (q_kinds σ s n p).1) (q_kinds σ s n p).2) := by
  refine az_am knX8_kinds (Nat.le_of_ble_eq_true rfl) rfl (fun Post hP => ?_)
  show AW l G mX8_kinds (d + 32) (az_F G Post) 0 0 0 [some (.ref 60), some (.int s), some (.int n), some (.int p), none, none, none, none] [] (sh, sg, la)
  have hO := hW.1.1.1
  have hL := cW_lv hW.1
  have haw := hW.1.2.2.1
  have h8 := hO.2
  refine B_sg hR.z.symm ?_
  refine A_aload_n dX8_kinds_0 rfl rfl ?_
  refine A_iload_n dX8_kinds_1 rfl rfl ?_
  refine A_iload_n dX8_kinds_2 rfl rfl ?_
  refine A_aload_n dX8_kinds_3 rfl rfl ?_
  refine A_iload_n dX8_kinds_4 rfl rfl ?_
  refine A_i2l dX8_kinds_5 ?_
  refine A_callV (n := 0) dX8_kinds_6 kvX8_isPerson mlX8_112 rfl (az_rc_obj clX8 (hM 0 _ rfl)) (r_isPerson l G (d + 30) sh sg la kp tr (xN σ) p hM hO) (by omega) (Nat.le_refl _) (Nat.le_refl _) rfl (Nat.le_of_ble_eq_true rfl) (fun r S1 hp => ?_)
  obtain ⟨rfl, rfl⟩ := hp
  show AW l G mX8_kinds (d + 32) (az_F G Post) 0 0 9 [some (.ref 60), some (.int s), some (.int n), some (.int p), none, none, none, none] [.int (b2i (0 ≤ p ∧ p < cPp (xN σ))), .int n, .int s, .ref 60] (sh, (mput sg 60 (xN σ)), la)
  refine B_top (b2i_dec (0 ≤ p ∧ p < cPp (xN σ))) ?_
  refine B_sg hR.z ?_
  refine A_callV (n := 0) dX8_kinds_9 kvX8_noTwos mlX8_306 rfl (az_rc_obj clX8 (hM 0 _ rfl)) (y_noTwos l G (d + 26) sh sg la g σ kp tr s n (decide (0 ≤ p ∧ p < cPp (xN σ))) hM hR hW) (by omega) (Nat.le_refl _) (Nat.le_refl _) rfl (Nat.le_of_ble_eq_true rfl) (fun r S1 hp => ?_)
  obtain ⟨rfl, sg1, la1, rfl, hR1⟩ := hp
  show AW l G mX8_kinds (d + 32) (az_F G Post) 0 0 12 [some (.ref 60), some (.int s), some (.int n), some (.int p), none, none, none, none] [.int (q_noTwos σ s n (decide (0 ≤ p ∧ p < cPp (xN σ)))).1] (sh, sg1, la1)
  refine A_istore (lo2 := [some (.ref 60), some (.int s), some (.int n), some (.int p), some (.int (q_noTwos σ s n (decide (0 ≤ p ∧ p < cPp (xN σ)))).1), none, none, none]) dX8_kinds_12 (by decide) rfl ?_
  refine A_iload dX8_kinds_14 rfl ?_
  refine A_if_eq (tgt := 22) dX8_kinds_16 rfl (fun h_1 => ?_) (fun h_1 => ?_)
  · skip
    obtain ⟨hm9, htf⟩ := q_nt_0 h_1
    have enr : q_noTwos σ s n (decide (0 ≤ p ∧ p < cPp (xN σ))) = (0, σ) := by rw [show (decide (0 ≤ p ∧ p < cPp (xN σ))) = true from hm9]; exact q_nt_t htf
    rw [enr] at hR1
    have hR1 : RX g sg1 la1 σ kp tr := hR1
    obtain ⟨hnn, hrf⟩ := q_tf_0 htf
    obtain ⟨hsh, hb1, hb2, hb3⟩ := q_rf_0 hrf
    obtain ⟨s1, hs1, rfl⟩ := nI_ex (m := 7) hsh
    have hc_s1 : (nI s1).toNatClampNeg = s1 := nI_clamp (by omega)
    obtain ⟨n1, hn1, rfl⟩ := nI_ex (m := 20) hnn
    have hc_n1 : (nI n1).toNatClampNeg = n1 := nI_clamp (by omega)
    have hs8 : s1 < 8 := by omega
    have exf : xf σ (nI s1) = xS σ s1 := by unfold xf; rw [hc_s1]
    rw [exf] at hb1 hb2 hb3
    have hz4 := (hW.2.2.2 s1 hs8).2.1
    have hz2 : 2 * n1 ≤ fSz (xS σ s1) := by rw [show 2 * nI n1 = nI (2 * n1) from nI_mul 2 n1] at hb3; exact (nI_leI (by omega) (by omega)).mp hb3
    have hla1 := (hR1.sh hs8).2.2.2
    refine B_sg hR1.z.symm ?_
    have hpp := of_decide_eq_true hm9
    obtain ⟨p1, hp1, rfl⟩ := nI_exp hO hpp
    have hc_p1 : (nI p1).toNatClampNeg = p1 := nI_clamp (by omega)
    refine A_aload_n dX8_kinds_22 rfl rfl ?_
    refine A_iload_n dX8_kinds_23 rfl rfl ?_
    refine A_iload_n dX8_kinds_24 rfl rfl ?_
    refine A_iconst (v := 0) dX8_kinds_25 (by decide) ?_
    refine A_callV (n := 0) dX8_kinds_26 kvX8_areAirs mlX8_310 rfl (az_rc_obj clX8 (hM 0 _ rfl)) (r_areAirs0 l G (d + 30) sh (mput sg1 60 (xN σ)) la1 kp tr σ s1 n1 hM hs8 hla1 hz2 hz4) (by omega) (Nat.le_refl _) (Nat.le_refl _) rfl (Nat.le_of_ble_eq_true rfl) (fun r S1 hp => ?_)
    obtain ⟨rfl, rfl⟩ := hp
    show AW l G mX8_kinds (d + 32) (az_F G Post) 0 0 29 [some (.ref 60), some (.int (nI s1)), some (.int (nI n1)), some (.int (nI p1)), some (.int (q_noTwos σ (nI s1) (nI n1) (decide (0 ≤ (nI p1) ∧ (nI p1) < cPp (xN σ)))).1), none, none, none] [.int (b2i (zallb (q_airsB σ (nI s1)) n1 = true))] (sh, (mput sg1 60 (xN σ)), la1)
    refine A_if_ne (tgt := 39) dX8_kinds_29 rfl (fun h_2 => ?_) (fun h_2 => ?_)
    · skip
      have h_2' := b2i_n.mp h_2
      refine A_aload_n dX8_kinds_39 rfl rfl ?_
      refine B_getR (r := 77) dX8_kinds_40 flX8_50 (hM 0 _ rfl) rfl ?_
      refine A_iload_n dX8_kinds_43 rfl rfl ?_
      refine B_ialdV (i := p1) (cKd (xN σ) p1) dX8_kinds_44 (hM 17 _ rfl) (by decide) (rfl) (by omega) (me_17 _ _ _ _) ?_
      refine A_istore (lo2 := [some (.ref 60), some (.int (nI s1)), some (.int (nI n1)), some (.int (nI p1)), some (.int (q_noTwos σ (nI s1) (nI n1) (decide (0 ≤ (nI p1) ∧ (nI p1) < cPp (xN σ)))).1), some (.int (cKd (xN σ) p1)), none, none]) dX8_kinds_45 (by decide) rfl ?_
      refine A_iconst (v := 0) dX8_kinds_47 (by decide) ?_
      refine A_istore (lo2 := [some (.ref 60), some (.int (nI s1)), some (.int (nI n1)), some (.int (nI p1)), some (.int (q_noTwos σ (nI s1) (nI n1) (decide (0 ≤ (nI p1) ∧ (nI p1) < cPp (xN σ)))).1), some (.int (cKd (xN σ) p1)), some (.int 0), none]) dX8_kinds_48 (by decide) rfl ?_
      refine A_iconst (v := 0) dX8_kinds_50 (by decide) ?_
      refine A_istore (lo2 := [some (.ref 60), some (.int (nI s1)), some (.int (nI n1)), some (.int (nI p1)), some (.int (q_noTwos σ (nI s1) (nI n1) (decide (0 ≤ (nI p1) ∧ (nI p1) < cPp (xN σ)))).1), some (.int (cKd (xN σ) p1)), some (.int 0), some (.int 0)]) dX8_kinds_51 (by decide) rfl ?_
      refine B_sg (show _ = mput sg1 60 (sKd (xN σ) (va_up (cKd (xN σ)) p1 (cKd (xN σ) p1))) from congrArg (mput sg1 60) (sKd_up (xN σ) p1).symm) ?_
      have loop : ∀ (q_i9 i9 : Nat) (v9 : Int32) (x6 : Int32), i9 + q_i9 = 6 → x6 = zbits (q_aK σ (nI s1) n1 p1) i9 → AW l G mX8_kinds (d + 32) (az_F G Post) 0 0 53 [some (.ref 60), some (.int (nI s1)), some (.int (nI n1)), some (.int (nI p1)), some (.int (q_noTwos σ (nI s1) (nI n1) (decide (0 ≤ (nI p1) ∧ (nI p1) < cPp (xN σ)))).1), some (.int (cKd (xN σ) p1)), some (.int x6), some (.int (nI i9))] [] (sh, (mput sg1 60 (sKd (xN σ) (va_up (cKd (xN σ)) p1 v9))), la1) := by
        intro q_i9
        induction q_i9 with
        | zero =>
          intro i9 v9 x6 hi_i9  e_x6
          have hN_i9 : i9 = 6 := by omega
          subst i9
          refine A_iload dX8_kinds_53 rfl ?_
          refine A_iconst (v := 5) dX8_kinds_55 (by decide) ?_
          refine A_icmp_gt (tgt := 97) dX8_kinds_56 rfl (fun h_3 => ?_) (fun h_3 => ?_)
          · skip
            refine A_aload_n dX8_kinds_97 rfl rfl ?_
            refine B_getR (r := 77) dX8_kinds_98 flX8_50 (hM 0 _ rfl) rfl ?_
            refine A_iload_n dX8_kinds_101 rfl rfl ?_
            refine A_iload dX8_kinds_102 rfl ?_
            refine B_iast (i := p1) dX8_kinds_104 (hM 17 _ rfl) (by decide) (rfl) (by omega) ?_
            refine B_sg (show _ = (mput sg1 60 (sKd (xN σ) (va_up (va_up (cKd (xN σ)) p1 v9) p1 (cKd (xN σ) p1)))) from (mx_17 _ _ _ _ _).trans (congrArg (mput sg1 60) cu_Kd_Kd)) ?_
            refine B_sg (show _ = mput sg1 60 (xN σ) from congrArg (mput sg1 60) ((congrArg (sKd (xN σ)) (az_up_up _ _ _ _)).trans (sKd_up (xN σ) p1))) ?_
            refine A_iload dX8_kinds_105 rfl ?_
            have hq : (q_kinds σ (nI s1) (nI n1) (nI p1)) = (x6, σ) := by
              unfold q_kinds
              rw [if_pos hpp, if_pos htf, hc_n1, if_pos h_2', hc_p1, e_x6]
            exact A_iret dX8_kinds_107 rfl (hP _ _ (RQ_i hq (hR1.fin0 (sC.rf sg1))))
          · skip
            exact absurd (by decide) h_3
        | succ q_i9 ih =>
          intro i9 v9 x6 hi_i9  e_x6
          refine A_iload dX8_kinds_53 rfl ?_
          refine A_iconst (v := 5) dX8_kinds_55 (by decide) ?_
          refine A_icmp_gt (tgt := 97) dX8_kinds_56 rfl (fun h_4 => ?_) (fun h_4 => ?_)
          · skip
            exact absurd h_4 (nI_nlt (b := i9) (a := 5) (by omega) (by decide))
          · skip
            refine A_aload_n dX8_kinds_59 rfl rfl ?_
            refine B_getR (r := 77) dX8_kinds_60 flX8_50 (hM 0 _ rfl) rfl ?_
            refine A_iload_n dX8_kinds_63 rfl rfl ?_
            refine A_iload dX8_kinds_64 rfl ?_
            refine B_iast (i := p1) dX8_kinds_66 (hM 17 _ rfl) (by decide) (rfl) (by omega) ?_
            refine B_sg (show _ = (mput sg1 60 (sKd (xN σ) (va_up (va_up (cKd (xN σ)) p1 v9) p1 (nI i9)))) from (mx_17 _ _ _ _ _).trans (congrArg (mput sg1 60) cu_Kd_Kd)) ?_
            refine B_sg (show _ = mput sg1 60 (ckd (xN σ) p1 (nI i9)) from (congrArg (fun z => mput sg1 60 (sKd (xN σ) z)) (az_up_up _ _ _ _)).trans (mput_lov _ _ _ _).symm) ?_
            refine A_iload dX8_kinds_67 rfl ?_
            refine A_aload_n dX8_kinds_69 rfl rfl ?_
            refine A_iload_n dX8_kinds_70 rfl rfl ?_
            refine A_iload_n dX8_kinds_71 rfl rfl ?_
            refine A_iload_n dX8_kinds_72 rfl rfl ?_
            refine A_iconst (v := 0) dX8_kinds_73 (by decide) ?_
            have hpk : p1 < cN (ckd (xN σ) p1 (nI i9)) := by unfold ckd; rw [cn_Lov, cn_Kd]; exact hp1
            have hgk : ¬ nI p1 = cAway (ckd (xN σ) p1 (nI i9)) := by unfold ckd; rw [cs_AwayLov, cs_AwayKd, haw]; exact nI_n1 (by omega)
            have eK : zallb (fun k => decide ((zc (sAir (ckd (xN σ) p1 (nI i9)) (q_r1 σ (nI s1) k).toInt32) p1).toInt64 = q_r2 σ (nI s1) k)) n1 = q_aK σ (nI s1) n1 p1 i9 := by
              unfold q_aK
              congr 1
              funext k
              rw [zc_ckd hL hO hp1 (by rw [haw]; exact nI_n1 (by omega))]
            refine A_callV (n := 0) dX8_kinds_74 kvX8_isTold mlX8_314 rfl (az_rc_obj clX8 (hM 0 _ rfl)) (r_isTold0 l G (d + 28) sh sg1 la1 kp tr (ckd (xN σ) p1 (nI i9)) σ s1 n1 p1 hM (cOk_kd hO p1 (nI i9)) (cLv_kd (xN σ) p1 (nI i9)) hpk hgk hs8 hla1 hz2 hz4) (by omega) (Nat.le_refl _) (Nat.le_refl _) rfl (Nat.le_of_ble_eq_true rfl) (fun r S1 hp => ?_)
            obtain ⟨rfl, rfl⟩ := hp
            rw [eK]
            show AW l G mX8_kinds (d + 32) (az_F G Post) 0 0 77 [some (.ref 60), some (.int (nI s1)), some (.int (nI n1)), some (.int (nI p1)), some (.int (q_noTwos σ (nI s1) (nI n1) (decide (0 ≤ (nI p1) ∧ (nI p1) < cPp (xN σ)))).1), some (.int (cKd (xN σ) p1)), some (.int x6), some (.int (nI i9))] [.int (b2i (q_aK σ (nI s1) n1 p1 i9 = true)), .int x6] (sh, (mput sg1 60 (ckd (xN σ) p1 (nI i9))), la1)
            refine B_sg (show _ = mput sg1 60 (sKd (xN σ) (va_up (cKd (xN σ)) p1 (nI i9))) from mput_lov _ _ _ _) ?_
            refine A_if_eq (tgt := 87) dX8_kinds_77 rfl (fun h_5 => ?_) (fun h_5 => ?_)
            · skip
              have h_5' := b2i_0.mp h_5
              refine A_iconst (v := 0) dX8_kinds_87 (by decide) ?_
              refine A_ior dX8_kinds_88 ?_
              refine A_istore (lo2 := [some (.ref 60), some (.int (nI s1)), some (.int (nI n1)), some (.int (nI p1)), some (.int (q_noTwos σ (nI s1) (nI n1) (decide (0 ≤ (nI p1) ∧ (nI p1) < cPp (xN σ)))).1), some (.int (cKd (xN σ) p1)), some (.int (x6 ||| 0)), some (.int (nI i9))]) dX8_kinds_89 (by decide) rfl ?_
              refine A_iinc (v := nI (i9 + 1)) (lo2 := [some (.ref 60), some (.int (nI s1)), some (.int (nI n1)), some (.int (nI p1)), some (.int (q_noTwos σ (nI s1) (nI n1) (decide (0 ≤ (nI p1) ∧ (nI p1) < cPp (xN σ)))).1), some (.int (cKd (xN σ) p1)), some (.int (x6 ||| 0)), some (.int (nI (i9 + 1)))]) dX8_kinds_91 rfl (nI_1 i9) (by decide) rfl ?_
              refine A_goto (tgt := 53) dX8_kinds_94 rfl ?_
              refine ih (i9 + 1) _ _ (by omega) ?_
              · skip
                rw [e_x6, Int32.or_zero]; exact (if_neg (show ¬ q_aK σ (nI s1) n1 p1 i9 = true from h_5')).symm
            · skip
              have h_5' := b2i_n.mp h_5
              refine A_iconst (v := 1) dX8_kinds_80 (by decide) ?_
              refine A_iload dX8_kinds_81 rfl ?_
              refine A_ishl dX8_kinds_83 ?_
              refine A_goto (tgt := 88) dX8_kinds_84 rfl ?_
              refine A_ior dX8_kinds_88 ?_
              refine A_istore (lo2 := [some (.ref 60), some (.int (nI s1)), some (.int (nI n1)), some (.int (nI p1)), some (.int (q_noTwos σ (nI s1) (nI n1) (decide (0 ≤ (nI p1) ∧ (nI p1) < cPp (xN σ)))).1), some (.int (cKd (xN σ) p1)), some (.int (x6 ||| (1 <<< (nI i9 &&& 31)))), some (.int (nI i9))]) dX8_kinds_89 (by decide) rfl ?_
              refine A_iinc (v := nI (i9 + 1)) (lo2 := [some (.ref 60), some (.int (nI s1)), some (.int (nI n1)), some (.int (nI p1)), some (.int (q_noTwos σ (nI s1) (nI n1) (decide (0 ≤ (nI p1) ∧ (nI p1) < cPp (xN σ)))).1), some (.int (cKd (xN σ) p1)), some (.int (x6 ||| (1 <<< (nI i9 &&& 31)))), some (.int (nI (i9 + 1)))]) dX8_kinds_91 rfl (nI_1 i9) (by decide) rfl ?_
              refine A_goto (tgt := 53) dX8_kinds_94 rfl ?_
              refine ih (i9 + 1) _ _ (by omega) ?_
              · skip
                rw [e_x6]; exact (if_pos (show q_aK σ (nI s1) n1 p1 i9 = true from h_5')).symm
      exact loop (6) 0 _ _ (by omega) (rfl)
    · skip
      have h_2' := b2i_0.mp h_2
      refine A_aload_n dX8_kinds_32 rfl rfl ?_
      refine A_bipush (v := (-5)) dX8_kinds_33 (by decide) ?_
      refine A_callV (n := 0) dX8_kinds_35 kvX8_refuse mlX8_101 rfl (az_rc_obj clX8 (hM 0 _ rfl)) (c_X8_refuse l G (d + 31) sh (mput sg1 60 (xN σ)) la1 kp tr (-5) 3 hM (by decide) (by decide)) (by omega) (Nat.le_refl _) (Nat.le_refl _) rfl (Nat.le_of_ble_eq_true rfl) (fun r S1 hp => ?_)
      obtain ⟨rfl, rfl⟩ := hp
      show AW l G mX8_kinds (d + 32) (az_F G Post) 0 0 38 [some (.ref 60), some (.int (nI s1)), some (.int (nI n1)), some (.int (nI p1)), some (.int (q_noTwos σ (nI s1) (nI n1) (decide (0 ≤ (nI p1) ∧ (nI p1) < cPp (xN σ)))).1), none, none, none] [.int (-5)] (sh, (az_w (mput sg1 60 (xN σ)) 76 (3 + 2) ((mput sg1 60 (xN σ)) 76 (3 + 2) + 1)), la1)
      have hq : (q_kinds σ (nI s1) (nI n1) (nI p1)) = ((-5), (rfs σ 3)) := by
        unfold q_kinds
        rw [if_pos hpp, if_pos htf, hc_n1, if_neg h_2']
        first | done | rfl
      exact A_iret dX8_kinds_38 rfl (hP _ _ (RQ_i hq ((hR1.fin0 (sC.rf sg1)).ref (k := 3) (by decide))))
  · skip
    refine A_iload dX8_kinds_19 rfl ?_
    have hq : (q_kinds σ s n p) = ((q_noTwos σ s n (decide (0 ≤ p ∧ p < cPp (xN σ)))).1, (q_noTwos σ s n (decide (0 ≤ p ∧ p < cPp (xN σ)))).2) := by
      have hz : ¬ (q_noTwos σ s n (decide (0 ≤ p ∧ p < cPp (xN σ)))).1 = 0 := h_1
      unfold q_kinds
      by_cases hp : (0 ≤ p ∧ p < cPp (xN σ))
      · have e : q_noTwos σ s n (decide (0 ≤ p ∧ p < cPp (xN σ))) = (if q_tf σ s n = 0 then (0, σ) else qr σ (q_tf σ s n)) := by unfold q_noTwos; rw [if_pos (decide_eq_true hp)]
        by_cases z : q_tf σ s n = 0
        · rw [e, if_pos z] at hz; exact absurd rfl hz
        · rw [if_pos hp, if_neg z, e, if_neg z]
      · rw [if_neg hp]; unfold q_noTwos; rw [if_neg (fun q => hp (of_decide_eq_true q))]
    exact A_iret dX8_kinds_21 rfl (hP _ _ (RQ_i hq hR1))
