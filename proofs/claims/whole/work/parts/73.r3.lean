theorem cr_Pp_Kd {c : CT} {x0 : Nat → Int32} : cPp (sKd c x0) = cPp c := by rw [cs_PpKd]
theorem cr_Aa_Kd {c : CT} {x0 : Nat → Int32} : cAa (sKd c x0) = cAa c := by rw [cs_AaKd]
theorem cu_Aa_Kd {c : CT} {x0 : Nat → Int32} {i : Nat} {y : Int32} : sAa (sKd c x0) (va_up (cAa (sKd c x0)) i y) = (sAa (sKd c x0) (va_up (cAa c) i y)) := by rw [cr_Aa_Kd]
theorem cr_Pp_KdAa {c : CT} {x0 : Nat → Int32} {x1 : Nat → Int32} : cPp (sAa (sKd c x0) x1) = cPp c := by rw [cs_PpAa, cs_PpKd]
theorem cr_Pr_KdAa {c : CT} {x0 : Nat → Int32} {x1 : Nat → Int32} : cPr (sAa (sKd c x0) x1) = cPr c := by rw [cs_PrAa, cs_PrKd]
theorem cu_Pr_KdAa {c : CT} {x0 : Nat → Int32} {x1 : Nat → Int32} {i : Nat} {y : Int32} : sPr (sAa (sKd c x0) x1) (va_up (cPr (sAa (sKd c x0) x1)) i y) = (sPr (sAa (sKd c x0) x1) (va_up (cPr c) i y)) := by rw [cr_Pr_KdAa]
theorem cr_Pp_KdAaPr {c : CT} {x0 : Nat → Int32} {x1 : Nat → Int32} {x2 : Nat → Int32} : cPp (sPr (sAa (sKd c x0) x1) x2) = cPp c := by rw [cs_PpPr, cs_PpAa, cs_PpKd]
theorem cr_Br_KdAaPr {c : CT} {x0 : Nat → Int32} {x1 : Nat → Int32} {x2 : Nat → Int32} : cBr (sPr (sAa (sKd c x0) x1) x2) = cBr c := by rw [cs_BrPr, cs_BrAa, cs_BrKd]
theorem cu_Br_KdAaPr {c : CT} {x0 : Nat → Int32} {x1 : Nat → Int32} {x2 : Nat → Int32} {i : Nat} {y : Int32} : sBr (sPr (sAa (sKd c x0) x1) x2) (va_up (cBr (sPr (sAa (sKd c x0) x1) x2)) i y) = (sBr (sPr (sAa (sKd c x0) x1) x2) (va_up (cBr c) i y)) := by rw [cr_Br_KdAaPr]
theorem cr_Pp_KdAaPrBr {c : CT} {x0 : Nat → Int32} {x1 : Nat → Int32} {x2 : Nat → Int32} {x3 : Nat → Int32} : cPp (sBr (sPr (sAa (sKd c x0) x1) x2) x3) = cPp c := by rw [cs_PpBr, cs_PpPr, cs_PpAa, cs_PpKd]
theorem cr_Fe_KdAaPrBr {c : CT} {x0 : Nat → Int32} {x1 : Nat → Int32} {x2 : Nat → Int32} {x3 : Nat → Int32} : cFe (sBr (sPr (sAa (sKd c x0) x1) x2) x3) = cFe c := by rw [cs_FeBr, cs_FePr, cs_FeAa, cs_FeKd]
theorem cu_Fe_KdAaPrBr {c : CT} {x0 : Nat → Int32} {x1 : Nat → Int32} {x2 : Nat → Int32} {x3 : Nat → Int32} {i : Nat} {y : Int32} : sFe (sBr (sPr (sAa (sKd c x0) x1) x2) x3) (va_up (cFe (sBr (sPr (sAa (sKd c x0) x1) x2) x3)) i y) = (sFe (sBr (sPr (sAa (sKd c x0) x1) x2) x3) (va_up (cFe c) i y)) := by rw [cr_Fe_KdAaPrBr]
theorem cr_Pp_KdAaPrBrFe {c : CT} {x0 : Nat → Int32} {x1 : Nat → Int32} {x2 : Nat → Int32} {x3 : Nat → Int32} {x4 : Nat → Int32} : cPp (sFe (sBr (sPr (sAa (sKd c x0) x1) x2) x3) x4) = cPp c := by rw [cs_PpFe, cs_PpBr, cs_PpPr, cs_PpAa, cs_PpKd]
theorem cw_Pp_KdAaPrBrFe {c : CT} {x0 : Nat → Int32} {x1 : Nat → Int32} {x2 : Nat → Int32} {x3 : Nat → Int32} {x4 : Nat → Int32} {y : Int32} : sPp (sFe (sBr (sPr (sAa (sKd c x0) x1) x2) x3) x4) y = (sPp (sFe (sBr (sPr (sAa (sKd c x0) x1) x2) x3) x4) y) := rfl
theorem cr_Br_Pr {c : CT} {x0 : Nat → Int32} : cBr (sPr c x0) = cBr c := by rw [cs_BrPr]
theorem cu_Br_Pr {c : CT} {x0 : Nat → Int32} {i : Nat} {y : Int32} : sBr (sPr c x0) (va_up (cBr (sPr c x0)) i y) = (sBr (sPr c x0) (va_up (cBr c) i y)) := by rw [cr_Br_Pr]
theorem cr_Fe_PrBr {c : CT} {x0 : Nat → Int32} {x1 : Nat → Int32} : cFe (sBr (sPr c x0) x1) = cFe c := by rw [cs_FeBr, cs_FePr]
theorem cu_Fe_PrBr {c : CT} {x0 : Nat → Int32} {x1 : Nat → Int32} {i : Nat} {y : Int32} : sFe (sBr (sPr c x0) x1) (va_up (cFe (sBr (sPr c x0) x1)) i y) = (sFe (sBr (sPr c x0) x1) (va_up (cFe c) i y)) := by rw [cr_Fe_PrBr]
theorem cr_Fall_Air {c : CT} {x0 : Int32} : cFall (sAir c x0) = cFall c := by rw [cs_FallAir]
theorem cw_Fall_Air {c : CT} {x0 : Int32} {y : Int32} : sFall (sAir c x0) y = (sFall (sAir c x0) y) := rfl
theorem cr_Day_AirFall {c : CT} {x0 : Int32} {x1 : Int32} : cDay (sFall (sAir c x0) x1) = cDay c := by rw [cs_DayFall, cs_DayAir]
theorem cw_Day_AirFall {c : CT} {x0 : Int32} {x1 : Int32} {y : Int32} : sDay (sFall (sAir c x0) x1) y = (sDay (sFall (sAir c x0) x1) y) := rfl
theorem cr_Coal_AirFallDay {c : CT} {x0 : Int32} {x1 : Int32} {x2 : Int32} : cCoal (sDay (sFall (sAir c x0) x1) x2) = cCoal c := by rw [cs_CoalDay, cs_CoalFall, cs_CoalAir]
theorem cw_Coal_AirFallDay {c : CT} {x0 : Int32} {x1 : Int32} {x2 : Int32} {y : Int32} : sCoal (sDay (sFall (sAir c x0) x1) x2) y = (sCoal (sDay (sFall (sAir c x0) x1) x2) y) := rfl
theorem RX.finE {g : GGM} {sg : Nat → Nat → Int32} {la : Nat → Nat → Int64} {σ : SGM} {kp tr : Option Nat} (h : RX g sg la σ kp tr) {u : Nat → Nat → Int32} (hs : sC sg u) {c e : CT} (he : c = e) : RX g (mput u 60 c) la (yN σ e) kp tr := by subst he; exact h.fin hs c
theorem tl0 (c : CT) (v : Int32) : sCoal (sDay (sFall (sAir c v) (cFall c)) (cDay c)) (cCoal c) = zset c 0 v := by
  show _ = sAir c v
  simp only [sCoal, sDay, sFall, sAir, cPp, cAir, cFall, cDay, cWin, cCoal, cSeed, cLov, cAway, cKd, cAa, cPr, cBr, cFe]
theorem tl1 (c : CT) (v : Int32) : sCoal (sDay (sFall (sAir c (cAir c)) v) (cDay c)) (cCoal c) = zset c 1 v := by
  show _ = sFall c v
  simp only [sCoal, sDay, sFall, sAir, cPp, cAir, cFall, cDay, cWin, cCoal, cSeed, cLov, cAway, cKd, cAa, cPr, cBr, cFe]
theorem tl2 (c : CT) (v : Int32) : sCoal (sDay (sFall (sAir c (cAir c)) (cFall c)) v) (cCoal c) = zset c 2 v := by
  show _ = sDay c v
  simp only [sCoal, sDay, sFall, sAir, cPp, cAir, cFall, cDay, cWin, cCoal, cSeed, cLov, cAway, cKd, cAa, cPr, cBr, cFe]
theorem tl3 (c : CT) (v : Int32) : sCoal (sDay (sFall (sAir c (cAir c)) (cFall c)) (cDay c)) v = zset c 3 v := by
  show _ = sCoal c v
  simp only [sCoal, sDay, sFall, sAir, cPp, cAir, cFall, cDay, cWin, cCoal, cSeed, cLov, cAway, cKd, cAa, cPr, cBr, cFe]
theorem gv0 (c : CT) (p : Nat) (v : Int32) : sFe (sBr (sPr c (va_up (cPr c) p v)) (va_up (cBr c) p (cBr c p))) (va_up (cFe c) p (cFe c p)) = sPr c (va_up (cPr c) p v) := by
  rw [az_up_id, az_up_id]
  simp only [sFe, sBr, sPr, cPp, cAir, cFall, cDay, cWin, cCoal, cSeed, cLov, cAway, cKd, cAa, cPr, cBr, cFe]
theorem gv1 (c : CT) (p : Nat) (v : Int32) : sFe (sBr (sPr c (va_up (cPr c) p (cPr c p))) (va_up (cBr c) p v)) (va_up (cFe c) p (cFe c p)) = sBr c (va_up (cBr c) p v) := by
  rw [az_up_id, az_up_id]
  simp only [sFe, sBr, sPr, cPp, cAir, cFall, cDay, cWin, cCoal, cSeed, cLov, cAway, cKd, cAa, cPr, cBr, cFe]
theorem gv2 (c : CT) (p : Nat) (v : Int32) : sFe (sBr (sPr c (va_up (cPr c) p (cPr c p))) (va_up (cBr c) p (cBr c p))) (va_up (cFe c) p v) = sFe c (va_up (cFe c) p v) := by
  rw [az_up_id, az_up_id]
  simp only [sFe, sBr, sPr, cPp, cAir, cFall, cDay, cWin, cCoal, cSeed, cLov, cAway, cKd, cAa, cPr, cBr, cFe]
theorem zou_iff {k : Nat} {x : Int32} (hk : k ≤ 5) : zou k x = true ↔ (x = 0 ∨ nI k = x ∨ (x = 1 ∧ nI k = 3) ∨ (x = 2 ∧ nI k = 4)) := by
  by_cases h0 : x = 0
  · subst h0; rcases (by omega : k = 0 ∨ k = 1 ∨ k = 2 ∨ k = 3 ∨ k = 4 ∨ k = 5) with rfl | rfl | rfl | rfl | rfl | rfl <;> decide
  by_cases h1 : x = 1
  · subst h1; rcases (by omega : k = 0 ∨ k = 1 ∨ k = 2 ∨ k = 3 ∨ k = 4 ∨ k = 5) with rfl | rfl | rfl | rfl | rfl | rfl <;> decide
  by_cases h2 : x = 2
  · subst h2; rcases (by omega : k = 0 ∨ k = 1 ∨ k = 2 ∨ k = 3 ∨ k = 4 ∨ k = 5) with rfl | rfl | rfl | rfl | rfl | rfl <;> decide
  by_cases h3 : x = 3
  · subst h3; rcases (by omega : k = 0 ∨ k = 1 ∨ k = 2 ∨ k = 3 ∨ k = 4 ∨ k = 5) with rfl | rfl | rfl | rfl | rfl | rfl <;> decide
  by_cases h4 : x = 4
  · subst h4; rcases (by omega : k = 0 ∨ k = 1 ∨ k = 2 ∨ k = 3 ∨ k = 4 ∨ k = 5) with rfl | rfl | rfl | rfl | rfl | rfl <;> decide
  by_cases h5 : x = 5
  · subst h5; rcases (by omega : k = 0 ∨ k = 1 ∨ k = 2 ∨ k = 3 ∨ k = 4 ∨ k = 5) with rfl | rfl | rfl | rfl | rfl | rfl <;> decide
  have hr : ¬ (x = 0 ∨ nI k = x ∨ (x = 1 ∧ nI k = 3) ∨ (x = 2 ∧ nI k = 4)) := by
    rintro (q | q | q | q)
    · exact h0 q
    · rcases (by omega : k = 0 ∨ k = 1 ∨ k = 2 ∨ k = 3 ∨ k = 4 ∨ k = 5) with rfl | rfl | rfl | rfl | rfl | rfl
      · exact h0 q.symm
      · exact h1 q.symm
      · exact h2 q.symm
      · exact h3 q.symm
      · exact h4 q.symm
      · exact h5 q.symm
    · exact h1 q.1
    · exact h2 q.1
  refine ⟨fun q => absurd q ?_, fun q => absurd q hr⟩
  rcases (by omega : k = 0 ∨ k = 1 ∨ k = 2 ∨ k = 3 ∨ k = 4 ∨ k = 5) with rfl | rfl | rfl | rfl | rfl | rfl <;> simp [zou, zous, h0, h1, h2, h3, h4, h5]
set_option maxHeartbeats 600000 in
set_option maxRecDepth 100000 in
theorem c_X8_isUnder (l : Launch) (G : az_Gh) (d : Nat) (sh : List az_Sh) (sg : Nat → Nat → Int32) (la : Nat → Nat → Int64) (k : Nat) (x : Int32) (hk : k ≤ 5) : FM l G (d) mX8_isUnder [.int (nI k), .int x] (sh, sg, la) (some (.int (b2i (zou k x = true)))) (sh, sg, la) := by
  refine az_fm knX8_isUnder (Nat.le_of_ble_eq_true rfl) rfl (fun Post hP => ?_)
  show AW l G mX8_isUnder (d) (az_F G Post) 0 0 0 [some (.int (nI k)), some (.int x)] [] (sh, sg, la)
  refine A_iload_n dX8_isUnder_0 rfl rfl ?_
  refine A_if_eq (tgt := 29) dX8_isUnder_1 rfl (fun h_1 => ?_) (fun h_1 => ?_)
  · skip
    refine A_iconst (v := 1) dX8_isUnder_29 (by decide) ?_
    refine A_goto (tgt := 34) dX8_isUnder_30 rfl ?_
    refine A_zret dX8_isUnder_34 rfl (rfl) (az_pi hP ?_ (rfl))
    exact b2i_t ((zou_iff hk).mpr (Or.inl h_1))
  · skip
    refine A_iload_n dX8_isUnder_4 rfl rfl ?_
    refine A_iload_n dX8_isUnder_5 rfl rfl ?_
    refine A_icmp_eq (tgt := 29) dX8_isUnder_6 rfl (fun h_2 => ?_) (fun h_2 => ?_)
    · skip
      refine A_iconst (v := 1) dX8_isUnder_29 (by decide) ?_
      refine A_goto (tgt := 34) dX8_isUnder_30 rfl ?_
      refine A_zret dX8_isUnder_34 rfl (rfl) (az_pi hP ?_ (rfl))
      exact b2i_t ((zou_iff hk).mpr (Or.inr (Or.inl h_2)))
    · skip
      refine A_iload_n dX8_isUnder_9 rfl rfl ?_
      refine A_iconst (v := 1) dX8_isUnder_10 (by decide) ?_
      refine A_icmp_ne (tgt := 19) dX8_isUnder_11 rfl (fun h_3 => ?_) (fun h_3 => ?_)
      · skip
        refine A_iload_n dX8_isUnder_19 rfl rfl ?_
        refine A_iconst (v := 2) dX8_isUnder_20 (by decide) ?_
        refine A_icmp_ne (tgt := 33) dX8_isUnder_21 rfl (fun h_4 => ?_) (fun h_4 => ?_)
        · skip
          refine A_iconst (v := 0) dX8_isUnder_33 (by decide) ?_
          refine A_zret dX8_isUnder_34 rfl (rfl) (az_pi hP ?_ (rfl))
          exact b2i_f (fun q => by rcases (zou_iff hk).mp q with z | z | z | z <;> simp_all)
        · skip
          refine A_iload_n dX8_isUnder_24 rfl rfl ?_
          refine A_iconst (v := 4) dX8_isUnder_25 (by decide) ?_
          refine A_icmp_ne (tgt := 33) dX8_isUnder_26 rfl (fun h_5 => ?_) (fun h_5 => ?_)
          · skip
            refine A_iconst (v := 0) dX8_isUnder_33 (by decide) ?_
            refine A_zret dX8_isUnder_34 rfl (rfl) (az_pi hP ?_ (rfl))
            exact b2i_f (fun q => by rcases (zou_iff hk).mp q with z | z | z | z <;> simp_all)
          · skip
            refine A_iconst (v := 1) dX8_isUnder_29 (by decide) ?_
            refine A_goto (tgt := 34) dX8_isUnder_30 rfl ?_
            refine A_zret dX8_isUnder_34 rfl (rfl) (az_pi hP ?_ (rfl))
            exact b2i_t ((zou_iff hk).mpr (Or.inr (Or.inr (Or.inr ⟨h_4, h_5⟩))))
      · skip
        refine A_iload_n dX8_isUnder_14 rfl rfl ?_
        refine A_iconst (v := 3) dX8_isUnder_15 (by decide) ?_
        refine A_icmp_eq (tgt := 29) dX8_isUnder_16 rfl (fun h_6 => ?_) (fun h_6 => ?_)
        · skip
          refine A_iconst (v := 1) dX8_isUnder_29 (by decide) ?_
          refine A_goto (tgt := 34) dX8_isUnder_30 rfl ?_
          refine A_zret dX8_isUnder_34 rfl (rfl) (az_pi hP ?_ (rfl))
          exact b2i_t ((zou_iff hk).mpr (Or.inr (Or.inr (Or.inl ⟨h_3, h_6⟩))))
        · skip
          refine A_iload_n dX8_isUnder_19 rfl rfl ?_
          refine A_iconst (v := 2) dX8_isUnder_20 (by decide) ?_
          refine A_icmp_ne (tgt := 33) dX8_isUnder_21 rfl (fun h_7 => ?_) (fun h_7 => ?_)
          · skip
            refine A_iconst (v := 0) dX8_isUnder_33 (by decide) ?_
            refine A_zret dX8_isUnder_34 rfl (rfl) (az_pi hP ?_ (rfl))
            exact b2i_f (fun q => by rcases (zou_iff hk).mp q with z | z | z | z <;> simp_all)
          · skip
            refine A_iload_n dX8_isUnder_24 rfl rfl ?_
            refine A_iconst (v := 4) dX8_isUnder_25 (by decide) ?_
            refine A_icmp_ne (tgt := 33) dX8_isUnder_26 rfl (fun h_8 => ?_) (fun h_8 => ?_)
            · skip
              refine A_iconst (v := 0) dX8_isUnder_33 (by decide) ?_
              refine A_zret dX8_isUnder_34 rfl (rfl) (az_pi hP ?_ (rfl))
              exact b2i_f (fun q => by rcases (zou_iff hk).mp q with z | z | z | z <;> simp_all)
            · skip
              refine A_iconst (v := 1) dX8_isUnder_29 (by decide) ?_
              refine A_goto (tgt := 34) dX8_isUnder_30 rfl ?_
              refine A_zret dX8_isUnder_34 rfl (rfl) (az_pi hP ?_ (rfl))
              exact b2i_t ((zou_iff hk).mpr (Or.inr (Or.inr (Or.inr ⟨h_7, h_8⟩))))
set_option maxHeartbeats 1000000 in
set_option maxRecDepth 100000 in
theorem y_says (l : Launch) (G : az_Gh) (d : Nat) (sh : List az_Sh) (sg : Nat → Nat → Int32) (la : Nat → Nat → Int64) (g : GGM) (σ : SGM) (kp tr : Option Nat) (s k : Int32) (hM : az_at sh 60 (lyM 60 kp tr)) (hR : RX g sg la σ kp tr) (hW : WF σ)  : AM l G (d + 32) mX8_says [.ref 60, .int s, .int k] (sh, sg, la) 0 0 (RQ sh g kp tr (.int (q_says σ s k).1) (q_says σ s k).2) := by
  refine az_am knX8_says (Nat.le_of_ble_eq_true rfl) rfl (fun Post hP => ?_)
  show AW l G mX8_says (d + 32) (az_F G Post) 0 0 0 [some (.ref 60), some (.int s), some (.int k)] [] (sh, sg, la)
  have hO := hW.1.1.1
  have hL := cW_lv hW.1
  have haw := hW.1.2.2.1
  have h8 := hO.2
  refine B_sg hR.z.symm ?_
  refine A_iload_n dX8_says_0 rfl rfl ?_
  refine A_i2l dX8_says_1 ?_
  refine A_lconst (v := 0) dX8_says_2 (by decide) ?_
  refine A_ldc2 (v := 7) dX8_says_3 lcX8_95 ?_
  refine A_callS (n := 0) dX8_says_6 ksX8_in mlX8_91 rfl (c_X8_inI l G (d + 31) sh (mput sg 60 (xN σ)) la s 7 7 (by decide)) (by omega) (Nat.le_refl _) (Nat.le_refl _) rfl (Nat.le_of_ble_eq_true rfl) (fun r S1 hp => ?_)
  obtain ⟨rfl, rfl⟩ := hp
  show AW l G mX8_says (d + 32) (az_F G Post) 0 0 9 [some (.ref 60), some (.int s), some (.int k)] [.int (b2i (0 ≤ s ∧ s ≤ 7))] (sh, (mput sg 60 (xN σ)), la)
  refine A_if_eq (tgt := 24) dX8_says_9 rfl (fun h_1 => ?_) (fun h_1 => ?_)
  · skip
    have h_1' := b2i_0.mp h_1
    refine A_aload_n dX8_says_24 rfl rfl ?_
    refine A_bipush (v := (-2)) dX8_says_25 (by decide) ?_
    refine A_callV (n := 0) dX8_says_27 kvX8_refuse mlX8_101 rfl (az_rc_obj clX8 (hM 0 _ rfl)) (c_X8_refuse l G (d + 31) sh (mput sg 60 (xN σ)) la kp tr (-2) 0 hM (by decide) (by decide)) (by omega) (Nat.le_refl _) (Nat.le_refl _) rfl (Nat.le_of_ble_eq_true rfl) (fun r S1 hp => ?_)
    obtain ⟨rfl, rfl⟩ := hp
    show AW l G mX8_says (d + 32) (az_F G Post) 0 0 30 [some (.ref 60), some (.int s), some (.int k)] [.int (-2)] (sh, (az_w (mput sg 60 (xN σ)) 76 (0 + 2) ((mput sg 60 (xN σ)) 76 (0 + 2) + 1)), la)
    have hq : (q_says σ s k) = ((-2), (rfs σ 0)) := by
      unfold q_says
      try simp only [h_1', and_true, true_and, and_false, false_and, and_self, or_true, true_or, or_false, false_or, not_true_eq_false, not_false_eq_true, if_true, if_false, ite_true, ite_false, decide_true, decide_false, reduceIte]
      first | done | rfl
    exact A_iret dX8_says_30 rfl (hP _ _ (RQ_i hq ((hR.fin0 (sC.rf sg)).ref (k := 0) (by decide))))
  · skip
    have h_1' := b2i_n.mp h_1
    refine A_iload_n dX8_says_12 rfl rfl ?_
    refine A_i2l dX8_says_13 ?_
    refine A_lconst (v := 0) dX8_says_14 (by decide) ?_
    refine A_ldc2 (v := 5) dX8_says_15 lcX8_116 ?_
    refine A_callS (n := 0) dX8_says_18 ksX8_in mlX8_91 rfl (c_X8_inI l G (d + 31) sh (mput sg 60 (xN σ)) la k 5 5 (by decide)) (by omega) (Nat.le_refl _) (Nat.le_refl _) rfl (Nat.le_of_ble_eq_true rfl) (fun r S1 hp => ?_)
    obtain ⟨rfl, rfl⟩ := hp
    show AW l G mX8_says (d + 32) (az_F G Post) 0 0 21 [some (.ref 60), some (.int s), some (.int k)] [.int (b2i (0 ≤ k ∧ k ≤ 5))] (sh, (mput sg 60 (xN σ)), la)
    refine A_if_ne (tgt := 31) dX8_says_21 rfl (fun h_2 => ?_) (fun h_2 => ?_)
    · skip
      have h_2' := b2i_n.mp h_2
      obtain ⟨s1, hs1, rfl⟩ := nI_ex (m := 7) h_1'
      have hc_s1 : (nI s1).toNatClampNeg = s1 := nI_clamp (by omega)
      have hs8 : s1 < 8 := by omega
      refine A_aload_n dX8_says_31 rfl rfl ?_
      refine B_getR (r := 61) dX8_says_32 flX8_7 (hM 0 _ rfl) rfl ?_
      refine A_iload_n dX8_says_35 rfl rfl ?_
      refine B_ialdV (i := s1) (rTag (xS σ s1)) dX8_says_36 (hM 1 _ rfl) (by decide) (rfl) (by omega) ((congrFun (mput_ne (by decide) (by decide)) _).trans (hR.tag (by omega))) ?_
      refine A_iconst (v := 1) dX8_says_37 (by decide) ?_
      refine A_icmp_eq (tgt := 69) dX8_says_38 rfl (fun h_3 => ?_) (fun h_3 => ?_)
      · skip
        refine A_aload_n dX8_says_69 rfl rfl ?_
        refine A_bipush (v := (-3)) dX8_says_70 (by decide) ?_
        refine A_callV (n := 0) dX8_says_72 kvX8_refuse mlX8_101 rfl (az_rc_obj clX8 (hM 0 _ rfl)) (c_X8_refuse l G (d + 31) sh (mput sg 60 (xN σ)) la kp tr (-3) 1 hM (by decide) (by decide)) (by omega) (Nat.le_refl _) (Nat.le_refl _) rfl (Nat.le_of_ble_eq_true rfl) (fun r S1 hp => ?_)
        obtain ⟨rfl, rfl⟩ := hp
        show AW l G mX8_says (d + 32) (az_F G Post) 0 0 75 [some (.ref 60), some (.int (nI s1)), some (.int k)] [.int (-3)] (sh, (az_w (mput sg 60 (xN σ)) 76 (1 + 2) ((mput sg 60 (xN σ)) 76 (1 + 2) + 1)), la)
        have hq : (q_says σ (nI s1) k) = ((-3), (rfs σ 1)) := by
          unfold q_says xf
          rw [if_pos ⟨h_1', h_2'⟩, hc_s1, if_neg (rTag_1.mp h_3).1]
          first | done | rfl
        exact A_iret dX8_says_75 rfl (hP _ _ (RQ_i hq ((hR.fin0 (sC.rf sg)).ref (k := 1) (by decide))))
      · skip
        refine A_aload_n dX8_says_41 rfl rfl ?_
        refine B_getR (r := 61) dX8_says_42 flX8_7 (hM 0 _ rfl) rfl ?_
        refine A_iload_n dX8_says_45 rfl rfl ?_
        refine B_ialdV (i := s1) (rTag (xS σ s1)) dX8_says_46 (hM 1 _ rfl) (by decide) (rfl) (by omega) ((congrFun (mput_ne (by decide) (by decide)) _).trans (hR.tag (by omega))) ?_
        refine A_iconst (v := 2) dX8_says_47 (by decide) ?_
        refine A_icmp_ne (tgt := 76) dX8_says_48 rfl (fun h_4 => ?_) (fun h_4 => ?_)
        · skip
          refine A_aload_n dX8_says_76 rfl rfl ?_
          refine B_getR (r := 61) dX8_says_77 flX8_7 (hM 0 _ rfl) rfl ?_
          refine A_iload_n dX8_says_80 rfl rfl ?_
          refine B_ialdV (i := s1) (rTag (xS σ s1)) dX8_says_81 (hM 1 _ rfl) (by decide) (rfl) (by omega) ((congrFun (mput_ne (by decide) (by decide)) _).trans (hR.tag (by omega))) ?_
          refine A_if_ne (tgt := 92) dX8_says_82 rfl (fun h_5 => ?_) (fun h_5 => ?_)
          · skip
            exact absurd (rTag_1.mpr (rTag_r h_4 h_5)) h_3
          · skip
            refine A_aload_n dX8_says_85 rfl rfl ?_
            refine A_bipush (v := (-4)) dX8_says_86 (by decide) ?_
            refine A_callV (n := 0) dX8_says_88 kvX8_refuse mlX8_101 rfl (az_rc_obj clX8 (hM 0 _ rfl)) (c_X8_refuse l G (d + 31) sh (mput sg 60 (xN σ)) la kp tr (-4) 2 hM (by decide) (by decide)) (by omega) (Nat.le_refl _) (Nat.le_refl _) rfl (Nat.le_of_ble_eq_true rfl) (fun r S1 hp => ?_)
            obtain ⟨rfl, rfl⟩ := hp
            show AW l G mX8_says (d + 32) (az_F G Post) 0 0 91 [some (.ref 60), some (.int (nI s1)), some (.int k)] [.int (-4)] (sh, (az_w (mput sg 60 (xN σ)) 76 (2 + 2) ((mput sg 60 (xN σ)) 76 (2 + 2) + 1)), la)
            have hq : (q_says σ (nI s1) k) = ((-4), (rfs σ 2)) := by
              unfold q_says xf
              rw [if_pos ⟨h_1', h_2'⟩, hc_s1, if_pos (rTag_0.mp h_5).1, if_pos (rTag_0.mp h_5).2]
              first | done | rfl
            exact A_iret dX8_says_91 rfl (hP _ _ (RQ_i hq ((hR.fin0 (sC.rf sg)).ref (k := 2) (by decide))))
        · skip
          have hsn := rTag_2.mp h_4
          obtain ⟨p1, hp1, ep1⟩ := ((hW.2.2.2 s1 hs8).2.2.2.2).resolve_left hsn
          have hso : fSo (xS σ s1) = -1 := Decidable.byContradiction (fun q => hsn ((hW.2.2.2 s1 hs8).2.2.1 q))
          have hc_p1 : (fSh (xS σ s1)).toNatClampNeg = p1 := by rw [ep1]; exact nI_clamp (by omega)
          refine A_aload_n dX8_says_51 rfl rfl ?_
          refine B_getR (r := 77) dX8_says_52 flX8_50 (hM 0 _ rfl) rfl ?_
          refine A_aload_n dX8_says_55 rfl rfl ?_
          refine B_getR (r := 74) dX8_says_56 flX8_28 (hM 0 _ rfl) rfl ?_
          refine A_iload_n dX8_says_59 rfl rfl ?_
          refine B_ialdV (i := s1) (fSh (xS σ s1)) dX8_says_60 (hM 14 _ rfl) (by decide) (rfl) (by omega) ((congrFun (mput_ne (by decide) (by decide)) _).trans ((hR.sh (s := s1) (by omega)).2.2.1 hsn)) ?_
          refine B_top ep1 ?_
          refine B_ialdV (i := p1) (cKd (xN σ) p1) dX8_says_61 (hM 17 _ rfl) (by decide) (rfl) (by omega) (me_17 _ _ _ _) ?_
          obtain ⟨k1, hk1, ek⟩ := iR_nI (m := 5) (hW.1.1.2.2.2 p1 hp1).2.2.2.2
          have hc_k1 : (cKd (xN σ) p1).toNatClampNeg = k1 := by rw [ek]; exact nI_clamp (by omega)
          refine B_top ek ?_
          refine A_iload_n dX8_says_62 rfl rfl ?_
          refine A_callS (n := 0) dX8_says_63 ksX8_isUnder mlX8_118 rfl (c_X8_isUnder l G (d + 31) sh (mput sg 60 (xN σ)) la k1 k hk1) (by omega) (Nat.le_refl _) (Nat.le_refl _) rfl (Nat.le_of_ble_eq_true rfl) (fun r S1 hp => ?_)
          obtain ⟨rfl, rfl⟩ := hp
          show AW l G mX8_says (d + 32) (az_F G Post) 0 0 66 [some (.ref 60), some (.int (nI s1)), some (.int k)] [.int (b2i (zou k1 k = true))] (sh, (mput sg 60 (xN σ)), la)
          refine A_if_ne (tgt := 76) dX8_says_66 rfl (fun h_6 => ?_) (fun h_6 => ?_)
          · skip
            have h_6' := b2i_n.mp h_6
            refine A_aload_n dX8_says_76 rfl rfl ?_
            refine B_getR (r := 61) dX8_says_77 flX8_7 (hM 0 _ rfl) rfl ?_
            refine A_iload_n dX8_says_80 rfl rfl ?_
            refine B_ialdV (i := s1) (rTag (xS σ s1)) dX8_says_81 (hM 1 _ rfl) (by decide) (rfl) (by omega) ((congrFun (mput_ne (by decide) (by decide)) _).trans (hR.tag (by omega))) ?_
            refine A_if_ne (tgt := 92) dX8_says_82 rfl (fun h_7 => ?_) (fun h_7 => ?_)
            · skip
              refine A_iload_n dX8_says_92 rfl rfl ?_
              refine A_if_ne (tgt := 110) dX8_says_93 rfl (fun h_8 => ?_) (fun h_8 => ?_)
              · skip
                refine A_aload_n dX8_says_110 rfl rfl ?_
                refine A_aload_n dX8_says_111 rfl rfl ?_
                refine B_getR (r := 74) dX8_says_112 flX8_28 (hM 0 _ rfl) rfl ?_
                refine A_iload_n dX8_says_115 rfl rfl ?_
                refine B_ialdV (i := s1) (fSh (xS σ s1)) dX8_says_116 (hM 14 _ rfl) (by decide) (rfl) (by omega) ((congrFun (mput_ne (by decide) (by decide)) _).trans ((hR.sh (s := s1) (by omega)).2.2.1 hsn)) ?_
                refine B_top ep1 ?_
                refine A_callV (n := 0) dX8_says_117 kvX8_cold mlX8_122 rfl (az_rc_obj clX8 (hM 0 _ rfl)) (r_cold l G (d + 30) sh sg la kp tr (xN σ) p1 hM hO hL hp1 (by rw [haw]; exact nI_n1 (by omega))) (by omega) (Nat.le_refl _) (Nat.le_refl _) rfl (Nat.le_of_ble_eq_true rfl) (fun r S1 hp => ?_)
                obtain ⟨rfl, rfl⟩ := hp
                show AW l G mX8_says (d + 32) (az_F G Post) 0 0 120 [some (.ref 60), some (.int (nI s1)), some (.int k)] [.int (zc (xN σ) p1)] (sh, (mput sg 60 (xN σ)), la)
                have hq : (q_says σ (nI s1) k) = (zc (xN σ) p1, σ) := by
                  unfold q_says xf
                  rw [if_pos ⟨h_1', h_2'⟩, hc_s1, if_pos hso, if_neg hsn, hc_p1, hc_k1, if_pos h_6', if_neg h_8]
                  first | done | rfl
                exact A_iret dX8_says_120 rfl (hP _ _ (RQ_i hq (hR.fin0 (sC.rf sg))))
              · skip
                refine A_aload_n dX8_says_96 rfl rfl ?_
                refine B_getR (r := 79) dX8_says_97 flX8_56 (hM 0 _ rfl) rfl ?_
                refine A_aload_n dX8_says_100 rfl rfl ?_
                refine B_getR (r := 74) dX8_says_101 flX8_28 (hM 0 _ rfl) rfl ?_
                refine A_iload_n dX8_says_104 rfl rfl ?_
                refine B_ialdV (i := s1) (fSh (xS σ s1)) dX8_says_105 (hM 14 _ rfl) (by decide) (rfl) (by omega) ((congrFun (mput_ne (by decide) (by decide)) _).trans ((hR.sh (s := s1) (by omega)).2.2.1 hsn)) ?_
                refine B_top ep1 ?_
                refine B_ialdV (i := p1) (cPr (xN σ) p1) dX8_says_106 (hM 19 _ rfl) (by decide) (rfl) (by omega) (me_19 _ _ _ _) ?_
                refine A_goto (tgt := 120) dX8_says_107 rfl ?_
                have hq : (q_says σ (nI s1) k) = (cPr (xN σ) p1, σ) := by
                  unfold q_says xf
                  rw [if_pos ⟨h_1', h_2'⟩, hc_s1, if_pos hso, if_neg hsn, hc_p1, hc_k1, if_pos h_6', if_pos h_8]
                  first | done | rfl
                exact A_iret dX8_says_120 rfl (hP _ _ (RQ_i hq (hR.fin0 (sC.rf sg))))
            · skip
              exact absurd (rTag_0.mp h_7).2 hsn
          · skip
            have h_6' := b2i_0.mp h_6
            refine A_aload_n dX8_says_69 rfl rfl ?_
            refine A_bipush (v := (-3)) dX8_says_70 (by decide) ?_
            refine A_callV (n := 0) dX8_says_72 kvX8_refuse mlX8_101 rfl (az_rc_obj clX8 (hM 0 _ rfl)) (c_X8_refuse l G (d + 31) sh (mput sg 60 (xN σ)) la kp tr (-3) 1 hM (by decide) (by decide)) (by omega) (Nat.le_refl _) (Nat.le_refl _) rfl (Nat.le_of_ble_eq_true rfl) (fun r S1 hp => ?_)
            obtain ⟨rfl, rfl⟩ := hp
            show AW l G mX8_says (d + 32) (az_F G Post) 0 0 75 [some (.ref 60), some (.int (nI s1)), some (.int k)] [.int (-3)] (sh, (az_w (mput sg 60 (xN σ)) 76 (1 + 2) ((mput sg 60 (xN σ)) 76 (1 + 2) + 1)), la)
            have hq : (q_says σ (nI s1) k) = ((-3), (rfs σ 1)) := by
              unfold q_says xf
              rw [if_pos ⟨h_1', h_2'⟩, hc_s1, if_pos hso, if_neg hsn, hc_p1, hc_k1, if_neg h_6']
              first | done | rfl
            exact A_iret dX8_says_75 rfl (hP _ _ (RQ_i hq ((hR.fin0 (sC.rf sg)).ref (k := 1) (by decide))))
    · skip
      have h_2' := b2i_0.mp h_2
      refine A_aload_n dX8_says_24 rfl rfl ?_
      refine A_bipush (v := (-2)) dX8_says_25 (by decide) ?_
      refine A_callV (n := 0) dX8_says_27 kvX8_refuse mlX8_101 rfl (az_rc_obj clX8 (hM 0 _ rfl)) (c_X8_refuse l G (d + 31) sh (mput sg 60 (xN σ)) la kp tr (-2) 0 hM (by decide) (by decide)) (by omega) (Nat.le_refl _) (Nat.le_refl _) rfl (Nat.le_of_ble_eq_true rfl) (fun r S1 hp => ?_)
      obtain ⟨rfl, rfl⟩ := hp
      show AW l G mX8_says (d + 32) (az_F G Post) 0 0 30 [some (.ref 60), some (.int s), some (.int k)] [.int (-2)] (sh, (az_w (mput sg 60 (xN σ)) 76 (0 + 2) ((mput sg 60 (xN σ)) 76 (0 + 2) + 1)), la)
      have hq : (q_says σ s k) = ((-2), (rfs σ 0)) := by
        unfold q_says
        try simp only [h_1', h_2', and_true, true_and, and_false, false_and, and_self, or_true, true_or, or_false, false_or, not_true_eq_false, not_false_eq_true, if_true, if_false, ite_true, ite_false, decide_true, decide_false, reduceIte]
        first | done | rfl
      exact A_iret dX8_says_30 rfl (hP _ _ (RQ_i hq ((hR.fin0 (sC.rf sg)).ref (k := 0) (by decide))))
theorem mset_g (c : CT) (f1 f2 f3 f4 f5 : Nat → Int32) (x : Int32) : sPp (sFe (sBr (sPr (sAa (sKd c f1) f2) f3) f4) f5) x = sFe (sBr (sPr (sAa (sKd (sPp c x) f1) f2) f3) f4) f5 := by
  simp only [sPp, sFe, sBr, sPr, sAa, sKd, cPp, cAir, cFall, cDay, cWin, cCoal, cSeed, cLov, cAway, cKd, cAa, cPr, cBr, cFe]
theorem mset_s (u : Nat → Nat → Int32) (c : CT) (k a p : Int32) (hO : cOk c) : mput u 60 (sPp (sFe (sBr (sPr (sAa (sKd c (va_up (cKd c) (cN c) k)) (va_up (cAa c) (cN c) a)) (va_up (cPr c) (cN c) p)) (va_up (cBr c) (cN c) 0)) (va_up (cFe c) (cN c) 0)) (nI (cN c) + 1)) = mput u 60 (zsettle c k a p) := by
  unfold zsettle
  rw [mput_lov, mset_g, hO.1]
set_option maxHeartbeats 1000000 in
set_option maxRecDepth 100000 in
theorem r_addPerson (l : Launch) (G : az_Gh) (d : Nat) (sh : List az_Sh) (u : Nat → Nat → Int32) (la : Nat → Nat → Int64) (kp tr : Option Nat) (c : CT) (k a p : Int32) (hM : az_at sh 60 (lyM 60 kp tr)) (hO : cOk c) (h7 : cN c < 8) : FM l G (d) mX8_addPerson [.ref 60, .int k, .int a, .int p] (sh, (mput u 60 c), la) (none) (sh, mput u 60 (zsettle c k a p), la) := by
  refine az_fm knX8_addPerson (Nat.le_of_ble_eq_true rfl) rfl (fun Post hP => ?_)
  show AW l G mX8_addPerson (d) (az_F G Post) 0 0 0 [some (.ref 60), some (.int k), some (.int a), some (.int p)] [] (sh, (mput u 60 c), la)
  have h8 := hO.2
  refine A_aload_n dX8_addPerson_0 rfl rfl ?_
  refine B_getR (r := 77) dX8_addPerson_1 flX8_50 (hM 0 _ rfl) rfl ?_
  refine A_aload_n dX8_addPerson_4 rfl rfl ?_
  refine B_getV (nI (cN c)) dX8_addPerson_5 flX8_88 (hM 0 _ rfl) rfl ((mr_14 _ _ _).trans hO.1) ?_
  refine A_iload_n dX8_addPerson_8 rfl rfl ?_
  refine B_iast (i := (cN c)) dX8_addPerson_9 (hM 17 _ rfl) (by decide) (rfl) (by omega) ?_
  refine B_sg (show _ = (mput u 60 (sKd c (va_up (cKd c) (cN c) k))) from mx_17 _ _ _ _ _) ?_
  refine A_aload_n dX8_addPerson_10 rfl rfl ?_
  refine B_getR (r := 78) dX8_addPerson_11 flX8_53 (hM 0 _ rfl) rfl ?_
  refine A_aload_n dX8_addPerson_14 rfl rfl ?_
  refine B_getV (nI (cN c)) dX8_addPerson_15 flX8_88 (hM 0 _ rfl) rfl (((mr_14 _ _ _).trans cr_Pp_Kd).trans hO.1) ?_
  refine A_iload_n dX8_addPerson_18 rfl rfl ?_
  refine B_iast (i := (cN c)) dX8_addPerson_19 (hM 18 _ rfl) (by decide) (rfl) (by omega) ?_
  refine B_sg (show _ = (mput u 60 (sAa (sKd c (va_up (cKd c) (cN c) k)) (va_up (cAa c) (cN c) a))) from (mx_18 _ _ _ _ _).trans (congrArg (mput u 60) cu_Aa_Kd)) ?_
  refine A_aload_n dX8_addPerson_20 rfl rfl ?_
  refine B_getR (r := 79) dX8_addPerson_21 flX8_56 (hM 0 _ rfl) rfl ?_
  refine A_aload_n dX8_addPerson_24 rfl rfl ?_
  refine B_getV (nI (cN c)) dX8_addPerson_25 flX8_88 (hM 0 _ rfl) rfl (((mr_14 _ _ _).trans cr_Pp_KdAa).trans hO.1) ?_
  refine A_iload_n dX8_addPerson_28 rfl rfl ?_
  refine B_iast (i := (cN c)) dX8_addPerson_29 (hM 19 _ rfl) (by decide) (rfl) (by omega) ?_
  refine B_sg (show _ = (mput u 60 (sPr (sAa (sKd c (va_up (cKd c) (cN c) k)) (va_up (cAa c) (cN c) a)) (va_up (cPr c) (cN c) p))) from (mx_19 _ _ _ _ _).trans (congrArg (mput u 60) cu_Pr_KdAa)) ?_
  refine A_aload_n dX8_addPerson_30 rfl rfl ?_
  refine B_getR (r := 80) dX8_addPerson_31 flX8_59 (hM 0 _ rfl) rfl ?_
  refine A_aload_n dX8_addPerson_34 rfl rfl ?_
  refine B_getV (nI (cN c)) dX8_addPerson_35 flX8_88 (hM 0 _ rfl) rfl (((mr_14 _ _ _).trans cr_Pp_KdAaPr).trans hO.1) ?_
  refine A_iconst (v := 0) dX8_addPerson_38 (by decide) ?_
  refine B_iast (i := (cN c)) dX8_addPerson_39 (hM 20 _ rfl) (by decide) (rfl) (by omega) ?_
  refine B_sg (show _ = (mput u 60 (sBr (sPr (sAa (sKd c (va_up (cKd c) (cN c) k)) (va_up (cAa c) (cN c) a)) (va_up (cPr c) (cN c) p)) (va_up (cBr c) (cN c) 0))) from (mx_20 _ _ _ _ _).trans (congrArg (mput u 60) cu_Br_KdAaPr)) ?_
  refine A_aload_n dX8_addPerson_40 rfl rfl ?_
  refine B_getR (r := 81) dX8_addPerson_41 flX8_62 (hM 0 _ rfl) rfl ?_
  refine A_aload_n dX8_addPerson_44 rfl rfl ?_
  refine B_getV (nI (cN c)) dX8_addPerson_45 flX8_88 (hM 0 _ rfl) rfl (((mr_14 _ _ _).trans cr_Pp_KdAaPrBr).trans hO.1) ?_
  refine A_iconst (v := 0) dX8_addPerson_48 (by decide) ?_
  refine B_iast (i := (cN c)) dX8_addPerson_49 (hM 21 _ rfl) (by decide) (rfl) (by omega) ?_
  refine B_sg (show _ = (mput u 60 (sFe (sBr (sPr (sAa (sKd c (va_up (cKd c) (cN c) k)) (va_up (cAa c) (cN c) a)) (va_up (cPr c) (cN c) p)) (va_up (cBr c) (cN c) 0)) (va_up (cFe c) (cN c) 0))) from (mx_21 _ _ _ _ _).trans (congrArg (mput u 60) cu_Fe_KdAaPrBr)) ?_
  refine A_aload_n dX8_addPerson_50 rfl rfl ?_
  refine A_dup dX8_addPerson_51 rfl ?_
  refine B_getV (nI (cN c)) dX8_addPerson_52 flX8_88 (hM 0 _ rfl) rfl (((mr_14 _ _ _).trans cr_Pp_KdAaPrBrFe).trans hO.1) ?_
  refine A_iconst (v := 1) dX8_addPerson_55 (by decide) ?_
  refine A_iadd dX8_addPerson_56 ?_
  refine B_putI dX8_addPerson_57 fwX8_88 (hM 0 _ rfl) rfl ?_
  refine B_sg (show _ = (mput u 60 (sPp (sFe (sBr (sPr (sAa (sKd c (va_up (cKd c) (cN c) k)) (va_up (cAa c) (cN c) a)) (va_up (cPr c) (cN c) p)) (va_up (cBr c) (cN c) 0)) (va_up (cFe c) (cN c) 0)) (nI (cN c) + 1))) from (mw_14 _ _ _ _).trans (congrArg (mput u 60) cw_Pp_KdAaPrBrFe)) ?_
  exact A_vret dX8_addPerson_60 rfl (az_pv hP (congrArg (fun z => (sh, z, la)) (mset_s u c k a p hO)))
set_option maxHeartbeats 1000000 in
set_option maxRecDepth 100000 in
theorem y_person (l : Launch) (G : az_Gh) (d : Nat) (sh : List az_Sh) (sg : Nat → Nat → Int32) (la : Nat → Nat → Int64) (g : GGM) (σ : SGM) (kp tr : Option Nat) (k a p : Int32) (hM : az_at sh 60 (lyM 60 kp tr)) (hR : RX g sg la σ kp tr) (hW : WF σ)  : AM l G (d + 32) mX8_person [.ref 60, .int k, .int a, .int p] (sh, sg, la) 0 0 (RQ sh g kp tr (.int (q_person σ k a p).1) (q_person σ k a p).2) := by
  refine az_am knX8_person (Nat.le_of_ble_eq_true rfl) rfl (fun Post hP => ?_)
  show AW l G mX8_person (d + 32) (az_F G Post) 0 0 0 [some (.ref 60), some (.int k), some (.int a), some (.int p)] [] (sh, sg, la)
  have hO := hW.1.1.1
  have hL := cW_lv hW.1
  have haw := hW.1.2.2.1
  have h8 := hO.2
  refine B_sg hR.z.symm ?_
  refine A_iload_n dX8_person_0 rfl rfl ?_
  refine A_i2l dX8_person_1 ?_
  refine A_lconst (v := 0) dX8_person_2 (by decide) ?_
  refine A_ldc2 (v := 5) dX8_person_3 lcX8_116 ?_
  refine A_callS (n := 0) dX8_person_6 ksX8_in mlX8_91 rfl (c_X8_inI l G (d + 31) sh (mput sg 60 (xN σ)) la k 5 5 (by decide)) (by omega) (Nat.le_refl _) (Nat.le_refl _) rfl (Nat.le_of_ble_eq_true rfl) (fun r S1 hp => ?_)
  obtain ⟨rfl, rfl⟩ := hp
  show AW l G mX8_person (d + 32) (az_F G Post) 0 0 9 [some (.ref 60), some (.int k), some (.int a), some (.int p)] [.int (b2i (0 ≤ k ∧ k ≤ 5))] (sh, (mput sg 60 (xN σ)), la)
  refine A_if_eq (tgt := 36) dX8_person_9 rfl (fun h_1 => ?_) (fun h_1 => ?_)
  · skip
    have h_1' := b2i_0.mp h_1
    refine A_aload_n dX8_person_36 rfl rfl ?_
    refine A_bipush (v := (-2)) dX8_person_37 (by decide) ?_
    refine A_callV (n := 0) dX8_person_39 kvX8_refuse mlX8_101 rfl (az_rc_obj clX8 (hM 0 _ rfl)) (c_X8_refuse l G (d + 31) sh (mput sg 60 (xN σ)) la kp tr (-2) 0 hM (by decide) (by decide)) (by omega) (Nat.le_refl _) (Nat.le_refl _) rfl (Nat.le_of_ble_eq_true rfl) (fun r S1 hp => ?_)
    obtain ⟨rfl, rfl⟩ := hp
    show AW l G mX8_person (d + 32) (az_F G Post) 0 0 42 [some (.ref 60), some (.int k), some (.int a), some (.int p)] [.int (-2)] (sh, (az_w (mput sg 60 (xN σ)) 76 (0 + 2) ((mput sg 60 (xN σ)) 76 (0 + 2) + 1)), la)
    have hq : (q_person σ k a p) = ((-2), (rfs σ 0)) := by
      unfold q_person
      try simp only [h_1', and_true, true_and, and_false, false_and, and_self, or_true, true_or, or_false, false_or, not_true_eq_false, not_false_eq_true, if_true, if_false, ite_true, ite_false, decide_true, decide_false, reduceIte]
      first | done | rfl
    exact A_iret dX8_person_42 rfl (hP _ _ (RQ_i hq ((hR.fin0 (sC.rf sg)).ref (k := 0) (by decide))))
  · skip
    have h_1' := b2i_n.mp h_1
    refine A_iload_n dX8_person_12 rfl rfl ?_
    refine A_i2l dX8_person_13 ?_
    refine A_lconst (v := 0) dX8_person_14 (by decide) ?_
    refine A_ldc2 (v := 9) dX8_person_15 lcX8_125 ?_
    refine A_callS (n := 0) dX8_person_18 ksX8_in mlX8_91 rfl (c_X8_inI l G (d + 31) sh (mput sg 60 (xN σ)) la a 9 9 (by decide)) (by omega) (Nat.le_refl _) (Nat.le_refl _) rfl (Nat.le_of_ble_eq_true rfl) (fun r S1 hp => ?_)
    obtain ⟨rfl, rfl⟩ := hp
    show AW l G mX8_person (d + 32) (az_F G Post) 0 0 21 [some (.ref 60), some (.int k), some (.int a), some (.int p)] [.int (b2i (0 ≤ a ∧ a ≤ 9))] (sh, (mput sg 60 (xN σ)), la)
    refine A_if_eq (tgt := 36) dX8_person_21 rfl (fun h_2 => ?_) (fun h_2 => ?_)
    · skip
      have h_2' := b2i_0.mp h_2
      refine A_aload_n dX8_person_36 rfl rfl ?_
      refine A_bipush (v := (-2)) dX8_person_37 (by decide) ?_
      refine A_callV (n := 0) dX8_person_39 kvX8_refuse mlX8_101 rfl (az_rc_obj clX8 (hM 0 _ rfl)) (c_X8_refuse l G (d + 31) sh (mput sg 60 (xN σ)) la kp tr (-2) 0 hM (by decide) (by decide)) (by omega) (Nat.le_refl _) (Nat.le_refl _) rfl (Nat.le_of_ble_eq_true rfl) (fun r S1 hp => ?_)
      obtain ⟨rfl, rfl⟩ := hp
      show AW l G mX8_person (d + 32) (az_F G Post) 0 0 42 [some (.ref 60), some (.int k), some (.int a), some (.int p)] [.int (-2)] (sh, (az_w (mput sg 60 (xN σ)) 76 (0 + 2) ((mput sg 60 (xN σ)) 76 (0 + 2) + 1)), la)
      have hq : (q_person σ k a p) = ((-2), (rfs σ 0)) := by
        unfold q_person
        try simp only [h_1', h_2', and_true, true_and, and_false, false_and, and_self, or_true, true_or, or_false, false_or, not_true_eq_false, not_false_eq_true, if_true, if_false, ite_true, ite_false, decide_true, decide_false, reduceIte]
        first | done | rfl
      exact A_iret dX8_person_42 rfl (hP _ _ (RQ_i hq ((hR.fin0 (sC.rf sg)).ref (k := 0) (by decide))))
    · skip
      have h_2' := b2i_n.mp h_2
      refine A_iload_n dX8_person_24 rfl rfl ?_
      refine A_i2l dX8_person_25 ?_
      refine A_lconst (v := 0) dX8_person_26 (by decide) ?_
      refine A_ldc2 (v := 20) dX8_person_27 lcX8_127 ?_
      refine A_callS (n := 0) dX8_person_30 ksX8_in mlX8_91 rfl (c_X8_inI l G (d + 31) sh (mput sg 60 (xN σ)) la p 20 20 (by decide)) (by omega) (Nat.le_refl _) (Nat.le_refl _) rfl (Nat.le_of_ble_eq_true rfl) (fun r S1 hp => ?_)
      obtain ⟨rfl, rfl⟩ := hp
      show AW l G mX8_person (d + 32) (az_F G Post) 0 0 33 [some (.ref 60), some (.int k), some (.int a), some (.int p)] [.int (b2i (0 ≤ p ∧ p ≤ 20))] (sh, (mput sg 60 (xN σ)), la)
      refine A_if_ne (tgt := 43) dX8_person_33 rfl (fun h_3 => ?_) (fun h_3 => ?_)
      · skip
        have h_3' := b2i_n.mp h_3
        refine A_aload_n dX8_person_43 rfl rfl ?_
        refine B_getV (cPp (xN σ)) dX8_person_44 flX8_88 (hM 0 _ rfl) rfl (mr_14 _ _ _) ?_
        refine A_bipush (v := 8) dX8_person_47 (by decide) ?_
        refine A_icmp_ne (tgt := 59) dX8_person_49 rfl (fun h_4 => ?_) (fun h_4 => ?_)
        · skip
          have h7 : cN (xN σ) < 8 := by
            rcases Nat.lt_or_ge (cN (xN σ)) 8 with q | q
            · exact q
            · exact absurd (by rw [hO.1, show cN (xN σ) = 8 by omega]; rfl) h_4
          refine A_aload_n dX8_person_59 rfl rfl ?_
          refine A_iload_n dX8_person_60 rfl rfl ?_
          refine A_iload_n dX8_person_61 rfl rfl ?_
          refine A_iload_n dX8_person_62 rfl rfl ?_
          refine A_callV (n := 0) dX8_person_63 kvX8_addPerson mlX8_129 rfl (az_rc_obj clX8 (hM 0 _ rfl)) (r_addPerson l G (d + 31) sh sg la kp tr (xN σ) k a p hM hO h7) (by omega) (Nat.le_refl _) (Nat.le_refl _) rfl (Nat.le_of_ble_eq_true rfl) (fun r S1 hp => ?_)
          obtain ⟨rfl, rfl⟩ := hp
          show AW l G mX8_person (d + 32) (az_F G Post) 0 0 66 [some (.ref 60), some (.int k), some (.int a), some (.int p)] [] (sh, (mput sg 60 (zsettle (xN σ) k a p)), la)
          refine A_aload_n dX8_person_66 rfl rfl ?_
          refine B_getV (cPp (zsettle (xN σ) k a p)) dX8_person_67 flX8_88 (hM 0 _ rfl) rfl (mr_14 _ _ _) ?_
          refine A_iconst (v := 1) dX8_person_70 (by decide) ?_
          refine A_isub dX8_person_71 ?_
          have hq : (q_person σ k a p) = ((cPp (zsettle (xN σ) k a p) - 1), (yN σ (zsettle (xN σ) k a p))) := by
            unfold q_person
            rw [if_pos ⟨h_1', h_2', h_3'⟩, if_neg (fun q => by rw [hO.1] at q; exact absurd q (nI_ge (b := 8) h7 (by decide))), zs_Pp, hO.1, nI_1, nI_pred]
          exact A_iret dX8_person_72 rfl (hP _ _ (RQ_i hq (hR.fin (sC.rf sg) (zsettle (xN σ) k a p))))
        · skip
          refine A_aload_n dX8_person_52 rfl rfl ?_
          refine A_bipush (v := (-6)) dX8_person_53 (by decide) ?_
          refine A_callV (n := 0) dX8_person_55 kvX8_refuse mlX8_101 rfl (az_rc_obj clX8 (hM 0 _ rfl)) (c_X8_refuse l G (d + 31) sh (mput sg 60 (xN σ)) la kp tr (-6) 4 hM (by decide) (by decide)) (by omega) (Nat.le_refl _) (Nat.le_refl _) rfl (Nat.le_of_ble_eq_true rfl) (fun r S1 hp => ?_)
          obtain ⟨rfl, rfl⟩ := hp
          show AW l G mX8_person (d + 32) (az_F G Post) 0 0 58 [some (.ref 60), some (.int k), some (.int a), some (.int p)] [.int (-6)] (sh, (az_w (mput sg 60 (xN σ)) 76 (4 + 2) ((mput sg 60 (xN σ)) 76 (4 + 2) + 1)), la)
          have hq : (q_person σ k a p) = ((-6), (rfs σ 4)) := by
            unfold q_person
            rw [if_pos ⟨h_1', h_2', h_3'⟩, if_pos (by rw [h_4]; decide)]
            first | done | rfl
          exact A_iret dX8_person_58 rfl (hP _ _ (RQ_i hq ((hR.fin0 (sC.rf sg)).ref (k := 4) (by decide))))
      · skip
        have h_3' := b2i_0.mp h_3
        refine A_aload_n dX8_person_36 rfl rfl ?_
        refine A_bipush (v := (-2)) dX8_person_37 (by decide) ?_
        refine A_callV (n := 0) dX8_person_39 kvX8_refuse mlX8_101 rfl (az_rc_obj clX8 (hM 0 _ rfl)) (c_X8_refuse l G (d + 31) sh (mput sg 60 (xN σ)) la kp tr (-2) 0 hM (by decide) (by decide)) (by omega) (Nat.le_refl _) (Nat.le_refl _) rfl (Nat.le_of_ble_eq_true rfl) (fun r S1 hp => ?_)
        obtain ⟨rfl, rfl⟩ := hp
        show AW l G mX8_person (d + 32) (az_F G Post) 0 0 42 [some (.ref 60), some (.int k), some (.int a), some (.int p)] [.int (-2)] (sh, (az_w (mput sg 60 (xN σ)) 76 (0 + 2) ((mput sg 60 (xN σ)) 76 (0 + 2) + 1)), la)
        have hq : (q_person σ k a p) = ((-2), (rfs σ 0)) := by
          unfold q_person
          try simp only [h_1', h_2', h_3', and_true, true_and, and_false, false_and, and_self, or_true, true_or, or_false, false_or, not_true_eq_false, not_false_eq_true, if_true, if_false, ite_true, ite_false, decide_true, decide_false, reduceIte]
          first | done | rfl
        exact A_iret dX8_person_42 rfl (hP _ _ (RQ_i hq ((hR.fin0 (sC.rf sg)).ref (k := 0) (by decide))))
set_option maxHeartbeats 1000000 in
set_option maxRecDepth 100000 in
theorem y_give (l : Launch) (G : az_Gh) (d : Nat) (sh : List az_Sh) (sg : Nat → Nat → Int32) (la : Nat → Nat → Int64) (g : GGM) (σ : SGM) (kp tr : Option Nat) (p w v : Int32) (hM : az_at sh 60 (lyM 60 kp tr)) (hR : RX g sg la σ kp tr) (hW : WF σ)  : AM l G (d + 32) mX8_give [.ref 60, .int p, .int w, .int v] (sh, sg, la) 0 0 (RQ sh g kp tr (.int (q_give σ p w v).1) (q_give σ p w v).2) := by
  refine az_am knX8_give (Nat.le_of_ble_eq_true rfl) rfl (fun Post hP => ?_)
  show AW l G mX8_give (d + 32) (az_F G Post) 0 0 0 [some (.ref 60), some (.int p), some (.int w), some (.int v), none] [] (sh, sg, la)
  have hO := hW.1.1.1
  have hL := cW_lv hW.1
  have haw := hW.1.2.2.1
  have h8 := hO.2
  refine B_sg hR.z.symm ?_
  refine A_aload_n dX8_give_0 rfl rfl ?_
  refine A_iload_n dX8_give_1 rfl rfl ?_
  refine A_i2l dX8_give_2 ?_
  refine A_callV (n := 0) dX8_give_3 kvX8_isPerson mlX8_112 rfl (az_rc_obj clX8 (hM 0 _ rfl)) (r_isPerson l G (d + 30) sh sg la kp tr (xN σ) p hM hO) (by omega) (Nat.le_refl _) (Nat.le_refl _) rfl (Nat.le_of_ble_eq_true rfl) (fun r S1 hp => ?_)
  obtain ⟨rfl, rfl⟩ := hp
  show AW l G mX8_give (d + 32) (az_F G Post) 0 0 6 [some (.ref 60), some (.int p), some (.int w), some (.int v), none] [.int (b2i (0 ≤ p ∧ p < cPp (xN σ)))] (sh, (mput sg 60 (xN σ)), la)
  refine A_if_eq (tgt := 54) dX8_give_6 rfl (fun h_1 => ?_) (fun h_1 => ?_)
  · skip
    have h_1' := b2i_0.mp h_1
    refine A_aload_n dX8_give_54 rfl rfl ?_
    refine A_bipush (v := (-2)) dX8_give_55 (by decide) ?_
    refine A_callV (n := 0) dX8_give_57 kvX8_refuse mlX8_101 rfl (az_rc_obj clX8 (hM 0 _ rfl)) (c_X8_refuse l G (d + 31) sh (mput sg 60 (xN σ)) la kp tr (-2) 0 hM (by decide) (by decide)) (by omega) (Nat.le_refl _) (Nat.le_refl _) rfl (Nat.le_of_ble_eq_true rfl) (fun r S1 hp => ?_)
    obtain ⟨rfl, rfl⟩ := hp
    show AW l G mX8_give (d + 32) (az_F G Post) 0 0 60 [some (.ref 60), some (.int p), some (.int w), some (.int v), none] [.int (-2)] (sh, (az_w (mput sg 60 (xN σ)) 76 (0 + 2) ((mput sg 60 (xN σ)) 76 (0 + 2) + 1)), la)
    have hq : (q_give σ p w v) = ((-2), (rfs σ 0)) := by
      unfold q_give
      try simp only [h_1', and_true, true_and, and_false, false_and, and_self, or_true, true_or, or_false, false_or, not_true_eq_false, not_false_eq_true, if_true, if_false, ite_true, ite_false, decide_true, decide_false, reduceIte]
      first | done | rfl
    exact A_iret dX8_give_60 rfl (hP _ _ (RQ_i hq ((hR.fin0 (sC.rf sg)).ref (k := 0) (by decide))))
  · skip
    have h_1' := b2i_n.mp h_1
    obtain ⟨p1, hp1, rfl⟩ := nI_exp hO h_1'
    have hc_p1 : (nI p1).toNatClampNeg = p1 := nI_clamp (by omega)
    refine A_iload_n dX8_give_9 rfl rfl ?_
    refine A_i2l dX8_give_10 ?_
    refine A_lconst (v := 0) dX8_give_11 (by decide) ?_
    refine A_ldc2 (v := 2) dX8_give_12 lcX8_133 ?_
    refine A_callS (n := 0) dX8_give_15 ksX8_in mlX8_91 rfl (c_X8_inI l G (d + 31) sh (mput sg 60 (xN σ)) la w 2 2 (by decide)) (by omega) (Nat.le_refl _) (Nat.le_refl _) rfl (Nat.le_of_ble_eq_true rfl) (fun r S1 hp => ?_)
    obtain ⟨rfl, rfl⟩ := hp
    show AW l G mX8_give (d + 32) (az_F G Post) 0 0 18 [some (.ref 60), some (.int (nI p1)), some (.int w), some (.int v), none] [.int (b2i (0 ≤ w ∧ w ≤ 2))] (sh, (mput sg 60 (xN σ)), la)
    refine A_if_eq (tgt := 54) dX8_give_18 rfl (fun h_2 => ?_) (fun h_2 => ?_)
    · skip
      have h_2' := b2i_0.mp h_2
      refine A_aload_n dX8_give_54 rfl rfl ?_
      refine A_bipush (v := (-2)) dX8_give_55 (by decide) ?_
      refine A_callV (n := 0) dX8_give_57 kvX8_refuse mlX8_101 rfl (az_rc_obj clX8 (hM 0 _ rfl)) (c_X8_refuse l G (d + 31) sh (mput sg 60 (xN σ)) la kp tr (-2) 0 hM (by decide) (by decide)) (by omega) (Nat.le_refl _) (Nat.le_refl _) rfl (Nat.le_of_ble_eq_true rfl) (fun r S1 hp => ?_)
      obtain ⟨rfl, rfl⟩ := hp
      show AW l G mX8_give (d + 32) (az_F G Post) 0 0 60 [some (.ref 60), some (.int (nI p1)), some (.int w), some (.int v), none] [.int (-2)] (sh, (az_w (mput sg 60 (xN σ)) 76 (0 + 2) ((mput sg 60 (xN σ)) 76 (0 + 2) + 1)), la)
      have hq : (q_give σ (nI p1) w v) = ((-2), (rfs σ 0)) := by
        unfold q_give
        try simp only [h_1', h_2', hc_p1, and_true, true_and, and_false, false_and, and_self, or_true, true_or, or_false, false_or, not_true_eq_false, not_false_eq_true, if_true, if_false, ite_true, ite_false, decide_true, decide_false, reduceIte]
        first | done | rfl
      exact A_iret dX8_give_60 rfl (hP _ _ (RQ_i hq ((hR.fin0 (sC.rf sg)).ref (k := 0) (by decide))))
    · skip
      have h_2' := b2i_n.mp h_2
      obtain ⟨w1, hw1, rfl⟩ := nI_ex (m := 2) h_2'
      have hc_w1 : (nI w1).toNatClampNeg = w1 := nI_clamp (by omega)
      rcases (by omega : w1 = 0 ∨ w1 = 1 ∨ w1 = 2) with rfl | rfl | rfl
      · skip
        show AW l G mX8_give (d + 32) (az_F G Post) 0 0 21 [some (.ref 60), some (.int (nI p1)), some (.int 0), some (.int v), none] [] (sh, (mput sg 60 (xN σ)), la)
        refine A_iload_n dX8_give_21 rfl rfl ?_
        refine A_i2l dX8_give_22 ?_
        refine A_lconst (v := 0) dX8_give_23 (by decide) ?_
        refine A_iload_n dX8_give_24 rfl rfl ?_
        refine A_if_ne (tgt := 34) dX8_give_25 rfl (fun h_3 => ?_) (fun h_3 => ?_)
        · skip
          exact absurd rfl h_3
        · skip
          refine A_ldc2 (v := 20) dX8_give_28 lcX8_127 ?_
          refine A_goto (tgt := 48) dX8_give_31 rfl ?_
          refine A_callS (n := 0) dX8_give_48 ksX8_in mlX8_91 rfl (c_X8_inI l G (d + 31) sh (mput sg 60 (xN σ)) la v 20 20 (by decide)) (by omega) (Nat.le_refl _) (Nat.le_refl _) rfl (Nat.le_of_ble_eq_true rfl) (fun r S1 hp => ?_)
          obtain ⟨rfl, rfl⟩ := hp
          show AW l G mX8_give (d + 32) (az_F G Post) 0 0 51 [some (.ref 60), some (.int (nI p1)), some (.int 0), some (.int v), none] [.int (b2i (0 ≤ v ∧ v ≤ 20))] (sh, (mput sg 60 (xN σ)), la)
          refine A_if_ne (tgt := 61) dX8_give_51 rfl (fun h_4 => ?_) (fun h_4 => ?_)
          · skip
            have h_4' := b2i_n.mp h_4
            refine A_iload_n dX8_give_61 rfl rfl ?_
            refine A_if_ne (tgt := 74) dX8_give_62 rfl (fun h_5 => ?_) (fun h_5 => ?_)
            · skip
              exact absurd rfl h_5
            · skip
              refine A_aload_n dX8_give_65 rfl rfl ?_
              refine B_getR (r := 79) dX8_give_66 flX8_56 (hM 0 _ rfl) rfl ?_
              refine A_iload_n dX8_give_69 rfl rfl ?_
              refine B_ialdV (i := p1) (cPr (xN σ) p1) dX8_give_70 (hM 19 _ rfl) (by decide) (rfl) (by omega) (me_19 _ _ _ _) ?_
              refine A_goto (tgt := 94) dX8_give_71 rfl ?_
              refine A_istore (lo2 := [some (.ref 60), some (.int (nI p1)), some (.int 0), some (.int v), some (.int (cPr (xN σ) p1))]) dX8_give_94 (by decide) rfl ?_
              refine A_aload_n dX8_give_96 rfl rfl ?_
              refine B_getR (r := 79) dX8_give_97 flX8_56 (hM 0 _ rfl) rfl ?_
              refine A_iload_n dX8_give_100 rfl rfl ?_
              refine A_iload_n dX8_give_101 rfl rfl ?_
              refine A_if_ne (tgt := 109) dX8_give_102 rfl (fun h_6 => ?_) (fun h_6 => ?_)
              · skip
                exact absurd rfl h_6
              · skip
                refine A_iload_n dX8_give_105 rfl rfl ?_
                refine A_goto (tgt := 115) dX8_give_106 rfl ?_
                refine B_iast (i := p1) dX8_give_115 (hM 19 _ rfl) (by decide) (rfl) (by omega) ?_
                refine B_sg (show _ = (mput sg 60 (sPr (xN σ) (va_up (cPr (xN σ)) p1 v))) from mx_19 _ _ _ _ _) ?_
                refine A_aload_n dX8_give_116 rfl rfl ?_
                refine B_getR (r := 80) dX8_give_117 flX8_59 (hM 0 _ rfl) rfl ?_
                refine A_iload_n dX8_give_120 rfl rfl ?_
                refine A_iload_n dX8_give_121 rfl rfl ?_
                refine A_iconst (v := 1) dX8_give_122 (by decide) ?_
                refine A_icmp_ne (tgt := 130) dX8_give_123 rfl (fun h_7 => ?_) (fun h_7 => ?_)
                · skip
                  refine A_aload_n dX8_give_130 rfl rfl ?_
                  refine B_getR (r := 80) dX8_give_131 flX8_59 (hM 0 _ rfl) rfl ?_
                  refine A_iload_n dX8_give_134 rfl rfl ?_
                  refine B_ialdV (i := p1) (cBr (xN σ) p1) dX8_give_135 (hM 20 _ rfl) (by decide) (rfl) (by omega) ((me_20 _ _ _ _).trans (congrFun cr_Br_Pr _)) ?_
                  refine B_iast (i := p1) dX8_give_136 (hM 20 _ rfl) (by decide) (rfl) (by omega) ?_
                  refine B_sg (show _ = (mput sg 60 (sBr (sPr (xN σ) (va_up (cPr (xN σ)) p1 v)) (va_up (cBr (xN σ)) p1 (cBr (xN σ) p1)))) from (mx_20 _ _ _ _ _).trans (congrArg (mput sg 60) cu_Br_Pr)) ?_
                  refine A_aload_n dX8_give_137 rfl rfl ?_
                  refine B_getR (r := 81) dX8_give_138 flX8_62 (hM 0 _ rfl) rfl ?_
                  refine A_iload_n dX8_give_141 rfl rfl ?_
                  refine A_iload_n dX8_give_142 rfl rfl ?_
                  refine A_iconst (v := 2) dX8_give_143 (by decide) ?_
                  refine A_icmp_ne (tgt := 151) dX8_give_144 rfl (fun h_8 => ?_) (fun h_8 => ?_)
                  · skip
                    refine A_aload_n dX8_give_151 rfl rfl ?_
                    refine B_getR (r := 81) dX8_give_152 flX8_62 (hM 0 _ rfl) rfl ?_
                    refine A_iload_n dX8_give_155 rfl rfl ?_
                    refine B_ialdV (i := p1) (cFe (xN σ) p1) dX8_give_156 (hM 21 _ rfl) (by decide) (rfl) (by omega) ((me_21 _ _ _ _).trans (congrFun cr_Fe_PrBr _)) ?_
                    refine B_iast (i := p1) dX8_give_157 (hM 21 _ rfl) (by decide) (rfl) (by omega) ?_
                    refine B_sg (show _ = (mput sg 60 (sFe (sBr (sPr (xN σ) (va_up (cPr (xN σ)) p1 v)) (va_up (cBr (xN σ)) p1 (cBr (xN σ) p1))) (va_up (cFe (xN σ)) p1 (cFe (xN σ) p1)))) from (mx_21 _ _ _ _ _).trans (congrArg (mput sg 60) cu_Fe_PrBr)) ?_
                    refine A_iload dX8_give_158 rfl ?_
                    have hgv := gv0 (xN σ) p1 v
                    have hq : (q_give σ (nI p1) (0) v) = (cPr (xN σ) p1, (yN σ (sPr (xN σ) (va_up (cPr (xN σ)) p1 v)))) := by
                      unfold q_give
                      rw [if_pos ⟨h_1', h_2', by rw [show zmg 0 = 20 by decide]; exact h_4'⟩, if_pos rfl, hc_p1]
                    exact A_iret dX8_give_160 rfl (hP _ _ (RQ_i hq (hR.finE (sC.rf sg) hgv)))
                  · skip
                    exact absurd h_8 (by decide)
                · skip
                  exact absurd h_7 (by decide)
          · skip
            have h_4' := b2i_0.mp h_4
            refine A_aload_n dX8_give_54 rfl rfl ?_
            refine A_bipush (v := (-2)) dX8_give_55 (by decide) ?_
            refine A_callV (n := 0) dX8_give_57 kvX8_refuse mlX8_101 rfl (az_rc_obj clX8 (hM 0 _ rfl)) (c_X8_refuse l G (d + 31) sh (mput sg 60 (xN σ)) la kp tr (-2) 0 hM (by decide) (by decide)) (by omega) (Nat.le_refl _) (Nat.le_refl _) rfl (Nat.le_of_ble_eq_true rfl) (fun r S1 hp => ?_)
            obtain ⟨rfl, rfl⟩ := hp
            show AW l G mX8_give (d + 32) (az_F G Post) 0 0 60 [some (.ref 60), some (.int (nI p1)), some (.int 0), some (.int v), none] [.int (-2)] (sh, (az_w (mput sg 60 (xN σ)) 76 (0 + 2) ((mput sg 60 (xN σ)) 76 (0 + 2) + 1)), la)
            have hq : (q_give σ (nI p1) (0) v) = ((-2), (rfs σ 0)) := by
              unfold q_give
              rw [if_neg (fun q => h_4' (by have z := q.2.2; rw [show zmg 0 = 20 by decide] at z; exact z))]
              first | done | rfl
            exact A_iret dX8_give_60 rfl (hP _ _ (RQ_i hq ((hR.fin0 (sC.rf sg)).ref (k := 0) (by decide))))
      · skip
        show AW l G mX8_give (d + 32) (az_F G Post) 0 0 21 [some (.ref 60), some (.int (nI p1)), some (.int 1), some (.int v), none] [] (sh, (mput sg 60 (xN σ)), la)
        refine A_iload_n dX8_give_21 rfl rfl ?_
        refine A_i2l dX8_give_22 ?_
        refine A_lconst (v := 0) dX8_give_23 (by decide) ?_
        refine A_iload_n dX8_give_24 rfl rfl ?_
        refine A_if_ne (tgt := 34) dX8_give_25 rfl (fun h_9 => ?_) (fun h_9 => ?_)
        · skip
          refine A_iload_n dX8_give_34 rfl rfl ?_
          refine A_iconst (v := 1) dX8_give_35 (by decide) ?_
          refine A_icmp_ne (tgt := 45) dX8_give_36 rfl (fun h_10 => ?_) (fun h_10 => ?_)
          · skip
            exact absurd rfl h_10
          · skip
            refine A_ldc2 (v := 9) dX8_give_39 lcX8_125 ?_
            refine A_goto (tgt := 48) dX8_give_42 rfl ?_
            refine A_callS (n := 0) dX8_give_48 ksX8_in mlX8_91 rfl (c_X8_inI l G (d + 31) sh (mput sg 60 (xN σ)) la v 9 9 (by decide)) (by omega) (Nat.le_refl _) (Nat.le_refl _) rfl (Nat.le_of_ble_eq_true rfl) (fun r S1 hp => ?_)
            obtain ⟨rfl, rfl⟩ := hp
            show AW l G mX8_give (d + 32) (az_F G Post) 0 0 51 [some (.ref 60), some (.int (nI p1)), some (.int 1), some (.int v), none] [.int (b2i (0 ≤ v ∧ v ≤ 9))] (sh, (mput sg 60 (xN σ)), la)
            refine A_if_ne (tgt := 61) dX8_give_51 rfl (fun h_11 => ?_) (fun h_11 => ?_)
            · skip
              have h_11' := b2i_n.mp h_11
              refine A_iload_n dX8_give_61 rfl rfl ?_
              refine A_if_ne (tgt := 74) dX8_give_62 rfl (fun h_12 => ?_) (fun h_12 => ?_)
              · skip
                refine A_iload_n dX8_give_74 rfl rfl ?_
                refine A_iconst (v := 1) dX8_give_75 (by decide) ?_
                refine A_icmp_ne (tgt := 88) dX8_give_76 rfl (fun h_13 => ?_) (fun h_13 => ?_)
                · skip
                  exact absurd rfl h_13
                · skip
                  refine A_aload_n dX8_give_79 rfl rfl ?_
                  refine B_getR (r := 80) dX8_give_80 flX8_59 (hM 0 _ rfl) rfl ?_
                  refine A_iload_n dX8_give_83 rfl rfl ?_
                  refine B_ialdV (i := p1) (cBr (xN σ) p1) dX8_give_84 (hM 20 _ rfl) (by decide) (rfl) (by omega) (me_20 _ _ _ _) ?_
                  refine A_goto (tgt := 94) dX8_give_85 rfl ?_
                  refine A_istore (lo2 := [some (.ref 60), some (.int (nI p1)), some (.int 1), some (.int v), some (.int (cBr (xN σ) p1))]) dX8_give_94 (by decide) rfl ?_
                  refine A_aload_n dX8_give_96 rfl rfl ?_
                  refine B_getR (r := 79) dX8_give_97 flX8_56 (hM 0 _ rfl) rfl ?_
                  refine A_iload_n dX8_give_100 rfl rfl ?_
                  refine A_iload_n dX8_give_101 rfl rfl ?_
                  refine A_if_ne (tgt := 109) dX8_give_102 rfl (fun h_14 => ?_) (fun h_14 => ?_)
                  · skip
                    refine A_aload_n dX8_give_109 rfl rfl ?_
                    refine B_getR (r := 79) dX8_give_110 flX8_56 (hM 0 _ rfl) rfl ?_
                    refine A_iload_n dX8_give_113 rfl rfl ?_
                    refine B_ialdV (i := p1) (cPr (xN σ) p1) dX8_give_114 (hM 19 _ rfl) (by decide) (rfl) (by omega) (me_19 _ _ _ _) ?_
                    refine B_iast (i := p1) dX8_give_115 (hM 19 _ rfl) (by decide) (rfl) (by omega) ?_
                    refine B_sg (show _ = (mput sg 60 (sPr (xN σ) (va_up (cPr (xN σ)) p1 (cPr (xN σ) p1)))) from mx_19 _ _ _ _ _) ?_
                    refine A_aload_n dX8_give_116 rfl rfl ?_
                    refine B_getR (r := 80) dX8_give_117 flX8_59 (hM 0 _ rfl) rfl ?_
                    refine A_iload_n dX8_give_120 rfl rfl ?_
                    refine A_iload_n dX8_give_121 rfl rfl ?_
                    refine A_iconst (v := 1) dX8_give_122 (by decide) ?_
                    refine A_icmp_ne (tgt := 130) dX8_give_123 rfl (fun h_15 => ?_) (fun h_15 => ?_)
                    · skip
                      exact absurd rfl h_15
                    · skip
                      refine A_iload_n dX8_give_126 rfl rfl ?_
                      refine A_goto (tgt := 136) dX8_give_127 rfl ?_
                      refine B_iast (i := p1) dX8_give_136 (hM 20 _ rfl) (by decide) (rfl) (by omega) ?_
                      refine B_sg (show _ = (mput sg 60 (sBr (sPr (xN σ) (va_up (cPr (xN σ)) p1 (cPr (xN σ) p1))) (va_up (cBr (xN σ)) p1 v))) from (mx_20 _ _ _ _ _).trans (congrArg (mput sg 60) cu_Br_Pr)) ?_
                      refine A_aload_n dX8_give_137 rfl rfl ?_
                      refine B_getR (r := 81) dX8_give_138 flX8_62 (hM 0 _ rfl) rfl ?_
                      refine A_iload_n dX8_give_141 rfl rfl ?_
                      refine A_iload_n dX8_give_142 rfl rfl ?_
                      refine A_iconst (v := 2) dX8_give_143 (by decide) ?_
                      refine A_icmp_ne (tgt := 151) dX8_give_144 rfl (fun h_16 => ?_) (fun h_16 => ?_)
                      · skip
                        refine A_aload_n dX8_give_151 rfl rfl ?_
                        refine B_getR (r := 81) dX8_give_152 flX8_62 (hM 0 _ rfl) rfl ?_
                        refine A_iload_n dX8_give_155 rfl rfl ?_
                        refine B_ialdV (i := p1) (cFe (xN σ) p1) dX8_give_156 (hM 21 _ rfl) (by decide) (rfl) (by omega) ((me_21 _ _ _ _).trans (congrFun cr_Fe_PrBr _)) ?_
                        refine B_iast (i := p1) dX8_give_157 (hM 21 _ rfl) (by decide) (rfl) (by omega) ?_
                        refine B_sg (show _ = (mput sg 60 (sFe (sBr (sPr (xN σ) (va_up (cPr (xN σ)) p1 (cPr (xN σ) p1))) (va_up (cBr (xN σ)) p1 v)) (va_up (cFe (xN σ)) p1 (cFe (xN σ) p1)))) from (mx_21 _ _ _ _ _).trans (congrArg (mput sg 60) cu_Fe_PrBr)) ?_
                        refine A_iload dX8_give_158 rfl ?_
                        have hgv := gv1 (xN σ) p1 v
                        have hq : (q_give σ (nI p1) (1) v) = (cBr (xN σ) p1, (yN σ (sBr (xN σ) (va_up (cBr (xN σ)) p1 v)))) := by
                          unfold q_give
                          rw [if_pos ⟨h_1', h_2', by rw [show zmg 1 = 9 by decide]; exact h_11'⟩, if_neg (by decide), if_pos rfl, hc_p1]
                        exact A_iret dX8_give_160 rfl (hP _ _ (RQ_i hq (hR.finE (sC.rf sg) hgv)))
                      · skip
                        exact absurd h_16 (by decide)
                  · skip
                    exact absurd h_14 (by decide)
              · skip
                exact absurd h_12 (by decide)
            · skip
              have h_11' := b2i_0.mp h_11
              refine A_aload_n dX8_give_54 rfl rfl ?_
              refine A_bipush (v := (-2)) dX8_give_55 (by decide) ?_
              refine A_callV (n := 0) dX8_give_57 kvX8_refuse mlX8_101 rfl (az_rc_obj clX8 (hM 0 _ rfl)) (c_X8_refuse l G (d + 31) sh (mput sg 60 (xN σ)) la kp tr (-2) 0 hM (by decide) (by decide)) (by omega) (Nat.le_refl _) (Nat.le_refl _) rfl (Nat.le_of_ble_eq_true rfl) (fun r S1 hp => ?_)
              obtain ⟨rfl, rfl⟩ := hp
              show AW l G mX8_give (d + 32) (az_F G Post) 0 0 60 [some (.ref 60), some (.int (nI p1)), some (.int 1), some (.int v), none] [.int (-2)] (sh, (az_w (mput sg 60 (xN σ)) 76 (0 + 2) ((mput sg 60 (xN σ)) 76 (0 + 2) + 1)), la)
              have hq : (q_give σ (nI p1) (1) v) = ((-2), (rfs σ 0)) := by
                unfold q_give
                rw [if_neg (fun q => h_11' (by have z := q.2.2; rw [show zmg 1 = 9 by decide] at z; exact z))]
                first | done | rfl
              exact A_iret dX8_give_60 rfl (hP _ _ (RQ_i hq ((hR.fin0 (sC.rf sg)).ref (k := 0) (by decide))))
        · skip
          exact absurd h_9 (by decide)
      · skip
        show AW l G mX8_give (d + 32) (az_F G Post) 0 0 21 [some (.ref 60), some (.int (nI p1)), some (.int 2), some (.int v), none] [] (sh, (mput sg 60 (xN σ)), la)
        refine A_iload_n dX8_give_21 rfl rfl ?_
        refine A_i2l dX8_give_22 ?_
        refine A_lconst (v := 0) dX8_give_23 (by decide) ?_
        refine A_iload_n dX8_give_24 rfl rfl ?_
        refine A_if_ne (tgt := 34) dX8_give_25 rfl (fun h_17 => ?_) (fun h_17 => ?_)
        · skip
          refine A_iload_n dX8_give_34 rfl rfl ?_
          refine A_iconst (v := 1) dX8_give_35 (by decide) ?_
          refine A_icmp_ne (tgt := 45) dX8_give_36 rfl (fun h_18 => ?_) (fun h_18 => ?_)
          · skip
            refine A_ldc2 (v := 40) dX8_give_45 lcX8_99 ?_
            refine A_callS (n := 0) dX8_give_48 ksX8_in mlX8_91 rfl (c_X8_inI l G (d + 31) sh (mput sg 60 (xN σ)) la v 40 40 (by decide)) (by omega) (Nat.le_refl _) (Nat.le_refl _) rfl (Nat.le_of_ble_eq_true rfl) (fun r S1 hp => ?_)
            obtain ⟨rfl, rfl⟩ := hp
            show AW l G mX8_give (d + 32) (az_F G Post) 0 0 51 [some (.ref 60), some (.int (nI p1)), some (.int 2), some (.int v), none] [.int (b2i (0 ≤ v ∧ v ≤ 40))] (sh, (mput sg 60 (xN σ)), la)
            refine A_if_ne (tgt := 61) dX8_give_51 rfl (fun h_19 => ?_) (fun h_19 => ?_)
            · skip
              have h_19' := b2i_n.mp h_19
              refine A_iload_n dX8_give_61 rfl rfl ?_
              refine A_if_ne (tgt := 74) dX8_give_62 rfl (fun h_20 => ?_) (fun h_20 => ?_)
              · skip
                refine A_iload_n dX8_give_74 rfl rfl ?_
                refine A_iconst (v := 1) dX8_give_75 (by decide) ?_
                refine A_icmp_ne (tgt := 88) dX8_give_76 rfl (fun h_21 => ?_) (fun h_21 => ?_)
                · skip
                  refine A_aload_n dX8_give_88 rfl rfl ?_
                  refine B_getR (r := 81) dX8_give_89 flX8_62 (hM 0 _ rfl) rfl ?_
                  refine A_iload_n dX8_give_92 rfl rfl ?_
                  refine B_ialdV (i := p1) (cFe (xN σ) p1) dX8_give_93 (hM 21 _ rfl) (by decide) (rfl) (by omega) (me_21 _ _ _ _) ?_
                  refine A_istore (lo2 := [some (.ref 60), some (.int (nI p1)), some (.int 2), some (.int v), some (.int (cFe (xN σ) p1))]) dX8_give_94 (by decide) rfl ?_
                  refine A_aload_n dX8_give_96 rfl rfl ?_
                  refine B_getR (r := 79) dX8_give_97 flX8_56 (hM 0 _ rfl) rfl ?_
                  refine A_iload_n dX8_give_100 rfl rfl ?_
                  refine A_iload_n dX8_give_101 rfl rfl ?_
                  refine A_if_ne (tgt := 109) dX8_give_102 rfl (fun h_22 => ?_) (fun h_22 => ?_)
                  · skip
                    refine A_aload_n dX8_give_109 rfl rfl ?_
                    refine B_getR (r := 79) dX8_give_110 flX8_56 (hM 0 _ rfl) rfl ?_
                    refine A_iload_n dX8_give_113 rfl rfl ?_
                    refine B_ialdV (i := p1) (cPr (xN σ) p1) dX8_give_114 (hM 19 _ rfl) (by decide) (rfl) (by omega) (me_19 _ _ _ _) ?_
                    refine B_iast (i := p1) dX8_give_115 (hM 19 _ rfl) (by decide) (rfl) (by omega) ?_
                    refine B_sg (show _ = (mput sg 60 (sPr (xN σ) (va_up (cPr (xN σ)) p1 (cPr (xN σ) p1)))) from mx_19 _ _ _ _ _) ?_
                    refine A_aload_n dX8_give_116 rfl rfl ?_
                    refine B_getR (r := 80) dX8_give_117 flX8_59 (hM 0 _ rfl) rfl ?_
                    refine A_iload_n dX8_give_120 rfl rfl ?_
                    refine A_iload_n dX8_give_121 rfl rfl ?_
                    refine A_iconst (v := 1) dX8_give_122 (by decide) ?_
                    refine A_icmp_ne (tgt := 130) dX8_give_123 rfl (fun h_23 => ?_) (fun h_23 => ?_)
                    · skip
                      refine A_aload_n dX8_give_130 rfl rfl ?_
                      refine B_getR (r := 80) dX8_give_131 flX8_59 (hM 0 _ rfl) rfl ?_
                      refine A_iload_n dX8_give_134 rfl rfl ?_
                      refine B_ialdV (i := p1) (cBr (xN σ) p1) dX8_give_135 (hM 20 _ rfl) (by decide) (rfl) (by omega) ((me_20 _ _ _ _).trans (congrFun cr_Br_Pr _)) ?_
                      refine B_iast (i := p1) dX8_give_136 (hM 20 _ rfl) (by decide) (rfl) (by omega) ?_
                      refine B_sg (show _ = (mput sg 60 (sBr (sPr (xN σ) (va_up (cPr (xN σ)) p1 (cPr (xN σ) p1))) (va_up (cBr (xN σ)) p1 (cBr (xN σ) p1)))) from (mx_20 _ _ _ _ _).trans (congrArg (mput sg 60) cu_Br_Pr)) ?_
                      refine A_aload_n dX8_give_137 rfl rfl ?_
                      refine B_getR (r := 81) dX8_give_138 flX8_62 (hM 0 _ rfl) rfl ?_
                      refine A_iload_n dX8_give_141 rfl rfl ?_
                      refine A_iload_n dX8_give_142 rfl rfl ?_
                      refine A_iconst (v := 2) dX8_give_143 (by decide) ?_
                      refine A_icmp_ne (tgt := 151) dX8_give_144 rfl (fun h_24 => ?_) (fun h_24 => ?_)
                      · skip
                        exact absurd rfl h_24
                      · skip
                        refine A_iload_n dX8_give_147 rfl rfl ?_
                        refine A_goto (tgt := 157) dX8_give_148 rfl ?_
                        refine B_iast (i := p1) dX8_give_157 (hM 21 _ rfl) (by decide) (rfl) (by omega) ?_
                        refine B_sg (show _ = (mput sg 60 (sFe (sBr (sPr (xN σ) (va_up (cPr (xN σ)) p1 (cPr (xN σ) p1))) (va_up (cBr (xN σ)) p1 (cBr (xN σ) p1))) (va_up (cFe (xN σ)) p1 v))) from (mx_21 _ _ _ _ _).trans (congrArg (mput sg 60) cu_Fe_PrBr)) ?_
                        refine A_iload dX8_give_158 rfl ?_
                        have hgv := gv2 (xN σ) p1 v
                        have hq : (q_give σ (nI p1) (2) v) = (cFe (xN σ) p1, (yN σ (sFe (xN σ) (va_up (cFe (xN σ)) p1 v)))) := by
                          unfold q_give
                          rw [if_pos ⟨h_1', h_2', by rw [show zmg 2 = 40 by decide]; exact h_19'⟩, if_neg (by decide), if_neg (by decide), hc_p1]
                        exact A_iret dX8_give_160 rfl (hP _ _ (RQ_i hq (hR.finE (sC.rf sg) hgv)))
                    · skip
                      exact absurd h_23 (by decide)
                  · skip
                    exact absurd h_22 (by decide)
                · skip
                  exact absurd h_21 (by decide)
              · skip
                exact absurd h_20 (by decide)
            · skip
              have h_19' := b2i_0.mp h_19
              refine A_aload_n dX8_give_54 rfl rfl ?_
              refine A_bipush (v := (-2)) dX8_give_55 (by decide) ?_
              refine A_callV (n := 0) dX8_give_57 kvX8_refuse mlX8_101 rfl (az_rc_obj clX8 (hM 0 _ rfl)) (c_X8_refuse l G (d + 31) sh (mput sg 60 (xN σ)) la kp tr (-2) 0 hM (by decide) (by decide)) (by omega) (Nat.le_refl _) (Nat.le_refl _) rfl (Nat.le_of_ble_eq_true rfl) (fun r S1 hp => ?_)
              obtain ⟨rfl, rfl⟩ := hp
              show AW l G mX8_give (d + 32) (az_F G Post) 0 0 60 [some (.ref 60), some (.int (nI p1)), some (.int 2), some (.int v), none] [.int (-2)] (sh, (az_w (mput sg 60 (xN σ)) 76 (0 + 2) ((mput sg 60 (xN σ)) 76 (0 + 2) + 1)), la)
              have hq : (q_give σ (nI p1) (2) v) = ((-2), (rfs σ 0)) := by
                unfold q_give
                rw [if_neg (fun q => h_19' (by have z := q.2.2; rw [show zmg 2 = 40 by decide] at z; exact z))]
                first | done | rfl
              exact A_iret dX8_give_60 rfl (hP _ _ (RQ_i hq ((hR.fin0 (sC.rf sg)).ref (k := 0) (by decide))))
          · skip
            exact absurd h_18 (by decide)
        · skip
          exact absurd h_17 (by decide)
set_option maxHeartbeats 1000000 in
set_option maxRecDepth 100000 in
theorem y_tell (l : Launch) (G : az_Gh) (d : Nat) (sh : List az_Sh) (sg : Nat → Nat → Int32) (la : Nat → Nat → Int64) (g : GGM) (σ : SGM) (kp tr : Option Nat) (w v : Int32) (hM : az_at sh 60 (lyM 60 kp tr)) (hR : RX g sg la σ kp tr) (hW : WF σ)  : AM l G (d + 32) mX8_tell [.ref 60, .int w, .int v] (sh, sg, la) 0 0 (RQ sh g kp tr (.int (q_tell σ w v).1) (q_tell σ w v).2) := by
  refine az_am knX8_tell (Nat.le_of_ble_eq_true rfl) rfl (fun Post hP => ?_)
  show AW l G mX8_tell (d + 32) (az_F G Post) 0 0 0 [some (.ref 60), some (.int w), some (.int v), none] [] (sh, sg, la)
  have hO := hW.1.1.1
  have hL := cW_lv hW.1
  have haw := hW.1.2.2.1
  have h8 := hO.2
  refine B_sg hR.z.symm ?_
  refine A_iload_n dX8_tell_0 rfl rfl ?_
  refine A_i2l dX8_tell_1 ?_
  refine A_lconst (v := 0) dX8_tell_2 (by decide) ?_
  refine A_ldc2 (v := 3) dX8_tell_3 lcX8_135 ?_
  refine A_callS (n := 0) dX8_tell_6 ksX8_in mlX8_91 rfl (c_X8_inI l G (d + 31) sh (mput sg 60 (xN σ)) la w 3 3 (by decide)) (by omega) (Nat.le_refl _) (Nat.le_refl _) rfl (Nat.le_of_ble_eq_true rfl) (fun r S1 hp => ?_)
  obtain ⟨rfl, rfl⟩ := hp
  show AW l G mX8_tell (d + 32) (az_F G Post) 0 0 9 [some (.ref 60), some (.int w), some (.int v), none] [.int (b2i (0 ≤ w ∧ w ≤ 3))] (sh, (mput sg 60 (xN σ)), la)
  refine A_if_eq (tgt := 56) dX8_tell_9 rfl (fun h_1 => ?_) (fun h_1 => ?_)
  · skip
    have h_1' := b2i_0.mp h_1
    refine A_aload_n dX8_tell_56 rfl rfl ?_
    refine A_bipush (v := (-2)) dX8_tell_57 (by decide) ?_
    refine A_callV (n := 0) dX8_tell_59 kvX8_refuse mlX8_101 rfl (az_rc_obj clX8 (hM 0 _ rfl)) (c_X8_refuse l G (d + 31) sh (mput sg 60 (xN σ)) la kp tr (-2) 0 hM (by decide) (by decide)) (by omega) (Nat.le_refl _) (Nat.le_refl _) rfl (Nat.le_of_ble_eq_true rfl) (fun r S1 hp => ?_)
    obtain ⟨rfl, rfl⟩ := hp
    show AW l G mX8_tell (d + 32) (az_F G Post) 0 0 62 [some (.ref 60), some (.int w), some (.int v), none] [.int (-2)] (sh, (az_w (mput sg 60 (xN σ)) 76 (0 + 2) ((mput sg 60 (xN σ)) 76 (0 + 2) + 1)), la)
    have hq : (q_tell σ w v) = ((-2), (rfs σ 0)) := by
      unfold q_tell
      try simp only [h_1', and_true, true_and, and_false, false_and, and_self, or_true, true_or, or_false, false_or, not_true_eq_false, not_false_eq_true, if_true, if_false, ite_true, ite_false, decide_true, decide_false, reduceIte]
      first | done | rfl
    exact A_iret dX8_tell_62 rfl (hP _ _ (RQ_i hq ((hR.fin0 (sC.rf sg)).ref (k := 0) (by decide))))
  · skip
    have h_1' := b2i_n.mp h_1
    obtain ⟨w1, hw1, rfl⟩ := nI_ex (m := 3) h_1'
    have hc_w1 : (nI w1).toNatClampNeg = w1 := nI_clamp (by omega)
    rcases (by omega : w1 = 0 ∨ w1 = 1 ∨ w1 = 2 ∨ w1 = 3) with rfl | rfl | rfl | rfl
    · skip
      show AW l G mX8_tell (d + 32) (az_F G Post) 0 0 12 [some (.ref 60), some (.int 0), some (.int v), none] [] (sh, (mput sg 60 (xN σ)), la)
      refine A_iload_n dX8_tell_12 rfl rfl ?_
      refine A_i2l dX8_tell_13 ?_
      refine A_lconst (v := 0) dX8_tell_14 (by decide) ?_
      refine A_iload_n dX8_tell_15 rfl rfl ?_
      refine A_if_ne (tgt := 25) dX8_tell_16 rfl (fun h_2 => ?_) (fun h_2 => ?_)
      · skip
        exact absurd rfl h_2
      · skip
        refine A_ldc2 (v := 40) dX8_tell_19 lcX8_99 ?_
        refine A_goto (tgt := 50) dX8_tell_22 rfl ?_
        refine A_callS (n := 0) dX8_tell_50 ksX8_in mlX8_91 rfl (c_X8_inI l G (d + 31) sh (mput sg 60 (xN σ)) la v 40 40 (by decide)) (by omega) (Nat.le_refl _) (Nat.le_refl _) rfl (Nat.le_of_ble_eq_true rfl) (fun r S1 hp => ?_)
        obtain ⟨rfl, rfl⟩ := hp
        show AW l G mX8_tell (d + 32) (az_F G Post) 0 0 53 [some (.ref 60), some (.int 0), some (.int v), none] [.int (b2i (0 ≤ v ∧ v ≤ 40))] (sh, (mput sg 60 (xN σ)), la)
        refine A_if_ne (tgt := 63) dX8_tell_53 rfl (fun h_3 => ?_) (fun h_3 => ?_)
        · skip
          have h_3' := b2i_n.mp h_3
          refine A_iload_n dX8_tell_63 rfl rfl ?_
          refine A_if_ne (tgt := 74) dX8_tell_64 rfl (fun h_4 => ?_) (fun h_4 => ?_)
          · skip
            exact absurd rfl h_4
          · skip
            refine A_aload_n dX8_tell_67 rfl rfl ?_
            refine B_getV (cAir (xN σ)) dX8_tell_68 flX8_37 (hM 0 _ rfl) rfl (mr_9 _ _ _) ?_
            refine A_goto (tgt := 102) dX8_tell_71 rfl ?_
            refine A_istore_n (lo2 := [some (.ref 60), some (.int 0), some (.int v), some (.int (cAir (xN σ)))]) dX8_tell_102 rfl (by decide) rfl ?_
            refine A_aload_n dX8_tell_103 rfl rfl ?_
            refine A_iload_n dX8_tell_104 rfl rfl ?_
            refine A_if_ne (tgt := 112) dX8_tell_105 rfl (fun h_5 => ?_) (fun h_5 => ?_)
            · skip
              exact absurd rfl h_5
            · skip
              refine A_iload_n dX8_tell_108 rfl rfl ?_
              refine A_goto (tgt := 116) dX8_tell_109 rfl ?_
              refine B_putI dX8_tell_116 fwX8_37 (hM 0 _ rfl) rfl ?_
              refine B_sg (show _ = (mput sg 60 (sAir (xN σ) v)) from mw_9 _ _ _ _) ?_
              refine A_aload_n dX8_tell_119 rfl rfl ?_
              refine A_iload_n dX8_tell_120 rfl rfl ?_
              refine A_iconst (v := 1) dX8_tell_121 (by decide) ?_
              refine A_icmp_ne (tgt := 129) dX8_tell_122 rfl (fun h_6 => ?_) (fun h_6 => ?_)
              · skip
                refine A_aload_n dX8_tell_129 rfl rfl ?_
                refine B_getV (cFall (xN σ)) dX8_tell_130 flX8_41 (hM 0 _ rfl) rfl ((mr_10 _ _ _).trans cr_Fall_Air) ?_
                refine B_putI dX8_tell_133 fwX8_41 (hM 0 _ rfl) rfl ?_
                refine B_sg (show _ = (mput sg 60 (sFall (sAir (xN σ) v) (cFall (xN σ)))) from (mw_10 _ _ _ _).trans (congrArg (mput sg 60) cw_Fall_Air)) ?_
                refine A_aload_n dX8_tell_136 rfl rfl ?_
                refine A_iload_n dX8_tell_137 rfl rfl ?_
                refine A_iconst (v := 2) dX8_tell_138 (by decide) ?_
                refine A_icmp_ne (tgt := 146) dX8_tell_139 rfl (fun h_7 => ?_) (fun h_7 => ?_)
                · skip
                  refine A_aload_n dX8_tell_146 rfl rfl ?_
                  refine B_getV (cDay (xN σ)) dX8_tell_147 flX8_139 (hM 0 _ rfl) rfl ((mr_11 _ _ _).trans cr_Day_AirFall) ?_
                  refine B_putI dX8_tell_150 fwX8_139 (hM 0 _ rfl) rfl ?_
                  refine B_sg (show _ = (mput sg 60 (sDay (sFall (sAir (xN σ) v) (cFall (xN σ))) (cDay (xN σ)))) from (mw_11 _ _ _ _).trans (congrArg (mput sg 60) cw_Day_AirFall)) ?_
                  refine A_aload_n dX8_tell_153 rfl rfl ?_
                  refine A_iload_n dX8_tell_154 rfl rfl ?_
                  refine A_iconst (v := 3) dX8_tell_155 (by decide) ?_
                  refine A_icmp_ne (tgt := 163) dX8_tell_156 rfl (fun h_8 => ?_) (fun h_8 => ?_)
                  · skip
                    refine A_aload_n dX8_tell_163 rfl rfl ?_
                    refine B_getV (cCoal (xN σ)) dX8_tell_164 flX8_47 (hM 0 _ rfl) rfl ((mr_13 _ _ _).trans cr_Coal_AirFallDay) ?_
                    refine B_putI dX8_tell_167 fwX8_47 (hM 0 _ rfl) rfl ?_
                    refine B_sg (show _ = (mput sg 60 (sCoal (sDay (sFall (sAir (xN σ) v) (cFall (xN σ))) (cDay (xN σ))) (cCoal (xN σ)))) from (mw_13 _ _ _ _).trans (congrArg (mput sg 60) cw_Coal_AirFallDay)) ?_
                    refine A_iload_n dX8_tell_170 rfl rfl ?_
                    have htl := tl0 (xN σ) v
                    have hq : (q_tell σ (0) v) = (cAir (xN σ), (yN σ (zset (xN σ) 0 v))) := by
                      unfold q_tell
                      rw [if_pos ⟨h_1', by rw [show zmt (0 : Int32).toNatClampNeg = 40 by decide]; exact h_3'⟩]
                      first | done | rfl
                    exact A_iret dX8_tell_171 rfl (hP _ _ (RQ_i hq (hR.finE (sC.rf sg) htl)))
                  · skip
                    exact absurd h_8 (by decide)
                · skip
                  exact absurd h_7 (by decide)
              · skip
                exact absurd h_6 (by decide)
        · skip
          have h_3' := b2i_0.mp h_3
          refine A_aload_n dX8_tell_56 rfl rfl ?_
          refine A_bipush (v := (-2)) dX8_tell_57 (by decide) ?_
          refine A_callV (n := 0) dX8_tell_59 kvX8_refuse mlX8_101 rfl (az_rc_obj clX8 (hM 0 _ rfl)) (c_X8_refuse l G (d + 31) sh (mput sg 60 (xN σ)) la kp tr (-2) 0 hM (by decide) (by decide)) (by omega) (Nat.le_refl _) (Nat.le_refl _) rfl (Nat.le_of_ble_eq_true rfl) (fun r S1 hp => ?_)
          obtain ⟨rfl, rfl⟩ := hp
          show AW l G mX8_tell (d + 32) (az_F G Post) 0 0 62 [some (.ref 60), some (.int 0), some (.int v), none] [.int (-2)] (sh, (az_w (mput sg 60 (xN σ)) 76 (0 + 2) ((mput sg 60 (xN σ)) 76 (0 + 2) + 1)), la)
          have hq : (q_tell σ (0) v) = ((-2), (rfs σ 0)) := by
            unfold q_tell
            rw [if_neg (fun q => h_3' (by have z := q.2; rw [show zmt (0 : Int32).toNatClampNeg = 40 by decide] at z; exact z))]
            first | done | rfl
          exact A_iret dX8_tell_62 rfl (hP _ _ (RQ_i hq ((hR.fin0 (sC.rf sg)).ref (k := 0) (by decide))))
    · skip
      show AW l G mX8_tell (d + 32) (az_F G Post) 0 0 12 [some (.ref 60), some (.int 1), some (.int v), none] [] (sh, (mput sg 60 (xN σ)), la)
      refine A_iload_n dX8_tell_12 rfl rfl ?_
      refine A_i2l dX8_tell_13 ?_
      refine A_lconst (v := 0) dX8_tell_14 (by decide) ?_
      refine A_iload_n dX8_tell_15 rfl rfl ?_
      refine A_if_ne (tgt := 25) dX8_tell_16 rfl (fun h_9 => ?_) (fun h_9 => ?_)
      · skip
        refine A_iload_n dX8_tell_25 rfl rfl ?_
        refine A_iconst (v := 1) dX8_tell_26 (by decide) ?_
        refine A_icmp_ne (tgt := 36) dX8_tell_27 rfl (fun h_10 => ?_) (fun h_10 => ?_)
        · skip
          exact absurd rfl h_10
        · skip
          refine A_ldc2 (v := 5) dX8_tell_30 lcX8_116 ?_
          refine A_goto (tgt := 50) dX8_tell_33 rfl ?_
          refine A_callS (n := 0) dX8_tell_50 ksX8_in mlX8_91 rfl (c_X8_inI l G (d + 31) sh (mput sg 60 (xN σ)) la v 5 5 (by decide)) (by omega) (Nat.le_refl _) (Nat.le_refl _) rfl (Nat.le_of_ble_eq_true rfl) (fun r S1 hp => ?_)
          obtain ⟨rfl, rfl⟩ := hp
          show AW l G mX8_tell (d + 32) (az_F G Post) 0 0 53 [some (.ref 60), some (.int 1), some (.int v), none] [.int (b2i (0 ≤ v ∧ v ≤ 5))] (sh, (mput sg 60 (xN σ)), la)
          refine A_if_ne (tgt := 63) dX8_tell_53 rfl (fun h_11 => ?_) (fun h_11 => ?_)
          · skip
            have h_11' := b2i_n.mp h_11
            refine A_iload_n dX8_tell_63 rfl rfl ?_
            refine A_if_ne (tgt := 74) dX8_tell_64 rfl (fun h_12 => ?_) (fun h_12 => ?_)
            · skip
              refine A_iload_n dX8_tell_74 rfl rfl ?_
              refine A_iconst (v := 1) dX8_tell_75 (by decide) ?_
              refine A_icmp_ne (tgt := 86) dX8_tell_76 rfl (fun h_13 => ?_) (fun h_13 => ?_)
              · skip
                exact absurd rfl h_13
              · skip
                refine A_aload_n dX8_tell_79 rfl rfl ?_
                refine B_getV (cFall (xN σ)) dX8_tell_80 flX8_41 (hM 0 _ rfl) rfl (mr_10 _ _ _) ?_
                refine A_goto (tgt := 102) dX8_tell_83 rfl ?_
                refine A_istore_n (lo2 := [some (.ref 60), some (.int 1), some (.int v), some (.int (cFall (xN σ)))]) dX8_tell_102 rfl (by decide) rfl ?_
                refine A_aload_n dX8_tell_103 rfl rfl ?_
                refine A_iload_n dX8_tell_104 rfl rfl ?_
                refine A_if_ne (tgt := 112) dX8_tell_105 rfl (fun h_14 => ?_) (fun h_14 => ?_)
                · skip
                  refine A_aload_n dX8_tell_112 rfl rfl ?_
                  refine B_getV (cAir (xN σ)) dX8_tell_113 flX8_37 (hM 0 _ rfl) rfl (mr_9 _ _ _) ?_
                  refine B_putI dX8_tell_116 fwX8_37 (hM 0 _ rfl) rfl ?_
                  refine B_sg (show _ = (mput sg 60 (sAir (xN σ) (cAir (xN σ)))) from mw_9 _ _ _ _) ?_
                  refine A_aload_n dX8_tell_119 rfl rfl ?_
                  refine A_iload_n dX8_tell_120 rfl rfl ?_
                  refine A_iconst (v := 1) dX8_tell_121 (by decide) ?_
                  refine A_icmp_ne (tgt := 129) dX8_tell_122 rfl (fun h_15 => ?_) (fun h_15 => ?_)
                  · skip
                    exact absurd rfl h_15
                  · skip
                    refine A_iload_n dX8_tell_125 rfl rfl ?_
                    refine A_goto (tgt := 133) dX8_tell_126 rfl ?_
                    refine B_putI dX8_tell_133 fwX8_41 (hM 0 _ rfl) rfl ?_
                    refine B_sg (show _ = (mput sg 60 (sFall (sAir (xN σ) (cAir (xN σ))) v)) from (mw_10 _ _ _ _).trans (congrArg (mput sg 60) cw_Fall_Air)) ?_
                    refine A_aload_n dX8_tell_136 rfl rfl ?_
                    refine A_iload_n dX8_tell_137 rfl rfl ?_
                    refine A_iconst (v := 2) dX8_tell_138 (by decide) ?_
                    refine A_icmp_ne (tgt := 146) dX8_tell_139 rfl (fun h_16 => ?_) (fun h_16 => ?_)
                    · skip
                      refine A_aload_n dX8_tell_146 rfl rfl ?_
                      refine B_getV (cDay (xN σ)) dX8_tell_147 flX8_139 (hM 0 _ rfl) rfl ((mr_11 _ _ _).trans cr_Day_AirFall) ?_
                      refine B_putI dX8_tell_150 fwX8_139 (hM 0 _ rfl) rfl ?_
                      refine B_sg (show _ = (mput sg 60 (sDay (sFall (sAir (xN σ) (cAir (xN σ))) v) (cDay (xN σ)))) from (mw_11 _ _ _ _).trans (congrArg (mput sg 60) cw_Day_AirFall)) ?_
                      refine A_aload_n dX8_tell_153 rfl rfl ?_
                      refine A_iload_n dX8_tell_154 rfl rfl ?_
                      refine A_iconst (v := 3) dX8_tell_155 (by decide) ?_
                      refine A_icmp_ne (tgt := 163) dX8_tell_156 rfl (fun h_17 => ?_) (fun h_17 => ?_)
                      · skip
                        refine A_aload_n dX8_tell_163 rfl rfl ?_
                        refine B_getV (cCoal (xN σ)) dX8_tell_164 flX8_47 (hM 0 _ rfl) rfl ((mr_13 _ _ _).trans cr_Coal_AirFallDay) ?_
                        refine B_putI dX8_tell_167 fwX8_47 (hM 0 _ rfl) rfl ?_
                        refine B_sg (show _ = (mput sg 60 (sCoal (sDay (sFall (sAir (xN σ) (cAir (xN σ))) v) (cDay (xN σ))) (cCoal (xN σ)))) from (mw_13 _ _ _ _).trans (congrArg (mput sg 60) cw_Coal_AirFallDay)) ?_
                        refine A_iload_n dX8_tell_170 rfl rfl ?_
                        have htl := tl1 (xN σ) v
                        have hq : (q_tell σ (1) v) = (cFall (xN σ), (yN σ (zset (xN σ) 1 v))) := by
                          unfold q_tell
                          rw [if_pos ⟨h_1', by rw [show zmt (1 : Int32).toNatClampNeg = 5 by decide]; exact h_11'⟩]
                          first | done | rfl
                        exact A_iret dX8_tell_171 rfl (hP _ _ (RQ_i hq (hR.finE (sC.rf sg) htl)))
                      · skip
                        exact absurd h_17 (by decide)
                    · skip
                      exact absurd h_16 (by decide)
                · skip
                  exact absurd h_14 (by decide)
            · skip
              exact absurd h_12 (by decide)
          · skip
            have h_11' := b2i_0.mp h_11
            refine A_aload_n dX8_tell_56 rfl rfl ?_
            refine A_bipush (v := (-2)) dX8_tell_57 (by decide) ?_
            refine A_callV (n := 0) dX8_tell_59 kvX8_refuse mlX8_101 rfl (az_rc_obj clX8 (hM 0 _ rfl)) (c_X8_refuse l G (d + 31) sh (mput sg 60 (xN σ)) la kp tr (-2) 0 hM (by decide) (by decide)) (by omega) (Nat.le_refl _) (Nat.le_refl _) rfl (Nat.le_of_ble_eq_true rfl) (fun r S1 hp => ?_)
            obtain ⟨rfl, rfl⟩ := hp
            show AW l G mX8_tell (d + 32) (az_F G Post) 0 0 62 [some (.ref 60), some (.int 1), some (.int v), none] [.int (-2)] (sh, (az_w (mput sg 60 (xN σ)) 76 (0 + 2) ((mput sg 60 (xN σ)) 76 (0 + 2) + 1)), la)
            have hq : (q_tell σ (1) v) = ((-2), (rfs σ 0)) := by
              unfold q_tell
              rw [if_neg (fun q => h_11' (by have z := q.2; rw [show zmt (1 : Int32).toNatClampNeg = 5 by decide] at z; exact z))]
              first | done | rfl
            exact A_iret dX8_tell_62 rfl (hP _ _ (RQ_i hq ((hR.fin0 (sC.rf sg)).ref (k := 0) (by decide))))
      · skip
        exact absurd h_9 (by decide)
    · skip
      show AW l G mX8_tell (d + 32) (az_F G Post) 0 0 12 [some (.ref 60), some (.int 2), some (.int v), none] [] (sh, (mput sg 60 (xN σ)), la)
      refine A_iload_n dX8_tell_12 rfl rfl ?_
      refine A_i2l dX8_tell_13 ?_
      refine A_lconst (v := 0) dX8_tell_14 (by decide) ?_
      refine A_iload_n dX8_tell_15 rfl rfl ?_
      refine A_if_ne (tgt := 25) dX8_tell_16 rfl (fun h_18 => ?_) (fun h_18 => ?_)
      · skip
        refine A_iload_n dX8_tell_25 rfl rfl ?_
        refine A_iconst (v := 1) dX8_tell_26 (by decide) ?_
        refine A_icmp_ne (tgt := 36) dX8_tell_27 rfl (fun h_19 => ?_) (fun h_19 => ?_)
        · skip
          refine A_iload_n dX8_tell_36 rfl rfl ?_
          refine A_iconst (v := 2) dX8_tell_37 (by decide) ?_
          refine A_icmp_ne (tgt := 47) dX8_tell_38 rfl (fun h_20 => ?_) (fun h_20 => ?_)
          · skip
            exact absurd rfl h_20
          · skip
            refine A_ldc2 (v := 999) dX8_tell_41 lcX8_137 ?_
            refine A_goto (tgt := 50) dX8_tell_44 rfl ?_
            refine A_callS (n := 0) dX8_tell_50 ksX8_in mlX8_91 rfl (c_X8_inI l G (d + 31) sh (mput sg 60 (xN σ)) la v 999 999 (by decide)) (by omega) (Nat.le_refl _) (Nat.le_refl _) rfl (Nat.le_of_ble_eq_true rfl) (fun r S1 hp => ?_)
            obtain ⟨rfl, rfl⟩ := hp
            show AW l G mX8_tell (d + 32) (az_F G Post) 0 0 53 [some (.ref 60), some (.int 2), some (.int v), none] [.int (b2i (0 ≤ v ∧ v ≤ 999))] (sh, (mput sg 60 (xN σ)), la)
            refine A_if_ne (tgt := 63) dX8_tell_53 rfl (fun h_21 => ?_) (fun h_21 => ?_)
            · skip
              have h_21' := b2i_n.mp h_21
              refine A_iload_n dX8_tell_63 rfl rfl ?_
              refine A_if_ne (tgt := 74) dX8_tell_64 rfl (fun h_22 => ?_) (fun h_22 => ?_)
              · skip
                refine A_iload_n dX8_tell_74 rfl rfl ?_
                refine A_iconst (v := 1) dX8_tell_75 (by decide) ?_
                refine A_icmp_ne (tgt := 86) dX8_tell_76 rfl (fun h_23 => ?_) (fun h_23 => ?_)
                · skip
                  refine A_iload_n dX8_tell_86 rfl rfl ?_
                  refine A_iconst (v := 2) dX8_tell_87 (by decide) ?_
                  refine A_icmp_ne (tgt := 98) dX8_tell_88 rfl (fun h_24 => ?_) (fun h_24 => ?_)
                  · skip
                    exact absurd rfl h_24
                  · skip
                    refine A_aload_n dX8_tell_91 rfl rfl ?_
                    refine B_getV (cDay (xN σ)) dX8_tell_92 flX8_139 (hM 0 _ rfl) rfl (mr_11 _ _ _) ?_
                    refine A_goto (tgt := 102) dX8_tell_95 rfl ?_
                    refine A_istore_n (lo2 := [some (.ref 60), some (.int 2), some (.int v), some (.int (cDay (xN σ)))]) dX8_tell_102 rfl (by decide) rfl ?_
                    refine A_aload_n dX8_tell_103 rfl rfl ?_
                    refine A_iload_n dX8_tell_104 rfl rfl ?_
                    refine A_if_ne (tgt := 112) dX8_tell_105 rfl (fun h_25 => ?_) (fun h_25 => ?_)
                    · skip
                      refine A_aload_n dX8_tell_112 rfl rfl ?_
                      refine B_getV (cAir (xN σ)) dX8_tell_113 flX8_37 (hM 0 _ rfl) rfl (mr_9 _ _ _) ?_
                      refine B_putI dX8_tell_116 fwX8_37 (hM 0 _ rfl) rfl ?_
                      refine B_sg (show _ = (mput sg 60 (sAir (xN σ) (cAir (xN σ)))) from mw_9 _ _ _ _) ?_
                      refine A_aload_n dX8_tell_119 rfl rfl ?_
                      refine A_iload_n dX8_tell_120 rfl rfl ?_
                      refine A_iconst (v := 1) dX8_tell_121 (by decide) ?_
                      refine A_icmp_ne (tgt := 129) dX8_tell_122 rfl (fun h_26 => ?_) (fun h_26 => ?_)
                      · skip
                        refine A_aload_n dX8_tell_129 rfl rfl ?_
                        refine B_getV (cFall (xN σ)) dX8_tell_130 flX8_41 (hM 0 _ rfl) rfl ((mr_10 _ _ _).trans cr_Fall_Air) ?_
                        refine B_putI dX8_tell_133 fwX8_41 (hM 0 _ rfl) rfl ?_
                        refine B_sg (show _ = (mput sg 60 (sFall (sAir (xN σ) (cAir (xN σ))) (cFall (xN σ)))) from (mw_10 _ _ _ _).trans (congrArg (mput sg 60) cw_Fall_Air)) ?_
                        refine A_aload_n dX8_tell_136 rfl rfl ?_
                        refine A_iload_n dX8_tell_137 rfl rfl ?_
                        refine A_iconst (v := 2) dX8_tell_138 (by decide) ?_
                        refine A_icmp_ne (tgt := 146) dX8_tell_139 rfl (fun h_27 => ?_) (fun h_27 => ?_)
                        · skip
                          exact absurd rfl h_27
                        · skip
                          refine A_iload_n dX8_tell_142 rfl rfl ?_
                          refine A_goto (tgt := 150) dX8_tell_143 rfl ?_
                          refine B_putI dX8_tell_150 fwX8_139 (hM 0 _ rfl) rfl ?_
                          refine B_sg (show _ = (mput sg 60 (sDay (sFall (sAir (xN σ) (cAir (xN σ))) (cFall (xN σ))) v)) from (mw_11 _ _ _ _).trans (congrArg (mput sg 60) cw_Day_AirFall)) ?_
                          refine A_aload_n dX8_tell_153 rfl rfl ?_
                          refine A_iload_n dX8_tell_154 rfl rfl ?_
                          refine A_iconst (v := 3) dX8_tell_155 (by decide) ?_
                          refine A_icmp_ne (tgt := 163) dX8_tell_156 rfl (fun h_28 => ?_) (fun h_28 => ?_)
                          · skip
                            refine A_aload_n dX8_tell_163 rfl rfl ?_
                            refine B_getV (cCoal (xN σ)) dX8_tell_164 flX8_47 (hM 0 _ rfl) rfl ((mr_13 _ _ _).trans cr_Coal_AirFallDay) ?_
                            refine B_putI dX8_tell_167 fwX8_47 (hM 0 _ rfl) rfl ?_
                            refine B_sg (show _ = (mput sg 60 (sCoal (sDay (sFall (sAir (xN σ) (cAir (xN σ))) (cFall (xN σ))) v) (cCoal (xN σ)))) from (mw_13 _ _ _ _).trans (congrArg (mput sg 60) cw_Coal_AirFallDay)) ?_
                            refine A_iload_n dX8_tell_170 rfl rfl ?_
                            have htl := tl2 (xN σ) v
                            have hq : (q_tell σ (2) v) = (cDay (xN σ), (yN σ (zset (xN σ) 2 v))) := by
                              unfold q_tell
                              rw [if_pos ⟨h_1', by rw [show zmt (2 : Int32).toNatClampNeg = 999 by decide]; exact h_21'⟩]
                              first | done | rfl
                            exact A_iret dX8_tell_171 rfl (hP _ _ (RQ_i hq (hR.finE (sC.rf sg) htl)))
                          · skip
                            exact absurd h_28 (by decide)
                      · skip
                        exact absurd h_26 (by decide)
                    · skip
                      exact absurd h_25 (by decide)
                · skip
                  exact absurd h_23 (by decide)
              · skip
                exact absurd h_22 (by decide)
            · skip
              have h_21' := b2i_0.mp h_21
              refine A_aload_n dX8_tell_56 rfl rfl ?_
              refine A_bipush (v := (-2)) dX8_tell_57 (by decide) ?_
              refine A_callV (n := 0) dX8_tell_59 kvX8_refuse mlX8_101 rfl (az_rc_obj clX8 (hM 0 _ rfl)) (c_X8_refuse l G (d + 31) sh (mput sg 60 (xN σ)) la kp tr (-2) 0 hM (by decide) (by decide)) (by omega) (Nat.le_refl _) (Nat.le_refl _) rfl (Nat.le_of_ble_eq_true rfl) (fun r S1 hp => ?_)
              obtain ⟨rfl, rfl⟩ := hp
              show AW l G mX8_tell (d + 32) (az_F G Post) 0 0 62 [some (.ref 60), some (.int 2), some (.int v), none] [.int (-2)] (sh, (az_w (mput sg 60 (xN σ)) 76 (0 + 2) ((mput sg 60 (xN σ)) 76 (0 + 2) + 1)), la)
              have hq : (q_tell σ (2) v) = ((-2), (rfs σ 0)) := by
                unfold q_tell
                rw [if_neg (fun q => h_21' (by have z := q.2; rw [show zmt (2 : Int32).toNatClampNeg = 999 by decide] at z; exact z))]
                first | done | rfl
              exact A_iret dX8_tell_62 rfl (hP _ _ (RQ_i hq ((hR.fin0 (sC.rf sg)).ref (k := 0) (by decide))))
        · skip
          exact absurd h_19 (by decide)
      · skip
        exact absurd h_18 (by decide)
    · skip
      show AW l G mX8_tell (d + 32) (az_F G Post) 0 0 12 [some (.ref 60), some (.int 3), some (.int v), none] [] (sh, (mput sg 60 (xN σ)), la)
      refine A_iload_n dX8_tell_12 rfl rfl ?_
      refine A_i2l dX8_tell_13 ?_
      refine A_lconst (v := 0) dX8_tell_14 (by decide) ?_
      refine A_iload_n dX8_tell_15 rfl rfl ?_
      refine A_if_ne (tgt := 25) dX8_tell_16 rfl (fun h_29 => ?_) (fun h_29 => ?_)
      · skip
        refine A_iload_n dX8_tell_25 rfl rfl ?_
        refine A_iconst (v := 1) dX8_tell_26 (by decide) ?_
        refine A_icmp_ne (tgt := 36) dX8_tell_27 rfl (fun h_30 => ?_) (fun h_30 => ?_)
        · skip
          refine A_iload_n dX8_tell_36 rfl rfl ?_
          refine A_iconst (v := 2) dX8_tell_37 (by decide) ?_
          refine A_icmp_ne (tgt := 47) dX8_tell_38 rfl (fun h_31 => ?_) (fun h_31 => ?_)
          · skip
            refine A_ldc2 (v := 9) dX8_tell_47 lcX8_125 ?_
            refine A_callS (n := 0) dX8_tell_50 ksX8_in mlX8_91 rfl (c_X8_inI l G (d + 31) sh (mput sg 60 (xN σ)) la v 9 9 (by decide)) (by omega) (Nat.le_refl _) (Nat.le_refl _) rfl (Nat.le_of_ble_eq_true rfl) (fun r S1 hp => ?_)
            obtain ⟨rfl, rfl⟩ := hp
            show AW l G mX8_tell (d + 32) (az_F G Post) 0 0 53 [some (.ref 60), some (.int 3), some (.int v), none] [.int (b2i (0 ≤ v ∧ v ≤ 9))] (sh, (mput sg 60 (xN σ)), la)
            refine A_if_ne (tgt := 63) dX8_tell_53 rfl (fun h_32 => ?_) (fun h_32 => ?_)
            · skip
              have h_32' := b2i_n.mp h_32
              refine A_iload_n dX8_tell_63 rfl rfl ?_
              refine A_if_ne (tgt := 74) dX8_tell_64 rfl (fun h_33 => ?_) (fun h_33 => ?_)
              · skip
                refine A_iload_n dX8_tell_74 rfl rfl ?_
                refine A_iconst (v := 1) dX8_tell_75 (by decide) ?_
                refine A_icmp_ne (tgt := 86) dX8_tell_76 rfl (fun h_34 => ?_) (fun h_34 => ?_)
                · skip
                  refine A_iload_n dX8_tell_86 rfl rfl ?_
                  refine A_iconst (v := 2) dX8_tell_87 (by decide) ?_
                  refine A_icmp_ne (tgt := 98) dX8_tell_88 rfl (fun h_35 => ?_) (fun h_35 => ?_)
                  · skip
                    refine A_aload_n dX8_tell_98 rfl rfl ?_
                    refine B_getV (cCoal (xN σ)) dX8_tell_99 flX8_47 (hM 0 _ rfl) rfl (mr_13 _ _ _) ?_
                    refine A_istore_n (lo2 := [some (.ref 60), some (.int 3), some (.int v), some (.int (cCoal (xN σ)))]) dX8_tell_102 rfl (by decide) rfl ?_
                    refine A_aload_n dX8_tell_103 rfl rfl ?_
                    refine A_iload_n dX8_tell_104 rfl rfl ?_
                    refine A_if_ne (tgt := 112) dX8_tell_105 rfl (fun h_36 => ?_) (fun h_36 => ?_)
                    · skip
                      refine A_aload_n dX8_tell_112 rfl rfl ?_
                      refine B_getV (cAir (xN σ)) dX8_tell_113 flX8_37 (hM 0 _ rfl) rfl (mr_9 _ _ _) ?_
                      refine B_putI dX8_tell_116 fwX8_37 (hM 0 _ rfl) rfl ?_
                      refine B_sg (show _ = (mput sg 60 (sAir (xN σ) (cAir (xN σ)))) from mw_9 _ _ _ _) ?_
                      refine A_aload_n dX8_tell_119 rfl rfl ?_
                      refine A_iload_n dX8_tell_120 rfl rfl ?_
                      refine A_iconst (v := 1) dX8_tell_121 (by decide) ?_
                      refine A_icmp_ne (tgt := 129) dX8_tell_122 rfl (fun h_37 => ?_) (fun h_37 => ?_)
                      · skip
                        refine A_aload_n dX8_tell_129 rfl rfl ?_
                        refine B_getV (cFall (xN σ)) dX8_tell_130 flX8_41 (hM 0 _ rfl) rfl ((mr_10 _ _ _).trans cr_Fall_Air) ?_
                        refine B_putI dX8_tell_133 fwX8_41 (hM 0 _ rfl) rfl ?_
                        refine B_sg (show _ = (mput sg 60 (sFall (sAir (xN σ) (cAir (xN σ))) (cFall (xN σ)))) from (mw_10 _ _ _ _).trans (congrArg (mput sg 60) cw_Fall_Air)) ?_
                        refine A_aload_n dX8_tell_136 rfl rfl ?_
                        refine A_iload_n dX8_tell_137 rfl rfl ?_
                        refine A_iconst (v := 2) dX8_tell_138 (by decide) ?_
                        refine A_icmp_ne (tgt := 146) dX8_tell_139 rfl (fun h_38 => ?_) (fun h_38 => ?_)
                        · skip
                          refine A_aload_n dX8_tell_146 rfl rfl ?_
                          refine B_getV (cDay (xN σ)) dX8_tell_147 flX8_139 (hM 0 _ rfl) rfl ((mr_11 _ _ _).trans cr_Day_AirFall) ?_
                          refine B_putI dX8_tell_150 fwX8_139 (hM 0 _ rfl) rfl ?_
                          refine B_sg (show _ = (mput sg 60 (sDay (sFall (sAir (xN σ) (cAir (xN σ))) (cFall (xN σ))) (cDay (xN σ)))) from (mw_11 _ _ _ _).trans (congrArg (mput sg 60) cw_Day_AirFall)) ?_
                          refine A_aload_n dX8_tell_153 rfl rfl ?_
                          refine A_iload_n dX8_tell_154 rfl rfl ?_
                          refine A_iconst (v := 3) dX8_tell_155 (by decide) ?_
                          refine A_icmp_ne (tgt := 163) dX8_tell_156 rfl (fun h_39 => ?_) (fun h_39 => ?_)
                          · skip
                            exact absurd rfl h_39
                          · skip
                            refine A_iload_n dX8_tell_159 rfl rfl ?_
                            refine A_goto (tgt := 167) dX8_tell_160 rfl ?_
                            refine B_putI dX8_tell_167 fwX8_47 (hM 0 _ rfl) rfl ?_
                            refine B_sg (show _ = (mput sg 60 (sCoal (sDay (sFall (sAir (xN σ) (cAir (xN σ))) (cFall (xN σ))) (cDay (xN σ))) v)) from (mw_13 _ _ _ _).trans (congrArg (mput sg 60) cw_Coal_AirFallDay)) ?_
                            refine A_iload_n dX8_tell_170 rfl rfl ?_
                            have htl := tl3 (xN σ) v
                            have hq : (q_tell σ (3) v) = (cCoal (xN σ), (yN σ (zset (xN σ) 3 v))) := by
                              unfold q_tell
                              rw [if_pos ⟨h_1', by rw [show zmt (3 : Int32).toNatClampNeg = 9 by decide]; exact h_32'⟩]
                              first | done | rfl
                            exact A_iret dX8_tell_171 rfl (hP _ _ (RQ_i hq (hR.finE (sC.rf sg) htl)))
                        · skip
                          exact absurd h_38 (by decide)
                      · skip
                        exact absurd h_37 (by decide)
                    · skip
                      exact absurd h_36 (by decide)
                  · skip
                    exact absurd h_35 (by decide)
                · skip
                  exact absurd h_34 (by decide)
              · skip
                exact absurd h_33 (by decide)
            · skip
              have h_32' := b2i_0.mp h_32
              refine A_aload_n dX8_tell_56 rfl rfl ?_
              refine A_bipush (v := (-2)) dX8_tell_57 (by decide) ?_
              refine A_callV (n := 0) dX8_tell_59 kvX8_refuse mlX8_101 rfl (az_rc_obj clX8 (hM 0 _ rfl)) (c_X8_refuse l G (d + 31) sh (mput sg 60 (xN σ)) la kp tr (-2) 0 hM (by decide) (by decide)) (by omega) (Nat.le_refl _) (Nat.le_refl _) rfl (Nat.le_of_ble_eq_true rfl) (fun r S1 hp => ?_)
              obtain ⟨rfl, rfl⟩ := hp
              show AW l G mX8_tell (d + 32) (az_F G Post) 0 0 62 [some (.ref 60), some (.int 3), some (.int v), none] [.int (-2)] (sh, (az_w (mput sg 60 (xN σ)) 76 (0 + 2) ((mput sg 60 (xN σ)) 76 (0 + 2) + 1)), la)
              have hq : (q_tell σ (3) v) = ((-2), (rfs σ 0)) := by
                unfold q_tell
                rw [if_neg (fun q => h_32' (by have z := q.2; rw [show zmt (3 : Int32).toNatClampNeg = 9 by decide] at z; exact z))]
                first | done | rfl
              exact A_iret dX8_tell_62 rfl (hP _ _ (RQ_i hq ((hR.fin0 (sC.rf sg)).ref (k := 0) (by decide))))
          · skip
            exact absurd h_31 (by decide)
        · skip
          exact absurd h_30 (by decide)
      · skip
        exact absurd h_29 (by decide)
set_option maxHeartbeats 1000000 in
set_option maxRecDepth 100000 in
theorem y_thaw (l : Launch) (G : az_Gh) (d : Nat) (sh : List az_Sh) (sg : Nat → Nat → Int32) (la : Nat → Nat → Int64) (g : GGM) (σ : SGM) (kp tr : Option Nat)  (hM : az_at sh 60 (lyM 60 kp tr)) (hR : RX g sg la σ kp tr) (hW : WF σ)  : AM l G (d + 32) mX8_thaw [.ref 60] (sh, sg, la) 0 0 (RQ sh g kp tr (.int (q_thaw σ).1) (q_thaw σ).2) := by
  refine az_am knX8_thaw (Nat.le_of_ble_eq_true rfl) rfl (fun Post hP => ?_)
  show AW l G mX8_thaw (d + 32) (az_F G Post) 0 0 0 [some (.ref 60), none] [] (sh, sg, la)
  have hO := hW.1.1.1
  have hL := cW_lv hW.1
  have haw := hW.1.2.2.1
  have h8 := hO.2
  refine B_sg hR.z.symm ?_
  refine A_aload_n dX8_thaw_0 rfl rfl ?_
  refine B_getV (cWin (xN σ)) dX8_thaw_1 flX8_44 (hM 0 _ rfl) rfl (mr_12 _ _ _) ?_
  refine A_iconst (v := (-1)) dX8_thaw_4 (by decide) ?_
  refine A_icmp_ne (tgt := 12) dX8_thaw_5 rfl (fun h_1 => ?_) (fun h_1 => ?_)
  · skip
    refine A_iconst (v := 1) dX8_thaw_12 (by decide) ?_
    refine A_istore_n (lo2 := [some (.ref 60), some (.int 1)]) dX8_thaw_13 rfl (by decide) rfl ?_
    refine A_aload_n dX8_thaw_14 rfl rfl ?_
    refine A_iconst (v := (-1)) dX8_thaw_15 (by decide) ?_
    refine B_putI dX8_thaw_16 fwX8_44 (hM 0 _ rfl) rfl ?_
    refine B_sg (show _ = (mput sg 60 (sWin (xN σ) (-1))) from mw_12 _ _ _ _) ?_
    refine A_iload_n dX8_thaw_19 rfl rfl ?_
    have hq : (q_thaw σ) = (1, (yN σ (sWin (xN σ) (-1)))) := by
      unfold q_thaw b2i
      rw [if_pos h_1]
    exact A_iret dX8_thaw_20 rfl (hP _ _ (RQ_i hq (hR.fin (sC.rf sg) (sWin (xN σ) (-1)))))
  · skip
    refine A_iconst (v := 0) dX8_thaw_8 (by decide) ?_
    refine A_goto (tgt := 13) dX8_thaw_9 rfl ?_
    refine A_istore_n (lo2 := [some (.ref 60), some (.int 0)]) dX8_thaw_13 rfl (by decide) rfl ?_
    refine A_aload_n dX8_thaw_14 rfl rfl ?_
    refine A_iconst (v := (-1)) dX8_thaw_15 (by decide) ?_
    refine B_putI dX8_thaw_16 fwX8_44 (hM 0 _ rfl) rfl ?_
    refine B_sg (show _ = (mput sg 60 (sWin (xN σ) (-1))) from mw_12 _ _ _ _) ?_
    refine A_iload_n dX8_thaw_19 rfl rfl ?_
    have hq : (q_thaw σ) = (0, (yN σ (sWin (xN σ) (-1)))) := by
      unfold q_thaw b2i
      rw [if_neg (fun q => q h_1)]
    exact A_iret dX8_thaw_20 rfl (hP _ _ (RQ_i hq (hR.fin (sC.rf sg) (sWin (xN σ) (-1)))))
set_option maxHeartbeats 1000000 in
set_option maxRecDepth 100000 in
theorem y_seed (l : Launch) (G : az_Gh) (d : Nat) (sh : List az_Sh) (sg : Nat → Nat → Int32) (la : Nat → Nat → Int64) (g : GGM) (σ : SGM) (kp tr : Option Nat) (v : Int32) (hM : az_at sh 60 (lyM 60 kp tr)) (hR : RX g sg la σ kp tr) (hW : WF σ)  : AM l G (d + 32) mX8_seed [.ref 60, .int v] (sh, sg, la) 0 0 (RQ sh g kp tr (.int (q_seed σ v).1) (q_seed σ v).2) := by
  refine az_am knX8_seed (Nat.le_of_ble_eq_true rfl) rfl (fun Post hP => ?_)
  show AW l G mX8_seed (d + 32) (az_F G Post) 0 0 0 [some (.ref 60), some (.int v), none] [] (sh, sg, la)
  have hO := hW.1.1.1
  have hL := cW_lv hW.1
  have haw := hW.1.2.2.1
  have h8 := hO.2
  refine B_sg hR.z.symm ?_
  refine A_aload_n dX8_seed_0 rfl rfl ?_
  refine B_getV (cSeed (xN σ)) dX8_seed_1 flX8_65 (hM 0 _ rfl) rfl (mr_20 _ _ _) ?_
  refine A_istore_n (lo2 := [some (.ref 60), some (.int v), some (.int (cSeed (xN σ)))]) dX8_seed_4 rfl (by decide) rfl ?_
  refine A_aload_n dX8_seed_5 rfl rfl ?_
  refine A_iload_n dX8_seed_6 rfl rfl ?_
  refine B_putI dX8_seed_7 fwX8_65 (hM 0 _ rfl) rfl ?_
  refine B_sg (show _ = (mput sg 60 (sSeed (xN σ) v)) from mw_20 _ _ _ _) ?_
  refine A_iload_n dX8_seed_10 rfl rfl ?_
  have hq : (q_seed σ v) = (cSeed (xN σ), (yN σ (sSeed (xN σ) v))) := by
    rfl
  exact A_iret dX8_seed_11 rfl (hP _ _ (RQ_i hq (hR.fin (sC.rf sg) (sSeed (xN σ) v))))
