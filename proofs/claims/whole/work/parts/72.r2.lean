theorem sz_i {z : Nat} {i : Int32} (hz : z ≤ 40) (h : 0 ≤ i ∧ i ≤ nI z - 1) : i.toNatClampNeg < z := by
  have e : (nI z - 1).toInt = (z : Int) - 1 := by
    rw [Int32.toInt_sub, nI_toInt (by omega), show (1 : Int32).toInt = 1 by decide]
    exact Int.bmod_eq_of_le (by omega) (by omega)
  have h1 := Int32.le_iff_toInt_le.mp h.1
  have h2 := Int32.le_iff_toInt_le.mp h.2
  rw [e] at h2
  rw [show (0 : Int32).toInt = 0 by decide] at h1
  unfold Int32.toNatClampNeg
  omega
theorem sz_iff {z : Nat} {i : Int32} (hz : z ≤ 40) : (0 ≤ i ∧ i ≤ nI z - 1) ↔ (0 ≤ i ∧ i < nI z) := by
  have e : (nI z - 1).toInt = (z : Int) - 1 := by
    rw [Int32.toInt_sub, nI_toInt (by omega), show (1 : Int32).toInt = 1 by decide]
    exact Int.bmod_eq_of_le (by omega) (by omega)
  rw [Int32.le_iff_toInt_le (y := nI z - 1), Int32.lt_iff_toInt_lt (y := nI z), e, nI_toInt (by omega)]
  exact ⟨fun h => ⟨h.1, by omega⟩, fun h => ⟨h.1, by omega⟩⟩
set_option maxHeartbeats 1000000 in
set_option maxRecDepth 100000 in
theorem y_element (l : Launch) (G : az_Gh) (d : Nat) (sh : List az_Sh) (sg : Nat → Nat → Int32) (la : Nat → Nat → Int64) (g : GGM) (σ : SGM) (kp tr : Option Nat) (s i : Int32) (hM : az_at sh 60 (lyM 60 kp tr)) (hR : RX g sg la σ kp tr) (hW : WF σ)  : AM l G (d + 32) mX8_element [.ref 60, .int s, .int i] (sh, sg, la) 0 0 (RQ sh g kp tr (.long (q_element σ s i)) σ) := by
  refine az_am knX8_element (Nat.le_of_ble_eq_true rfl) rfl (fun Post hP => ?_)
  show AW l G mX8_element (d + 32) (az_F G Post) 0 0 0 [some (.ref 60), some (.int s), some (.int i)] [] (sh, sg, la)
  have hO := hW.1.1.1
  have hL := cW_lv hW.1
  have haw := hW.1.2.2.1
  have h8 := hO.2
  refine A_iload_n dX8_element_0 rfl rfl ?_
  refine A_i2l dX8_element_1 ?_
  refine A_lconst (v := 0) dX8_element_2 (by decide) ?_
  refine A_ldc2 (v := 7) dX8_element_3 lcX8_95 ?_
  refine A_callS (n := 0) dX8_element_6 ksX8_in mlX8_91 rfl (c_X8_inI l G (d + 31) sh sg la s 7 7 (by decide)) (by omega) (Nat.le_refl _) (Nat.le_refl _) rfl (Nat.le_of_ble_eq_true rfl) (fun r S1 hp => ?_)
  obtain ⟨rfl, rfl⟩ := hp
  show AW l G mX8_element (d + 32) (az_F G Post) 0 0 9 [some (.ref 60), some (.int s), some (.int i)] [.int (b2i (0 ≤ s ∧ s ≤ 7))] (sh, sg, la)
  refine A_if_eq (tgt := 51) dX8_element_9 rfl (fun h_1 => ?_) (fun h_1 => ?_)
  · skip
    have h_1' := b2i_0.mp h_1
    refine A_lconst (v := 0) dX8_element_51 (by decide) ?_
    have hq : (q_element σ s i) = 0 := by
      unfold q_element
      rw [if_neg h_1']
    exact A_lret dX8_element_52 rfl (hP _ _ (RQ_l hq hR))
  · skip
    have h_1' := b2i_n.mp h_1
    obtain ⟨s1, hs1, rfl⟩ := nI_ex (m := 7) h_1'
    have hc_s1 : (nI s1).toNatClampNeg = s1 := nI_clamp (by omega)
    have hs8 : s1 < 8 := by omega
    refine A_aload_n dX8_element_12 rfl rfl ?_
    refine B_getR (r := 61) dX8_element_13 flX8_7 (hM 0 _ rfl) rfl ?_
    refine A_iload_n dX8_element_16 rfl rfl ?_
    refine B_ialdV (i := s1) (rTag (xS σ s1)) dX8_element_17 (hM 1 _ rfl) (by decide) (rfl) (by omega) (hR.tag (by omega)) ?_
    refine A_iconst (v := 1) dX8_element_18 (by decide) ?_
    refine A_icmp_ne (tgt := 51) dX8_element_19 rfl (fun h_2 => ?_) (fun h_2 => ?_)
    · skip
      refine A_lconst (v := 0) dX8_element_51 (by decide) ?_
      have hq : (q_element σ (nI s1) i) = 0 := by
        unfold q_element xf xat
        rw [if_pos h_1', hc_s1, if_neg (fun q => ?_)]
        have z : ¬ (¬ fSo (xS σ s1) = -1 ∧ fSh (xS σ s1) = -1) := fun y => h_2 (rTag_1.mpr y)
        have z2 := hW.2.2.2 s1 hs8
        have z3 : fSo (xS σ s1) = -1 := Decidable.byContradiction (fun y => z ⟨y, z2.2.2.1 y⟩)
        rw [z2.2.2.2.1 z3] at q
        exact absurd q.2 (Int32.not_lt.mpr q.1)
      exact A_lret dX8_element_52 rfl (hP _ _ (RQ_l hq hR))
    · skip
      have htg := rTag_1.mp h_2
      refine A_iload_n dX8_element_22 rfl rfl ?_
      refine A_i2l dX8_element_23 ?_
      refine A_lconst (v := 0) dX8_element_24 (by decide) ?_
      refine A_aload_n dX8_element_25 rfl rfl ?_
      refine B_getR (r := 63) dX8_element_26 flX8_16 (hM 0 _ rfl) rfl ?_
      refine A_iload_n dX8_element_29 rfl rfl ?_
      refine B_ialdV (i := s1) (nI (fSz (xS σ s1))) dX8_element_30 (hM 3 _ rfl) (by decide) (rfl) (by omega) (((hR.sh (s := s1) (by omega)).2.1 htg.1).2) ?_
      refine A_iconst (v := 1) dX8_element_31 (by decide) ?_
      refine A_isub dX8_element_32 ?_
      refine A_i2l dX8_element_33 ?_
      refine A_callS (n := 0) dX8_element_34 ksX8_in mlX8_91 rfl (c_X8_inI l G (d + 31) sh sg la i (nI (fSz (xS σ s1)) - 1) (Int32.toInt64 (nI (fSz (xS σ s1)) - 1)) rfl) (by omega) (Nat.le_refl _) (Nat.le_refl _) rfl (Nat.le_of_ble_eq_true rfl) (fun r S1 hp => ?_)
      obtain ⟨rfl, rfl⟩ := hp
      show AW l G mX8_element (d + 32) (az_F G Post) 0 0 37 [some (.ref 60), some (.int (nI s1)), some (.int i)] [.int (b2i (0 ≤ i ∧ i ≤ (nI (fSz (xS σ s1)) - 1)))] (sh, sg, la)
      refine A_if_eq (tgt := 51) dX8_element_37 rfl (fun h_3 => ?_) (fun h_3 => ?_)
      · skip
        have h_3' := b2i_0.mp h_3
        refine A_lconst (v := 0) dX8_element_51 (by decide) ?_
        have hq : (q_element σ (nI s1) i) = 0 := by
          unfold q_element xf xat
          rw [if_pos h_1', hc_s1, if_neg (fun q => h_3' ((sz_iff (hW.2.2.2 s1 hs8).2.1).mpr q))]
        exact A_lret dX8_element_52 rfl (hP _ _ (RQ_l hq hR))
      · skip
        have h_3' := b2i_n.mp h_3
        have hsz := (hW.2.2.2 s1 hs8).2.1
        obtain ⟨i1, hi1, rfl⟩ : ∃ i1, i1 < fSz (xS σ s1) ∧ i = nI i1 := by
          have q := h_3'
          have q2 := nI_nat q.1
          refine ⟨_, ?_, q2⟩
          exact sz_i (by omega) q
        have hc_i1 : (nI i1).toNatClampNeg = i1 := nI_clamp (by omega)
        refine A_aload_n dX8_element_40 rfl rfl ?_
        refine B_getR (r := 64) dX8_element_41 flX8_21 (hM 0 _ rfl) rfl ?_
        refine A_iload_n dX8_element_44 rfl rfl ?_
        have hL_s1 := lyM_row' hM (show s1 < 8 by omega)
        refine B_aald (i := s1) (r := (65 + s1)) dX8_element_45 (hM 4 _ rfl) (by decide) rfl rfl (by decide) (rfl) (by omega) (zsm_r (show s1 < 8 by omega)) ?_
        refine A_iload_n dX8_element_46 rfl rfl ?_
        refine B_lald (i := i1) dX8_element_47 (hL_s1 0 _ rfl) (by decide) (rfl) (by omega) ?_
        refine A_goto (tgt := 52) dX8_element_48 rfl ?_
        have hq : (q_element σ (nI s1) (nI i1)) = la (65 + s1) i1 := by
          unfold q_element xf xat
          rw [if_pos h_1', hc_s1, if_pos ((sz_iff hsz).mp h_3'), hc_i1, (hR.sh hs8).2.2.2]
        exact A_lret dX8_element_52 rfl (hP _ _ (RQ_l hq hR))
set_option maxHeartbeats 1000000 in
set_option maxRecDepth 100000 in
theorem y_holds (l : Launch) (G : az_Gh) (d : Nat) (sh : List az_Sh) (sg : Nat → Nat → Int32) (la : Nat → Nat → Int64) (g : GGM) (σ : SGM) (kp tr : Option Nat) (s : Int32) (hM : az_at sh 60 (lyM 60 kp tr)) (hR : RX g sg la σ kp tr) (hW : WF σ)  : AM l G (d + 32) mX8_holds [.ref 60, .int s] (sh, sg, la) 0 0 (RQ sh g kp tr (.int (q_holds σ s)) σ) := by
  refine az_am knX8_holds (Nat.le_of_ble_eq_true rfl) rfl (fun Post hP => ?_)
  show AW l G mX8_holds (d + 32) (az_F G Post) 0 0 0 [some (.ref 60), some (.int s)] [] (sh, sg, la)
  have hO := hW.1.1.1
  have hL := cW_lv hW.1
  have haw := hW.1.2.2.1
  have h8 := hO.2
  refine A_iload_n dX8_holds_0 rfl rfl ?_
  refine A_i2l dX8_holds_1 ?_
  refine A_lconst (v := 0) dX8_holds_2 (by decide) ?_
  refine A_ldc2 (v := 7) dX8_holds_3 lcX8_95 ?_
  refine A_callS (n := 0) dX8_holds_6 ksX8_in mlX8_91 rfl (c_X8_inI l G (d + 31) sh sg la s 7 7 (by decide)) (by omega) (Nat.le_refl _) (Nat.le_refl _) rfl (Nat.le_of_ble_eq_true rfl) (fun r S1 hp => ?_)
  obtain ⟨rfl, rfl⟩ := hp
  show AW l G mX8_holds (d + 32) (az_F G Post) 0 0 9 [some (.ref 60), some (.int s)] [.int (b2i (0 ≤ s ∧ s ≤ 7))] (sh, sg, la)
  refine A_if_eq (tgt := 21) dX8_holds_9 rfl (fun h_1 => ?_) (fun h_1 => ?_)
  · skip
    have h_1' := b2i_0.mp h_1
    refine A_iconst (v := (-1)) dX8_holds_21 (by decide) ?_
    have hq : (q_holds σ s) = (-1) := by
      unfold q_holds
      rw [if_neg h_1']
    exact A_iret dX8_holds_22 rfl (hP _ _ (RQ_0 hq hR))
  · skip
    have h_1' := b2i_n.mp h_1
    obtain ⟨s1, hs1, rfl⟩ := nI_ex (m := 7) h_1'
    have hc_s1 : (nI s1).toNatClampNeg = s1 := nI_clamp (by omega)
    have hs8 : s1 < 8 := by omega
    refine A_aload_n dX8_holds_12 rfl rfl ?_
    refine B_getR (r := 61) dX8_holds_13 flX8_7 (hM 0 _ rfl) rfl ?_
    refine A_iload_n dX8_holds_16 rfl rfl ?_
    refine B_ialdV (i := s1) (rTag (xS σ s1)) dX8_holds_17 (hM 1 _ rfl) (by decide) (rfl) (by omega) (hR.tag (by omega)) ?_
    refine A_if_ne (tgt := 23) dX8_holds_18 rfl (fun h_2 => ?_) (fun h_2 => ?_)
    · skip
      refine A_aload_n dX8_holds_23 rfl rfl ?_
      refine B_getR (r := 61) dX8_holds_24 flX8_7 (hM 0 _ rfl) rfl ?_
      refine A_iload_n dX8_holds_27 rfl rfl ?_
      refine B_ialdV (i := s1) (rTag (xS σ s1)) dX8_holds_28 (hM 1 _ rfl) (by decide) (rfl) (by omega) (hR.tag (by omega)) ?_
      refine A_iconst (v := 1) dX8_holds_29 (by decide) ?_
      refine A_icmp_ne (tgt := 42) dX8_holds_30 rfl (fun h_3 => ?_) (fun h_3 => ?_)
      · skip
        have htg : ¬ fSh (xS σ s1) = -1 := fun q => by
          by_cases z : fSo (xS σ s1) = -1
          · exact h_2 (rTag_0.mpr ⟨z, q⟩)
          · exact h_3 (rTag_1.mpr ⟨z, q⟩)
        refine A_bipush (v := 10) dX8_holds_42 (by decide) ?_
        refine A_aload_n dX8_holds_44 rfl rfl ?_
        refine B_getR (r := 74) dX8_holds_45 flX8_28 (hM 0 _ rfl) rfl ?_
        refine A_iload_n dX8_holds_48 rfl rfl ?_
        refine B_ialdV (i := s1) (fSh (xS σ s1)) dX8_holds_49 (hM 14 _ rfl) (by decide) (rfl) (by omega) ((hR.sh (s := s1) (by omega)).2.2.1 htg) ?_
        refine A_iadd dX8_holds_50 ?_
        have hq : (q_holds σ (nI s1)) = (10 + fSh (xS σ s1)) := by
          unfold q_holds xf
          rw [if_pos h_1', hc_s1, if_neg htg]
        exact A_iret dX8_holds_51 rfl (hP _ _ (RQ_0 hq hR))
      · skip
        have htg := rTag_1.mp h_3
        refine A_aload_n dX8_holds_33 rfl rfl ?_
        refine B_getR (r := 62) dX8_holds_34 flX8_13 (hM 0 _ rfl) rfl ?_
        refine A_iload_n dX8_holds_37 rfl rfl ?_
        refine B_ialdV (i := s1) (fSo (xS σ s1)) dX8_holds_38 (hM 2 _ rfl) (by decide) (rfl) (by omega) (((hR.sh (s := s1) (by omega)).2.1 htg.1).1) ?_
        refine A_goto (tgt := 51) dX8_holds_39 rfl ?_
        have hq : (q_holds σ (nI s1)) = fSo (xS σ s1) := by
          unfold q_holds xf
          rw [if_pos h_1', hc_s1, if_pos htg.2]
        exact A_iret dX8_holds_51 rfl (hP _ _ (RQ_0 hq hR))
    · skip
      refine A_iconst (v := (-1)) dX8_holds_21 (by decide) ?_
      have hq : (q_holds σ (nI s1)) = (-1) := by
        unfold q_holds xf
        rw [if_pos h_1', hc_s1, if_pos (rTag_0.mp h_2).2]
        exact (rTag_0.mp h_2).1
      exact A_iret dX8_holds_22 rfl (hP _ _ (RQ_0 hq hR))
set_option maxHeartbeats 1000000 in
set_option maxRecDepth 100000 in
theorem y_show (l : Launch) (G : az_Gh) (d : Nat) (sh : List az_Sh) (sg : Nat → Nat → Int32) (la : Nat → Nat → Int64) (g : GGM) (σ : SGM) (kp tr : Option Nat) (s p : Int32) (hM : az_at sh 60 (lyM 60 kp tr)) (hR : RX g sg la σ kp tr) (hW : WF σ)  : AM l G (d + 32) mX8_show [.ref 60, .int s, .int p] (sh, sg, la) 0 0 (RQ sh g kp tr (.int (q_show σ s p).1) (q_show σ s p).2) := by
  refine az_am knX8_show (Nat.le_of_ble_eq_true rfl) rfl (fun Post hP => ?_)
  show AW l G mX8_show (d + 32) (az_F G Post) 0 0 0 [some (.ref 60), some (.int s), some (.int p)] [] (sh, sg, la)
  have hO := hW.1.1.1
  have hL := cW_lv hW.1
  have haw := hW.1.2.2.1
  have h8 := hO.2
  refine A_iload_n dX8_show_0 rfl rfl ?_
  refine A_i2l dX8_show_1 ?_
  refine A_lconst (v := 0) dX8_show_2 (by decide) ?_
  refine A_ldc2 (v := 7) dX8_show_3 lcX8_95 ?_
  refine A_callS (n := 0) dX8_show_6 ksX8_in mlX8_91 rfl (c_X8_inI l G (d + 31) sh sg la s 7 7 (by decide)) (by omega) (Nat.le_refl _) (Nat.le_refl _) rfl (Nat.le_of_ble_eq_true rfl) (fun r S1 hp => ?_)
  obtain ⟨rfl, rfl⟩ := hp
  show AW l G mX8_show (d + 32) (az_F G Post) 0 0 9 [some (.ref 60), some (.int s), some (.int p)] [.int (b2i (0 ≤ s ∧ s ≤ 7))] (sh, sg, la)
  refine A_if_eq (tgt := 26) dX8_show_9 rfl (fun h_1 => ?_) (fun h_1 => ?_)
  · skip
    have h_1' := b2i_0.mp h_1
    refine A_aload_n dX8_show_26 rfl rfl ?_
    refine A_bipush (v := (-2)) dX8_show_27 (by decide) ?_
    refine A_callV (n := 0) dX8_show_29 kvX8_refuse mlX8_101 rfl (az_rc_obj clX8 (hM 0 _ rfl)) (c_X8_refuse l G (d + 31) sh sg la kp tr (-2) 0 hM (by decide) (by decide)) (by omega) (Nat.le_refl _) (Nat.le_refl _) rfl (Nat.le_of_ble_eq_true rfl) (fun r S1 hp => ?_)
    obtain ⟨rfl, rfl⟩ := hp
    show AW l G mX8_show (d + 32) (az_F G Post) 0 0 32 [some (.ref 60), some (.int s), some (.int p)] [.int (-2)] (sh, (az_w sg 76 (0 + 2) (sg 76 (0 + 2) + 1)), la)
    have hq : (q_show σ s p) = ((-2), (rfs σ 0)) := by
      unfold q_show
      try simp only [h_1', and_true, true_and, and_false, false_and, and_self, or_true, true_or, or_false, false_or, not_true_eq_false, not_false_eq_true, if_true, if_false, ite_true, ite_false, decide_true, decide_false, reduceIte]
      first | done | rfl
    exact A_iret dX8_show_32 rfl (hP _ _ (RQ_i hq (hR.ref (k := 0) (by decide))))
  · skip
    have h_1' := b2i_n.mp h_1
    refine A_iload_n dX8_show_12 rfl rfl ?_
    refine A_iconst (v := (-1)) dX8_show_13 (by decide) ?_
    refine A_icmp_eq (tgt := 33) dX8_show_14 rfl (fun h_2 => ?_) (fun h_2 => ?_)
    · skip
      have hpp : p = -1 ∨ (0 ≤ p ∧ p < cPp (xN σ)) := Or.inl h_2
      obtain ⟨s1, hs1, rfl⟩ := nI_ex (m := 7) h_1'
      have hc_s1 : (nI s1).toNatClampNeg = s1 := nI_clamp (by omega)
      have hs8 : s1 < 8 := by omega
      refine A_aload_n dX8_show_33 rfl rfl ?_
      refine B_getR (r := 61) dX8_show_34 flX8_7 (hM 0 _ rfl) rfl ?_
      refine A_iload_n dX8_show_37 rfl rfl ?_
      refine A_iload_n dX8_show_38 rfl rfl ?_
      refine A_iconst (v := (-1)) dX8_show_39 (by decide) ?_
      refine A_icmp_ne (tgt := 47) dX8_show_40 rfl (fun h_3 => ?_) (fun h_3 => ?_)
      · skip
        refine A_iconst (v := 2) dX8_show_47 (by decide) ?_
        refine B_iast (i := s1) dX8_show_48 (hM 1 _ rfl) (by decide) (rfl) (by omega) ?_
        refine A_aload_n dX8_show_49 rfl rfl ?_
        refine B_getR (r := 74) dX8_show_50 flX8_28 (hM 0 _ rfl) rfl ?_
        refine A_iload_n dX8_show_53 rfl rfl ?_
        refine A_iload_n dX8_show_54 rfl rfl ?_
        refine B_iast (i := s1) dX8_show_55 (hM 14 _ rfl) (by decide) (rfl) (by omega) ?_
        refine A_iconst (v := 1) dX8_show_56 (by decide) ?_
        have hR2 : RX g _ _ (yS σ (va_up (xS σ) s1 (-1, 0, p, fEl (xS σ s1)))) kp tr := hR.setS (s' := (az_w (az_w sg 61 s1 2) 74 s1 p)) (l' := la) (f := (-1, 0, p, fEl (xS σ s1))) (fun k a b c d => by rw [az_w_ne d, az_w_ne a]) (fun k j hj hk => by rcases hk with rfl | rfl | rfl | rfl <;> simp [az_w, va_up, hj]) (fun k hk _ => rfl) hs8 ⟨by rw [az_w_ne (by decide), az_w_at]; exact (rTag_2 (f := (-1, 0, p, fEl (xS σ s1))).mpr h_3).symm, fun q => absurd rfl q, fun _ => az_w_at _ _ _ _, (hR.sh hs8).2.2.2⟩
        have hq : (q_show σ (nI s1) p) = (1, yS σ (va_up (xS σ) s1 (-1, 0, p, fEl (xS σ s1)))) := by
          unfold q_show xf
          rw [if_pos ⟨h_1', hpp⟩, hc_s1]
        exact A_iret dX8_show_57 rfl (hP _ _ (RQ_i hq hR2))
      · skip
        refine A_iconst (v := 0) dX8_show_43 (by decide) ?_
        refine A_goto (tgt := 48) dX8_show_44 rfl ?_
        refine B_iast (i := s1) dX8_show_48 (hM 1 _ rfl) (by decide) (rfl) (by omega) ?_
        refine A_aload_n dX8_show_49 rfl rfl ?_
        refine B_getR (r := 74) dX8_show_50 flX8_28 (hM 0 _ rfl) rfl ?_
        refine A_iload_n dX8_show_53 rfl rfl ?_
        refine A_iload_n dX8_show_54 rfl rfl ?_
        refine B_iast (i := s1) dX8_show_55 (hM 14 _ rfl) (by decide) (rfl) (by omega) ?_
        refine A_iconst (v := 1) dX8_show_56 (by decide) ?_
        have hR2 : RX g _ _ (yS σ (va_up (xS σ) s1 (-1, 0, p, fEl (xS σ s1)))) kp tr := hR.setS (s' := (az_w (az_w sg 61 s1 0) 74 s1 p)) (l' := la) (f := (-1, 0, p, fEl (xS σ s1))) (fun k a b c d => by rw [az_w_ne d, az_w_ne a]) (fun k j hj hk => by rcases hk with rfl | rfl | rfl | rfl <;> simp [az_w, va_up, hj]) (fun k hk _ => rfl) hs8 ⟨by rw [az_w_ne (by decide), az_w_at]; exact (rTag_0 (f := (-1, 0, p, fEl (xS σ s1))).mpr ⟨rfl, h_3⟩).symm, fun q => absurd rfl q, fun _ => az_w_at _ _ _ _, (hR.sh hs8).2.2.2⟩
        have hq : (q_show σ (nI s1) p) = (1, yS σ (va_up (xS σ) s1 (-1, 0, p, fEl (xS σ s1)))) := by
          unfold q_show xf
          rw [if_pos ⟨h_1', hpp⟩, hc_s1]
        exact A_iret dX8_show_57 rfl (hP _ _ (RQ_i hq hR2))
    · skip
      refine A_aload_n dX8_show_17 rfl rfl ?_
      refine A_iload_n dX8_show_18 rfl rfl ?_
      refine A_i2l dX8_show_19 ?_
      refine B_sg hR.z.symm ?_
      refine A_callV (n := 0) dX8_show_20 kvX8_isPerson mlX8_112 rfl (az_rc_obj clX8 (hM 0 _ rfl)) (r_isPerson l G (d + 30) sh sg la kp tr (xN σ) p hM hO) (by omega) (Nat.le_refl _) (Nat.le_refl _) rfl (Nat.le_of_ble_eq_true rfl) (fun r S1 hp => ?_)
      obtain ⟨rfl, rfl⟩ := hp
      show AW l G mX8_show (d + 32) (az_F G Post) 0 0 23 [some (.ref 60), some (.int s), some (.int p)] [.int (b2i (0 ≤ p ∧ p < cPp (xN σ)))] (sh, (mput sg 60 (xN σ)), la)
      refine B_sg hR.z ?_
      show AW l G mX8_show (d + 32) (az_F G Post) 0 0 23 [some (.ref 60), some (.int s), some (.int p)] [.int (b2i (0 ≤ p ∧ p < cPp (xN σ)))] (sh, sg, la)
      refine A_if_ne (tgt := 33) dX8_show_23 rfl (fun h_4 => ?_) (fun h_4 => ?_)
      · skip
        have h_4' := b2i_n.mp h_4
        have hpp : p = -1 ∨ (0 ≤ p ∧ p < cPp (xN σ)) := Or.inr h_4'
        obtain ⟨s1, hs1, rfl⟩ := nI_ex (m := 7) h_1'
        have hc_s1 : (nI s1).toNatClampNeg = s1 := nI_clamp (by omega)
        have hs8 : s1 < 8 := by omega
        refine A_aload_n dX8_show_33 rfl rfl ?_
        refine B_getR (r := 61) dX8_show_34 flX8_7 (hM 0 _ rfl) rfl ?_
        refine A_iload_n dX8_show_37 rfl rfl ?_
        refine A_iload_n dX8_show_38 rfl rfl ?_
        refine A_iconst (v := (-1)) dX8_show_39 (by decide) ?_
        refine A_icmp_ne (tgt := 47) dX8_show_40 rfl (fun h_5 => ?_) (fun h_5 => ?_)
        · skip
          refine A_iconst (v := 2) dX8_show_47 (by decide) ?_
          refine B_iast (i := s1) dX8_show_48 (hM 1 _ rfl) (by decide) (rfl) (by omega) ?_
          refine A_aload_n dX8_show_49 rfl rfl ?_
          refine B_getR (r := 74) dX8_show_50 flX8_28 (hM 0 _ rfl) rfl ?_
          refine A_iload_n dX8_show_53 rfl rfl ?_
          refine A_iload_n dX8_show_54 rfl rfl ?_
          refine B_iast (i := s1) dX8_show_55 (hM 14 _ rfl) (by decide) (rfl) (by omega) ?_
          refine A_iconst (v := 1) dX8_show_56 (by decide) ?_
          have hR2 : RX g _ _ (yS σ (va_up (xS σ) s1 (-1, 0, p, fEl (xS σ s1)))) kp tr := hR.setS (s' := (az_w (az_w sg 61 s1 2) 74 s1 p)) (l' := la) (f := (-1, 0, p, fEl (xS σ s1))) (fun k a b c d => by rw [az_w_ne d, az_w_ne a]) (fun k j hj hk => by rcases hk with rfl | rfl | rfl | rfl <;> simp [az_w, va_up, hj]) (fun k hk _ => rfl) hs8 ⟨by rw [az_w_ne (by decide), az_w_at]; exact (rTag_2 (f := (-1, 0, p, fEl (xS σ s1))).mpr h_5).symm, fun q => absurd rfl q, fun _ => az_w_at _ _ _ _, (hR.sh hs8).2.2.2⟩
          have hq : (q_show σ (nI s1) p) = (1, yS σ (va_up (xS σ) s1 (-1, 0, p, fEl (xS σ s1)))) := by
            unfold q_show xf
            rw [if_pos ⟨h_1', hpp⟩, hc_s1]
          exact A_iret dX8_show_57 rfl (hP _ _ (RQ_i hq hR2))
        · skip
          refine A_iconst (v := 0) dX8_show_43 (by decide) ?_
          refine A_goto (tgt := 48) dX8_show_44 rfl ?_
          refine B_iast (i := s1) dX8_show_48 (hM 1 _ rfl) (by decide) (rfl) (by omega) ?_
          refine A_aload_n dX8_show_49 rfl rfl ?_
          refine B_getR (r := 74) dX8_show_50 flX8_28 (hM 0 _ rfl) rfl ?_
          refine A_iload_n dX8_show_53 rfl rfl ?_
          refine A_iload_n dX8_show_54 rfl rfl ?_
          refine B_iast (i := s1) dX8_show_55 (hM 14 _ rfl) (by decide) (rfl) (by omega) ?_
          refine A_iconst (v := 1) dX8_show_56 (by decide) ?_
          have hR2 : RX g _ _ (yS σ (va_up (xS σ) s1 (-1, 0, p, fEl (xS σ s1)))) kp tr := hR.setS (s' := (az_w (az_w sg 61 s1 0) 74 s1 p)) (l' := la) (f := (-1, 0, p, fEl (xS σ s1))) (fun k a b c d => by rw [az_w_ne d, az_w_ne a]) (fun k j hj hk => by rcases hk with rfl | rfl | rfl | rfl <;> simp [az_w, va_up, hj]) (fun k hk _ => rfl) hs8 ⟨by rw [az_w_ne (by decide), az_w_at]; exact (rTag_0 (f := (-1, 0, p, fEl (xS σ s1))).mpr ⟨rfl, h_5⟩).symm, fun q => absurd rfl q, fun _ => az_w_at _ _ _ _, (hR.sh hs8).2.2.2⟩
          have hq : (q_show σ (nI s1) p) = (1, yS σ (va_up (xS σ) s1 (-1, 0, p, fEl (xS σ s1)))) := by
            unfold q_show xf
            rw [if_pos ⟨h_1', hpp⟩, hc_s1]
          exact A_iret dX8_show_57 rfl (hP _ _ (RQ_i hq hR2))
      · skip
        have h_4' := b2i_0.mp h_4
        refine A_aload_n dX8_show_26 rfl rfl ?_
        refine A_bipush (v := (-2)) dX8_show_27 (by decide) ?_
        refine A_callV (n := 0) dX8_show_29 kvX8_refuse mlX8_101 rfl (az_rc_obj clX8 (hM 0 _ rfl)) (c_X8_refuse l G (d + 31) sh sg la kp tr (-2) 0 hM (by decide) (by decide)) (by omega) (Nat.le_refl _) (Nat.le_refl _) rfl (Nat.le_of_ble_eq_true rfl) (fun r S1 hp => ?_)
        obtain ⟨rfl, rfl⟩ := hp
        show AW l G mX8_show (d + 32) (az_F G Post) 0 0 32 [some (.ref 60), some (.int s), some (.int p)] [.int (-2)] (sh, (az_w sg 76 (0 + 2) (sg 76 (0 + 2) + 1)), la)
        have hq : (q_show σ s p) = ((-2), (rfs σ 0)) := by
          unfold q_show
          try simp only [h_1', h_2, h_4', and_true, true_and, and_false, false_and, and_self, or_true, true_or, or_false, false_or, not_true_eq_false, not_false_eq_true, if_true, if_false, ite_true, ite_false, decide_true, decide_false, reduceIte]
          first | done | rfl
        exact A_iret dX8_show_32 rfl (hP _ _ (RQ_i hq (hR.ref (k := 0) (by decide))))
def q_noRow (σ : SGM) (s : Int32) : Int32 × SGM := if q_rf σ s 0 = 0 then (0, σ) else qr σ (q_rf σ s 0)
theorem q_rf_a {σ : SGM} {s n : Int32} (h : ¬ (0 ≤ s ∧ s ≤ 7)) : q_rf σ s n = -2 := if_neg h
theorem q_rf_b {σ : SGM} {s n : Int32} (h : 0 ≤ s ∧ s ≤ 7) (h2 : rTag (xf σ s) = 2) : q_rf σ s n = -3 := by unfold q_rf; rw [if_pos h, if_pos (rTag_2.mp h2)]
theorem q_rf_c {σ : SGM} {s n : Int32} (h : 0 ≤ s ∧ s ≤ 7) (h2 : rTag (xf σ s) = 0) : q_rf σ s n = -4 := by unfold q_rf; rw [if_pos h, if_neg (fun q => q (rTag_0.mp h2).2), if_pos (rTag_0.mp h2)]
theorem rTag_r {f : SHF} (h : ¬ rTag f = 2) (h2 : ¬ rTag f = 0) : ¬ fSo f = -1 ∧ fSh f = -1 := by
  have a : fSh f = -1 := Decidable.byContradiction (fun q => h (rTag_2.mpr q))
  exact ⟨fun q => h2 (rTag_0.mpr ⟨q, a⟩), a⟩
theorem q_rf_d {σ : SGM} {s n : Int32} (h : 0 ≤ s ∧ s ≤ 7) (h2 : ¬ rTag (xf σ s) = 2) (h3 : ¬ rTag (xf σ s) = 0) : q_rf σ s n = if n ≤ nI (fSz (xf σ s)) then 0 else -2 := by
  have q := rTag_r h2 h3
  unfold q_rf
  rw [if_pos h, if_neg (fun z => z q.2), if_neg (fun z => q.1 z.1)]
theorem q_rf_p {σ : SGM} {s : Int32} (hW : WF σ) (h : 0 ≤ s ∧ s ≤ 7) (h2 : ¬ rTag (xf σ s) = 2) (h3 : ¬ rTag (xf σ s) = 0) : q_rf σ s 0 = 0 := by
  rw [q_rf_d h h2 h3]
  obtain ⟨k, hk, rfl⟩ := nI_ex (m := 7) h
  have hz := (hW.2.2.2 k (by omega)).2.1
  have e : xf σ (nI k) = xS σ k := by unfold xf; rw [nI_clamp (by omega)]
  rw [e, if_pos (nI_pos' (by omega))]
set_option maxHeartbeats 1000000 in
set_option maxRecDepth 100000 in
theorem y_noRow (l : Launch) (G : az_Gh) (d : Nat) (sh : List az_Sh) (sg : Nat → Nat → Int32) (la : Nat → Nat → Int64) (g : GGM) (σ : SGM) (kp tr : Option Nat) (s : Int32) (hM : az_at sh 60 (lyM 60 kp tr)) (hR : RX g sg la σ kp tr) (hW : WF σ)  : AM l G (d + 3) mX8_noRow [.ref 60, .int s] (sh, sg, la) 0 0 (RQ sh g kp tr (.int (q_noRow σ s).1) (q_noRow σ s).2) := by
  refine az_am knX8_noRow (Nat.le_of_ble_eq_true rfl) rfl (fun Post hP => ?_)
  show AW l G mX8_noRow (d + 3) (az_F G Post) 0 0 0 [some (.ref 60), some (.int s)] [] (sh, sg, la)
  have hO := hW.1.1.1
  have hL := cW_lv hW.1
  have haw := hW.1.2.2.1
  have h8 := hO.2
  refine A_iload_n dX8_noRow_0 rfl rfl ?_
  refine A_i2l dX8_noRow_1 ?_
  refine A_lconst (v := 0) dX8_noRow_2 (by decide) ?_
  refine A_ldc2 (v := 7) dX8_noRow_3 lcX8_95 ?_
  refine A_callS (n := 0) dX8_noRow_6 ksX8_in mlX8_91 rfl (c_X8_inI l G (d + 2) sh sg la s 7 7 (by decide)) (by omega) (Nat.le_refl _) (Nat.le_refl _) rfl (Nat.le_of_ble_eq_true rfl) (fun r S1 hp => ?_)
  obtain ⟨rfl, rfl⟩ := hp
  show AW l G mX8_noRow (d + 3) (az_F G Post) 0 0 9 [some (.ref 60), some (.int s)] [.int (b2i (0 ≤ s ∧ s ≤ 7))] (sh, sg, la)
  refine A_if_ne (tgt := 19) dX8_noRow_9 rfl (fun h_1 => ?_) (fun h_1 => ?_)
  · skip
    have h_1' := b2i_n.mp h_1
    obtain ⟨s1, hs1, rfl⟩ := nI_ex (m := 7) h_1'
    have hc_s1 : (nI s1).toNatClampNeg = s1 := nI_clamp (by omega)
    have hs8 : s1 < 8 := by omega
    have exf : xf σ (nI s1) = xS σ s1 := by unfold xf; rw [hc_s1]
    refine A_aload_n dX8_noRow_19 rfl rfl ?_
    refine B_getR (r := 61) dX8_noRow_20 flX8_7 (hM 0 _ rfl) rfl ?_
    refine A_iload_n dX8_noRow_23 rfl rfl ?_
    refine B_ialdV (i := s1) (rTag (xS σ s1)) dX8_noRow_24 (hM 1 _ rfl) (by decide) (rfl) (by omega) (hR.tag (by omega)) ?_
    refine A_iconst (v := 2) dX8_noRow_25 (by decide) ?_
    refine A_icmp_ne (tgt := 36) dX8_noRow_26 rfl (fun h_2 => ?_) (fun h_2 => ?_)
    · skip
      refine A_aload_n dX8_noRow_36 rfl rfl ?_
      refine B_getR (r := 61) dX8_noRow_37 flX8_7 (hM 0 _ rfl) rfl ?_
      refine A_iload_n dX8_noRow_40 rfl rfl ?_
      refine B_ialdV (i := s1) (rTag (xS σ s1)) dX8_noRow_41 (hM 1 _ rfl) (by decide) (rfl) (by omega) (hR.tag (by omega)) ?_
      refine A_if_ne (tgt := 54) dX8_noRow_42 rfl (fun h_3 => ?_) (fun h_3 => ?_)
      · skip
        refine A_iconst (v := 0) dX8_noRow_54 (by decide) ?_
        have hq : (q_noRow σ (nI s1)) = (0, σ) := by
          unfold q_noRow
          rw [if_pos (q_rf_p hW h_1' (by rw [exf]; exact h_2) (by rw [exf]; exact h_3))]
        exact A_iret dX8_noRow_55 rfl (hP _ _ (RQ_i hq hR))
      · skip
        refine A_aload_n dX8_noRow_45 rfl rfl ?_
        refine A_bipush (v := (-4)) dX8_noRow_46 (by decide) ?_
        refine A_callV (n := 0) dX8_noRow_48 kvX8_refuse mlX8_101 rfl (az_rc_obj clX8 (hM 0 _ rfl)) (c_X8_refuse l G (d + 2) sh sg la kp tr (-4) 2 hM (by decide) (by decide)) (by omega) (Nat.le_refl _) (Nat.le_refl _) rfl (Nat.le_of_ble_eq_true rfl) (fun r S1 hp => ?_)
        obtain ⟨rfl, rfl⟩ := hp
        show AW l G mX8_noRow (d + 3) (az_F G Post) 0 0 51 [some (.ref 60), some (.int (nI s1))] [.int (-4)] (sh, (az_w sg 76 (2 + 2) (sg 76 (2 + 2) + 1)), la)
        refine A_goto (tgt := 55) dX8_noRow_51 rfl ?_
        have hq : (q_noRow σ (nI s1)) = ((-4), (rfs σ 2)) := by
          unfold q_noRow
          rw [q_rf_c h_1' (by rw [exf]; exact h_3), if_neg (by decide)]
          first | done | rfl
        exact A_iret dX8_noRow_55 rfl (hP _ _ (RQ_i hq (hR.ref (k := 2) (by decide))))
    · skip
      refine A_aload_n dX8_noRow_29 rfl rfl ?_
      refine A_bipush (v := (-3)) dX8_noRow_30 (by decide) ?_
      refine A_callV (n := 0) dX8_noRow_32 kvX8_refuse mlX8_101 rfl (az_rc_obj clX8 (hM 0 _ rfl)) (c_X8_refuse l G (d + 2) sh sg la kp tr (-3) 1 hM (by decide) (by decide)) (by omega) (Nat.le_refl _) (Nat.le_refl _) rfl (Nat.le_of_ble_eq_true rfl) (fun r S1 hp => ?_)
      obtain ⟨rfl, rfl⟩ := hp
      show AW l G mX8_noRow (d + 3) (az_F G Post) 0 0 35 [some (.ref 60), some (.int (nI s1))] [.int (-3)] (sh, (az_w sg 76 (1 + 2) (sg 76 (1 + 2) + 1)), la)
      have hq : (q_noRow σ (nI s1)) = ((-3), (rfs σ 1)) := by
        unfold q_noRow
        rw [q_rf_b h_1' (by rw [exf]; exact h_2), if_neg (by decide)]
        first | done | rfl
      exact A_iret dX8_noRow_35 rfl (hP _ _ (RQ_i hq (hR.ref (k := 1) (by decide))))
  · skip
    have h_1' := b2i_0.mp h_1
    refine A_aload_n dX8_noRow_12 rfl rfl ?_
    refine A_bipush (v := (-2)) dX8_noRow_13 (by decide) ?_
    refine A_callV (n := 0) dX8_noRow_15 kvX8_refuse mlX8_101 rfl (az_rc_obj clX8 (hM 0 _ rfl)) (c_X8_refuse l G (d + 2) sh sg la kp tr (-2) 0 hM (by decide) (by decide)) (by omega) (Nat.le_refl _) (Nat.le_refl _) rfl (Nat.le_of_ble_eq_true rfl) (fun r S1 hp => ?_)
    obtain ⟨rfl, rfl⟩ := hp
    show AW l G mX8_noRow (d + 3) (az_F G Post) 0 0 18 [some (.ref 60), some (.int s)] [.int (-2)] (sh, (az_w sg 76 (0 + 2) (sg 76 (0 + 2) + 1)), la)
    have hq : (q_noRow σ s) = ((-2), (rfs σ 0)) := by
      unfold q_noRow
      rw [q_rf_a h_1', if_neg (by decide)]
      first | done | rfl
    exact A_iret dX8_noRow_18 rfl (hP _ _ (RQ_i hq (hR.ref (k := 0) (by decide))))
theorem q_nr_0 {σ : SGM} {s : Int32} (h : (q_noRow σ s).1 = 0) : q_rf σ s 0 = 0 := by
  unfold q_noRow at h
  by_cases q : q_rf σ s 0 = 0
  · exact q
  · rw [if_neg q] at h; exact h

set_option maxHeartbeats 600000 in
set_option maxRecDepth 100000 in
theorem c_X8_fit (l : Launch) (G : az_Gh) (d : Nat) (sh : List az_Sh) (sg : Nat → Nat → Int32) (la : Nat → Nat → Int64) (t : Nat) (v : Int64) (ht : t ≤ 4) : FM l G (d) mX8_fit [.int (nI t), .long v] (sh, sg, la) (some (.long (zfit (nI t) v))) (sh, sg, la) := by
  refine az_fm knX8_fit (Nat.le_of_ble_eq_true rfl) rfl (fun Post hP => ?_)
  show AW l G mX8_fit (d) (az_F G Post) 0 0 0 [some (.int (nI t)), some (.long v), none] [] (sh, sg, la)
  refine A_iload_n dX8_fit_0 rfl rfl ?_
  rcases (by omega : t = 0 ∨ t = 1 ∨ t = 2 ∨ t = 3 ∨ t = 4) with rfl | rfl | rfl | rfl | rfl
  · skip
    refine A_tableIn (off := 31) (tgt := 32) dX8_fit_1 (by decide) (by decide) rfl rfl ?_
    refine A_lload_n dX8_fit_32 rfl rfl ?_
    refine A_l2i dX8_fit_33 ?_
    refine A_i2b dX8_fit_34 ?_
    refine A_i2l dX8_fit_35 ?_
    refine A_lret dX8_fit_36 rfl (az_pl hP ?_ (rfl))
    (show _ = zfit 0 v; unfold zfit; rw [if_pos rfl])
  · skip
    refine A_tableIn (off := 36) (tgt := 37) dX8_fit_1 (by decide) (by decide) rfl rfl ?_
    refine A_lload_n dX8_fit_37 rfl rfl ?_
    refine A_l2i dX8_fit_38 ?_
    refine A_i2s dX8_fit_39 ?_
    refine A_i2l dX8_fit_40 ?_
    refine A_lret dX8_fit_41 rfl (az_pl hP ?_ (rfl))
    (show _ = zfit 1 v; unfold zfit; rw [if_neg (by decide), if_pos rfl])
  · skip
    refine A_tableIn (off := 41) (tgt := 42) dX8_fit_1 (by decide) (by decide) rfl rfl ?_
    refine A_lload_n dX8_fit_42 rfl rfl ?_
    refine A_l2i dX8_fit_43 ?_
    refine A_i2l dX8_fit_44 ?_
    refine A_lret dX8_fit_45 rfl (az_pl hP ?_ (rfl))
    (show _ = zfit 2 v; unfold zfit; rw [if_neg (by decide), if_neg (by decide), if_pos rfl])
  · skip
    refine A_tableIn (off := 45) (tgt := 46) dX8_fit_1 (by decide) (by decide) rfl rfl ?_
    refine A_lload_n dX8_fit_46 rfl rfl ?_
    refine A_lret dX8_fit_47 rfl (az_pl hP ?_ (rfl))
    (show _ = zfit 3 v; unfold zfit; rw [if_neg (by decide), if_neg (by decide), if_neg (by decide), if_neg (by decide)])
  · skip
    refine A_tableOut (tgt := 48) dX8_fit_1 (by decide) rfl ?_
    refine A_lload_n dX8_fit_48 rfl rfl ?_
    refine A_lconst (v := 0) dX8_fit_49 (by decide) ?_
    refine A_lcmp dX8_fit_50 ?_
    refine A_if_eq (tgt := 58) dX8_fit_51 rfl (fun h_1 => ?_) (fun h_1 => ?_)
    · skip
      refine A_lconst (v := 0) dX8_fit_58 (by decide) ?_
      refine A_lret dX8_fit_59 rfl (az_pl hP ?_ (rfl))
      (show _ = zfit 4 v; unfold zfit; rw [if_neg (by decide), if_neg (by decide), if_neg (by decide), if_pos rfl, if_pos (lcmp_0.mp h_1)])
    · skip
      refine A_lconst (v := 1) dX8_fit_54 (by decide) ?_
      refine A_goto (tgt := 59) dX8_fit_55 rfl ?_
      refine A_lret dX8_fit_59 rfl (az_pl hP ?_ (rfl))
      (show _ = zfit 4 v; unfold zfit; rw [if_neg (by decide), if_neg (by decide), if_neg (by decide), if_pos rfl, if_neg (fun q => h_1 (lcmp_0.mpr q))])
set_option maxHeartbeats 1000000 in
set_option maxRecDepth 100000 in
theorem y_set (l : Launch) (G : az_Gh) (d : Nat) (sh : List az_Sh) (sg : Nat → Nat → Int32) (la : Nat → Nat → Int64) (g : GGM) (σ : SGM) (kp tr : Option Nat) (s i : Int32) (v : Int64) (hM : az_at sh 60 (lyM 60 kp tr)) (hR : RX g sg la σ kp tr) (hW : WF σ)  : AM l G (d + 32) mX8_set [.ref 60, .int s, .int i, .long v] (sh, sg, la) 0 0 (RQ sh g kp tr (.int (q_set σ s i v).1) (q_set σ s i v).2) := by
  refine az_am knX8_set (Nat.le_of_ble_eq_true rfl) rfl (fun Post hP => ?_)
  show AW l G mX8_set (d + 32) (az_F G Post) 0 0 0 [some (.ref 60), some (.int s), some (.int i), some (.long v), none, none] [] (sh, sg, la)
  have hO := hW.1.1.1
  have hL := cW_lv hW.1
  have haw := hW.1.2.2.1
  have h8 := hO.2
  refine A_aload_n dX8_set_0 rfl rfl ?_
  refine A_iload_n dX8_set_1 rfl rfl ?_
  refine A_callV (n := 0) dX8_set_2 kvX8_noRow mlX8_105 rfl (az_rc_obj clX8 (hM 0 _ rfl)) (y_noRow l G (d + 28) sh sg la g σ kp tr s hM hR hW) (by omega) (Nat.le_refl _) (Nat.le_refl _) rfl (Nat.le_of_ble_eq_true rfl) (fun r S1 hp => ?_)
  obtain ⟨rfl, sg1, la1, rfl, hR1⟩ := hp
  show AW l G mX8_set (d + 32) (az_F G Post) 0 0 5 [some (.ref 60), some (.int s), some (.int i), some (.long v), none, none] [.int (q_noRow σ s).1] (sh, sg1, la1)
  refine A_istore (lo2 := [some (.ref 60), some (.int s), some (.int i), some (.long v), none, some (.int (q_noRow σ s).1)]) dX8_set_5 (by decide) rfl ?_
  refine A_iload dX8_set_7 rfl ?_
  refine A_if_eq (tgt := 15) dX8_set_9 rfl (fun h_1 => ?_) (fun h_1 => ?_)
  · skip
    have hnz : q_rf σ s 0 = 0 := q_nr_0 h_1
    have enr : q_noRow σ s = (0, σ) := by unfold q_noRow; rw [if_pos hnz]
    rw [enr] at hR1
    obtain ⟨hsh, hb1, hb2, hb3⟩ := q_rf_0 hnz
    obtain ⟨s1, hs1, rfl⟩ := nI_ex (m := 7) hsh
    have hc_s1 : (nI s1).toNatClampNeg = s1 := nI_clamp (by omega)
    have hs8 : s1 < 8 := by omega
    have exf : xf σ (nI s1) = xS σ s1 := by unfold xf; rw [hc_s1]
    rw [exf] at hb1 hb2 hb3
    refine A_iload_n dX8_set_15 rfl rfl ?_
    refine A_i2l dX8_set_16 ?_
    refine A_lconst (v := 0) dX8_set_17 (by decide) ?_
    refine A_aload_n dX8_set_18 rfl rfl ?_
    refine B_getR (r := 63) dX8_set_19 flX8_16 (hM 0 _ rfl) rfl ?_
    refine A_iload_n dX8_set_22 rfl rfl ?_
    refine B_ialdV (i := s1) (nI (fSz (xS σ s1))) dX8_set_23 (hM 3 _ rfl) (by decide) (rfl) (by omega) (((hR1.sh (s := s1) (by omega)).2.1 hb2).2) ?_
    refine A_iconst (v := 1) dX8_set_24 (by decide) ?_
    refine A_isub dX8_set_25 ?_
    refine A_i2l dX8_set_26 ?_
    refine A_callS (n := 0) dX8_set_27 ksX8_in mlX8_91 rfl (c_X8_inI l G (d + 31) sh sg1 la1 i (nI (fSz (xS σ s1)) - 1) (Int32.toInt64 (nI (fSz (xS σ s1)) - 1)) rfl) (by omega) (Nat.le_refl _) (Nat.le_refl _) rfl (Nat.le_of_ble_eq_true rfl) (fun r S1 hp => ?_)
    obtain ⟨rfl, rfl⟩ := hp
    show AW l G mX8_set (d + 32) (az_F G Post) 0 0 30 [some (.ref 60), some (.int (nI s1)), some (.int i), some (.long v), none, some (.int (q_noRow σ (nI s1)).1)] [.int (b2i (0 ≤ i ∧ i ≤ (nI (fSz (xS σ s1)) - 1)))] (sh, sg1, la1)
    refine A_if_ne (tgt := 40) dX8_set_30 rfl (fun h_2 => ?_) (fun h_2 => ?_)
    · skip
      have h_2' := b2i_n.mp h_2
      have hsz := (hW.2.2.2 s1 hs8).2.1
      have hpl := (sz_iff hsz).mp h_2'
      have hi1 : i.toNatClampNeg < fSz (xS σ s1) := sz_i hsz h_2'
      have ei : i = nI i.toNatClampNeg := nI_nat hpl.1
      refine A_aload_n dX8_set_40 rfl rfl ?_
      refine B_getR (r := 64) dX8_set_41 flX8_21 (hM 0 _ rfl) rfl ?_
      refine A_iload_n dX8_set_44 rfl rfl ?_
      have hL_s1 := lyM_row' hM (show s1 < 8 by omega)
      refine B_aald (i := s1) (r := (65 + s1)) dX8_set_45 (hM 4 _ rfl) (by decide) rfl rfl (by decide) (rfl) (by omega) (zsm_r (show s1 < 8 by omega)) ?_
      refine A_iload_n dX8_set_46 rfl rfl ?_
      refine A_aload_n dX8_set_47 rfl rfl ?_
      refine B_getR (r := 62) dX8_set_48 flX8_13 (hM 0 _ rfl) rfl ?_
      refine A_iload_n dX8_set_51 rfl rfl ?_
      refine B_ialdV (i := s1) (fSo (xS σ s1)) dX8_set_52 (hM 2 _ rfl) (by decide) (rfl) (by omega) (((hR1.sh (s := s1) (by omega)).2.1 hb2).1) ?_
      obtain ⟨t9, ht9, et9⟩ := (hW.2.2.2 s1 hs8).1.resolve_left hb2
      refine B_top et9 ?_
      refine A_lload_n dX8_set_53 rfl rfl ?_
      refine A_callS (n := 0) dX8_set_54 ksX8_fit mlX8_108 rfl (c_X8_fit l G (d + 31) sh sg1 la1 t9 v ht9) (by omega) (Nat.le_refl _) (Nat.le_refl _) rfl (Nat.le_of_ble_eq_true rfl) (fun r S1 hp => ?_)
      obtain ⟨rfl, rfl⟩ := hp
      show AW l G mX8_set (d + 32) (az_F G Post) 0 0 57 [some (.ref 60), some (.int (nI s1)), some (.int i), some (.long v), none, some (.int (q_noRow σ (nI s1)).1)] [.long (zfit (nI t9) v), .int i, .ref (65 + s1)] (sh, sg1, la1)
      refine B_last (i := i.toNatClampNeg) dX8_set_57 (hL_s1 0 _ rfl) (by decide) (ei) (by omega) ?_
      refine A_iconst (v := 1) dX8_set_58 (by decide) ?_
      have hR2 : RX g _ _ (yS σ (va_up (xS σ) s1 (fSo (xS σ s1), fSz (xS σ s1), fSh (xS σ s1), va_up (fEl (xS σ s1)) i.toNatClampNeg (zfit (fSo (xS σ s1)) v)))) kp tr := hR1.setS (s' := sg1) (l' := (az_wL la1 (65 + s1) i.toNatClampNeg (zfit (nI t9) v))) (f := (fSo (xS σ s1), fSz (xS σ s1), fSh (xS σ s1), va_up (fEl (xS σ s1)) i.toNatClampNeg (zfit (fSo (xS σ s1)) v))) (fun k a b c d => rfl) (fun k j hj hk => rfl) (fun k hk _ => by unfold az_wL; exact az_up_ne hk) hs8 ⟨(hR1.sh hs8).1, (hR1.sh hs8).2.1, (hR1.sh hs8).2.2.1, by unfold az_wL; rw [az_up_self, (hR1.sh hs8).2.2.2, ← et9]; rfl⟩
      have hq : (q_set σ (nI s1) i v) = (1, yS σ (va_up (xS σ) s1 (fSo (xS σ s1), fSz (xS σ s1), fSh (xS σ s1), va_up (fEl (xS σ s1)) i.toNatClampNeg (zfit (fSo (xS σ s1)) v)))) := by
        unfold q_set
        rw [if_pos hnz, exf, hc_s1, if_pos hpl]
      exact A_iret dX8_set_59 rfl (hP _ _ (RQ_i hq hR2))
    · skip
      have h_2' := b2i_0.mp h_2
      refine A_aload_n dX8_set_33 rfl rfl ?_
      refine A_bipush (v := (-2)) dX8_set_34 (by decide) ?_
      refine A_callV (n := 0) dX8_set_36 kvX8_refuse mlX8_101 rfl (az_rc_obj clX8 (hM 0 _ rfl)) (c_X8_refuse l G (d + 31) sh sg1 la1 kp tr (-2) 0 hM (by decide) (by decide)) (by omega) (Nat.le_refl _) (Nat.le_refl _) rfl (Nat.le_of_ble_eq_true rfl) (fun r S1 hp => ?_)
      obtain ⟨rfl, rfl⟩ := hp
      show AW l G mX8_set (d + 32) (az_F G Post) 0 0 39 [some (.ref 60), some (.int (nI s1)), some (.int i), some (.long v), none, some (.int (q_noRow σ (nI s1)).1)] [.int (-2)] (sh, (az_w sg1 76 (0 + 2) (sg1 76 (0 + 2) + 1)), la1)
      have hq : (q_set σ (nI s1) i v) = ((-2), (rfs σ 0)) := by
        unfold q_set
        rw [if_pos hnz, exf, if_neg (fun q => h_2' ((sz_iff (hW.2.2.2 s1 hs8).2.1).mpr q))]
        first | done | rfl
      exact A_iret dX8_set_39 rfl (hP _ _ (RQ_i hq (hR1.ref (k := 0) (by decide))))
  · skip
    have hnz : ¬ q_rf σ s 0 = 0 := fun q => h_1 (by unfold q_noRow; rw [if_pos q])
    have enr : q_noRow σ s = qr σ (q_rf σ s 0) := by unfold q_noRow; rw [if_neg hnz]
    refine A_iload dX8_set_12 rfl ?_
    have hq : (q_set σ s i v) = ((q_noRow σ s).1, (q_noRow σ s).2) := by
      unfold q_set
      rw [if_neg hnz, enr]
      first | done | rfl
    exact A_iret dX8_set_14 rfl (hP _ _ (RQ_i hq hR1))
