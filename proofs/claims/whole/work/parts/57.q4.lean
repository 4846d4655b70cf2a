set_option maxHeartbeats 1000000 in
set_option maxRecDepth 100000 in
theorem x_personOf (l : Launch) (G : az_Gh) (d : Nat) (sh : List az_Sh) (sg : Nat → Nat → Int32) (la : Nat → Nat → Int64) (g : GGM) (σ : SGM) (p w : Int32) (hX : az_at sh 0 lyX) (hK : KX g sg la σ) : AM l G (d + 32) mX7_personOf [.ref 0, .int p, .int w] (sh, sg, la) 0 0 (XQ sh g (.int (q_personOf σ p w).1) (q_personOf σ p w).2) := by
  refine az_am knX7_personOf (Nat.le_of_ble_eq_true rfl) rfl (fun Post hP => ?_)
  show AW l G mX7_personOf (d + 32) (az_F G Post) 0 0 0 [some (.ref 0), some (.int p), some (.int w)] [] (sh, sg, la)
  have hC := lyX_now hX
  have h8N := hK.ok.2
  refine A_aload_n dX7_personOf_0 rfl rfl ?_
  refine B_getR (r := 1) dX7_personOf_1 flX7_10 (hX 0 _ rfl) rfl ?_
  refine A_iload_n dX7_personOf_4 rfl rfl ?_
  refine A_callV (n := 0) dX7_personOf_5 kvX2_hasOne mlX7_127 rfl (az_rc_obj clX2 (hX 1 _ rfl)) (kx_hasOne l G (d + 31) sh sg la g σ p hX hK) (by omega) (Nat.le_refl _) (Nat.le_refl _) rfl (Nat.le_of_ble_eq_true rfl) (fun r S1 hp => ?_)
  obtain ⟨rfl, rfl⟩ := hp
  show AW l G mX7_personOf (d + 32) (az_F G Post) 0 0 8 [some (.ref 0), some (.int p), some (.int w)] [.int (b2i (0 ≤ p ∧ p < cPp (xN σ)))] (sh, sg, la)
  refine A_if_ne (tgt := 18) dX7_personOf_8 rfl (fun h_1 => ?_) (fun h_1 => ?_)
  · skip
    have h_1' := b2i_n.mp h_1
    obtain ⟨p1, hp1, rfl⟩ := nI_exp hK.ok h_1'
    have hc_p1 : (nI p1).toNatClampNeg = p1 := nI_clamp (by omega)
    refine A_iload_n dX7_personOf_18 rfl rfl ?_
    rcases az_swd w 6 with ⟨k7, hk7, ek7⟩ | hw
    · skip
      rcases (by omega : k7 = 0 ∨ k7 = 1 ∨ k7 = 2 ∨ k7 = 3 ∨ k7 = 4 ∨ k7 = 5 ∨ k7 = 6) with rfl | rfl | rfl | rfl | rfl | rfl | rfl
      · skip
        subst ek7
        refine A_tableIn (off := 41) (tgt := 60) dX7_personOf_19 (by decide) (by decide) rfl rfl ?_
        refine A_aload_n dX7_personOf_60 rfl rfl ?_
        refine B_getR (r := 1) dX7_personOf_61 flX7_10 (hX 0 _ rfl) rfl ?_
        refine B_getR (r := 2) dX7_personOf_64 flX7_140 (hX 1 _ rfl) rfl ?_
        refine A_iload_n dX7_personOf_67 rfl rfl ?_
        refine B_ialdV (i := p1) (cKd (xN σ) p1) dX7_personOf_68 (hX 2 _ rfl) (by decide) (rfl) (by omega) (hK.e1 _) ?_
        have hq : (q_personOf σ (nI p1) (nI 0)) = (cKd (xN σ) p1, σ) := by
          unfold q_personOf
          rw [if_pos h_1', if_pos (by decide), hc_p1]
          first | done | rfl
        exact A_iret dX7_personOf_69 rfl (hP _ _ (XQ_i hq hK))
      · skip
        subst ek7
        refine A_tableIn (off := 51) (tgt := 70) dX7_personOf_19 (by decide) (by decide) rfl rfl ?_
        refine A_aload_n dX7_personOf_70 rfl rfl ?_
        refine B_getR (r := 1) dX7_personOf_71 flX7_10 (hX 0 _ rfl) rfl ?_
        refine B_getR (r := 3) dX7_personOf_74 flX7_201 (hX 1 _ rfl) rfl ?_
        refine A_iload_n dX7_personOf_77 rfl rfl ?_
        refine B_ialdV (i := p1) (cAa (xN σ) p1) dX7_personOf_78 (hX 3 _ rfl) (by decide) (rfl) (by omega) (hK.e2 _) ?_
        have hq : (q_personOf σ (nI p1) (nI 1)) = (cAa (xN σ) p1, σ) := by
          unfold q_personOf
          rw [if_pos h_1', if_neg (by decide), if_pos (by decide), hc_p1]
          first | done | rfl
        exact A_iret dX7_personOf_79 rfl (hP _ _ (XQ_i hq hK))
      · skip
        subst ek7
        refine A_tableIn (off := 61) (tgt := 80) dX7_personOf_19 (by decide) (by decide) rfl rfl ?_
        refine A_aload_n dX7_personOf_80 rfl rfl ?_
        refine B_getR (r := 1) dX7_personOf_81 flX7_10 (hX 0 _ rfl) rfl ?_
        refine B_getR (r := 4) dX7_personOf_84 flX7_146 (hX 1 _ rfl) rfl ?_
        refine A_iload_n dX7_personOf_87 rfl rfl ?_
        refine B_ialdV (i := p1) (cPr (xN σ) p1) dX7_personOf_88 (hX 4 _ rfl) (by decide) (rfl) (by omega) (hK.e3 _) ?_
        have hq : (q_personOf σ (nI p1) (nI 2)) = (cPr (xN σ) p1, σ) := by
          unfold q_personOf
          rw [if_pos h_1', if_neg (by decide), if_neg (by decide), if_pos (by decide), hc_p1]
          first | done | rfl
        exact A_iret dX7_personOf_89 rfl (hP _ _ (XQ_i hq hK))
      · skip
        subst ek7
        refine A_tableIn (off := 71) (tgt := 90) dX7_personOf_19 (by decide) (by decide) rfl rfl ?_
        refine A_aload_n dX7_personOf_90 rfl rfl ?_
        refine B_getR (r := 1) dX7_personOf_91 flX7_10 (hX 0 _ rfl) rfl ?_
        refine B_getR (r := 5) dX7_personOf_94 flX7_162 (hX 1 _ rfl) rfl ?_
        refine A_iload_n dX7_personOf_97 rfl rfl ?_
        refine B_ialdV (i := p1) (cBr (xN σ) p1) dX7_personOf_98 (hX 5 _ rfl) (by decide) (rfl) (by omega) (hK.e4 _) ?_
        have hq : (q_personOf σ (nI p1) (nI 3)) = (cBr (xN σ) p1, σ) := by
          unfold q_personOf
          rw [if_pos h_1', if_neg (by decide), if_neg (by decide), if_neg (by decide), if_pos (by decide), hc_p1]
          first | done | rfl
        exact A_iret dX7_personOf_99 rfl (hP _ _ (XQ_i hq hK))
      · skip
        subst ek7
        refine A_tableIn (off := 81) (tgt := 100) dX7_personOf_19 (by decide) (by decide) rfl rfl ?_
        refine A_aload_n dX7_personOf_100 rfl rfl ?_
        refine B_getR (r := 1) dX7_personOf_101 flX7_10 (hX 0 _ rfl) rfl ?_
        refine B_getR (r := 6) dX7_personOf_104 flX7_165 (hX 1 _ rfl) rfl ?_
        refine A_iload_n dX7_personOf_107 rfl rfl ?_
        refine B_ialdV (i := p1) (cFe (xN σ) p1) dX7_personOf_108 (hX 6 _ rfl) (by decide) (rfl) (by omega) (hK.e5 _) ?_
        have hq : (q_personOf σ (nI p1) (nI 4)) = (cFe (xN σ) p1, σ) := by
          unfold q_personOf
          rw [if_pos h_1', if_neg (by decide), if_neg (by decide), if_neg (by decide), if_neg (by decide), if_pos (by decide), hc_p1]
          first | done | rfl
        exact A_iret dX7_personOf_109 rfl (hP _ _ (XQ_i hq hK))
      · skip
        subst ek7
        refine A_tableIn (off := 91) (tgt := 110) dX7_personOf_19 (by decide) (by decide) rfl rfl ?_
        refine A_aload_n dX7_personOf_110 rfl rfl ?_
        refine B_getR (r := 1) dX7_personOf_111 flX7_10 (hX 0 _ rfl) rfl ?_
        refine A_aload_n dX7_personOf_114 rfl rfl ?_
        refine B_getR (r := 1) dX7_personOf_115 flX7_10 (hX 0 _ rfl) rfl ?_
        refine B_getR (r := 2) dX7_personOf_118 flX7_140 (hX 1 _ rfl) rfl ?_
        refine A_iload_n dX7_personOf_121 rfl rfl ?_
        refine B_ialdV (i := p1) (cKd (xN σ) p1) dX7_personOf_122 (hX 2 _ rfl) (by decide) (rfl) (by omega) (hK.e1 _) ?_
        refine A_iload_n dX7_personOf_123 rfl rfl ?_
        refine A_callV (n := 0) dX7_personOf_124 kvX2_coldAs mlX7_149 rfl (az_rc_obj clX2 (hX 1 _ rfl)) (kx_coldAs l G (d + 30) sh sg la g σ p1 (cKd (xN σ) p1) hX hK (by omega)) (by omega) (Nat.le_refl _) (Nat.le_refl _) rfl (Nat.le_of_ble_eq_true rfl) (fun r S1 hp => ?_)
        obtain ⟨rfl, rfl⟩ := hp
        show AW l G mX7_personOf (d + 32) (az_F G Post) 0 0 127 [some (.ref 0), some (.int (nI p1)), some (.int (nI 5))] [.int (zcT (cKd (xN σ) p1) (xN σ) p1)] (sh, sg, la)
        have hq : (q_personOf σ (nI p1) (nI 5)) = (zcT (cKd (xN σ) p1) (xN σ) p1, σ) := by
          unfold q_personOf
          rw [if_pos h_1', if_neg (by decide), if_neg (by decide), if_neg (by decide), if_neg (by decide), if_neg (by decide), if_pos (by decide), hc_p1]
          first | done | rfl
        exact A_iret dX7_personOf_127 rfl (hP _ _ (XQ_i hq hK))
      · skip
        subst ek7
        refine A_tableIn (off := 109) (tgt := 128) dX7_personOf_19 (by decide) (by decide) rfl rfl ?_
        refine A_aload_n dX7_personOf_128 rfl rfl ?_
        refine B_getR (r := 1) dX7_personOf_129 flX7_10 (hX 0 _ rfl) rfl ?_
        refine A_aload_n dX7_personOf_132 rfl rfl ?_
        refine B_getR (r := 1) dX7_personOf_133 flX7_10 (hX 0 _ rfl) rfl ?_
        refine B_getR (r := 4) dX7_personOf_136 flX7_146 (hX 1 _ rfl) rfl ?_
        refine A_iload_n dX7_personOf_139 rfl rfl ?_
        refine B_ialdV (i := p1) (cPr (xN σ) p1) dX7_personOf_140 (hX 4 _ rfl) (by decide) (rfl) (by omega) (hK.e3 _) ?_
        refine A_iload_n dX7_personOf_141 rfl rfl ?_
        refine A_callV (n := 0) dX7_personOf_142 kvX2_limitBy mlX7_204 rfl (az_rc_obj clX2 (hX 1 _ rfl)) (kx_limitBy l G (d + 30) sh sg la g σ p1 (cPr (xN σ) p1) hX hK (by omega)) (by omega) (Nat.le_refl _) (Nat.le_refl _) rfl (Nat.le_of_ble_eq_true rfl) (fun r S1 hp => ?_)
        obtain ⟨rfl, rfl⟩ := hp
        show AW l G mX7_personOf (d + 32) (az_F G Post) 0 0 145 [some (.ref 0), some (.int (nI p1)), some (.int (nI 6))] [.int (zl (xN σ) (cPr (xN σ) p1) p1)] (sh, sg, la)
        have hq : (q_personOf σ (nI p1) (nI 6)) = (zl (xN σ) (cPr (xN σ) p1) p1, σ) := by
          unfold q_personOf
          rw [if_pos h_1', if_neg (by decide), if_neg (by decide), if_neg (by decide), if_neg (by decide), if_neg (by decide), if_neg (by decide), if_pos (by decide), hc_p1]
          first | done | rfl
        exact A_iret dX7_personOf_145 rfl (hP _ _ (XQ_i hq hK))
    · skip
      refine A_tableOut (tgt := 146) dX7_personOf_19 hw rfl ?_
      refine A_aload_n dX7_personOf_146 rfl rfl ?_
      refine A_bipush (v := (-2)) dX7_personOf_147 (by decide) ?_
      refine A_callV (n := 0) dX7_personOf_149 kvX7_refuse mlX7_77 rfl (az_rc_obj clX7 (hX 0 _ rfl)) (c_X7_refuse l G (d + 30) sh sg la (-2) 0 hX (by decide) (by decide)) (by omega) (Nat.le_refl _) (Nat.le_refl _) rfl (Nat.le_of_ble_eq_true rfl) (fun r S1 hp => ?_)
      obtain ⟨rfl, rfl⟩ := hp
      show AW l G mX7_personOf (d + 32) (az_F G Post) 0 0 152 [some (.ref 0), some (.int (nI p1)), some (.int w)] [.int (-2)] (sh, (az_w sg 43 0 (sg 43 0 + 1)), la)
      have hq : (q_personOf σ (nI p1) w) = ((-2), (rfs σ 0)) := by
        unfold q_personOf
        rw [if_pos h_1', if_neg (az_ne hw 0 (by decide) (by decide)), if_neg (az_ne hw 1 (by decide) (by decide)), if_neg (az_ne hw 2 (by decide) (by decide)), if_neg (az_ne hw 3 (by decide) (by decide)), if_neg (az_ne hw 4 (by decide) (by decide)), if_neg (az_ne hw 5 (by decide) (by decide)), if_neg (az_ne hw 6 (by decide) (by decide))]
        first | done | rfl
      exact A_iret dX7_personOf_152 rfl (hP _ _ (XQ_i hq (hK.ref (by decide))))
  · skip
    have h_1' := b2i_0.mp h_1
    refine A_aload_n dX7_personOf_11 rfl rfl ?_
    refine A_bipush (v := (-2)) dX7_personOf_12 (by decide) ?_
    refine A_callV (n := 0) dX7_personOf_14 kvX7_refuse mlX7_77 rfl (az_rc_obj clX7 (hX 0 _ rfl)) (c_X7_refuse l G (d + 30) sh sg la (-2) 0 hX (by decide) (by decide)) (by omega) (Nat.le_refl _) (Nat.le_refl _) rfl (Nat.le_of_ble_eq_true rfl) (fun r S1 hp => ?_)
    obtain ⟨rfl, rfl⟩ := hp
    show AW l G mX7_personOf (d + 32) (az_F G Post) 0 0 17 [some (.ref 0), some (.int p), some (.int w)] [.int (-2)] (sh, (az_w sg 43 0 (sg 43 0 + 1)), la)
    have hq : (q_personOf σ p w) = ((-2), (rfs σ 0)) := by
      unfold q_personOf
      try simp only [h_1', and_true, true_and, and_false, false_and, and_self, or_true, true_or, or_false, false_or, not_true_eq_false, not_false_eq_true, if_true, if_false, ite_true, ite_false, decide_true, decide_false, reduceIte]
      first | done | rfl | (rw [Int32.add_comm]; done)
    exact A_iret dX7_personOf_17 rfl (hP _ _ (XQ_i hq (hK.ref (by decide))))
set_option maxHeartbeats 1000000 in
set_option maxRecDepth 100000 in
theorem x_speaks (l : Launch) (G : az_Gh) (d : Nat) (sh : List az_Sh) (sg : Nat → Nat → Int32) (la : Nat → Nat → Int64) (g : GGM) (σ : SGM) (p : Int32) (hX : az_at sh 0 lyX) (hK : KX g sg la σ) : AM l G (d + 32) mX7_speaks [.ref 0, .int p] (sh, sg, la) 0 0 (XQ sh g (.int (q_speaks σ p).1) (q_speaks σ p).2) := by
  refine az_am knX7_speaks (Nat.le_of_ble_eq_true rfl) rfl (fun Post hP => ?_)
  show AW l G mX7_speaks (d + 32) (az_F G Post) 0 0 0 [some (.ref 0), some (.int p)] [] (sh, sg, la)
  have hC := lyX_now hX
  have h8N := hK.ok.2
  refine A_aload_n dX7_speaks_0 rfl rfl ?_
  refine B_getR (r := 1) dX7_speaks_1 flX7_10 (hX 0 _ rfl) rfl ?_
  refine A_iload_n dX7_speaks_4 rfl rfl ?_
  refine A_callV (n := 0) dX7_speaks_5 kvX2_hasOne mlX7_127 rfl (az_rc_obj clX2 (hX 1 _ rfl)) (kx_hasOne l G (d + 31) sh sg la g σ p hX hK) (by omega) (Nat.le_refl _) (Nat.le_refl _) rfl (Nat.le_of_ble_eq_true rfl) (fun r S1 hp => ?_)
  obtain ⟨rfl, rfl⟩ := hp
  show AW l G mX7_speaks (d + 32) (az_F G Post) 0 0 8 [some (.ref 0), some (.int p)] [.int (b2i (0 ≤ p ∧ p < cPp (xN σ)))] (sh, sg, la)
  refine A_if_eq (tgt := 25) dX7_speaks_8 rfl (fun h_1 => ?_) (fun h_1 => ?_)
  · skip
    have h_1' := b2i_0.mp h_1
    refine A_aload_n dX7_speaks_25 rfl rfl ?_
    refine A_bipush (v := (-2)) dX7_speaks_26 (by decide) ?_
    refine A_callV (n := 0) dX7_speaks_28 kvX7_refuse mlX7_77 rfl (az_rc_obj clX7 (hX 0 _ rfl)) (c_X7_refuse l G (d + 30) sh sg la (-2) 0 hX (by decide) (by decide)) (by omega) (Nat.le_refl _) (Nat.le_refl _) rfl (Nat.le_of_ble_eq_true rfl) (fun r S1 hp => ?_)
    obtain ⟨rfl, rfl⟩ := hp
    show AW l G mX7_speaks (d + 32) (az_F G Post) 0 0 31 [some (.ref 0), some (.int p)] [.int (-2)] (sh, (az_w sg 43 0 (sg 43 0 + 1)), la)
    have hq : (q_speaks σ p) = ((-2), (rfs σ 0)) := by
      unfold q_speaks
      try simp only [h_1', and_true, true_and, and_false, false_and, and_self, or_true, true_or, or_false, false_or, not_true_eq_false, not_false_eq_true, if_true, if_false, ite_true, ite_false, decide_true, decide_false, reduceIte]
      first | done | rfl | (rw [Int32.add_comm]; done)
    exact A_iret dX7_speaks_31 rfl (hP _ _ (XQ_i hq (hK.ref (by decide))))
  · skip
    have h_1' := b2i_n.mp h_1
    obtain ⟨p1, hp1, rfl⟩ := nI_exp hK.ok h_1'
    have hc_p1 : (nI p1).toNatClampNeg = p1 := nI_clamp (by omega)
    refine A_aload_n dX7_speaks_11 rfl rfl ?_
    refine B_getR (r := 1) dX7_speaks_12 flX7_10 (hX 0 _ rfl) rfl ?_
    refine A_iload_n dX7_speaks_15 rfl rfl ?_
    refine A_callV (n := 0) dX7_speaks_16 kvX2_isHeard mlX7_207 rfl (az_rc_obj clX2 (hX 1 _ rfl)) (kx_isHeard l G (d + 29) sh sg la g σ p1 hX hK (by omega)) (by omega) (Nat.le_refl _) (Nat.le_refl _) rfl (Nat.le_of_ble_eq_true rfl) (fun r S1 hp => ?_)
    obtain ⟨rfl, rfl⟩ := hp
    show AW l G mX7_speaks (d + 32) (az_F G Post) 0 0 19 [some (.ref 0), some (.int (nI p1))] [.int (b2i (zsp (xN σ) p1 = true))] (sh, sg, la)
    refine A_callS (n := 0) dX7_speaks_19 ksX7_asNumber mlX7_177 rfl (c_X7_asNumber l G (d + 31) sh sg la (zsp (xN σ) p1 = true)) (by omega) (Nat.le_refl _) (Nat.le_refl _) rfl (Nat.le_of_ble_eq_true rfl) (fun r S1 hp => ?_)
    obtain ⟨rfl, rfl⟩ := hp
    show AW l G mX7_speaks (d + 32) (az_F G Post) 0 0 22 [some (.ref 0), some (.int (nI p1))] [.int (b2i (zsp (xN σ) p1 = true))] (sh, sg, la)
    refine A_goto (tgt := 31) dX7_speaks_22 rfl ?_
    have hq : (q_speaks σ (nI p1)) = (b2i (zsp (xN σ) p1 = true), σ) := by
      unfold q_speaks
      rw [if_pos h_1', hc_p1]
    exact A_iret dX7_speaks_31 rfl (hP _ _ (XQ_i hq hK))
set_option maxHeartbeats 1000000 in
set_option maxRecDepth 100000 in
theorem x_coldest (l : Launch) (G : az_Gh) (d : Nat) (sh : List az_Sh) (sg : Nat → Nat → Int32) (la : Nat → Nat → Int64) (g : GGM) (σ : SGM)  (hX : az_at sh 0 lyX) (hK : KX g sg la σ) : AM l G (d + 32) mX7_coldest [.ref 0] (sh, sg, la) 0 0 (XQ sh g (.int (q_coldest σ)) σ) := by
  refine az_am knX7_coldest (Nat.le_of_ble_eq_true rfl) rfl (fun Post hP => ?_)
  show AW l G mX7_coldest (d + 32) (az_F G Post) 0 0 0 [some (.ref 0)] [] (sh, sg, la)
  have hC := lyX_now hX
  have h8N := hK.ok.2
  refine A_aload_n dX7_coldest_0 rfl rfl ?_
  refine B_getR (r := 1) dX7_coldest_1 flX7_10 (hX 0 _ rfl) rfl ?_
  refine A_callV (n := 0) dX7_coldest_4 kvX2_coldestOne mlX7_210 rfl (az_rc_obj clX2 (hX 1 _ rfl)) (kx_coldestOne l G (d + 29) sh sg la g σ hX hK) (by omega) (Nat.le_refl _) (Nat.le_refl _) rfl (Nat.le_of_ble_eq_true rfl) (fun r S1 hp => ?_)
  obtain ⟨rfl, rfl⟩ := hp
  show AW l G mX7_coldest (d + 32) (az_F G Post) 0 0 7 [some (.ref 0)] [.int (oI (zbest (xN σ)))] (sh, sg, la)
  have hq : (q_coldest σ) = oI (zbest (xN σ)) := by
    rfl
  exact A_iret dX7_coldest_7 rfl (hP _ _ (XQ_0 hq hK))
set_option maxHeartbeats 1000000 in
set_option maxRecDepth 100000 in
theorem x_isSo (l : Launch) (G : az_Gh) (d : Nat) (sh : List az_Sh) (sg : Nat → Nat → Int32) (la : Nat → Nat → Int64) (g : GGM) (σ : SGM)  (hX : az_at sh 0 lyX) (hK : KX g sg la σ) : AM l G (d + 32) mX7_isSo [.ref 0] (sh, sg, la) 0 0 (XQ sh g (.int (q_isSo σ)) σ) := by
  refine az_am knX7_isSo (Nat.le_of_ble_eq_true rfl) rfl (fun Post hP => ?_)
  show AW l G mX7_isSo (d + 32) (az_F G Post) 0 0 0 [some (.ref 0)] [] (sh, sg, la)
  have hC := lyX_now hX
  have h8N := hK.ok.2
  refine A_aload_n dX7_isSo_0 rfl rfl ?_
  refine B_getR (r := 1) dX7_isSo_1 flX7_10 (hX 0 _ rfl) rfl ?_
  refine A_callV (n := 0) dX7_isSo_4 kvX2_standsSo mlX7_216 rfl (az_rc_obj clX2 (hX 1 _ rfl)) (kx_standsSo l G (d + 28) sh sg la g σ hX hK) (by omega) (Nat.le_refl _) (Nat.le_refl _) rfl (Nat.le_of_ble_eq_true rfl) (fun r S1 hp => ?_)
  obtain ⟨rfl, rfl⟩ := hp
  show AW l G mX7_isSo (d + 32) (az_F G Post) 0 0 7 [some (.ref 0)] [.int (b2i (zso (xN σ) = true))] (sh, sg, la)
  refine A_callS (n := 0) dX7_isSo_7 ksX7_asNumber mlX7_177 rfl (c_X7_asNumber l G (d + 31) sh sg la (zso (xN σ) = true)) (by omega) (Nat.le_refl _) (Nat.le_refl _) rfl (Nat.le_of_ble_eq_true rfl) (fun r S1 hp => ?_)
  obtain ⟨rfl, rfl⟩ := hp
  show AW l G mX7_isSo (d + 32) (az_F G Post) 0 0 10 [some (.ref 0)] [.int (b2i (zso (xN σ) = true))] (sh, sg, la)
  have hq : (q_isSo σ) = b2i (zso (xN σ) = true) := by
    rfl
  exact A_iret dX7_isSo_10 rfl (hP _ _ (XQ_0 hq hK))
set_option maxHeartbeats 1000000 in
set_option maxRecDepth 100000 in
theorem x_speaking (l : Launch) (G : az_Gh) (d : Nat) (sh : List az_Sh) (sg : Nat → Nat → Int32) (la : Nat → Nat → Int64) (g : GGM) (σ : SGM)  (hX : az_at sh 0 lyX) (hK : KX g sg la σ) : AM l G (d + 32) mX7_speaking [.ref 0] (sh, sg, la) 0 0 (XQ sh g (.int (q_speaking σ)) σ) := by
  refine az_am knX7_speaking (Nat.le_of_ble_eq_true rfl) rfl (fun Post hP => ?_)
  show AW l G mX7_speaking (d + 32) (az_F G Post) 0 0 0 [some (.ref 0), none, none] [] (sh, sg, la)
  have hC := lyX_now hX
  have h8N := hK.ok.2
  refine A_iconst (v := 0) dX7_speaking_0 (by decide) ?_
  refine A_istore_n (lo2 := [some (.ref 0), some (.int 0), none]) dX7_speaking_1 rfl (by decide) rfl ?_
  refine A_iconst (v := 0) dX7_speaking_2 (by decide) ?_
  refine A_istore_n (lo2 := [some (.ref 0), some (.int 0), some (.int 0)]) dX7_speaking_3 rfl (by decide) rfl ?_
  have loop : ∀ (q_i9 i9 : Nat) (x1 : Int32), i9 + q_i9 = (cN (xN σ)) → x1 = zbits (zsp (xN σ)) i9 → AW l G mX7_speaking (d + 32) (az_F G Post) 0 0 4 [some (.ref 0), some (.int x1), some (.int (nI i9))] [] (sh, sg, la) := by
    intro q_i9
    induction q_i9 with
    | zero =>
      intro i9 x1 hi_i9  e_x1
      have hN_i9 : i9 = (cN (xN σ)) := by omega
      subst i9
      refine A_iload_n dX7_speaking_4 rfl rfl ?_
      refine A_aload_n dX7_speaking_5 rfl rfl ?_
      refine B_getR (r := 1) dX7_speaking_6 flX7_10 (hX 0 _ rfl) rfl ?_
      refine B_getV (nI (cN (xN σ))) dX7_speaking_9 flX7_213 (hX 1 _ rfl) rfl (hK.pp) ?_
      refine A_icmp_ge (tgt := 38) dX7_speaking_12 rfl (fun h_1 => ?_) (fun h_1 => ?_)
      · skip
        refine A_iload_n dX7_speaking_38 rfl rfl ?_
        have hq : (q_speaking σ) = x1 := by
          rw [e_x1]; rfl
        exact A_iret dX7_speaking_39 rfl (hP _ _ (XQ_0 hq hK))
      · skip
        exact absurd (Int32.le_refl _) h_1
    | succ q_i9 ih =>
      intro i9 x1 hi_i9  e_x1
      refine A_iload_n dX7_speaking_4 rfl rfl ?_
      refine A_aload_n dX7_speaking_5 rfl rfl ?_
      refine B_getR (r := 1) dX7_speaking_6 flX7_10 (hX 0 _ rfl) rfl ?_
      refine B_getV (nI (cN (xN σ))) dX7_speaking_9 flX7_213 (hX 1 _ rfl) rfl (hK.pp) ?_
      refine A_icmp_ge (tgt := 38) dX7_speaking_12 rfl (fun h_2 => ?_) (fun h_2 => ?_)
      · skip
        exact absurd h_2 (nI_ge (by omega) (by omega))
      · skip
        refine A_aload_n dX7_speaking_15 rfl rfl ?_
        refine B_getR (r := 1) dX7_speaking_16 flX7_10 (hX 0 _ rfl) rfl ?_
        refine A_iload_n dX7_speaking_19 rfl rfl ?_
        refine A_callV (n := 0) dX7_speaking_20 kvX2_isHeard mlX7_207 rfl (az_rc_obj clX2 (hX 1 _ rfl)) (kx_isHeard l G (d + 29) sh sg la g σ i9 hX hK (by omega)) (by omega) (Nat.le_refl _) (Nat.le_refl _) rfl (Nat.le_of_ble_eq_true rfl) (fun r S1 hp => ?_)
        obtain ⟨rfl, rfl⟩ := hp
        show AW l G mX7_speaking (d + 32) (az_F G Post) 0 0 23 [some (.ref 0), some (.int x1), some (.int (nI i9))] [.int (b2i (zsp (xN σ) i9 = true))] (sh, sg, la)
        refine A_if_eq (tgt := 32) dX7_speaking_23 rfl (fun h_3 => ?_) (fun h_3 => ?_)
        · skip
          have h_3' := b2i_0.mp h_3
          refine A_iinc (v := nI (i9 + 1)) (lo2 := [some (.ref 0), some (.int x1), some (.int (nI (i9 + 1)))]) dX7_speaking_32 rfl (nI_1 i9) (by decide) rfl ?_
          refine A_goto (tgt := 4) dX7_speaking_35 rfl ?_
          refine ih (i9 + 1) _ (by omega) ?_
          · skip
            rw [e_x1]; exact (if_neg h_3').symm
        · skip
          have h_3' := b2i_n.mp h_3
          refine A_iload_n dX7_speaking_26 rfl rfl ?_
          refine A_iconst (v := 1) dX7_speaking_27 (by decide) ?_
          refine A_iload_n dX7_speaking_28 rfl rfl ?_
          refine A_ishl dX7_speaking_29 ?_
          refine A_ior dX7_speaking_30 ?_
          refine A_istore_n (lo2 := [some (.ref 0), some (.int (x1 ||| (1 <<< (nI i9 &&& 31)))), some (.int (nI i9))]) dX7_speaking_31 rfl (by decide) rfl ?_
          refine A_iinc (v := nI (i9 + 1)) (lo2 := [some (.ref 0), some (.int (x1 ||| (1 <<< (nI i9 &&& 31)))), some (.int (nI (i9 + 1)))]) dX7_speaking_32 rfl (nI_1 i9) (by decide) rfl ?_
          refine A_goto (tgt := 4) dX7_speaking_35 rfl ?_
          refine ih (i9 + 1) _ (by omega) ?_
          · skip
            rw [e_x1]; exact (if_pos h_3').symm
  exact loop ((cN (xN σ))) 0 _ (by omega) (rfl)
set_option maxHeartbeats 1000000 in
set_option maxRecDepth 100000 in
theorem x_shivering (l : Launch) (G : az_Gh) (d : Nat) (sh : List az_Sh) (sg : Nat → Nat → Int32) (la : Nat → Nat → Int64) (g : GGM) (σ : SGM)  (hX : az_at sh 0 lyX) (hK : KX g sg la σ) : AM l G (d + 32) mX7_shivering [.ref 0] (sh, sg, la) 0 0 (XQ sh g (.int (q_shivering σ)) σ) := by
  refine az_am knX7_shivering (Nat.le_of_ble_eq_true rfl) rfl (fun Post hP => ?_)
  show AW l G mX7_shivering (d + 32) (az_F G Post) 0 0 0 [some (.ref 0), none, none] [] (sh, sg, la)
  have hC := lyX_now hX
  have h8N := hK.ok.2
  refine A_iconst (v := 0) dX7_shivering_0 (by decide) ?_
  refine A_istore_n (lo2 := [some (.ref 0), some (.int 0), none]) dX7_shivering_1 rfl (by decide) rfl ?_
  refine A_iconst (v := 0) dX7_shivering_2 (by decide) ?_
  refine A_istore_n (lo2 := [some (.ref 0), some (.int 0), some (.int 0)]) dX7_shivering_3 rfl (by decide) rfl ?_
  have loop : ∀ (q_i9 i9 : Nat) (x1 : Int32), i9 + q_i9 = (cN (xN σ)) → x1 = l_sum (zc (xN σ)) i9 → AW l G mX7_shivering (d + 32) (az_F G Post) 0 0 4 [some (.ref 0), some (.int x1), some (.int (nI i9))] [] (sh, sg, la) := by
    intro q_i9
    induction q_i9 with
    | zero =>
      intro i9 x1 hi_i9  e_x1
      have hN_i9 : i9 = (cN (xN σ)) := by omega
      subst i9
      refine A_iload_n dX7_shivering_4 rfl rfl ?_
      refine A_aload_n dX7_shivering_5 rfl rfl ?_
      refine B_getR (r := 1) dX7_shivering_6 flX7_10 (hX 0 _ rfl) rfl ?_
      refine B_getV (nI (cN (xN σ))) dX7_shivering_9 flX7_213 (hX 1 _ rfl) rfl (hK.pp) ?_
      refine A_icmp_ge (tgt := 41) dX7_shivering_12 rfl (fun h_1 => ?_) (fun h_1 => ?_)
      · skip
        refine A_iload_n dX7_shivering_41 rfl rfl ?_
        have hq : (q_shivering σ) = x1 := by
          rw [e_x1]; rfl
        exact A_iret dX7_shivering_42 rfl (hP _ _ (XQ_0 hq hK))
      · skip
        exact absurd (Int32.le_refl _) h_1
    | succ q_i9 ih =>
      intro i9 x1 hi_i9  e_x1
      refine A_iload_n dX7_shivering_4 rfl rfl ?_
      refine A_aload_n dX7_shivering_5 rfl rfl ?_
      refine B_getR (r := 1) dX7_shivering_6 flX7_10 (hX 0 _ rfl) rfl ?_
      refine B_getV (nI (cN (xN σ))) dX7_shivering_9 flX7_213 (hX 1 _ rfl) rfl (hK.pp) ?_
      refine A_icmp_ge (tgt := 41) dX7_shivering_12 rfl (fun h_2 => ?_) (fun h_2 => ?_)
      · skip
        exact absurd h_2 (nI_ge (by omega) (by omega))
      · skip
        refine A_iload_n dX7_shivering_15 rfl rfl ?_
        refine A_aload_n dX7_shivering_16 rfl rfl ?_
        refine B_getR (r := 1) dX7_shivering_17 flX7_10 (hX 0 _ rfl) rfl ?_
        refine A_aload_n dX7_shivering_20 rfl rfl ?_
        refine B_getR (r := 1) dX7_shivering_21 flX7_10 (hX 0 _ rfl) rfl ?_
        refine B_getR (r := 2) dX7_shivering_24 flX7_140 (hX 1 _ rfl) rfl ?_
        refine A_iload_n dX7_shivering_27 rfl rfl ?_
        refine B_ialdV (i := i9) (cKd (xN σ) i9) dX7_shivering_28 (hX 2 _ rfl) (by decide) (rfl) (by omega) (hK.e1 _) ?_
        refine A_iload_n dX7_shivering_29 rfl rfl ?_
        refine A_callV (n := 0) dX7_shivering_30 kvX2_coldAs mlX7_149 rfl (az_rc_obj clX2 (hX 1 _ rfl)) (kx_coldAs l G (d + 30) sh sg la g σ i9 (cKd (xN σ) i9) hX hK (by omega)) (by omega) (Nat.le_refl _) (Nat.le_refl _) rfl (Nat.le_of_ble_eq_true rfl) (fun r S1 hp => ?_)
        obtain ⟨rfl, rfl⟩ := hp
        show AW l G mX7_shivering (d + 32) (az_F G Post) 0 0 33 [some (.ref 0), some (.int x1), some (.int (nI i9))] [.int (zcT (cKd (xN σ) i9) (xN σ) i9), .int x1] (sh, sg, la)
        refine A_iadd dX7_shivering_33 ?_
        refine A_istore_n (lo2 := [some (.ref 0), some (.int (x1 + zcT (cKd (xN σ) i9) (xN σ) i9)), some (.int (nI i9))]) dX7_shivering_34 rfl (by decide) rfl ?_
        refine A_iinc (v := nI (i9 + 1)) (lo2 := [some (.ref 0), some (.int (x1 + zcT (cKd (xN σ) i9) (xN σ) i9)), some (.int (nI (i9 + 1)))]) dX7_shivering_35 rfl (nI_1 i9) (by decide) rfl ?_
        refine A_goto (tgt := 4) dX7_shivering_38 rfl ?_
        refine ih (i9 + 1) _ (by omega) ?_
        · skip
          rw [e_x1]; rfl
  exact loop ((cN (xN σ))) 0 _ (by omega) (rfl)
set_option maxHeartbeats 1000000 in
set_option maxRecDepth 100000 in
theorem x_rank (l : Launch) (G : az_Gh) (d : Nat) (sh : List az_Sh) (sg : Nat → Nat → Int32) (la : Nat → Nat → Int64) (g : GGM) (σ : SGM) (i : Int32) (hX : az_at sh 0 lyX) (hK : KX g sg la σ) : AM l G (d + 32) mX7_rank [.ref 0, .int i] (sh, sg, la) 0 0 (XQ sh g (.int (q_rank σ i).1) (q_rank σ i).2) := by
  refine az_am knX7_rank (Nat.le_of_ble_eq_true rfl) rfl (fun Post hP => ?_)
  show AW l G mX7_rank (d + 32) (az_F G Post) 0 0 0 [some (.ref 0), some (.int i)] [] (sh, sg, la)
  have hC := lyX_now hX
  have h8N := hK.ok.2
  refine A_iload_n dX7_rank_0 rfl rfl ?_
  refine A_aload_n dX7_rank_1 rfl rfl ?_
  refine B_getR (r := 1) dX7_rank_2 flX7_10 (hX 0 _ rfl) rfl ?_
  refine B_getV (cPp (xN σ)) dX7_rank_5 flX7_213 (hX 1 _ rfl) rfl (hK.f5) ?_
  refine A_iconst (v := 1) dX7_rank_8 (by decide) ?_
  refine A_isub dX7_rank_9 ?_
  refine A_callS (n := 0) dX7_rank_10 ksX7_isWithin mlX7_73 rfl (c_X7_isWithin l G (d + 31) sh sg la i (cPp (xN σ) - 1)) (by omega) (Nat.le_refl _) (Nat.le_refl _) rfl (Nat.le_of_ble_eq_true rfl) (fun r S1 hp => ?_)
  obtain ⟨rfl, rfl⟩ := hp
  show AW l G mX7_rank (d + 32) (az_F G Post) 0 0 13 [some (.ref 0), some (.int i)] [.int (b2i (0 ≤ i ∧ i ≤ (cPp (xN σ) - 1)))] (sh, sg, la)
  refine A_if_eq (tgt := 27) dX7_rank_13 rfl (fun h_1 => ?_) (fun h_1 => ?_)
  · skip
    have h_1' := b2i_0.mp h_1
    refine A_aload_n dX7_rank_27 rfl rfl ?_
    refine A_bipush (v := (-2)) dX7_rank_28 (by decide) ?_
    refine A_callV (n := 0) dX7_rank_30 kvX7_refuse mlX7_77 rfl (az_rc_obj clX7 (hX 0 _ rfl)) (c_X7_refuse l G (d + 30) sh sg la (-2) 0 hX (by decide) (by decide)) (by omega) (Nat.le_refl _) (Nat.le_refl _) rfl (Nat.le_of_ble_eq_true rfl) (fun r S1 hp => ?_)
    obtain ⟨rfl, rfl⟩ := hp
    show AW l G mX7_rank (d + 32) (az_F G Post) 0 0 33 [some (.ref 0), some (.int i)] [.int (-2)] (sh, (az_w sg 43 0 (sg 43 0 + 1)), la)
    have hq : (q_rank σ i) = ((-2), (rfs σ 0)) := by
      unfold q_rank
      try simp only [h_1', and_true, true_and, and_false, false_and, and_self, or_true, true_or, or_false, false_or, not_true_eq_false, not_false_eq_true, if_true, if_false, ite_true, ite_false, decide_true, decide_false, reduceIte]
      first | done | rfl | (rw [Int32.add_comm]; done)
    exact A_iret dX7_rank_33 rfl (hP _ _ (XQ_i hq (hK.ref (by decide))))
  · skip
    have h_1' := b2i_n.mp h_1
    refine A_aload_n dX7_rank_16 rfl rfl ?_
    refine B_getR (r := 1) dX7_rank_17 flX7_10 (hX 0 _ rfl) rfl ?_
    refine A_iload_n dX7_rank_20 rfl rfl ?_
    refine A_callV (n := 0) dX7_rank_21 kvX2_ranked mlX7_219 rfl (az_rc_obj clX2 (hX 1 _ rfl)) (kx_ranked l G (d + 28) sh sg la g σ i hX hK) (by omega) (Nat.le_refl _) (Nat.le_refl _) rfl (Nat.le_of_ble_eq_true rfl) (fun r S1 hp => ?_)
    obtain ⟨rfl, rfl⟩ := hp
    show AW l G mX7_rank (d + 32) (az_F G Post) 0 0 24 [some (.ref 0), some (.int i)] [.int (oI (zrank (xN σ) i))] (sh, sg, la)
    refine A_goto (tgt := 33) dX7_rank_24 rfl ?_
    have hq : (q_rank σ i) = (oI (zrank (xN σ) i), σ) := by
      unfold q_rank
      try simp only [h_1', and_true, true_and, and_false, false_and, and_self, or_true, true_or, or_false, false_or, not_true_eq_false, not_false_eq_true, if_true, if_false, ite_true, ite_false, decide_true, decide_false, reduceIte]
      first | done | rfl | (rw [Int32.add_comm]; done)
    exact A_iret dX7_rank_33 rfl (hP _ _ (XQ_i hq hK))
set_option maxHeartbeats 1000000 in
set_option maxRecDepth 100000 in
theorem x_ofKind (l : Launch) (G : az_Gh) (d : Nat) (sh : List az_Sh) (sg : Nat → Nat → Int32) (la : Nat → Nat → Int64) (g : GGM) (σ : SGM) (k : Int32) (hX : az_at sh 0 lyX) (hK : KX g sg la σ) : AM l G (d + 32) mX7_ofKind [.ref 0, .int k] (sh, sg, la) 0 0 (XQ sh g (.int (q_ofKind σ k).1) (q_ofKind σ k).2) := by
  refine az_am knX7_ofKind (Nat.le_of_ble_eq_true rfl) rfl (fun Post hP => ?_)
  show AW l G mX7_ofKind (d + 32) (az_F G Post) 0 0 0 [some (.ref 0), some (.int k)] [] (sh, sg, la)
  have hC := lyX_now hX
  have h8N := hK.ok.2
  refine A_iload_n dX7_ofKind_0 rfl rfl ?_
  refine A_callS (n := 0) dX7_ofKind_1 ksX7_isKind mlX7_134 rfl (c_X7_isKind l G (d + 30) sh sg la k) (by omega) (Nat.le_refl _) (Nat.le_refl _) rfl (Nat.le_of_ble_eq_true rfl) (fun r S1 hp => ?_)
  obtain ⟨rfl, rfl⟩ := hp
  show AW l G mX7_ofKind (d + 32) (az_F G Post) 0 0 4 [some (.ref 0), some (.int k)] [.int (b2i (0 ≤ k ∧ k ≤ 5))] (sh, sg, la)
  refine A_if_eq (tgt := 18) dX7_ofKind_4 rfl (fun h_1 => ?_) (fun h_1 => ?_)
  · skip
    have h_1' := b2i_0.mp h_1
    refine A_aload_n dX7_ofKind_18 rfl rfl ?_
    refine A_bipush (v := (-2)) dX7_ofKind_19 (by decide) ?_
    refine A_callV (n := 0) dX7_ofKind_21 kvX7_refuse mlX7_77 rfl (az_rc_obj clX7 (hX 0 _ rfl)) (c_X7_refuse l G (d + 30) sh sg la (-2) 0 hX (by decide) (by decide)) (by omega) (Nat.le_refl _) (Nat.le_refl _) rfl (Nat.le_of_ble_eq_true rfl) (fun r S1 hp => ?_)
    obtain ⟨rfl, rfl⟩ := hp
    show AW l G mX7_ofKind (d + 32) (az_F G Post) 0 0 24 [some (.ref 0), some (.int k)] [.int (-2)] (sh, (az_w sg 43 0 (sg 43 0 + 1)), la)
    have hq : (q_ofKind σ k) = ((-2), (rfs σ 0)) := by
      unfold q_ofKind
      try simp only [h_1', and_true, true_and, and_false, false_and, and_self, or_true, true_or, or_false, false_or, not_true_eq_false, not_false_eq_true, if_true, if_false, ite_true, ite_false, decide_true, decide_false, reduceIte]
      first | done | rfl | (rw [Int32.add_comm]; done)
    exact A_iret dX7_ofKind_24 rfl (hP _ _ (XQ_i hq (hK.ref (by decide))))
  · skip
    have h_1' := b2i_n.mp h_1
    refine A_aload_n dX7_ofKind_7 rfl rfl ?_
    refine B_getR (r := 1) dX7_ofKind_8 flX7_10 (hX 0 _ rfl) rfl ?_
    refine A_iload_n dX7_ofKind_11 rfl rfl ?_
    refine A_callV (n := 0) dX7_ofKind_12 kvX2_countOf mlX7_316 rfl (az_rc_obj clX2 (hX 1 _ rfl)) (kx_countOf l G (d + 30) sh sg la g σ k hX hK) (by omega) (Nat.le_refl _) (Nat.le_refl _) rfl (Nat.le_of_ble_eq_true rfl) (fun r S1 hp => ?_)
    obtain ⟨rfl, rfl⟩ := hp
    show AW l G mX7_ofKind (d + 32) (az_F G Post) 0 0 15 [some (.ref 0), some (.int k)] [.int (l_sum (fun p => b2i (cKd (xN σ) p = k)) (cN (xN σ)))] (sh, sg, la)
    refine A_goto (tgt := 24) dX7_ofKind_15 rfl ?_
    have hq : (q_ofKind σ k) = (l_sum (fun p => b2i (cKd (xN σ) p = k)) (cN (xN σ)), σ) := by
      unfold q_ofKind
      try simp only [h_1', and_true, true_and, and_false, false_and, and_self, or_true, true_or, or_false, false_or, not_true_eq_false, not_false_eq_true, if_true, if_false, ite_true, ite_false, decide_true, decide_false, reduceIte]
      first | done | rfl | (rw [Int32.add_comm]; done)
    exact A_iret dX7_ofKind_24 rfl (hP _ _ (XQ_i hq hK))
theorem zrank_lt {c : CT} {i : Int32} {k : Nat} (h : zrank c i = some k) : k < cN c := (zfind_lt h).1
theorem zrank_n {c : CT} {i : Int32} (hO : cOk c) (h : oI (zrank c i) = -1) : zrank c i = none := (oI_n (fun k hk => by have := zrank_lt hk; have := hO.2; omega)).mp h
set_option maxHeartbeats 1000000 in
set_option maxRecDepth 100000 in
theorem x_lead (l : Launch) (G : az_Gh) (d : Nat) (sh : List az_Sh) (sg : Nat → Nat → Int32) (la : Nat → Nat → Int64) (g : GGM) (σ : SGM)  (hX : az_at sh 0 lyX) (hK : KX g sg la σ) : AM l G (d + 32) mX7_lead [.ref 0] (sh, sg, la) 0 0 (XQ sh g (.int (q_lead σ)) σ) := by
  refine az_am knX7_lead (Nat.le_of_ble_eq_true rfl) rfl (fun Post hP => ?_)
  show AW l G mX7_lead (d + 32) (az_F G Post) 0 0 0 [some (.ref 0), none, none] [] (sh, sg, la)
  have hC := lyX_now hX
  have h8N := hK.ok.2
  refine A_aload_n dX7_lead_0 rfl rfl ?_
  refine B_getR (r := 1) dX7_lead_1 flX7_10 (hX 0 _ rfl) rfl ?_
  refine A_iconst (v := 0) dX7_lead_4 (by decide) ?_
  refine A_callV (n := 0) dX7_lead_5 kvX2_ranked mlX7_219 rfl (az_rc_obj clX2 (hX 1 _ rfl)) (kx_ranked l G (d + 28) sh sg la g σ 0 hX hK) (by omega) (Nat.le_refl _) (Nat.le_refl _) rfl (Nat.le_of_ble_eq_true rfl) (fun r S1 hp => ?_)
  obtain ⟨rfl, rfl⟩ := hp
  show AW l G mX7_lead (d + 32) (az_F G Post) 0 0 8 [some (.ref 0), none, none] [.int (oI (zrank (xN σ) 0))] (sh, sg, la)
  refine A_istore_n (lo2 := [some (.ref 0), some (.int (oI (zrank (xN σ) 0))), none]) dX7_lead_8 rfl (by decide) rfl ?_
  refine A_aload_n dX7_lead_9 rfl rfl ?_
  refine B_getR (r := 1) dX7_lead_10 flX7_10 (hX 0 _ rfl) rfl ?_
  refine A_iconst (v := 1) dX7_lead_13 (by decide) ?_
  refine A_callV (n := 0) dX7_lead_14 kvX2_ranked mlX7_219 rfl (az_rc_obj clX2 (hX 1 _ rfl)) (kx_ranked l G (d + 28) sh sg la g σ 1 hX hK) (by omega) (Nat.le_refl _) (Nat.le_refl _) rfl (Nat.le_of_ble_eq_true rfl) (fun r S1 hp => ?_)
  obtain ⟨rfl, rfl⟩ := hp
  show AW l G mX7_lead (d + 32) (az_F G Post) 0 0 17 [some (.ref 0), some (.int (oI (zrank (xN σ) 0))), none] [.int (oI (zrank (xN σ) 1))] (sh, sg, la)
  refine A_istore_n (lo2 := [some (.ref 0), some (.int (oI (zrank (xN σ) 0))), some (.int (oI (zrank (xN σ) 1)))]) dX7_lead_17 rfl (by decide) rfl ?_
  refine A_iload_n dX7_lead_18 rfl rfl ?_
  refine A_iconst (v := (-1)) dX7_lead_19 (by decide) ?_
  refine A_icmp_eq (tgt := 28) dX7_lead_20 rfl (fun h_1 => ?_) (fun h_1 => ?_)
  · skip
    refine A_iconst (v := 0) dX7_lead_28 (by decide) ?_
    have hq : (q_lead σ) = 0 := by
      unfold q_lead
      rw [zrank_n hK.ok h_1]
      first | done | rfl
    exact A_iret dX7_lead_29 rfl (hP _ _ (XQ_0 hq hK))
  · skip
    refine A_iload_n dX7_lead_23 rfl rfl ?_
    refine A_iconst (v := (-1)) dX7_lead_24 (by decide) ?_
    refine A_icmp_ne (tgt := 30) dX7_lead_25 rfl (fun h_2 => ?_) (fun h_2 => ?_)
    · skip
      obtain ⟨k1, ek1⟩ := oI_s h_1
      have hk1 := zrank_lt ek1
      refine az_jn2 (show oI (zrank (xN σ) 0) = nI k1 by rw [ek1]; rfl) (P := fun z => AW l G mX7_lead (d + 32) (az_F G Post) 0 0 30 [some (.ref 0), some (.int (z)), some (.int (oI (zrank (xN σ) 1)))] [] (sh, sg, la)) ?_
      obtain ⟨k2, ek2⟩ := oI_s h_2
      have hk2 := zrank_lt ek2
      refine az_jn2 (show oI (zrank (xN σ) 1) = nI k2 by rw [ek2]; rfl) (P := fun z => AW l G mX7_lead (d + 32) (az_F G Post) 0 0 30 [some (.ref 0), some (.int (nI k1)), some (.int (z))] [] (sh, sg, la)) ?_
      refine A_aload_n dX7_lead_30 rfl rfl ?_
      refine B_getR (r := 1) dX7_lead_31 flX7_10 (hX 0 _ rfl) rfl ?_
      refine A_aload_n dX7_lead_34 rfl rfl ?_
      refine B_getR (r := 1) dX7_lead_35 flX7_10 (hX 0 _ rfl) rfl ?_
      refine B_getR (r := 2) dX7_lead_38 flX7_140 (hX 1 _ rfl) rfl ?_
      refine A_iload_n dX7_lead_41 rfl rfl ?_
      refine B_ialdV (i := k1) (cKd (xN σ) k1) dX7_lead_42 (hX 2 _ rfl) (by decide) (rfl) (by omega) (hK.e1 _) ?_
      refine A_iload_n dX7_lead_43 rfl rfl ?_
      refine A_callV (n := 0) dX7_lead_44 kvX2_coldAs mlX7_149 rfl (az_rc_obj clX2 (hX 1 _ rfl)) (kx_coldAs l G (d + 30) sh sg la g σ k1 (cKd (xN σ) k1) hX hK (by omega)) (by omega) (Nat.le_refl _) (Nat.le_refl _) rfl (Nat.le_of_ble_eq_true rfl) (fun r S1 hp => ?_)
      obtain ⟨rfl, rfl⟩ := hp
      show AW l G mX7_lead (d + 32) (az_F G Post) 0 0 47 [some (.ref 0), some (.int (nI k1)), some (.int (nI k2))] [.int (zcT (cKd (xN σ) k1) (xN σ) k1)] (sh, sg, la)
      refine A_aload_n dX7_lead_47 rfl rfl ?_
      refine B_getR (r := 1) dX7_lead_48 flX7_10 (hX 0 _ rfl) rfl ?_
      refine A_aload_n dX7_lead_51 rfl rfl ?_
      refine B_getR (r := 1) dX7_lead_52 flX7_10 (hX 0 _ rfl) rfl ?_
      refine B_getR (r := 2) dX7_lead_55 flX7_140 (hX 1 _ rfl) rfl ?_
      refine A_iload_n dX7_lead_58 rfl rfl ?_
      refine B_ialdV (i := k2) (cKd (xN σ) k2) dX7_lead_59 (hX 2 _ rfl) (by decide) (rfl) (by omega) (hK.e1 _) ?_
      refine A_iload_n dX7_lead_60 rfl rfl ?_
      refine A_callV (n := 0) dX7_lead_61 kvX2_coldAs mlX7_149 rfl (az_rc_obj clX2 (hX 1 _ rfl)) (kx_coldAs l G (d + 30) sh sg la g σ k2 (cKd (xN σ) k2) hX hK (by omega)) (by omega) (Nat.le_refl _) (Nat.le_refl _) rfl (Nat.le_of_ble_eq_true rfl) (fun r S1 hp => ?_)
      obtain ⟨rfl, rfl⟩ := hp
      show AW l G mX7_lead (d + 32) (az_F G Post) 0 0 64 [some (.ref 0), some (.int (nI k1)), some (.int (nI k2))] [.int (zcT (cKd (xN σ) k2) (xN σ) k2), .int (zcT (cKd (xN σ) k1) (xN σ) k1)] (sh, sg, la)
      refine A_isub dX7_lead_64 ?_
      have hq : (q_lead σ) = (zcT (cKd (xN σ) k1) (xN σ) k1 - zcT (cKd (xN σ) k2) (xN σ) k2) := by
        unfold q_lead
        rw [ek1, ek2]
        first | done | rfl
      exact A_iret dX7_lead_65 rfl (hP _ _ (XQ_0 hq hK))
    · skip
      refine A_iconst (v := 0) dX7_lead_28 (by decide) ?_
      have hq : (q_lead σ) = 0 := by
        unfold q_lead
        rw [zrank_n hK.ok h_2]
        cases zrank (xN σ) 0 <;> rfl
      exact A_iret dX7_lead_29 rfl (hP _ _ (XQ_0 hq hK))
set_option maxHeartbeats 1000000 in
set_option maxRecDepth 100000 in
theorem kf_shelvesInUse (l : Launch) (G : az_Gh) (d : Nat) (sh : List az_Sh) (sg : Nat → Nat → Int32) (la : Nat → Nat → Int64) (g : GGM) (σ : SGM)  (hX : az_at sh 0 lyX) (hK : KX g sg la σ)  : FM l G (d + 2) mX7_shelvesInUse [.ref 0] (sh, sg, la) (some (.int (nI (fa_cnt (q_use σ) 8)))) (sh, sg, la) := by
  refine az_fm knX7_shelvesInUse (Nat.le_of_ble_eq_true rfl) rfl (fun Post hP => ?_)
  show AW l G mX7_shelvesInUse (d + 2) (az_F G Post) 0 0 0 [some (.ref 0), none, none] [] (sh, sg, la)
  have hC := lyX_now hX
  have h8N := hK.ok.2
  refine A_iconst (v := 0) dX7_shelvesInUse_0 (by decide) ?_
  refine A_istore_n (lo2 := [some (.ref 0), some (.int 0), none]) dX7_shelvesInUse_1 rfl (by decide) rfl ?_
  refine A_iconst (v := 0) dX7_shelvesInUse_2 (by decide) ?_
  refine A_istore_n (lo2 := [some (.ref 0), some (.int 0), some (.int 0)]) dX7_shelvesInUse_3 rfl (by decide) rfl ?_
  have loop : ∀ (q_i9 i9 : Nat) (x1 : Int32), i9 + q_i9 = 8 → x1 = nI (fa_cnt (q_use σ) i9) → AW l G mX7_shelvesInUse (d + 2) (az_F G Post) 0 0 4 [some (.ref 0), some (.int x1), some (.int (nI i9))] [] (sh, sg, la) := by
    intro q_i9
    induction q_i9 with
    | zero =>
      intro i9 x1 hi_i9  e_x1
      have hN_i9 : i9 = 8 := by omega
      subst i9
      refine A_iload_n dX7_shelvesInUse_4 rfl rfl ?_
      refine A_bipush (v := 8) dX7_shelvesInUse_5 (by decide) ?_
      refine A_icmp_ge (tgt := 31) dX7_shelvesInUse_7 rfl (fun h_1 => ?_) (fun h_1 => ?_)
      · skip
        refine A_iload_n dX7_shelvesInUse_31 rfl rfl ?_
        have hq : nI (fa_cnt (q_use σ) 8) = x1 := by
          rw [e_x1]
        exact A_iret dX7_shelvesInUse_32 rfl (az_pi hP hq.symm rfl)
      · skip
        exact absurd (Int32.le_refl _) h_1
    | succ q_i9 ih =>
      intro i9 x1 hi_i9  e_x1
      refine A_iload_n dX7_shelvesInUse_4 rfl rfl ?_
      refine A_bipush (v := 8) dX7_shelvesInUse_5 (by decide) ?_
      refine A_icmp_ge (tgt := 31) dX7_shelvesInUse_7 rfl (fun h_2 => ?_) (fun h_2 => ?_)
      · skip
        exact absurd h_2 (nI_ge (b := 8) (by omega) (by decide))
      · skip
        refine A_aload_n dX7_shelvesInUse_10 rfl rfl ?_
        refine B_getR (r := 42) dX7_shelvesInUse_11 flX7_56 (hX 0 _ rfl) rfl ?_
        refine A_iload_n dX7_shelvesInUse_14 rfl rfl ?_
        have hS_i9 := lyX_shelf hX (show i9 < 8 by omega)
        have h8_i9 : i9 < 8 := by omega
        refine B_aald (i := i9) (r := (44 + 2 * i9)) dX7_shelvesInUse_15 (hX 42 _ rfl) (by decide) rfl rfl (by decide) (rfl) (by omega) (zsh_r h8_i9) ?_
        refine A_callV (n := 0) dX7_shelvesInUse_16 kvX4_isBare mlX7_100 rfl (az_rc_obj clX4 (hS_i9 0 _ rfl)) (ks_isBare l G d sh sg la g σ i9  hX hK h8_i9) (by omega) (Nat.le_refl _) (Nat.le_refl _) rfl (Nat.le_of_ble_eq_true rfl) (fun r S1 hp => ?_)
        obtain ⟨rfl, rfl⟩ := hp
        show AW l G mX7_shelvesInUse (d + 2) (az_F G Post) 0 0 19 [some (.ref 0), some (.int x1), some (.int (nI i9))] [.int (b2i (fSo (xS σ i9) = -1 ∧ fSh (xS σ i9) = -1))] (sh, sg, la)
        refine A_if_ne (tgt := 25) dX7_shelvesInUse_19 rfl (fun h_3 => ?_) (fun h_3 => ?_)
        · skip
          have h_3' := b2i_n.mp h_3
          refine A_iinc (v := nI (i9 + 1)) (lo2 := [some (.ref 0), some (.int x1), some (.int (nI (i9 + 1)))]) dX7_shelvesInUse_25 rfl (nI_1 i9) (by decide) rfl ?_
          refine A_goto (tgt := 4) dX7_shelvesInUse_28 rfl ?_
          refine ih (i9 + 1) _ (by omega) ?_
          · skip
            rw [e_x1, fa_cnt_no (p := q_use σ) (by unfold q_use; rw [decide_eq_true h_3']; rfl)]
        · skip
          have h_3' := b2i_0.mp h_3
          refine A_iinc (v := (x1 + 1)) (lo2 := [some (.ref 0), some (.int (x1 + 1)), some (.int (nI i9))]) dX7_shelvesInUse_22 rfl rfl (by decide) rfl ?_
          refine A_iinc (v := nI (i9 + 1)) (lo2 := [some (.ref 0), some (.int (x1 + 1)), some (.int (nI (i9 + 1)))]) dX7_shelvesInUse_25 rfl (nI_1 i9) (by decide) rfl ?_
          refine A_goto (tgt := 4) dX7_shelvesInUse_28 rfl ?_
          refine ih (i9 + 1) _ (by omega) ?_
          · skip
            rw [e_x1, fa_cnt_yes (p := q_use σ) (by unfold q_use; rw [decide_eq_false h_3']; rfl)]; exact nI_1 _
  exact loop (8) 0 _ (by omega) (rfl)
set_option maxHeartbeats 1000000 in
set_option maxRecDepth 100000 in
theorem x_status (l : Launch) (G : az_Gh) (d : Nat) (sh : List az_Sh) (sg : Nat → Nat → Int32) (la : Nat → Nat → Int64) (g : GGM) (σ : SGM) (w : Int32) (hX : az_at sh 0 lyX) (hK : KX g sg la σ) : AM l G (d + 32) mX7_status [.ref 0, .int w] (sh, sg, la) 0 0 (XQ sh g (.int (q_status σ w)) σ) := by
  refine az_am knX7_status (Nat.le_of_ble_eq_true rfl) rfl (fun Post hP => ?_)
  show AW l G mX7_status (d + 32) (az_F G Post) 0 0 0 [some (.ref 0), some (.int w)] [] (sh, sg, la)
  have hC := lyX_now hX
  have h8N := hK.ok.2
  refine A_iload_n dX7_status_0 rfl rfl ?_
  rcases az_swd w 9 with ⟨k7, hk7, ek7⟩ | hw
  · skip
    rcases (by omega : k7 = 0 ∨ k7 = 1 ∨ k7 = 2 ∨ k7 = 3 ∨ k7 = 4 ∨ k7 = 5 ∨ k7 = 6 ∨ k7 = 7 ∨ k7 = 8 ∨ k7 = 9) with rfl | rfl | rfl | rfl | rfl | rfl | rfl | rfl | rfl | rfl
    · skip
      subst ek7
      refine A_tableIn (off := 55) (tgt := 56) dX7_status_1 (by decide) (by decide) rfl rfl ?_
      refine A_aload_n dX7_status_56 rfl rfl ?_
      refine B_getR (r := 1) dX7_status_57 flX7_10 (hX 0 _ rfl) rfl ?_
      refine B_getV (cPp (xN σ)) dX7_status_60 flX7_213 (hX 1 _ rfl) rfl (hK.f5) ?_
      have hq : (q_status σ (nI 0)) = cPp (xN σ) := by
        unfold q_status
        rw [if_pos (by decide)]
      exact A_iret dX7_status_63 rfl (hP _ _ (XQ_0 hq hK))
    · skip
      subst ek7
      refine A_tableIn (off := 63) (tgt := 64) dX7_status_1 (by decide) (by decide) rfl rfl ?_
      refine A_aload_n dX7_status_64 rfl rfl ?_
      refine B_getR (r := 1) dX7_status_65 flX7_10 (hX 0 _ rfl) rfl ?_
      refine B_getV (cAir (xN σ)) dX7_status_68 flX7_228 (hX 1 _ rfl) rfl (hK.f6) ?_
      have hq : (q_status σ (nI 1)) = cAir (xN σ) := by
        unfold q_status
        rw [if_neg (by decide), if_pos (by decide)]
      exact A_iret dX7_status_71 rfl (hP _ _ (XQ_0 hq hK))
    · skip
      subst ek7
      refine A_tableIn (off := 71) (tgt := 72) dX7_status_1 (by decide) (by decide) rfl rfl ?_
      refine A_aload_n dX7_status_72 rfl rfl ?_
      refine B_getR (r := 1) dX7_status_73 flX7_10 (hX 0 _ rfl) rfl ?_
      refine B_getV (cFall (xN σ)) dX7_status_76 flX7_298 (hX 1 _ rfl) rfl (hK.f7) ?_
      have hq : (q_status σ (nI 2)) = cFall (xN σ) := by
        unfold q_status
        rw [if_neg (by decide), if_neg (by decide), if_pos (by decide)]
      exact A_iret dX7_status_79 rfl (hP _ _ (XQ_0 hq hK))
    · skip
      subst ek7
      refine A_tableIn (off := 79) (tgt := 80) dX7_status_1 (by decide) (by decide) rfl rfl ?_
      refine A_aload_n dX7_status_80 rfl rfl ?_
      refine B_getR (r := 1) dX7_status_81 flX7_10 (hX 0 _ rfl) rfl ?_
      refine B_getV (cDay (xN σ)) dX7_status_84 flX7_335 (hX 1 _ rfl) rfl (hK.f8) ?_
      have hq : (q_status σ (nI 3)) = cDay (xN σ) := by
        unfold q_status
        rw [if_neg (by decide), if_neg (by decide), if_neg (by decide), if_pos (by decide)]
      exact A_iret dX7_status_87 rfl (hP _ _ (XQ_0 hq hK))
    · skip
      subst ek7
      refine A_tableIn (off := 87) (tgt := 88) dX7_status_1 (by decide) (by decide) rfl rfl ?_
      refine A_aload_n dX7_status_88 rfl rfl ?_
      refine B_getR (r := 1) dX7_status_89 flX7_10 (hX 0 _ rfl) rfl ?_
      refine B_getV (cCoal (xN σ)) dX7_status_92 flX7_238 (hX 1 _ rfl) rfl (hK.f10) ?_
      have hq : (q_status σ (nI 4)) = cCoal (xN σ) := by
        unfold q_status
        rw [if_neg (by decide), if_neg (by decide), if_neg (by decide), if_neg (by decide), if_pos (by decide)]
      exact A_iret dX7_status_95 rfl (hP _ _ (XQ_0 hq hK))
    · skip
      subst ek7
      refine A_tableIn (off := 95) (tgt := 96) dX7_status_1 (by decide) (by decide) rfl rfl ?_
      refine A_aload_n dX7_status_96 rfl rfl ?_
      refine B_getR (r := 1) dX7_status_97 flX7_10 (hX 0 _ rfl) rfl ?_
      refine B_getV (cWin (xN σ)) dX7_status_100 flX7_174 (hX 1 _ rfl) rfl (hK.f9) ?_
      have hq : (q_status σ (nI 5)) = cWin (xN σ) := by
        unfold q_status
        rw [if_neg (by decide), if_neg (by decide), if_neg (by decide), if_neg (by decide), if_neg (by decide), if_pos (by decide)]
      exact A_iret dX7_status_103 rfl (hP _ _ (XQ_0 hq hK))
    · skip
      subst ek7
      refine A_tableIn (off := 103) (tgt := 104) dX7_status_1 (by decide) (by decide) rfl rfl ?_
      refine A_aload_n dX7_status_104 rfl rfl ?_
      refine B_getR (r := 1) dX7_status_105 flX7_10 (hX 0 _ rfl) rfl ?_
      refine A_callV (n := 0) dX7_status_108 kvX2_allFed mlX7_338 rfl (az_rc_obj clX2 (hX 1 _ rfl)) (kx_allFed l G (d + 31) sh sg la g σ hX hK) (by omega) (Nat.le_refl _) (Nat.le_refl _) rfl (Nat.le_of_ble_eq_true rfl) (fun r S1 hp => ?_)
      obtain ⟨rfl, rfl⟩ := hp
      show AW l G mX7_status (d + 32) (az_F G Post) 0 0 111 [some (.ref 0), some (.int (nI 6))] [.int (l_sum (cFe (xN σ)) (cN (xN σ)))] (sh, sg, la)
      have hq : (q_status σ (nI 6)) = l_sum (cFe (xN σ)) (cN (xN σ)) := by
        unfold q_status
        rw [if_neg (by decide), if_neg (by decide), if_neg (by decide), if_neg (by decide), if_neg (by decide), if_neg (by decide), if_pos (by decide)]
      exact A_iret dX7_status_111 rfl (hP _ _ (XQ_0 hq hK))
    · skip
      subst ek7
      refine A_tableIn (off := 111) (tgt := 112) dX7_status_1 (by decide) (by decide) rfl rfl ?_
      refine A_aload_n dX7_status_112 rfl rfl ?_
      refine B_getR (r := 40) dX7_status_113 flX7_50 (hX 0 _ rfl) rfl ?_
      refine B_getV (nI (xTn σ)) dX7_status_116 flX7_341 (hX 40 _ rfl) rfl (hK.2.2.2.1.1) ?_
      have hq : (q_status σ (nI 7)) = nI (xTn σ) := by
        unfold q_status
        rw [if_neg (by decide), if_neg (by decide), if_neg (by decide), if_neg (by decide), if_neg (by decide), if_neg (by decide), if_neg (by decide), if_pos (by decide)]
      exact A_iret dX7_status_119 rfl (hP _ _ (XQ_0 hq hK))
    · skip
      subst ek7
      refine A_tableIn (off := 119) (tgt := 120) dX7_status_1 (by decide) (by decide) rfl rfl ?_
      refine A_aload_n dX7_status_120 rfl rfl ?_
      refine B_getR (r := 1) dX7_status_121 flX7_10 (hX 0 _ rfl) rfl ?_
      refine B_getV (cSeed (xN σ)) dX7_status_124 flX7_332 (hX 1 _ rfl) rfl (hK.f11) ?_
      have hq : (q_status σ (nI 8)) = cSeed (xN σ) := by
        unfold q_status
        rw [if_neg (by decide), if_neg (by decide), if_neg (by decide), if_neg (by decide), if_neg (by decide), if_neg (by decide), if_neg (by decide), if_neg (by decide), if_pos (by decide)]
      exact A_iret dX7_status_127 rfl (hP _ _ (XQ_0 hq hK))
    · skip
      subst ek7
      refine A_tableIn (off := 127) (tgt := 128) dX7_status_1 (by decide) (by decide) rfl rfl ?_
      refine A_aload_n dX7_status_128 rfl rfl ?_
      refine A_callV (n := 0) dX7_status_129 kvX7_shelvesInUse mlX7_344 rfl (az_rc_obj clX7 (hX 0 _ rfl)) (kf_shelvesInUse l G (d + 29) sh sg la g σ hX hK) (by omega) (Nat.le_refl _) (Nat.le_refl _) rfl (Nat.le_of_ble_eq_true rfl) (fun r S1 hp => ?_)
      obtain ⟨rfl, rfl⟩ := hp
      show AW l G mX7_status (d + 32) (az_F G Post) 0 0 132 [some (.ref 0), some (.int (nI 9))] [.int (nI (fa_cnt (q_use σ) 8))] (sh, sg, la)
      have hq : (q_status σ (nI 9)) = nI (fa_cnt (q_use σ) 8) := by
        unfold q_status
        rw [if_neg (by decide), if_neg (by decide), if_neg (by decide), if_neg (by decide), if_neg (by decide), if_neg (by decide), if_neg (by decide), if_neg (by decide), if_neg (by decide), if_pos (by decide)]
      exact A_iret dX7_status_132 rfl (hP _ _ (XQ_0 hq hK))
  · skip
    refine A_tableOut (tgt := 133) dX7_status_1 hw rfl ?_
    refine A_iload_n dX7_status_133 rfl rfl ?_
    refine A_bipush (v := 12) dX7_status_134 (by decide) ?_
    refine A_isub dX7_status_136 ?_
    refine A_iconst (v := 4) dX7_status_137 (by decide) ?_
    refine A_callS (n := 0) dX7_status_138 ksX7_isWithin mlX7_73 rfl (c_X7_isWithin l G (d + 31) sh sg la (w - 12) 4) (by omega) (Nat.le_refl _) (Nat.le_refl _) rfl (Nat.le_of_ble_eq_true rfl) (fun r S1 hp => ?_)
    obtain ⟨rfl, rfl⟩ := hp
    show AW l G mX7_status (d + 32) (az_F G Post) 0 0 141 [some (.ref 0), some (.int w)] [.int (b2i (0 ≤ (w - 12) ∧ (w - 12) ≤ 4))] (sh, sg, la)
    refine A_if_eq (tgt := 156) dX7_status_141 rfl (fun h_1 => ?_) (fun h_1 => ?_)
    · skip
      have h_1' := b2i_0.mp h_1
      refine A_iconst (v := (-1)) dX7_status_156 (by decide) ?_
      have hq : (q_status σ w) = (-1) := by
        unfold q_status
        rw [if_neg (az_ne hw 0 (by decide) (by decide)), if_neg (az_ne hw 1 (by decide) (by decide)), if_neg (az_ne hw 2 (by decide) (by decide)), if_neg (az_ne hw 3 (by decide) (by decide)), if_neg (az_ne hw 4 (by decide) (by decide)), if_neg (az_ne hw 5 (by decide) (by decide)), if_neg (az_ne hw 6 (by decide) (by decide)), if_neg (az_ne hw 7 (by decide) (by decide)), if_neg (az_ne hw 8 (by decide) (by decide)), if_neg (az_ne hw 9 (by decide) (by decide)), if_neg h_1']
      exact A_iret dX7_status_157 rfl (hP _ _ (XQ_0 hq hK))
    · skip
      have h_1' := b2i_n.mp h_1
      obtain ⟨k8, hk8, ek8⟩ := nI_ex (m := 4) h_1'
      refine A_aload_n dX7_status_144 rfl rfl ?_
      refine B_getR (r := 43) dX7_status_145 flX7_60 (hX 0 _ rfl) rfl ?_
      refine A_iload_n dX7_status_148 rfl rfl ?_
      refine A_bipush (v := 12) dX7_status_149 (by decide) ?_
      refine A_isub dX7_status_151 ?_
      refine B_top ek8 ?_
      refine B_ialdV (i := k8) (xR σ k8) dX7_status_152 (hX 43 _ rfl) (by decide) (rfl) (by omega) (hK.r (by omega)) ?_
      refine A_goto (tgt := 157) dX7_status_153 rfl ?_
      have hq : (q_status σ w) = xR σ k8 := by
        unfold q_status
        rw [if_neg (az_ne hw 0 (by decide) (by decide)), if_neg (az_ne hw 1 (by decide) (by decide)), if_neg (az_ne hw 2 (by decide) (by decide)), if_neg (az_ne hw 3 (by decide) (by decide)), if_neg (az_ne hw 4 (by decide) (by decide)), if_neg (az_ne hw 5 (by decide) (by decide)), if_neg (az_ne hw 6 (by decide) (by decide)), if_neg (az_ne hw 7 (by decide) (by decide)), if_neg (az_ne hw 8 (by decide) (by decide)), if_neg (az_ne hw 9 (by decide) (by decide)), if_pos h_1', ek8, nI_clamp (by omega)]
      exact A_iret dX7_status_157 rfl (hP _ _ (XQ_0 hq hK))
