set_option maxHeartbeats 1000000 in
set_option maxRecDepth 100000 in
theorem x_odds (l : Launch) (G : az_Gh) (d : Nat) (sh : List az_Sh) (sg : Nat → Nat → Int32) (la : Nat → Nat → Int64) (g : GGM) (σ : SGM) (t w : Int32) (hX : az_at sh 0 lyX) (hK : KX g sg la σ) : AM l G (d + 32) mX7_odds [.ref 0, .int t, .int w] (sh, sg, la) 0 0 (XQ sh g (.int (q_odds σ t w).1) (q_odds σ t w).2) := by
  refine az_am knX7_odds (Nat.le_of_ble_eq_true rfl) rfl (fun Post hP => ?_)
  show AW l G mX7_odds (d + 32) (az_F G Post) 0 0 0 [some (.ref 0), some (.int t), some (.int w)] [] (sh, sg, la)
  have hC := lyX_now hX
  have h8N := hK.ok.2
  refine A_iload_n dX7_odds_0 rfl rfl ?_
  refine A_iconst (v := 5) dX7_odds_1 (by decide) ?_
  refine A_callS (n := 0) dX7_odds_2 ksX7_isWithin mlX7_73 rfl (c_X7_isWithin l G (d + 31) sh sg la t 5) (by omega) (Nat.le_refl _) (Nat.le_refl _) rfl (Nat.le_of_ble_eq_true rfl) (fun r S1 hp => ?_)
  obtain ⟨rfl, rfl⟩ := hp
  show AW l G mX7_odds (d + 32) (az_F G Post) 0 0 5 [some (.ref 0), some (.int t), some (.int w)] [.int (b2i (0 ≤ t ∧ t ≤ 5))] (sh, sg, la)
  refine A_if_eq (tgt := 16) dX7_odds_5 rfl (fun h_1 => ?_) (fun h_1 => ?_)
  · skip
    have h_1' := b2i_0.mp h_1
    refine A_aload_n dX7_odds_16 rfl rfl ?_
    refine A_bipush (v := (-2)) dX7_odds_17 (by decide) ?_
    refine A_callV (n := 0) dX7_odds_19 kvX7_refuse mlX7_77 rfl (az_rc_obj clX7 (hX 0 _ rfl)) (c_X7_refuse l G (d + 30) sh sg la (-2) 0 hX (by decide) (by decide)) (by omega) (Nat.le_refl _) (Nat.le_refl _) rfl (Nat.le_of_ble_eq_true rfl) (fun r S1 hp => ?_)
    obtain ⟨rfl, rfl⟩ := hp
    show AW l G mX7_odds (d + 32) (az_F G Post) 0 0 22 [some (.ref 0), some (.int t), some (.int w)] [.int (-2)] (sh, (az_w sg 43 0 (sg 43 0 + 1)), la)
    have hq : (q_odds σ t w) = ((-2), (rfs σ 0)) := by
      unfold q_odds
      try simp only [h_1', and_true, true_and, and_false, false_and, and_self, or_true, true_or, or_false, false_or, not_true_eq_false, not_false_eq_true, if_true, if_false, ite_true, ite_false, decide_true, decide_false, reduceIte]
      first | done | rfl | (rw [Int32.add_comm]; done)
    exact A_iret dX7_odds_22 rfl (hP _ _ (XQ_i hq (hK.ref (by decide))))
  · skip
    have h_1' := b2i_n.mp h_1
    refine A_iload_n dX7_odds_8 rfl rfl ?_
    refine A_iconst (v := 1) dX7_odds_9 (by decide) ?_
    refine A_callS (n := 0) dX7_odds_10 ksX7_isWithin mlX7_73 rfl (c_X7_isWithin l G (d + 31) sh sg la w 1) (by omega) (Nat.le_refl _) (Nat.le_refl _) rfl (Nat.le_of_ble_eq_true rfl) (fun r S1 hp => ?_)
    obtain ⟨rfl, rfl⟩ := hp
    show AW l G mX7_odds (d + 32) (az_F G Post) 0 0 13 [some (.ref 0), some (.int t), some (.int w)] [.int (b2i (0 ≤ w ∧ w ≤ 1))] (sh, sg, la)
    refine A_if_ne (tgt := 23) dX7_odds_13 rfl (fun h_2 => ?_) (fun h_2 => ?_)
    · skip
      have h_2' := b2i_n.mp h_2
      obtain ⟨t1, ht1, rfl⟩ := nI_ex (m := 5) h_1'
      have hc_t1 : (nI t1).toNatClampNeg = t1 := nI_clamp (by omega)
      refine A_aload_n dX7_odds_23 rfl rfl ?_
      refine B_getR (r := 20) dX7_odds_24 flX7_29 (hX 0 _ rfl) rfl ?_
      refine A_aload_n dX7_odds_27 rfl rfl ?_
      refine B_getR (r := 1) dX7_odds_28 flX7_10 (hX 0 _ rfl) rfl ?_
      refine A_iload_n dX7_odds_31 rfl rfl ?_
      refine B_sg (zput_self sg 21).symm ?_
      obtain ⟨na, hna, ena⟩ := iR_nI (m := 40) hK.rng.2.1
      have eqn : q_na σ = na := by unfold q_na; rw [ena]; exact nI_clamp (by omega)
      refine A_callV (n := 0) dX7_odds_32 kvX1_spread mlX7_288 rfl (az_rc_obj clX1 (hX 20 _ rfl)) (c_X1_spread l G (d + 26) sh sg la 20 1 (ct sg 21) (xN σ) t1 na (lyX_chan hX) hC (by omega) hK.now hK.tl.2.1 hK.ctl hK.rng ena hna (by omega) hK.tl.2.2.2.1 hK.tl.2.2.2.2.1) (by omega) (Nat.le_refl _) (Nat.le_refl _) rfl (Nat.le_of_ble_eq_true rfl) (fun r S1 hp => ?_)
      obtain ⟨rfl, e1, he1, rfl⟩ := hp
      show AW l G mX7_odds (d + 32) (az_F G Post) 0 0 35 [some (.ref 0), some (.int (nI t1)), some (.int w)] [] (sh, (zput (zU sg 20 (nI (4 ^ t1)) (zI (zW na t1)) (zI (zQ (sFall (xN σ) 0) na t1))) 21 e1), la)
      refine A_iload_n dX7_odds_35 rfl rfl ?_
      refine A_if_ne (tgt := 49) dX7_odds_36 rfl (fun h_3 => ?_) (fun h_3 => ?_)
      · skip
        refine A_aload_n dX7_odds_49 rfl rfl ?_
        refine B_getR (r := 20) dX7_odds_50 flX7_29 (hX 0 _ rfl) rfl ?_
        refine A_callV (n := 0) dX7_odds_53 kvX1_meanAir mlX7_295 rfl (az_rc_obj clX1 (hX 20 _ rfl)) (c_X1_meanAir l G (d + 31) sh sg la 20 (nI (4 ^ t1)) (zW na t1) (zQ (sFall (xN σ) 0) na t1) e1 (lyX_chan hX)) (by omega) (Nat.le_refl _) (Nat.le_refl _) rfl (Nat.le_of_ble_eq_true rfl) (fun r S1 hp => ?_)
        obtain ⟨rfl, rfl⟩ := hp
        show AW l G mX7_odds (d + 32) (az_F G Post) 0 0 56 [some (.ref 0), some (.int (nI t1)), some (.int w)] [.int (zmean (nI (4 ^ t1)) (zsmL (zW na t1) 41))] (sh, (zput (zU sg 20 (nI (4 ^ t1)) (zI (zW na t1)) (zI (zQ (sFall (xN σ) 0) na t1))) 21 e1), la)
        have hq : (q_odds σ (nI t1) w) = (zmean (nI (4 ^ t1)) (zsmL (zW na t1) 41), σ) := by
          unfold q_odds
          rw [if_pos ⟨h_1', h_2'⟩, hc_t1, eqn, if_neg h_3]
        exact A_iret dX7_odds_56 rfl (hP _ _ (XQ_i hq (hK.chan he1 (fun j hj => by show nI (zW na t1 j) = 0; rw [zW_t hna t1 j hj]; rfl) (fun j hj => by show nI (zQ (sFall (xN σ) 0) na t1 j) = 0; rw [zQ_t hna t1 j hj]; rfl))))
      · skip
        refine A_aload_n dX7_odds_39 rfl rfl ?_
        refine B_getR (r := 20) dX7_odds_40 flX7_29 (hX 0 _ rfl) rfl ?_
        refine A_callV (n := 0) dX7_odds_43 kvX1_likely mlX7_292 rfl (az_rc_obj clX1 (hX 20 _ rfl)) (c_X1_likely l G (d + 31) sh sg la 20 (nI (4 ^ t1)) (zW na t1) (zQ (sFall (xN σ) 0) na t1) e1 (lyX_chan hX)) (by omega) (Nat.le_refl _) (Nat.le_refl _) rfl (Nat.le_of_ble_eq_true rfl) (fun r S1 hp => ?_)
        obtain ⟨rfl, rfl⟩ := hp
        show AW l G mX7_odds (d + 32) (az_F G Post) 0 0 46 [some (.ref 0), some (.int (nI t1)), some (.int w)] [.int (zlik (nI (4 ^ t1)) (nI (zsm (zQ (sFall (xN σ) 0) na t1) 41)))] (sh, (zput (zU sg 20 (nI (4 ^ t1)) (zI (zW na t1)) (zI (zQ (sFall (xN σ) 0) na t1))) 21 e1), la)
        refine A_goto (tgt := 56) dX7_odds_46 rfl ?_
        have hq : (q_odds σ (nI t1) w) = (zlik (nI (4 ^ t1)) (nI (zsm (zQ (sFall (xN σ) 0) na t1) 41)), σ) := by
          unfold q_odds
          rw [if_pos ⟨h_1', h_2'⟩, hc_t1, eqn, if_pos h_3]
        exact A_iret dX7_odds_56 rfl (hP _ _ (XQ_i hq (hK.chan he1 (fun j hj => by show nI (zW na t1 j) = 0; rw [zW_t hna t1 j hj]; rfl) (fun j hj => by show nI (zQ (sFall (xN σ) 0) na t1 j) = 0; rw [zQ_t hna t1 j hj]; rfl))))
    · skip
      have h_2' := b2i_0.mp h_2
      refine A_aload_n dX7_odds_16 rfl rfl ?_
      refine A_bipush (v := (-2)) dX7_odds_17 (by decide) ?_
      refine A_callV (n := 0) dX7_odds_19 kvX7_refuse mlX7_77 rfl (az_rc_obj clX7 (hX 0 _ rfl)) (c_X7_refuse l G (d + 30) sh sg la (-2) 0 hX (by decide) (by decide)) (by omega) (Nat.le_refl _) (Nat.le_refl _) rfl (Nat.le_of_ble_eq_true rfl) (fun r S1 hp => ?_)
      obtain ⟨rfl, rfl⟩ := hp
      show AW l G mX7_odds (d + 32) (az_F G Post) 0 0 22 [some (.ref 0), some (.int t), some (.int w)] [.int (-2)] (sh, (az_w sg 43 0 (sg 43 0 + 1)), la)
      have hq : (q_odds σ t w) = ((-2), (rfs σ 0)) := by
        unfold q_odds
        try simp only [h_1', h_2', and_true, true_and, and_false, false_and, and_self, or_true, true_or, or_false, false_or, not_true_eq_false, not_false_eq_true, if_true, if_false, ite_true, ite_false, decide_true, decide_false, reduceIte]
        first | done | rfl | (rw [Int32.add_comm]; done)
      exact A_iret dX7_odds_22 rfl (hP _ _ (XQ_i hq (hK.ref (by decide))))
set_option maxHeartbeats 1000000 in
set_option maxRecDepth 100000 in
theorem x_clash (l : Launch) (G : az_Gh) (d : Nat) (sh : List az_Sh) (sg : Nat → Nat → Int32) (la : Nat → Nat → Int64) (g : GGM) (σ : SGM) (s n : Int32) (hX : az_at sh 0 lyX) (hK : KX g sg la σ) : AM l G (d + 32) mX7_clash [.ref 0, .int s, .int n] (sh, sg, la) 0 0 (XQ sh g (.int (q_clash σ s n).1) (q_clash σ s n).2) := by
  refine az_am knX7_clash (Nat.le_of_ble_eq_true rfl) rfl (fun Post hP => ?_)
  show AW l G mX7_clash (d + 32) (az_F G Post) 0 0 0 [some (.ref 0), some (.int s), some (.int n), none] [] (sh, sg, la)
  have hC := lyX_now hX
  have h8N := hK.ok.2
  refine A_aload_n dX7_clash_0 rfl rfl ?_
  refine A_iload_n dX7_clash_1 rfl rfl ?_
  refine A_iload_n dX7_clash_2 rfl rfl ?_
  refine A_callV (n := 0) dX7_clash_3 kvX7_twosFault mlX7_248 rfl (az_rc_obj clX7 (hX 0 _ rfl)) (kf_twosFault l G (d + 28) sh sg la g σ s n hX hK) (by omega) (Nat.le_refl _) (Nat.le_refl _) rfl (Nat.le_of_ble_eq_true rfl) (fun r S1 hp => ?_)
  obtain ⟨rfl, rfl⟩ := hp
  show AW l G mX7_clash (d + 32) (az_F G Post) 0 0 6 [some (.ref 0), some (.int s), some (.int n), none] [.int (q_tf σ s n)] (sh, sg, la)
  refine A_istore_n (lo2 := [some (.ref 0), some (.int s), some (.int n), some (.int (q_tf σ s n))]) dX7_clash_6 rfl (by decide) rfl ?_
  refine A_iload_n dX7_clash_7 rfl rfl ?_
  refine A_if_eq (tgt := 19) dX7_clash_8 rfl (fun h_1 => ?_) (fun h_1 => ?_)
  · skip
    have htf := h_1
    obtain ⟨hnn, hrf⟩ := q_tf_0 htf
    obtain ⟨hsh, hs1, hs2, hs3⟩ := q_rf_0 hrf
    obtain ⟨s1, hs1, rfl⟩ := nI_ex (m := 7) hsh
    have hc_s1 : (nI s1).toNatClampNeg = s1 := nI_clamp (by omega)
    obtain ⟨n1, hn1, rfl⟩ := nI_ex (m := 20) hnn
    have hc_n1 : (nI n1).toNatClampNeg = n1 := nI_clamp (by omega)
    refine A_aload_n dX7_clash_19 rfl rfl ?_
    refine B_getR (r := 37) dX7_clash_20 flX7_43 (hX 0 _ rfl) rfl ?_
    refine A_aload_n dX7_clash_23 rfl rfl ?_
    refine B_getR (r := 42) dX7_clash_24 flX7_56 (hX 0 _ rfl) rfl ?_
    refine A_iload_n dX7_clash_27 rfl rfl ?_
    have hS_s1 := lyX_shelf hX (show s1 < 8 by omega)
    have h8_s1 : s1 < 8 := by omega
    refine B_aald (i := s1) (r := (44 + 2 * s1)) dX7_clash_28 (hX 42 _ rfl) (by decide) rfl rfl (by decide) (rfl) (by omega) (zsh_r h8_s1) ?_
    refine A_iload_n dX7_clash_29 rfl rfl ?_
    refine A_aload_n dX7_clash_30 rfl rfl ?_
    refine B_getR (r := 1) dX7_clash_31 flX7_10 (hX 0 _ rfl) rfl ?_
    refine B_getV (nI (cN (xN σ))) dX7_clash_34 flX7_213 (hX 1 _ rfl) rfl (hK.pp) ?_
    have hzz := KX.hz hK h8_s1
    have ecl : zclash (cN (xN σ)) (fun k => zat sg la (44 + 2 * s1) (2 * nI k)) (fun k => zat sg la (44 + 2 * s1) (2 * nI k + 1)) n1 = q_cl σ (nI s1) (nI n1) := by unfold q_cl; rw [q_r1_x hK h8_s1, q_r2_x hK h8_s1, hc_n1]
    have eB : zcl (cN (xN σ)) (fun k => zat sg la (44 + 2 * s1) (2 * nI k)) (fun k => zat sg la (44 + 2 * s1) (2 * nI k + 1)) n1 = q_B σ (nI s1) (nI n1) := by unfold q_B; rw [q_r1_x hK h8_s1, q_r2_x hK h8_s1, hc_n1]
    refine A_callV (n := 0) dX7_clash_37 kvX0_firstClash mlX7_265 rfl (az_rc_obj clX0 (hX 37 _ rfl)) (c_X0_firstClash l G (d + 29) sh sg la 37 (cN (xN σ)) (44 + 2 * s1) n1 (lyX_bowl hX) hK.ok.2 hS_s1 (by omega) hzz (by omega) hK.tl.2.2.2.2.2.1) (by omega) (Nat.le_refl _) (Nat.le_refl _) rfl (Nat.le_of_ble_eq_true rfl) (fun r S1 hp => ?_)
    obtain ⟨rfl, B1, rfl, hBc, hBt⟩ := hp
    rw [ecl] at hBc
    rw [eB] at hBc
    rw [ecl]
    show AW l G mX7_clash (d + 32) (az_F G Post) 0 0 40 [some (.ref 0), some (.int (nI s1)), some (.int (nI n1)), some (.int (q_tf σ (nI s1) (nI n1)))] [.int (oI (q_cl σ (nI s1) (nI n1)))] (sh, (zB sg 37 (nI (cN (xN σ))) B1 (sg 39)), la)
    have hq : (q_clash σ (nI s1) (nI n1)) = (oI (q_cl σ (nI s1) (nI n1)), σ) := by
      unfold q_clash
      rw [if_pos htf]
    exact A_iret dX7_clash_40 rfl (hP _ _ (XQ_i hq (hK.bowl hBt hK.tl.2.2.2.2.2.2)))
  · skip
    refine A_aload_n dX7_clash_11 rfl rfl ?_
    refine A_iload_n dX7_clash_12 rfl rfl ?_
    obtain ⟨k9, hk9, hq9⟩ := q_tf_k σ s n
    have hq9 := hq9.resolve_left h_1
    refine A_callV (n := 0) dX7_clash_13 kvX7_refuse mlX7_77 rfl (az_rc_obj clX7 (hX 0 _ rfl)) (c_X7_refuse l G (d + 30) sh sg la (q_tf σ s n) k9 hX hk9 hq9) (by omega) (Nat.le_refl _) (Nat.le_refl _) rfl (Nat.le_of_ble_eq_true rfl) (fun r S1 hp => ?_)
    obtain ⟨rfl, rfl⟩ := hp
    show AW l G mX7_clash (d + 32) (az_F G Post) 0 0 16 [some (.ref 0), some (.int s), some (.int n), some (.int (q_tf σ s n))] [.int (q_tf σ s n)] (sh, (az_w sg 43 k9 (sg 43 k9 + 1)), la)
    refine A_goto (tgt := 40) dX7_clash_16 rfl ?_
    have hq : (q_clash σ s n) = (q_tf σ s n, (rfs σ k9)) := by
      unfold q_clash
      rw [if_neg h_1]
      exact qr_v hk9 hq9
    exact A_iret dX7_clash_40 rfl (hP _ _ (XQ_i hq (hK.ref hk9)))
set_option maxHeartbeats 1000000 in
set_option maxRecDepth 100000 in
theorem kf_bowlsFault (l : Launch) (G : az_Gh) (d : Nat) (sh : List az_Sh) (sg : Nat → Nat → Int32) (la : Nat → Nat → Int64) (g : GGM) (σ : SGM) (s n : Int32) (hX : az_at sh 0 lyX) (hK : KX g sg la σ)  : AM l G (d + 5) mX7_bowlsFault [.ref 0, .int s, .int n] (sh, sg, la) 0 0 (fun r1 S1 => r1 = some (.int (q_bf σ s n)) ∧ ∃ k B W, (∀ j, 8 ≤ j → B j = 0) ∧ (∀ j, 256 ≤ j → W j = 0) ∧ S1 = (sh, zB sg 37 k B W, la) ∧ (q_bf σ s n = 0 → k = nI (cN (xN σ)) ∧ B = q_B σ s n)) := by
  refine az_am knX7_bowlsFault (Nat.le_of_ble_eq_true rfl) rfl (fun Post hP => ?_)
  show AW l G mX7_bowlsFault (d + 5) (az_F G Post) 0 0 0 [some (.ref 0), some (.int s), some (.int n), none] [] (sh, sg, la)
  have hC := lyX_now hX
  have h8N := hK.ok.2
  refine A_aload_n dX7_bowlsFault_0 rfl rfl ?_
  refine A_iload_n dX7_bowlsFault_1 rfl rfl ?_
  refine A_iload_n dX7_bowlsFault_2 rfl rfl ?_
  refine A_callV (n := 0) dX7_bowlsFault_3 kvX7_twosFault mlX7_248 rfl (az_rc_obj clX7 (hX 0 _ rfl)) (kf_twosFault l G (d + 1) sh sg la g σ s n hX hK) (by omega) (Nat.le_refl _) (Nat.le_refl _) rfl (Nat.le_of_ble_eq_true rfl) (fun r S1 hp => ?_)
  obtain ⟨rfl, rfl⟩ := hp
  show AW l G mX7_bowlsFault (d + 5) (az_F G Post) 0 0 6 [some (.ref 0), some (.int s), some (.int n), none] [.int (q_tf σ s n)] (sh, sg, la)
  refine A_istore_n (lo2 := [some (.ref 0), some (.int s), some (.int n), some (.int (q_tf σ s n))]) dX7_bowlsFault_6 rfl (by decide) rfl ?_
  refine A_iload_n dX7_bowlsFault_7 rfl rfl ?_
  refine A_if_eq (tgt := 13) dX7_bowlsFault_8 rfl (fun h_1 => ?_) (fun h_1 => ?_)
  · skip
    have htf := h_1
    obtain ⟨hnn, hrf⟩ := q_tf_0 htf
    obtain ⟨hsh, hs1, hs2, hs3⟩ := q_rf_0 hrf
    obtain ⟨s1, hs1, rfl⟩ := nI_ex (m := 7) hsh
    have hc_s1 : (nI s1).toNatClampNeg = s1 := nI_clamp (by omega)
    obtain ⟨n1, hn1, rfl⟩ := nI_ex (m := 20) hnn
    have hc_n1 : (nI n1).toNatClampNeg = n1 := nI_clamp (by omega)
    refine A_aload_n dX7_bowlsFault_13 rfl rfl ?_
    refine B_getR (r := 37) dX7_bowlsFault_14 flX7_43 (hX 0 _ rfl) rfl ?_
    refine A_aload_n dX7_bowlsFault_17 rfl rfl ?_
    refine B_getR (r := 42) dX7_bowlsFault_18 flX7_56 (hX 0 _ rfl) rfl ?_
    refine A_iload_n dX7_bowlsFault_21 rfl rfl ?_
    have hS_s1 := lyX_shelf hX (show s1 < 8 by omega)
    have h8_s1 : s1 < 8 := by omega
    refine B_aald (i := s1) (r := (44 + 2 * s1)) dX7_bowlsFault_22 (hX 42 _ rfl) (by decide) rfl rfl (by decide) (rfl) (by omega) (zsh_r h8_s1) ?_
    refine A_iload_n dX7_bowlsFault_23 rfl rfl ?_
    refine A_aload_n dX7_bowlsFault_24 rfl rfl ?_
    refine B_getR (r := 1) dX7_bowlsFault_25 flX7_10 (hX 0 _ rfl) rfl ?_
    refine B_getV (nI (cN (xN σ))) dX7_bowlsFault_28 flX7_213 (hX 1 _ rfl) rfl (hK.pp) ?_
    have hzz := KX.hz hK h8_s1
    have ecl : zclash (cN (xN σ)) (fun k => zat sg la (44 + 2 * s1) (2 * nI k)) (fun k => zat sg la (44 + 2 * s1) (2 * nI k + 1)) n1 = q_cl σ (nI s1) (nI n1) := by unfold q_cl; rw [q_r1_x hK h8_s1, q_r2_x hK h8_s1, hc_n1]
    have eB : zcl (cN (xN σ)) (fun k => zat sg la (44 + 2 * s1) (2 * nI k)) (fun k => zat sg la (44 + 2 * s1) (2 * nI k + 1)) n1 = q_B σ (nI s1) (nI n1) := by unfold q_B; rw [q_r1_x hK h8_s1, q_r2_x hK h8_s1, hc_n1]
    refine A_callV (n := 0) dX7_bowlsFault_31 kvX0_firstClash mlX7_265 rfl (az_rc_obj clX0 (hX 37 _ rfl)) (c_X0_firstClash l G (d + 2) sh sg la 37 (cN (xN σ)) (44 + 2 * s1) n1 (lyX_bowl hX) hK.ok.2 hS_s1 (by omega) hzz (by omega) hK.tl.2.2.2.2.2.1) (by omega) (Nat.le_refl _) (Nat.le_refl _) rfl (Nat.le_of_ble_eq_true rfl) (fun r S1 hp => ?_)
    obtain ⟨rfl, B1, rfl, hBc, hBt⟩ := hp
    rw [ecl] at hBc
    rw [eB] at hBc
    rw [ecl]
    show AW l G mX7_bowlsFault (d + 5) (az_F G Post) 0 0 34 [some (.ref 0), some (.int (nI s1)), some (.int (nI n1)), some (.int (q_tf σ (nI s1) (nI n1)))] [.int (oI (q_cl σ (nI s1) (nI n1)))] (sh, (zB sg 37 (nI (cN (xN σ))) B1 (sg 39)), la)
    refine A_iconst (v := (-1)) dX7_bowlsFault_34 (by decide) ?_
    refine A_icmp_ne (tgt := 42) dX7_bowlsFault_35 rfl (fun h_2 => ?_) (fun h_2 => ?_)
    · skip
      refine A_bipush (v := (-5)) dX7_bowlsFault_42 (by decide) ?_
      have hcl : ¬ q_cl σ (nI s1) (nI n1) = none := fun q => h_2 (by rw [q]; rfl)
      have hq : q_bf σ (nI s1) (nI n1) = -5 := by unfold q_bf; rw [if_pos htf, if_neg hcl]
      exact A_iret dX7_bowlsFault_44 rfl (hP _ _ ⟨by rw [hq], _, B1, _, hBt, hK.tl.2.2.2.2.2.2, rfl, fun q => absurd (hq.symm.trans q) (by decide)⟩)
    · skip
      refine A_iconst (v := 0) dX7_bowlsFault_38 (by decide) ?_
      refine A_goto (tgt := 44) dX7_bowlsFault_39 rfl ?_
      have hcl : q_cl σ (nI s1) (nI n1) = none := (oI_n (fun k hk => by have := (zfind_lt hk).1; rw [hc_n1] at this; omega)).mp h_2
      have hq : q_bf σ (nI s1) (nI n1) = 0 := by unfold q_bf; rw [if_pos htf, if_pos hcl]
      exact A_iret dX7_bowlsFault_44 rfl (hP _ _ ⟨by rw [hq], _, B1, _, hBt, hK.tl.2.2.2.2.2.2, rfl, fun _ => ⟨rfl, hBc hcl⟩⟩)
  · skip
    refine A_iload_n dX7_bowlsFault_11 rfl rfl ?_
    have hq : q_bf σ s n = q_tf σ s n := by unfold q_bf; rw [if_neg h_1]
    exact A_iret dX7_bowlsFault_12 rfl (hP _ _ ⟨by rw [hq], sg 37 2, sg 38, sg 39, hK.tl.2.2.2.2.2.1, hK.tl.2.2.2.2.2.2, congrArg (fun z => (sh, z, la)) (zB_0 sg 37), fun q => absurd (hq.symm.trans q) h_1⟩)
theorem pow8 {N : Nat} (h : N ≤ 8) : 2 ^ N ≤ 256 := Nat.le_trans (Nat.pow_le_pow_right (by decide) h) (by decide : 2 ^ 8 ≤ 256)
set_option maxHeartbeats 1000000 in
set_option maxRecDepth 100000 in
theorem x_orders (l : Launch) (G : az_Gh) (d : Nat) (sh : List az_Sh) (sg : Nat → Nat → Int32) (la : Nat → Nat → Int64) (g : GGM) (σ : SGM) (s n : Int32) (hX : az_at sh 0 lyX) (hK : KX g sg la σ) : AM l G (d + 32) mX7_orders [.ref 0, .int s, .int n] (sh, sg, la) 0 0 (XQ sh g (.int (q_orders σ s n).1) (q_orders σ s n).2) := by
  refine az_am knX7_orders (Nat.le_of_ble_eq_true rfl) rfl (fun Post hP => ?_)
  show AW l G mX7_orders (d + 32) (az_F G Post) 0 0 0 [some (.ref 0), some (.int s), some (.int n), none] [] (sh, sg, la)
  have hC := lyX_now hX
  have h8N := hK.ok.2
  refine A_aload_n dX7_orders_0 rfl rfl ?_
  refine A_iload_n dX7_orders_1 rfl rfl ?_
  refine A_iload_n dX7_orders_2 rfl rfl ?_
  refine A_callV (n := 0) dX7_orders_3 kvX7_bowlsFault mlX7_269 rfl (az_rc_obj clX7 (hX 0 _ rfl)) (kf_bowlsFault l G (d + 26) sh sg la g σ s n hX hK) (by omega) (Nat.le_refl _) (Nat.le_refl _) rfl (Nat.le_of_ble_eq_true rfl) (fun r S1 hp => ?_)
  obtain ⟨rfl, k1, B1, W1, hB1, hW1, rfl, hq1⟩ := hp
  show AW l G mX7_orders (d + 32) (az_F G Post) 0 0 6 [some (.ref 0), some (.int s), some (.int n), none] [.int (q_bf σ s n)] (sh, (zB sg 37 k1 B1 W1), la)
  refine A_istore_n (lo2 := [some (.ref 0), some (.int s), some (.int n), some (.int (q_bf σ s n))]) dX7_orders_6 rfl (by decide) rfl ?_
  refine A_iload_n dX7_orders_7 rfl rfl ?_
  refine A_if_eq (tgt := 19) dX7_orders_8 rfl (fun h_1 => ?_) (fun h_1 => ?_)
  · skip
    have hbf := h_1
    obtain ⟨rfl, rfl⟩ := hq1 hbf
    refine A_aload_n dX7_orders_19 rfl rfl ?_
    refine B_getR (r := 37) dX7_orders_20 flX7_43 (hX 0 _ rfl) rfl ?_
    refine A_iconst (v := (-1)) dX7_orders_23 (by decide) ?_
    refine A_iconst (v := (-1)) dX7_orders_24 (by decide) ?_
    refine A_callV (n := 0) dX7_orders_25 kvX0_countOrders mlX7_272 rfl (az_rc_obj clX0 (hX 37 _ rfl)) (c_X0_countOrders l G (d + 30) sh sg la 37 (cN (xN σ)) (q_B σ s n) W1 (-1) (-1) (lyX_bowl hX) hK.ok.2 hW1) (by omega) (Nat.le_refl _) (Nat.le_refl _) rfl (Nat.le_of_ble_eq_true rfl) (fun r S1 hp => ?_)
    obtain ⟨rfl, rfl⟩ := hp
    show AW l G mX7_orders (d + 32) (az_F G Post) 0 0 28 [some (.ref 0), some (.int s), some (.int n), some (.int (q_bf σ s n))] [.int (zco (q_B σ s n) (-1) (-1) (cN (xN σ)))] (sh, (zB sg 37 (nI (cN (xN σ))) (q_B σ s n) (zcs (q_B σ s n) (-1) (-1) (cN (xN σ)) (2 ^ (cN (xN σ))))), la)
    have hq : (q_orders σ s n) = (zco (q_B σ s n) (-1) (-1) (cN (xN σ)), σ) := by
      unfold q_orders
      rw [if_pos hbf]
    exact A_iret dX7_orders_28 rfl (hP _ _ (XQ_i hq (hK.bowl hB1 (zcs_t hK.ok.2 _ (pow8 hK.ok.2)))))
  · skip
    refine A_aload_n dX7_orders_11 rfl rfl ?_
    refine A_iload_n dX7_orders_12 rfl rfl ?_
    obtain ⟨k9, hk9, hq9⟩ := q_bf_k σ s n
    have hq9 := hq9.resolve_left h_1
    refine A_callV (n := 0) dX7_orders_13 kvX7_refuse mlX7_77 rfl (az_rc_obj clX7 (hX 0 _ rfl)) (c_X7_refuse l G (d + 30) sh (zB sg 37 k1 B1 W1) la (q_bf σ s n) k9 hX hk9 hq9) (by omega) (Nat.le_refl _) (Nat.le_refl _) rfl (Nat.le_of_ble_eq_true rfl) (fun r S1 hp => ?_)
    obtain ⟨rfl, rfl⟩ := hp
    show AW l G mX7_orders (d + 32) (az_F G Post) 0 0 16 [some (.ref 0), some (.int s), some (.int n), some (.int (q_bf σ s n))] [.int (q_bf σ s n)] (sh, (az_w (zB sg 37 k1 B1 W1) 43 k9 ((zB sg 37 k1 B1 W1) 43 k9 + 1)), la)
    refine A_goto (tgt := 28) dX7_orders_16 rfl ?_
    have hq : (q_orders σ s n) = (q_bf σ s n, (rfs σ k9)) := by
      unfold q_orders
      rw [if_neg h_1]
      exact qr_v hk9 hq9
    exact A_iret dX7_orders_28 rfl (hP _ _ (XQ_i hq ((hK.bowl hB1 hW1).ref hk9)))
set_option maxHeartbeats 1000000 in
set_option maxRecDepth 100000 in
theorem x_next (l : Launch) (G : az_Gh) (d : Nat) (sh : List az_Sh) (sg : Nat → Nat → Int32) (la : Nat → Nat → Int64) (g : GGM) (σ : SGM) (s n : Int32) (hX : az_at sh 0 lyX) (hK : KX g sg la σ) : AM l G (d + 32) mX7_next [.ref 0, .int s, .int n] (sh, sg, la) 0 0 (XQ sh g (.int (q_next σ s n).1) (q_next σ s n).2) := by
  refine az_am knX7_next (Nat.le_of_ble_eq_true rfl) rfl (fun Post hP => ?_)
  show AW l G mX7_next (d + 32) (az_F G Post) 0 0 0 [some (.ref 0), some (.int s), some (.int n), none] [] (sh, sg, la)
  have hC := lyX_now hX
  have h8N := hK.ok.2
  refine A_aload_n dX7_next_0 rfl rfl ?_
  refine A_iload_n dX7_next_1 rfl rfl ?_
  refine A_iload_n dX7_next_2 rfl rfl ?_
  refine A_callV (n := 0) dX7_next_3 kvX7_bowlsFault mlX7_269 rfl (az_rc_obj clX7 (hX 0 _ rfl)) (kf_bowlsFault l G (d + 26) sh sg la g σ s n hX hK) (by omega) (Nat.le_refl _) (Nat.le_refl _) rfl (Nat.le_of_ble_eq_true rfl) (fun r S1 hp => ?_)
  obtain ⟨rfl, k1, B1, W1, hB1, hW1, rfl, hq1⟩ := hp
  show AW l G mX7_next (d + 32) (az_F G Post) 0 0 6 [some (.ref 0), some (.int s), some (.int n), none] [.int (q_bf σ s n)] (sh, (zB sg 37 k1 B1 W1), la)
  refine A_istore_n (lo2 := [some (.ref 0), some (.int s), some (.int n), some (.int (q_bf σ s n))]) dX7_next_6 rfl (by decide) rfl ?_
  refine A_iload_n dX7_next_7 rfl rfl ?_
  refine A_if_eq (tgt := 19) dX7_next_8 rfl (fun h_1 => ?_) (fun h_1 => ?_)
  · skip
    have hbf := h_1
    obtain ⟨rfl, rfl⟩ := hq1 hbf
    refine A_aload_n dX7_next_19 rfl rfl ?_
    refine B_getR (r := 37) dX7_next_20 flX7_43 (hX 0 _ rfl) rfl ?_
    refine A_callV (n := 0) dX7_next_23 kvX0_bestTwo mlX7_275 rfl (az_rc_obj clX0 (hX 37 _ rfl)) (c_X0_bestTwo l G (d + 29) sh sg la 37 (cN (xN σ)) (q_B σ s n) W1 (lyX_bowl hX) hK.ok.2 hW1) (by omega) (Nat.le_refl _) (Nat.le_refl _) rfl (Nat.le_of_ble_eq_true rfl) (fun r S1 hp => ?_)
    obtain ⟨rfl, W2, hW2, rfl⟩ := hp
    show AW l G mX7_next (d + 32) (az_F G Post) 0 0 26 [some (.ref 0), some (.int s), some (.int n), some (.int (q_bf σ s n))] [.int (zbo (q_B σ s n) (cN (xN σ)) (cN (xN σ))).1] (sh, (zB sg 37 (nI (cN (xN σ))) (q_B σ s n) W2), la)
    have hq : (q_next σ s n) = ((zbo (q_B σ s n) (cN (xN σ)) (cN (xN σ))).1, σ) := by
      unfold q_next
      rw [if_pos hbf]
    exact A_iret dX7_next_26 rfl (hP _ _ (XQ_i hq (hK.bowl hB1 hW2)))
  · skip
    refine A_aload_n dX7_next_11 rfl rfl ?_
    refine A_iload_n dX7_next_12 rfl rfl ?_
    obtain ⟨k9, hk9, hq9⟩ := q_bf_k σ s n
    have hq9 := hq9.resolve_left h_1
    refine A_callV (n := 0) dX7_next_13 kvX7_refuse mlX7_77 rfl (az_rc_obj clX7 (hX 0 _ rfl)) (c_X7_refuse l G (d + 30) sh (zB sg 37 k1 B1 W1) la (q_bf σ s n) k9 hX hk9 hq9) (by omega) (Nat.le_refl _) (Nat.le_refl _) rfl (Nat.le_of_ble_eq_true rfl) (fun r S1 hp => ?_)
    obtain ⟨rfl, rfl⟩ := hp
    show AW l G mX7_next (d + 32) (az_F G Post) 0 0 16 [some (.ref 0), some (.int s), some (.int n), some (.int (q_bf σ s n))] [.int (q_bf σ s n)] (sh, (az_w (zB sg 37 k1 B1 W1) 43 k9 ((zB sg 37 k1 B1 W1) 43 k9 + 1)), la)
    refine A_goto (tgt := 26) dX7_next_16 rfl ?_
    have hq : (q_next σ s n) = (q_bf σ s n, (rfs σ k9)) := by
      unfold q_next
      rw [if_neg h_1]
      exact qr_v hk9 hq9
    exact A_iret dX7_next_26 rfl (hP _ _ (XQ_i hq ((hK.bowl hB1 hW1).ref hk9)))
set_option maxHeartbeats 1000000 in
set_option maxRecDepth 100000 in
theorem x_mayBe (l : Launch) (G : az_Gh) (d : Nat) (sh : List az_Sh) (sg : Nat → Nat → Int32) (la : Nat → Nat → Int64) (g : GGM) (σ : SGM) (s n : Int32) (hX : az_at sh 0 lyX) (hK : KX g sg la σ) : AM l G (d + 32) mX7_mayBe [.ref 0, .int s, .int n] (sh, sg, la) 0 0 (XQ sh g (.int (q_mayBe σ s n).1) (q_mayBe σ s n).2) := by
  refine az_am knX7_mayBe (Nat.le_of_ble_eq_true rfl) rfl (fun Post hP => ?_)
  show AW l G mX7_mayBe (d + 32) (az_F G Post) 0 0 0 [some (.ref 0), some (.int s), some (.int n), none] [] (sh, sg, la)
  have hC := lyX_now hX
  have h8N := hK.ok.2
  refine A_aload_n dX7_mayBe_0 rfl rfl ?_
  refine A_iload_n dX7_mayBe_1 rfl rfl ?_
  refine A_iload_n dX7_mayBe_2 rfl rfl ?_
  refine A_callV (n := 0) dX7_mayBe_3 kvX7_bowlsFault mlX7_269 rfl (az_rc_obj clX7 (hX 0 _ rfl)) (kf_bowlsFault l G (d + 26) sh sg la g σ s n hX hK) (by omega) (Nat.le_refl _) (Nat.le_refl _) rfl (Nat.le_of_ble_eq_true rfl) (fun r S1 hp => ?_)
  obtain ⟨rfl, k1, B1, W1, hB1, hW1, rfl, hq1⟩ := hp
  show AW l G mX7_mayBe (d + 32) (az_F G Post) 0 0 6 [some (.ref 0), some (.int s), some (.int n), none] [.int (q_bf σ s n)] (sh, (zB sg 37 k1 B1 W1), la)
  refine A_istore_n (lo2 := [some (.ref 0), some (.int s), some (.int n), some (.int (q_bf σ s n))]) dX7_mayBe_6 rfl (by decide) rfl ?_
  refine A_iload_n dX7_mayBe_7 rfl rfl ?_
  refine A_if_eq (tgt := 19) dX7_mayBe_8 rfl (fun h_1 => ?_) (fun h_1 => ?_)
  · skip
    have hbf := h_1
    obtain ⟨rfl, rfl⟩ := hq1 hbf
    refine A_aload_n dX7_mayBe_19 rfl rfl ?_
    refine B_getR (r := 37) dX7_mayBe_20 flX7_43 (hX 0 _ rfl) rfl ?_
    refine A_callV (n := 0) dX7_mayBe_23 kvX0_underNobody mlX7_278 rfl (az_rc_obj clX0 (hX 37 _ rfl)) (c_X0_underNobody l G (d + 31) sh sg la 37 (cN (xN σ)) (q_B σ s n) W1 (lyX_bowl hX) hK.ok.2) (by omega) (Nat.le_refl _) (Nat.le_refl _) rfl (Nat.le_of_ble_eq_true rfl) (fun r S1 hp => ?_)
    obtain ⟨rfl, rfl⟩ := hp
    show AW l G mX7_mayBe (d + 32) (az_F G Post) 0 0 26 [some (.ref 0), some (.int s), some (.int n), some (.int (q_bf σ s n))] [.int (zunb (q_B σ s n) (cN (xN σ)))] (sh, (zB sg 37 (nI (cN (xN σ))) (q_B σ s n) W1), la)
    have hq : (q_mayBe σ s n) = (zunb (q_B σ s n) (cN (xN σ)), σ) := by
      unfold q_mayBe
      rw [if_pos hbf]
    exact A_iret dX7_mayBe_26 rfl (hP _ _ (XQ_i hq (hK.bowl hB1 hW1)))
  · skip
    refine A_aload_n dX7_mayBe_11 rfl rfl ?_
    refine A_iload_n dX7_mayBe_12 rfl rfl ?_
    obtain ⟨k9, hk9, hq9⟩ := q_bf_k σ s n
    have hq9 := hq9.resolve_left h_1
    refine A_callV (n := 0) dX7_mayBe_13 kvX7_refuse mlX7_77 rfl (az_rc_obj clX7 (hX 0 _ rfl)) (c_X7_refuse l G (d + 30) sh (zB sg 37 k1 B1 W1) la (q_bf σ s n) k9 hX hk9 hq9) (by omega) (Nat.le_refl _) (Nat.le_refl _) rfl (Nat.le_of_ble_eq_true rfl) (fun r S1 hp => ?_)
    obtain ⟨rfl, rfl⟩ := hp
    show AW l G mX7_mayBe (d + 32) (az_F G Post) 0 0 16 [some (.ref 0), some (.int s), some (.int n), some (.int (q_bf σ s n))] [.int (q_bf σ s n)] (sh, (az_w (zB sg 37 k1 B1 W1) 43 k9 ((zB sg 37 k1 B1 W1) 43 k9 + 1)), la)
    refine A_goto (tgt := 26) dX7_mayBe_16 rfl ?_
    have hq : (q_mayBe σ s n) = (q_bf σ s n, (rfs σ k9)) := by
      unfold q_mayBe
      rw [if_neg h_1]
      exact qr_v hk9 hq9
    exact A_iret dX7_mayBe_26 rfl (hP _ _ (XQ_i hq ((hK.bowl hB1 hW1).ref hk9)))
theorem zInB_i {N : Nat} {a : Int64} (h : zInB N a = true) : zIn N a := by
  unfold zInB at h
  exact ⟨of_decide_eq_true (Bool.and_eq_true_iff.mp h).1, of_decide_eq_true (Bool.and_eq_true_iff.mp h).2⟩
theorem zpg_in {N : Nat} {B : Nat → Int32} {a b : Int64} (h : zpg N B a b = true) : zIn N a ∧ zIn N b := by
  unfold zpg at h
  have h2 := Bool.and_eq_true_iff.mp h
  exact ⟨zInB_i h2.1, zInB_i (Bool.and_eq_true_iff.mp h2.2).1⟩
theorem zfind_no {p : Nat → Bool} {n : Nat} (h : zfind p n = none) {k : Nat} (hk : k < n) : p k = false := by
  unfold zfind at h
  by_cases q : fa_first p n < n
  · rw [if_pos q] at h; cases h
  · exact fa_first_no p n k (by have := fa_first_le p n; omega)
theorem q_cl_in {σ : SGM} {s n : Int32} (h : q_cl σ s n = none) {k : Nat} (hk : k < n.toNatClampNeg) : zIn (cN (xN σ)) (q_r1 σ s k) ∧ zIn (cN (xN σ)) (q_r2 σ s k) := by
  have q := zfind_no h hk
  unfold zclB at q
  have q2 : zpg (cN (xN σ)) (zcl (cN (xN σ)) (q_r1 σ s) (q_r2 σ s) k) (q_r1 σ s k) (q_r2 σ s k) = true := by simpa using q
  exact zpg_in q2
set_option maxHeartbeats 1000000 in
set_option maxRecDepth 100000 in
theorem x_wrongBowls (l : Launch) (G : az_Gh) (d : Nat) (sh : List az_Sh) (sg : Nat → Nat → Int32) (la : Nat → Nat → Int64) (g : GGM) (σ : SGM) (s n : Int32) (hX : az_at sh 0 lyX) (hK : KX g sg la σ) : AM l G (d + 32) mX7_wrongBowls [.ref 0, .int s, .int n] (sh, sg, la) 0 0 (XQ sh g (.int (q_wrongBowls σ s n).1) (q_wrongBowls σ s n).2) := by
  refine az_am knX7_wrongBowls (Nat.le_of_ble_eq_true rfl) rfl (fun Post hP => ?_)
  show AW l G mX7_wrongBowls (d + 32) (az_F G Post) 0 0 0 [some (.ref 0), some (.int s), some (.int n), none, none, none, none, none] [] (sh, sg, la)
  have hC := lyX_now hX
  have h8N := hK.ok.2
  refine A_aload_n dX7_wrongBowls_0 rfl rfl ?_
  refine A_iload_n dX7_wrongBowls_1 rfl rfl ?_
  refine A_iload_n dX7_wrongBowls_2 rfl rfl ?_
  refine A_callV (n := 0) dX7_wrongBowls_3 kvX7_bowlsFault mlX7_269 rfl (az_rc_obj clX7 (hX 0 _ rfl)) (kf_bowlsFault l G (d + 26) sh sg la g σ s n hX hK) (by omega) (Nat.le_refl _) (Nat.le_refl _) rfl (Nat.le_of_ble_eq_true rfl) (fun r S1 hp => ?_)
  obtain ⟨rfl, k1, B1, W1, hB1, hW1, rfl, hq1⟩ := hp
  show AW l G mX7_wrongBowls (d + 32) (az_F G Post) 0 0 6 [some (.ref 0), some (.int s), some (.int n), none, none, none, none, none] [.int (q_bf σ s n)] (sh, (zB sg 37 k1 B1 W1), la)
  refine A_istore_n (lo2 := [some (.ref 0), some (.int s), some (.int n), some (.int (q_bf σ s n)), none, none, none, none]) dX7_wrongBowls_6 rfl (by decide) rfl ?_
  refine A_iload_n dX7_wrongBowls_7 rfl rfl ?_
  refine A_if_eq (tgt := 17) dX7_wrongBowls_8 rfl (fun h_1 => ?_) (fun h_1 => ?_)
  · skip
    have hbf := h_1
    obtain ⟨htf, hcl⟩ := q_bf_0 hbf
    obtain ⟨hnn, hrf⟩ := q_tf_0 htf
    obtain ⟨hsh, hs1, hs2, hs3⟩ := q_rf_0 hrf
    obtain ⟨s1, hs1, rfl⟩ := nI_ex (m := 7) hsh
    have hc_s1 : (nI s1).toNatClampNeg = s1 := nI_clamp (by omega)
    obtain ⟨n1, hn1, rfl⟩ := nI_ex (m := 20) hnn
    have hc_n1 : (nI n1).toNatClampNeg = n1 := nI_clamp (by omega)
    have hS_s1 := lyX_shelf hX (show s1 < 8 by omega)
    have h8_s1 : s1 < 8 := by omega
    refine A_iconst (v := 0) dX7_wrongBowls_17 (by decide) ?_
    refine A_istore (lo2 := [some (.ref 0), some (.int (nI s1)), some (.int (nI n1)), some (.int (q_bf σ (nI s1) (nI n1))), some (.int 0), none, none, none]) dX7_wrongBowls_18 (by decide) rfl ?_
    refine A_iconst (v := 0) dX7_wrongBowls_20 (by decide) ?_
    refine A_istore (lo2 := [some (.ref 0), some (.int (nI s1)), some (.int (nI n1)), some (.int (q_bf σ (nI s1) (nI n1))), some (.int 0), some (.int 0), none, none]) dX7_wrongBowls_21 (by decide) rfl ?_
    have loop : ∀ (q_i9 i9 : Nat) (x4 : Int32), i9 + q_i9 = n1 → x4 = nI (fa_cnt (fun k => !(q_wb σ (nI s1) k)) i9) → AW l G mX7_wrongBowls (d + 32) (az_F G Post) 0 0 23 [some (.ref 0), some (.int (nI s1)), some (.int (nI n1)), some (.int (q_bf σ (nI s1) (nI n1))), some (.int x4), some (.int (nI i9)), none, none] [] (sh, (zB sg 37 k1 B1 W1), la) := by
      intro q_i9
      induction q_i9 with
      | zero =>
        intro i9 x4 hi_i9  e_x4
        have hN_i9 : i9 = n1 := by omega
        subst i9
        refine A_iload dX7_wrongBowls_23 rfl ?_
        refine A_iload_n dX7_wrongBowls_25 rfl rfl ?_
        refine A_icmp_ge (tgt := 86) dX7_wrongBowls_26 rfl (fun h_2 => ?_) (fun h_2 => ?_)
        · skip
          refine A_iload dX7_wrongBowls_86 rfl ?_
          have hq : (q_wrongBowls σ (nI s1) (nI n1)) = (x4, σ) := by
            unfold q_wrongBowls
            rw [if_pos hbf, hc_n1, e_x4]
          exact A_iret dX7_wrongBowls_88 rfl (hP _ _ (XQ_i hq (hK.bowl hB1 hW1)))
        · skip
          exact absurd (Int32.le_refl _) h_2
      | succ q_i9 ih =>
        intro i9 x4 hi_i9  e_x4
        refine A_iload dX7_wrongBowls_23 rfl ?_
        refine A_iload_n dX7_wrongBowls_25 rfl rfl ?_
        refine A_icmp_ge (tgt := 86) dX7_wrongBowls_26 rfl (fun h_3 => ?_) (fun h_3 => ?_)
        · skip
          exact absurd h_3 (nI_ge (by omega) (by omega))
        · skip
          obtain ⟨hin1, hin2⟩ := q_cl_in hcl (k := i9) (by omega)
          have ha1 := zIn_at hK.ok.2 hin1
          have ha2 := zIn_at hK.ok.2 hin2
          have er1 : q_r1 σ (nI s1) i9 = xat (xS σ s1) (2 * nI i9) := by unfold q_r1 xf; rw [hc_s1]
          have er2 : q_r2 σ (nI s1) i9 = xat (xS σ s1) (2 * nI i9 + 1) := by unfold q_r2 xf; rw [hc_s1]
          refine A_aload_n dX7_wrongBowls_29 rfl rfl ?_
          refine B_getR (r := 42) dX7_wrongBowls_30 flX7_56 (hX 0 _ rfl) rfl ?_
          refine A_iload_n dX7_wrongBowls_33 rfl rfl ?_
          refine B_aald (i := s1) (r := (44 + 2 * s1)) dX7_wrongBowls_34 (hX 42 _ rfl) (by decide) rfl rfl (by decide) (rfl) (by omega) (zsh_r h8_s1) ?_
          refine A_iconst (v := 2) dX7_wrongBowls_35 (by decide) ?_
          refine A_iload dX7_wrongBowls_36 rfl ?_
          refine A_imul dX7_wrongBowls_38 ?_
          refine A_callV (n := 0) dX7_wrongBowls_39 kvX4_at mlX7_120 rfl (az_rc_obj clX4 (hS_s1 0 _ rfl)) (ks_at l G (d + 30) sh (zB sg 37 k1 B1 W1) la g σ s1 (2 * nI i9) hX (hK.bowl hB1 hW1) h8_s1) (by omega) (Nat.le_refl _) (Nat.le_refl _) rfl (Nat.le_of_ble_eq_true rfl) (fun r S1 hp => ?_)
          obtain ⟨rfl, rfl⟩ := hp
          show AW l G mX7_wrongBowls (d + 32) (az_F G Post) 0 0 42 [some (.ref 0), some (.int (nI s1)), some (.int (nI n1)), some (.int (q_bf σ (nI s1) (nI n1))), some (.int x4), some (.int (nI i9)), none, none] [.long (xat (xS σ s1) (2 * nI i9))] (sh, (zB sg 37 k1 B1 W1), la)
          refine A_l2i dX7_wrongBowls_42 ?_
          refine B_top ((congrArg Int64.toInt32 er1.symm).trans ha1.1) ?_
          refine A_istore (lo2 := [some (.ref 0), some (.int (nI s1)), some (.int (nI n1)), some (.int (q_bf σ (nI s1) (nI n1))), some (.int x4), some (.int (nI i9)), some (.int (nI (zpx (q_r1 σ (nI s1) i9)))), none]) dX7_wrongBowls_43 (by decide) rfl ?_
          refine A_aload_n dX7_wrongBowls_45 rfl rfl ?_
          refine B_getR (r := 42) dX7_wrongBowls_46 flX7_56 (hX 0 _ rfl) rfl ?_
          refine A_iload_n dX7_wrongBowls_49 rfl rfl ?_
          refine B_aald (i := s1) (r := (44 + 2 * s1)) dX7_wrongBowls_50 (hX 42 _ rfl) (by decide) rfl rfl (by decide) (rfl) (by omega) (zsh_r h8_s1) ?_
          refine A_iconst (v := 2) dX7_wrongBowls_51 (by decide) ?_
          refine A_iload dX7_wrongBowls_52 rfl ?_
          refine A_imul dX7_wrongBowls_54 ?_
          refine A_iconst (v := 1) dX7_wrongBowls_55 (by decide) ?_
          refine A_iadd dX7_wrongBowls_56 ?_
          refine A_callV (n := 0) dX7_wrongBowls_57 kvX4_at mlX7_120 rfl (az_rc_obj clX4 (hS_s1 0 _ rfl)) (ks_at l G (d + 30) sh (zB sg 37 k1 B1 W1) la g σ s1 ((2 * nI i9) + 1) hX (hK.bowl hB1 hW1) h8_s1) (by omega) (Nat.le_refl _) (Nat.le_refl _) rfl (Nat.le_of_ble_eq_true rfl) (fun r S1 hp => ?_)
          obtain ⟨rfl, rfl⟩ := hp
          show AW l G mX7_wrongBowls (d + 32) (az_F G Post) 0 0 60 [some (.ref 0), some (.int (nI s1)), some (.int (nI n1)), some (.int (q_bf σ (nI s1) (nI n1))), some (.int x4), some (.int (nI i9)), some (.int (nI (zpx (q_r1 σ (nI s1) i9)))), none] [.long (xat (xS σ s1) ((2 * nI i9) + 1))] (sh, (zB sg 37 k1 B1 W1), la)
          refine A_l2i dX7_wrongBowls_60 ?_
          refine B_top ((congrArg Int64.toInt32 er2.symm).trans ha2.1) ?_
          refine A_istore (lo2 := [some (.ref 0), some (.int (nI s1)), some (.int (nI n1)), some (.int (q_bf σ (nI s1) (nI n1))), some (.int x4), some (.int (nI i9)), some (.int (nI (zpx (q_r1 σ (nI s1) i9)))), some (.int (nI (zpx (q_r2 σ (nI s1) i9))))]) dX7_wrongBowls_61 (by decide) rfl ?_
          refine A_aload_n dX7_wrongBowls_63 rfl rfl ?_
          refine B_getR (r := 1) dX7_wrongBowls_64 flX7_10 (hX 0 _ rfl) rfl ?_
          refine A_iload dX7_wrongBowls_67 rfl ?_
          refine A_iload dX7_wrongBowls_69 rfl ?_
          refine A_callV (n := 0) dX7_wrongBowls_71 kvX2_isColder mlX7_281 rfl (az_rc_obj clX2 (hX 1 _ rfl)) (kx_isColder l G (d + 29) sh (zB sg 37 k1 B1 W1) la g σ (zpx (q_r1 σ (nI s1) i9)) (zpx (q_r2 σ (nI s1) i9)) hX (hK.bowl hB1 hW1) ha1.2 ha2.2) (by omega) (Nat.le_refl _) (Nat.le_refl _) rfl (Nat.le_of_ble_eq_true rfl) (fun r S1 hp => ?_)
          obtain ⟨rfl, rfl⟩ := hp
          show AW l G mX7_wrongBowls (d + 32) (az_F G Post) 0 0 74 [some (.ref 0), some (.int (nI s1)), some (.int (nI n1)), some (.int (q_bf σ (nI s1) (nI n1))), some (.int x4), some (.int (nI i9)), some (.int (nI (zpx (q_r1 σ (nI s1) i9)))), some (.int (nI (zpx (q_r2 σ (nI s1) i9))))] [.int (b2i (zc (xN σ) (zpx (q_r2 σ (nI s1) i9)) < zc (xN σ) (zpx (q_r1 σ (nI s1) i9))))] (sh, (zB sg 37 k1 B1 W1), la)
          refine A_if_ne (tgt := 80) dX7_wrongBowls_74 rfl (fun h_4 => ?_) (fun h_4 => ?_)
          · skip
            have h_4' := b2i_n.mp h_4
            refine A_iinc (v := nI (i9 + 1)) (lo2 := [some (.ref 0), some (.int (nI s1)), some (.int (nI n1)), some (.int (q_bf σ (nI s1) (nI n1))), some (.int x4), some (.int (nI (i9 + 1))), some (.int (nI (zpx (q_r1 σ (nI s1) i9)))), some (.int (nI (zpx (q_r2 σ (nI s1) i9))))]) dX7_wrongBowls_80 rfl (nI_1 i9) (by decide) rfl ?_
            refine A_goto (tgt := 23) dX7_wrongBowls_83 rfl ?_
            refine A_forget (lo2 := [some (.ref 0), some (.int (nI s1)), some (.int (nI n1)), some (.int (q_bf σ (nI s1) (nI n1))), some (.int x4), some (.int (nI (i9 + 1))), none, none]) ⟨rfl, rfl, rfl, rfl, rfl, rfl, trivial⟩ ?_
            refine ih (i9 + 1) _ (by omega) ?_
            · skip
              rw [e_x4, fa_cnt_no (p := fun k => !(q_wb σ (nI s1) k)) (by show (!(decide _)) = false; rw [decide_eq_true h_4']; rfl)]
          · skip
            have h_4' := b2i_0.mp h_4
            refine A_iinc (v := (x4 + 1)) (lo2 := [some (.ref 0), some (.int (nI s1)), some (.int (nI n1)), some (.int (q_bf σ (nI s1) (nI n1))), some (.int (x4 + 1)), some (.int (nI i9)), some (.int (nI (zpx (q_r1 σ (nI s1) i9)))), some (.int (nI (zpx (q_r2 σ (nI s1) i9))))]) dX7_wrongBowls_77 rfl rfl (by decide) rfl ?_
            refine A_iinc (v := nI (i9 + 1)) (lo2 := [some (.ref 0), some (.int (nI s1)), some (.int (nI n1)), some (.int (q_bf σ (nI s1) (nI n1))), some (.int (x4 + 1)), some (.int (nI (i9 + 1))), some (.int (nI (zpx (q_r1 σ (nI s1) i9)))), some (.int (nI (zpx (q_r2 σ (nI s1) i9))))]) dX7_wrongBowls_80 rfl (nI_1 i9) (by decide) rfl ?_
            refine A_goto (tgt := 23) dX7_wrongBowls_83 rfl ?_
            refine A_forget (lo2 := [some (.ref 0), some (.int (nI s1)), some (.int (nI n1)), some (.int (q_bf σ (nI s1) (nI n1))), some (.int (x4 + 1)), some (.int (nI (i9 + 1))), none, none]) ⟨rfl, rfl, rfl, rfl, rfl, rfl, trivial⟩ ?_
            refine ih (i9 + 1) _ (by omega) ?_
            · skip
              rw [e_x4, fa_cnt_yes (p := fun k => !(q_wb σ (nI s1) k)) (by show (!(decide _)) = true; rw [decide_eq_false h_4']; rfl)]; exact nI_1 _
    exact loop (n1) 0 _ (by omega) (rfl)
  · skip
    refine A_aload_n dX7_wrongBowls_11 rfl rfl ?_
    refine A_iload_n dX7_wrongBowls_12 rfl rfl ?_
    obtain ⟨k9, hk9, hq9⟩ := q_bf_k σ s n
    have hq9 := hq9.resolve_left h_1
    refine A_callV (n := 0) dX7_wrongBowls_13 kvX7_refuse mlX7_77 rfl (az_rc_obj clX7 (hX 0 _ rfl)) (c_X7_refuse l G (d + 30) sh (zB sg 37 k1 B1 W1) la (q_bf σ s n) k9 hX hk9 hq9) (by omega) (Nat.le_refl _) (Nat.le_refl _) rfl (Nat.le_of_ble_eq_true rfl) (fun r S1 hp => ?_)
    obtain ⟨rfl, rfl⟩ := hp
    show AW l G mX7_wrongBowls (d + 32) (az_F G Post) 0 0 16 [some (.ref 0), some (.int s), some (.int n), some (.int (q_bf σ s n)), none, none, none, none] [.int (q_bf σ s n)] (sh, (az_w (zB sg 37 k1 B1 W1) 43 k9 ((zB sg 37 k1 B1 W1) 43 k9 + 1)), la)
    have hq : (q_wrongBowls σ s n) = (q_bf σ s n, (rfs σ k9)) := by
      unfold q_wrongBowls
      rw [if_neg h_1]
      exact qr_v hk9 hq9
    exact A_iret dX7_wrongBowls_16 rfl (hP _ _ (XQ_i hq ((hK.bowl hB1 hW1).ref hk9)))
