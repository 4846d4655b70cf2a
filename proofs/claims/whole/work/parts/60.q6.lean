set_option maxHeartbeats 1000000 in
set_option maxRecDepth 100000 in
theorem kf_twosFault (l : Launch) (G : az_Gh) (d : Nat) (sh : List az_Sh) (sg : Nat → Nat → Int32) (la : Nat → Nat → Int64) (g : GGM) (σ : SGM) (s n : Int32) (hX : az_at sh 0 lyX) (hK : KX g sg la σ)  : FM l G (d + 3) mX7_twosFault [.ref 0, .int s, .int n] (sh, sg, la) (some (.int (q_tf σ s n))) (sh, sg, la) := by
  refine az_fm knX7_twosFault (Nat.le_of_ble_eq_true rfl) rfl (fun Post hP => ?_)
  show AW l G mX7_twosFault (d + 3) (az_F G Post) 0 0 0 [some (.ref 0), some (.int s), some (.int n)] [] (sh, sg, la)
  have hC := lyX_now hX
  have h8N := hK.ok.2
  refine A_iload_n dX7_twosFault_0 rfl rfl ?_
  refine A_bipush (v := 20) dX7_twosFault_1 (by decide) ?_
  refine A_callS (n := 0) dX7_twosFault_3 ksX7_isWithin mlX7_73 rfl (c_X7_isWithin l G (d + 2) sh sg la n 20) (by omega) (Nat.le_refl _) (Nat.le_refl _) rfl (Nat.le_of_ble_eq_true rfl) (fun r S1 hp => ?_)
  obtain ⟨rfl, rfl⟩ := hp
  show AW l G mX7_twosFault (d + 3) (az_F G Post) 0 0 6 [some (.ref 0), some (.int s), some (.int n)] [.int (b2i (0 ≤ n ∧ n ≤ 20))] (sh, sg, la)
  refine A_if_eq (tgt := 20) dX7_twosFault_6 rfl (fun h_1 => ?_) (fun h_1 => ?_)
  · skip
    have h_1' := b2i_0.mp h_1
    refine A_bipush (v := (-2)) dX7_twosFault_20 (by decide) ?_
    have hq : q_tf σ s n = (-2) := by
      unfold q_tf
      rw [if_neg h_1']
    exact A_iret dX7_twosFault_22 rfl (az_pi hP hq.symm rfl)
  · skip
    have h_1' := b2i_n.mp h_1
    refine A_aload_n dX7_twosFault_9 rfl rfl ?_
    refine A_iload_n dX7_twosFault_10 rfl rfl ?_
    refine A_iconst (v := 2) dX7_twosFault_11 (by decide) ?_
    refine A_iload_n dX7_twosFault_12 rfl rfl ?_
    refine A_imul dX7_twosFault_13 ?_
    refine A_callV (n := 0) dX7_twosFault_14 kvX7_rowFault mlX7_85 rfl (az_rc_obj clX7 (hX 0 _ rfl)) (k_rowFault l G d sh sg la g σ s (2 * n) hX hK) (by omega) (Nat.le_refl _) (Nat.le_refl _) rfl (Nat.le_of_ble_eq_true rfl) (fun r S1 hp => ?_)
    obtain ⟨rfl, rfl⟩ := hp
    show AW l G mX7_twosFault (d + 3) (az_F G Post) 0 0 17 [some (.ref 0), some (.int s), some (.int n)] [.int (q_rf σ s (2 * n))] (sh, sg, la)
    refine A_goto (tgt := 22) dX7_twosFault_17 rfl ?_
    have hq : q_tf σ s n = q_rf σ s (2 * n) := by
      unfold q_tf
      rw [if_pos h_1']
    exact A_iret dX7_twosFault_22 rfl (az_pi hP hq.symm rfl)
set_option maxHeartbeats 1000000 in
set_option maxRecDepth 100000 in
theorem x_judge (l : Launch) (G : az_Gh) (d : Nat) (sh : List az_Sh) (sg : Nat → Nat → Int32) (la : Nat → Nat → Int64) (g : GGM) (σ : SGM) (s n : Int32) (hX : az_at sh 0 lyX) (hK : KX g sg la σ) : AM l G (d + 32) mX7_judge [.ref 0, .int s, .int n] (sh, sg, la) 0 0 (XQ sh g (.int (q_judge σ s n).1) (q_judge σ s n).2) := by
  refine az_am knX7_judge (Nat.le_of_ble_eq_true rfl) rfl (fun Post hP => ?_)
  show AW l G mX7_judge (d + 32) (az_F G Post) 0 0 0 [some (.ref 0), some (.int s), some (.int n), none] [] (sh, sg, la)
  have hC := lyX_now hX
  have h8N := hK.ok.2
  refine A_iload_n dX7_judge_0 rfl rfl ?_
  refine A_bipush (v := 40) dX7_judge_1 (by decide) ?_
  refine A_callS (n := 0) dX7_judge_3 ksX7_isWithin mlX7_73 rfl (c_X7_isWithin l G (d + 31) sh sg la n 40) (by omega) (Nat.le_refl _) (Nat.le_refl _) rfl (Nat.le_of_ble_eq_true rfl) (fun r S1 hp => ?_)
  obtain ⟨rfl, rfl⟩ := hp
  show AW l G mX7_judge (d + 32) (az_F G Post) 0 0 6 [some (.ref 0), some (.int s), some (.int n), none] [.int (b2i (0 ≤ n ∧ n ≤ 40))] (sh, sg, la)
  refine A_if_eq (tgt := 18) dX7_judge_6 rfl (fun h_1 => ?_) (fun h_1 => ?_)
  · skip
    have h_1' := b2i_0.mp h_1
    refine A_bipush (v := (-2)) dX7_judge_18 (by decide) ?_
    refine A_istore_n (lo2 := [some (.ref 0), some (.int s), some (.int n), some (.int (-2))]) dX7_judge_20 rfl (by decide) rfl ?_
    refine A_iload_n dX7_judge_21 rfl rfl ?_
    refine A_if_eq (tgt := 33) dX7_judge_22 rfl (fun h_2 => ?_) (fun h_2 => ?_)
    · skip
      exact absurd h_2 (by decide)
    · skip
      refine A_aload_n dX7_judge_25 rfl rfl ?_
      refine A_iload_n dX7_judge_26 rfl rfl ?_
      refine A_callV (n := 0) dX7_judge_27 kvX7_refuse mlX7_77 rfl (az_rc_obj clX7 (hX 0 _ rfl)) (c_X7_refuse l G (d + 30) sh sg la (-2) 0 hX (by decide) (by decide)) (by omega) (Nat.le_refl _) (Nat.le_refl _) rfl (Nat.le_of_ble_eq_true rfl) (fun r S1 hp => ?_)
      obtain ⟨rfl, rfl⟩ := hp
      show AW l G mX7_judge (d + 32) (az_F G Post) 0 0 30 [some (.ref 0), some (.int s), some (.int n), some (.int (-2))] [.int (-2)] (sh, (az_w sg 43 0 (sg 43 0 + 1)), la)
      refine A_goto (tgt := 51) dX7_judge_30 rfl ?_
      have hq : (q_judge σ s n) = ((-2), (rfs σ 0)) := by
        unfold q_judge
        rw [if_neg h_1']
        first | done | rfl
      exact A_iret dX7_judge_51 rfl (hP _ _ (XQ_i hq (hK.ref (by decide))))
  · skip
    have h_1' := b2i_n.mp h_1
    refine A_aload_n dX7_judge_9 rfl rfl ?_
    refine A_iload_n dX7_judge_10 rfl rfl ?_
    refine A_iload_n dX7_judge_11 rfl rfl ?_
    refine A_callV (n := 0) dX7_judge_12 kvX7_rowFault mlX7_85 rfl (az_rc_obj clX7 (hX 0 _ rfl)) (k_rowFault l G (d + 29) sh sg la g σ s n hX hK) (by omega) (Nat.le_refl _) (Nat.le_refl _) rfl (Nat.le_of_ble_eq_true rfl) (fun r S1 hp => ?_)
    obtain ⟨rfl, rfl⟩ := hp
    show AW l G mX7_judge (d + 32) (az_F G Post) 0 0 15 [some (.ref 0), some (.int s), some (.int n), none] [.int (q_rf σ s n)] (sh, sg, la)
    refine A_goto (tgt := 20) dX7_judge_15 rfl ?_
    refine A_istore_n (lo2 := [some (.ref 0), some (.int s), some (.int n), some (.int (q_rf σ s n))]) dX7_judge_20 rfl (by decide) rfl ?_
    refine A_iload_n dX7_judge_21 rfl rfl ?_
    refine A_if_eq (tgt := 33) dX7_judge_22 rfl (fun h_3 => ?_) (fun h_3 => ?_)
    · skip
      have hrf := h_3
      obtain ⟨hsh, hs1, hs2, hs3⟩ := q_rf_0 hrf
      obtain ⟨s1, hs1, rfl⟩ := nI_ex (m := 7) hsh
      have hc_s1 : (nI s1).toNatClampNeg = s1 := nI_clamp (by omega)
      obtain ⟨n1, hn1, rfl⟩ := nI_ex (m := 40) h_1'
      have hc_n1 : (nI n1).toNatClampNeg = n1 := nI_clamp (by omega)
      refine A_aload_n dX7_judge_33 rfl rfl ?_
      refine B_getR (r := 13) dX7_judge_34 flX7_22 (hX 0 _ rfl) rfl ?_
      refine A_aload_n dX7_judge_37 rfl rfl ?_
      refine B_getR (r := 1) dX7_judge_38 flX7_10 (hX 0 _ rfl) rfl ?_
      refine A_aload_n dX7_judge_41 rfl rfl ?_
      refine B_getR (r := 42) dX7_judge_42 flX7_56 (hX 0 _ rfl) rfl ?_
      refine A_iload_n dX7_judge_45 rfl rfl ?_
      have hS_s1 := lyX_shelf hX (show s1 < 8 by omega)
      have h8_s1 : s1 < 8 := by omega
      refine B_aald (i := s1) (r := (44 + 2 * s1)) dX7_judge_46 (hX 42 _ rfl) (by decide) rfl rfl (by decide) (rfl) (by omega) (zsh_r h8_s1) ?_
      refine A_iload_n dX7_judge_47 rfl rfl ?_
      have hF := lyX_fore hX
      refine B_sg (zput_self sg 14).symm ?_
      have hzz := KX.hz hK h8_s1
      refine A_callV (n := 0) dX7_judge_48 kvX3_firstWrong mlX7_319 rfl (az_rc_obj clX3 (hX 13 _ rfl)) (f_X3_firstWrong l G (d + 27) sh sg la 13 1 (ct sg 14) (xN σ) (44 + 2 * s1) n1 hF hC (by omega) hK.now hK.tl.1 hK.ctl hK.rng hS_s1 (by omega) hzz (by omega)) (by omega) (Nat.le_refl _) (Nat.le_refl _) rfl (Nat.le_of_ble_eq_true rfl) (fun r S1 hp => ?_)
      obtain ⟨rfl, e1, he1, rfl⟩ := hp
      show AW l G mX7_judge (d + 32) (az_F G Post) 0 0 51 [some (.ref 0), some (.int (nI s1)), some (.int (nI n1)), some (.int (q_rf σ (nI s1) (nI n1)))] [.int (oI (zwrg sg la (44 + 2 * s1) (xN σ) n1))] (sh, (zput sg 14 e1), la)
      have hq : (q_judge σ (nI s1) (nI n1)) = (oI (zwrg sg la (44 + 2 * s1) (xN σ) n1), σ) := by
        unfold q_judge
        rw [if_pos h_1', if_pos hrf, hc_n1, zwrg_x hK h8_s1]
      exact A_iret dX7_judge_51 rfl (hP _ _ (XQ_i hq (hK.put14 he1)))
    · skip
      refine A_aload_n dX7_judge_25 rfl rfl ?_
      refine A_iload_n dX7_judge_26 rfl rfl ?_
      obtain ⟨k9, hk9, hq9⟩ := q_rf_k σ s n
      have hq9 := hq9.resolve_left h_3
      refine A_callV (n := 0) dX7_judge_27 kvX7_refuse mlX7_77 rfl (az_rc_obj clX7 (hX 0 _ rfl)) (c_X7_refuse l G (d + 30) sh sg la (q_rf σ s n) k9 hX hk9 hq9) (by omega) (Nat.le_refl _) (Nat.le_refl _) rfl (Nat.le_of_ble_eq_true rfl) (fun r S1 hp => ?_)
      obtain ⟨rfl, rfl⟩ := hp
      show AW l G mX7_judge (d + 32) (az_F G Post) 0 0 30 [some (.ref 0), some (.int s), some (.int n), some (.int (q_rf σ s n))] [.int (q_rf σ s n)] (sh, (az_w sg 43 k9 (sg 43 k9 + 1)), la)
      refine A_goto (tgt := 51) dX7_judge_30 rfl ?_
      have hq : (q_judge σ s n) = (q_rf σ s n, (rfs σ k9)) := by
        unfold q_judge
        rw [if_pos h_1', if_neg h_3]
        exact qr_v hk9 hq9
      exact A_iret dX7_judge_51 rfl (hP _ _ (XQ_i hq (hK.ref hk9)))
set_option maxHeartbeats 1000000 in
set_option maxRecDepth 100000 in
theorem x_prides (l : Launch) (G : az_Gh) (d : Nat) (sh : List az_Sh) (sg : Nat → Nat → Int32) (la : Nat → Nat → Int64) (g : GGM) (σ : SGM) (s n p : Int32) (hX : az_at sh 0 lyX) (hK : KX g sg la σ) : AM l G (d + 32) mX7_prides [.ref 0, .int s, .int n, .int p] (sh, sg, la) 0 0 (XQ sh g (.int (q_prides σ s n p).1) (q_prides σ s n p).2) := by
  refine az_am knX7_prides (Nat.le_of_ble_eq_true rfl) rfl (fun Post hP => ?_)
  show AW l G mX7_prides (d + 32) (az_F G Post) 0 0 0 [some (.ref 0), some (.int s), some (.int n), some (.int p), none] [] (sh, sg, la)
  have hC := lyX_now hX
  have h8N := hK.ok.2
  refine A_aload_n dX7_prides_0 rfl rfl ?_
  refine B_getR (r := 1) dX7_prides_1 flX7_10 (hX 0 _ rfl) rfl ?_
  refine A_iload_n dX7_prides_4 rfl rfl ?_
  refine A_callV (n := 0) dX7_prides_5 kvX2_hasOne mlX7_127 rfl (az_rc_obj clX2 (hX 1 _ rfl)) (kx_hasOne l G (d + 31) sh sg la g σ p hX hK) (by omega) (Nat.le_refl _) (Nat.le_refl _) rfl (Nat.le_of_ble_eq_true rfl) (fun r S1 hp => ?_)
  obtain ⟨rfl, rfl⟩ := hp
  show AW l G mX7_prides (d + 32) (az_F G Post) 0 0 8 [some (.ref 0), some (.int s), some (.int n), some (.int p), none] [.int (b2i (0 ≤ p ∧ p < cPp (xN σ)))] (sh, sg, la)
  refine A_if_eq (tgt := 20) dX7_prides_8 rfl (fun h_1 => ?_) (fun h_1 => ?_)
  · skip
    have h_1' := b2i_0.mp h_1
    refine A_bipush (v := (-2)) dX7_prides_20 (by decide) ?_
    refine A_istore (lo2 := [some (.ref 0), some (.int s), some (.int n), some (.int p), some (.int (-2))]) dX7_prides_22 (by decide) rfl ?_
    refine A_iload dX7_prides_24 rfl ?_
    refine A_if_eq (tgt := 36) dX7_prides_26 rfl (fun h_2 => ?_) (fun h_2 => ?_)
    · skip
      exact absurd h_2 (by decide)
    · skip
      refine A_aload_n dX7_prides_29 rfl rfl ?_
      refine A_iload dX7_prides_30 rfl ?_
      refine A_callV (n := 0) dX7_prides_32 kvX7_refuse mlX7_77 rfl (az_rc_obj clX7 (hX 0 _ rfl)) (c_X7_refuse l G (d + 30) sh sg la (-2) 0 hX (by decide) (by decide)) (by omega) (Nat.le_refl _) (Nat.le_refl _) rfl (Nat.le_of_ble_eq_true rfl) (fun r S1 hp => ?_)
      obtain ⟨rfl, rfl⟩ := hp
      show AW l G mX7_prides (d + 32) (az_F G Post) 0 0 35 [some (.ref 0), some (.int s), some (.int n), some (.int p), some (.int (-2))] [.int (-2)] (sh, (az_w sg 43 0 (sg 43 0 + 1)), la)
      have hq : (q_prides σ s n p) = ((-2), (rfs σ 0)) := by
        unfold q_prides
        rw [if_neg h_1']
        first | done | rfl
      exact A_iret dX7_prides_35 rfl (hP _ _ (XQ_i hq (hK.ref (by decide))))
  · skip
    have h_1' := b2i_n.mp h_1
    refine A_aload_n dX7_prides_11 rfl rfl ?_
    refine A_iload_n dX7_prides_12 rfl rfl ?_
    refine A_iload_n dX7_prides_13 rfl rfl ?_
    refine A_callV (n := 0) dX7_prides_14 kvX7_twosFault mlX7_248 rfl (az_rc_obj clX7 (hX 0 _ rfl)) (kf_twosFault l G (d + 28) sh sg la g σ s n hX hK) (by omega) (Nat.le_refl _) (Nat.le_refl _) rfl (Nat.le_of_ble_eq_true rfl) (fun r S1 hp => ?_)
    obtain ⟨rfl, rfl⟩ := hp
    show AW l G mX7_prides (d + 32) (az_F G Post) 0 0 17 [some (.ref 0), some (.int s), some (.int n), some (.int p), none] [.int (q_tf σ s n)] (sh, sg, la)
    refine A_goto (tgt := 22) dX7_prides_17 rfl ?_
    refine A_istore (lo2 := [some (.ref 0), some (.int s), some (.int n), some (.int p), some (.int (q_tf σ s n))]) dX7_prides_22 (by decide) rfl ?_
    refine A_iload dX7_prides_24 rfl ?_
    refine A_if_eq (tgt := 36) dX7_prides_26 rfl (fun h_3 => ?_) (fun h_3 => ?_)
    · skip
      have htf := h_3
      obtain ⟨hnn, hrf⟩ := q_tf_0 htf
      obtain ⟨hsh, hs1, hs2, hs3⟩ := q_rf_0 hrf
      obtain ⟨p1, hp1, rfl⟩ := nI_exp hK.ok h_1'
      have hc_p1 : (nI p1).toNatClampNeg = p1 := nI_clamp (by omega)
      obtain ⟨s1, hs1, rfl⟩ := nI_ex (m := 7) hsh
      have hc_s1 : (nI s1).toNatClampNeg = s1 := nI_clamp (by omega)
      obtain ⟨n1, hn1, rfl⟩ := nI_ex (m := 20) hnn
      have hc_n1 : (nI n1).toNatClampNeg = n1 := nI_clamp (by omega)
      refine A_aload_n dX7_prides_36 rfl rfl ?_
      refine B_getR (r := 42) dX7_prides_37 flX7_56 (hX 0 _ rfl) rfl ?_
      refine A_iload_n dX7_prides_40 rfl rfl ?_
      have hS_s1 := lyX_shelf hX (show s1 < 8 by omega)
      have h8_s1 : s1 < 8 := by omega
      refine B_aald (i := s1) (r := (44 + 2 * s1)) dX7_prides_41 (hX 42 _ rfl) (by decide) rfl rfl (by decide) (rfl) (by omega) (zsh_r h8_s1) ?_
      refine A_iload_n dX7_prides_42 rfl rfl ?_
      refine A_callS (n := 0) dX7_prides_43 ksX7_areAirs mlX7_251 rfl (c_X7_areAirs l G (d + 29) sh sg la (44 + 2 * s1) n1 hS_s1 (fSz (xS σ s1)) (hK.sh h8_s1).2.1 (hK.fw h8_s1).2.1 (by omega)) (by omega) (Nat.le_refl _) (Nat.le_refl _) rfl (Nat.le_of_ble_eq_true rfl) (fun r S1 hp => ?_)
      obtain ⟨rfl, rfl⟩ := hp
      show AW l G mX7_prides (d + 32) (az_F G Post) 0 0 46 [some (.ref 0), some (.int (nI s1)), some (.int (nI n1)), some (.int (nI p1)), some (.int (q_tf σ (nI s1) (nI n1)))] [.int (b2i (zallb (zairs sg la (44 + 2 * s1)) n1 = true))] (sh, sg, la)
      refine A_if_eq (tgt := 62) dX7_prides_46 rfl (fun h_4 => ?_) (fun h_4 => ?_)
      · skip
        have h_4' := b2i_0.mp h_4
        refine A_aload_n dX7_prides_62 rfl rfl ?_
        refine A_bipush (v := (-5)) dX7_prides_63 (by decide) ?_
        refine A_callV (n := 0) dX7_prides_65 kvX7_refuse mlX7_77 rfl (az_rc_obj clX7 (hX 0 _ rfl)) (c_X7_refuse l G (d + 30) sh sg la (-5) 3 hX (by decide) (by decide)) (by omega) (Nat.le_refl _) (Nat.le_refl _) rfl (Nat.le_of_ble_eq_true rfl) (fun r S1 hp => ?_)
        obtain ⟨rfl, rfl⟩ := hp
        show AW l G mX7_prides (d + 32) (az_F G Post) 0 0 68 [some (.ref 0), some (.int (nI s1)), some (.int (nI n1)), some (.int (nI p1)), some (.int (q_tf σ (nI s1) (nI n1)))] [.int (-5)] (sh, (az_w sg 43 3 (sg 43 3 + 1)), la)
        have hq : (q_prides σ (nI s1) (nI n1) (nI p1)) = ((-5), (rfs σ 3)) := by
          unfold q_prides
          rw [if_pos h_1', if_pos htf, hc_n1, if_neg (fun q => h_4' (by rw [zairs_x hK h8_s1]; exact q.1))]
          first | done | rfl
        exact A_iret dX7_prides_68 rfl (hP _ _ (XQ_i hq (hK.ref (by decide))))
      · skip
        have h_4' := b2i_n.mp h_4
        refine A_aload_n dX7_prides_49 rfl rfl ?_
        refine B_getR (r := 42) dX7_prides_50 flX7_56 (hX 0 _ rfl) rfl ?_
        refine A_iload_n dX7_prides_53 rfl rfl ?_
        refine B_aald (i := s1) (r := (44 + 2 * s1)) dX7_prides_54 (hX 42 _ rfl) (by decide) rfl rfl (by decide) (rfl) (by omega) (zsh_r h8_s1) ?_
        refine A_iload_n dX7_prides_55 rfl rfl ?_
        refine A_callS (n := 0) dX7_prides_56 ksX7_areWhethers mlX7_255 rfl (c_X7_areWhethers l G (d + 29) sh sg la (44 + 2 * s1) n1 hS_s1 (fSz (xS σ s1)) (hK.sh h8_s1).2.1 (hK.fw h8_s1).2.1 (by omega)) (by omega) (Nat.le_refl _) (Nat.le_refl _) rfl (Nat.le_of_ble_eq_true rfl) (fun r S1 hp => ?_)
        obtain ⟨rfl, rfl⟩ := hp
        show AW l G mX7_prides (d + 32) (az_F G Post) 0 0 59 [some (.ref 0), some (.int (nI s1)), some (.int (nI n1)), some (.int (nI p1)), some (.int (q_tf σ (nI s1) (nI n1)))] [.int (b2i (zallb (zwhe sg la (44 + 2 * s1)) n1 = true))] (sh, sg, la)
        refine A_if_ne (tgt := 69) dX7_prides_59 rfl (fun h_5 => ?_) (fun h_5 => ?_)
        · skip
          have h_5' := b2i_n.mp h_5
          refine A_aload_n dX7_prides_69 rfl rfl ?_
          refine B_getR (r := 13) dX7_prides_70 flX7_22 (hX 0 _ rfl) rfl ?_
          refine A_aload_n dX7_prides_73 rfl rfl ?_
          refine B_getR (r := 1) dX7_prides_74 flX7_10 (hX 0 _ rfl) rfl ?_
          refine A_aload_n dX7_prides_77 rfl rfl ?_
          refine B_getR (r := 42) dX7_prides_78 flX7_56 (hX 0 _ rfl) rfl ?_
          refine A_iload_n dX7_prides_81 rfl rfl ?_
          refine B_aald (i := s1) (r := (44 + 2 * s1)) dX7_prides_82 (hX 42 _ rfl) (by decide) rfl rfl (by decide) (rfl) (by omega) (zsh_r h8_s1) ?_
          refine A_iload_n dX7_prides_83 rfl rfl ?_
          refine A_iload_n dX7_prides_84 rfl rfl ?_
          have hF := lyX_fore hX
          refine B_sg (zput_self sg 14).symm ?_
          have hzz := KX.hz hK h8_s1
          refine A_callV (n := 0) dX7_prides_85 kvX3_pridesBy mlX7_258 rfl (az_rc_obj clX3 (hX 13 _ rfl)) (f_X3_pridesBy l G (d + 27) sh sg la 13 1 (ct sg 14) (xN σ) (44 + 2 * s1) n1 p1 hF hC (by omega) hK.now hK.tl.1 hK.ctl hK.rng hS_s1 (by omega) hzz hp1 (by omega)) (by omega) (Nat.le_refl _) (Nat.le_refl _) rfl (Nat.le_of_ble_eq_true rfl) (fun r S1 hp => ?_)
          obtain ⟨rfl, e1, he1, rfl⟩ := hp
          show AW l G mX7_prides (d + 32) (az_F G Post) 0 0 88 [some (.ref 0), some (.int (nI s1)), some (.int (nI n1)), some (.int (nI p1)), some (.int (q_tf σ (nI s1) (nI n1)))] [.int (zbits (fun v => zaP sg la (44 + 2 * s1) (xN σ) n1 p1 v) 21)] (sh, (zput sg 14 e1), la)
          have hq : (q_prides σ (nI s1) (nI n1) (nI p1)) = (zbits (fun v => zaP sg la (44 + 2 * s1) (xN σ) n1 p1 v) 21, σ) := by
            unfold q_prides
            rw [if_pos h_1', if_pos htf, hc_n1, if_pos ⟨(by rw [← zairs_x hK h8_s1]; exact h_4'), (by rw [← zwhe_x hK h8_s1]; exact h_5')⟩, hc_p1]
            rw [show (fun v => zaP sg la (44 + 2 * s1) (xN σ) n1 p1 v) = q_aP σ (nI s1) n1 p1 from funext (fun v => zaP_x hK h8_s1)]
          exact A_iret dX7_prides_88 rfl (hP _ _ (XQ_i hq (hK.put14 he1)))
        · skip
          have h_5' := b2i_0.mp h_5
          refine A_aload_n dX7_prides_62 rfl rfl ?_
          refine A_bipush (v := (-5)) dX7_prides_63 (by decide) ?_
          refine A_callV (n := 0) dX7_prides_65 kvX7_refuse mlX7_77 rfl (az_rc_obj clX7 (hX 0 _ rfl)) (c_X7_refuse l G (d + 30) sh sg la (-5) 3 hX (by decide) (by decide)) (by omega) (Nat.le_refl _) (Nat.le_refl _) rfl (Nat.le_of_ble_eq_true rfl) (fun r S1 hp => ?_)
          obtain ⟨rfl, rfl⟩ := hp
          show AW l G mX7_prides (d + 32) (az_F G Post) 0 0 68 [some (.ref 0), some (.int (nI s1)), some (.int (nI n1)), some (.int (nI p1)), some (.int (q_tf σ (nI s1) (nI n1)))] [.int (-5)] (sh, (az_w sg 43 3 (sg 43 3 + 1)), la)
          have hq : (q_prides σ (nI s1) (nI n1) (nI p1)) = ((-5), (rfs σ 3)) := by
            unfold q_prides
            rw [if_pos h_1', if_pos htf, hc_n1, if_neg (fun q => h_5' (by rw [zwhe_x hK h8_s1]; exact q.2))]
            first | done | rfl
          exact A_iret dX7_prides_68 rfl (hP _ _ (XQ_i hq (hK.ref (by decide))))
    · skip
      refine A_aload_n dX7_prides_29 rfl rfl ?_
      refine A_iload dX7_prides_30 rfl ?_
      obtain ⟨k9, hk9, hq9⟩ := q_tf_k σ s n
      have hq9 := hq9.resolve_left h_3
      refine A_callV (n := 0) dX7_prides_32 kvX7_refuse mlX7_77 rfl (az_rc_obj clX7 (hX 0 _ rfl)) (c_X7_refuse l G (d + 30) sh sg la (q_tf σ s n) k9 hX hk9 hq9) (by omega) (Nat.le_refl _) (Nat.le_refl _) rfl (Nat.le_of_ble_eq_true rfl) (fun r S1 hp => ?_)
      obtain ⟨rfl, rfl⟩ := hp
      show AW l G mX7_prides (d + 32) (az_F G Post) 0 0 35 [some (.ref 0), some (.int s), some (.int n), some (.int p), some (.int (q_tf σ s n))] [.int (q_tf σ s n)] (sh, (az_w sg 43 k9 (sg 43 k9 + 1)), la)
      have hq : (q_prides σ s n p) = (q_tf σ s n, (rfs σ k9)) := by
        unfold q_prides
        rw [if_pos h_1', if_neg h_3]
        exact qr_v hk9 hq9
      exact A_iret dX7_prides_35 rfl (hP _ _ (XQ_i hq (hK.ref hk9)))
set_option maxHeartbeats 1000000 in
set_option maxRecDepth 100000 in
theorem x_kinds (l : Launch) (G : az_Gh) (d : Nat) (sh : List az_Sh) (sg : Nat → Nat → Int32) (la : Nat → Nat → Int64) (g : GGM) (σ : SGM) (s n p : Int32) (hX : az_at sh 0 lyX) (hK : KX g sg la σ) : AM l G (d + 32) mX7_kinds [.ref 0, .int s, .int n, .int p] (sh, sg, la) 0 0 (XQ sh g (.int (q_kinds σ s n p).1) (q_kinds σ s n p).2) := by
  refine az_am knX7_kinds (Nat.le_of_ble_eq_true rfl) rfl (fun Post hP => ?_)
  show AW l G mX7_kinds (d + 32) (az_F G Post) 0 0 0 [some (.ref 0), some (.int s), some (.int n), some (.int p), none] [] (sh, sg, la)
  have hC := lyX_now hX
  have h8N := hK.ok.2
  refine A_aload_n dX7_kinds_0 rfl rfl ?_
  refine B_getR (r := 1) dX7_kinds_1 flX7_10 (hX 0 _ rfl) rfl ?_
  refine A_iload_n dX7_kinds_4 rfl rfl ?_
  refine A_callV (n := 0) dX7_kinds_5 kvX2_hasOne mlX7_127 rfl (az_rc_obj clX2 (hX 1 _ rfl)) (kx_hasOne l G (d + 31) sh sg la g σ p hX hK) (by omega) (Nat.le_refl _) (Nat.le_refl _) rfl (Nat.le_of_ble_eq_true rfl) (fun r S1 hp => ?_)
  obtain ⟨rfl, rfl⟩ := hp
  show AW l G mX7_kinds (d + 32) (az_F G Post) 0 0 8 [some (.ref 0), some (.int s), some (.int n), some (.int p), none] [.int (b2i (0 ≤ p ∧ p < cPp (xN σ)))] (sh, sg, la)
  refine A_if_eq (tgt := 20) dX7_kinds_8 rfl (fun h_1 => ?_) (fun h_1 => ?_)
  · skip
    have h_1' := b2i_0.mp h_1
    refine A_bipush (v := (-2)) dX7_kinds_20 (by decide) ?_
    refine A_istore (lo2 := [some (.ref 0), some (.int s), some (.int n), some (.int p), some (.int (-2))]) dX7_kinds_22 (by decide) rfl ?_
    refine A_iload dX7_kinds_24 rfl ?_
    refine A_if_eq (tgt := 36) dX7_kinds_26 rfl (fun h_2 => ?_) (fun h_2 => ?_)
    · skip
      exact absurd h_2 (by decide)
    · skip
      refine A_aload_n dX7_kinds_29 rfl rfl ?_
      refine A_iload dX7_kinds_30 rfl ?_
      refine A_callV (n := 0) dX7_kinds_32 kvX7_refuse mlX7_77 rfl (az_rc_obj clX7 (hX 0 _ rfl)) (c_X7_refuse l G (d + 30) sh sg la (-2) 0 hX (by decide) (by decide)) (by omega) (Nat.le_refl _) (Nat.le_refl _) rfl (Nat.le_of_ble_eq_true rfl) (fun r S1 hp => ?_)
      obtain ⟨rfl, rfl⟩ := hp
      show AW l G mX7_kinds (d + 32) (az_F G Post) 0 0 35 [some (.ref 0), some (.int s), some (.int n), some (.int p), some (.int (-2))] [.int (-2)] (sh, (az_w sg 43 0 (sg 43 0 + 1)), la)
      have hq : (q_kinds σ s n p) = ((-2), (rfs σ 0)) := by
        unfold q_kinds
        rw [if_neg h_1']
        first | done | rfl
      exact A_iret dX7_kinds_35 rfl (hP _ _ (XQ_i hq (hK.ref (by decide))))
  · skip
    have h_1' := b2i_n.mp h_1
    refine A_aload_n dX7_kinds_11 rfl rfl ?_
    refine A_iload_n dX7_kinds_12 rfl rfl ?_
    refine A_iload_n dX7_kinds_13 rfl rfl ?_
    refine A_callV (n := 0) dX7_kinds_14 kvX7_twosFault mlX7_248 rfl (az_rc_obj clX7 (hX 0 _ rfl)) (kf_twosFault l G (d + 28) sh sg la g σ s n hX hK) (by omega) (Nat.le_refl _) (Nat.le_refl _) rfl (Nat.le_of_ble_eq_true rfl) (fun r S1 hp => ?_)
    obtain ⟨rfl, rfl⟩ := hp
    show AW l G mX7_kinds (d + 32) (az_F G Post) 0 0 17 [some (.ref 0), some (.int s), some (.int n), some (.int p), none] [.int (q_tf σ s n)] (sh, sg, la)
    refine A_goto (tgt := 22) dX7_kinds_17 rfl ?_
    refine A_istore (lo2 := [some (.ref 0), some (.int s), some (.int n), some (.int p), some (.int (q_tf σ s n))]) dX7_kinds_22 (by decide) rfl ?_
    refine A_iload dX7_kinds_24 rfl ?_
    refine A_if_eq (tgt := 36) dX7_kinds_26 rfl (fun h_3 => ?_) (fun h_3 => ?_)
    · skip
      have htf := h_3
      obtain ⟨hnn, hrf⟩ := q_tf_0 htf
      obtain ⟨hsh, hs1, hs2, hs3⟩ := q_rf_0 hrf
      obtain ⟨p1, hp1, rfl⟩ := nI_exp hK.ok h_1'
      have hc_p1 : (nI p1).toNatClampNeg = p1 := nI_clamp (by omega)
      obtain ⟨s1, hs1, rfl⟩ := nI_ex (m := 7) hsh
      have hc_s1 : (nI s1).toNatClampNeg = s1 := nI_clamp (by omega)
      obtain ⟨n1, hn1, rfl⟩ := nI_ex (m := 20) hnn
      have hc_n1 : (nI n1).toNatClampNeg = n1 := nI_clamp (by omega)
      refine A_aload_n dX7_kinds_36 rfl rfl ?_
      refine B_getR (r := 42) dX7_kinds_37 flX7_56 (hX 0 _ rfl) rfl ?_
      refine A_iload_n dX7_kinds_40 rfl rfl ?_
      have hS_s1 := lyX_shelf hX (show s1 < 8 by omega)
      have h8_s1 : s1 < 8 := by omega
      refine B_aald (i := s1) (r := (44 + 2 * s1)) dX7_kinds_41 (hX 42 _ rfl) (by decide) rfl rfl (by decide) (rfl) (by omega) (zsh_r h8_s1) ?_
      refine A_iload_n dX7_kinds_42 rfl rfl ?_
      refine A_callS (n := 0) dX7_kinds_43 ksX7_areAirs mlX7_251 rfl (c_X7_areAirs l G (d + 29) sh sg la (44 + 2 * s1) n1 hS_s1 (fSz (xS σ s1)) (hK.sh h8_s1).2.1 (hK.fw h8_s1).2.1 (by omega)) (by omega) (Nat.le_refl _) (Nat.le_refl _) rfl (Nat.le_of_ble_eq_true rfl) (fun r S1 hp => ?_)
      obtain ⟨rfl, rfl⟩ := hp
      show AW l G mX7_kinds (d + 32) (az_F G Post) 0 0 46 [some (.ref 0), some (.int (nI s1)), some (.int (nI n1)), some (.int (nI p1)), some (.int (q_tf σ (nI s1) (nI n1)))] [.int (b2i (zallb (zairs sg la (44 + 2 * s1)) n1 = true))] (sh, sg, la)
      refine A_if_ne (tgt := 56) dX7_kinds_46 rfl (fun h_4 => ?_) (fun h_4 => ?_)
      · skip
        have h_4' := b2i_n.mp h_4
        refine A_aload_n dX7_kinds_56 rfl rfl ?_
        refine B_getR (r := 13) dX7_kinds_57 flX7_22 (hX 0 _ rfl) rfl ?_
        refine A_aload_n dX7_kinds_60 rfl rfl ?_
        refine B_getR (r := 1) dX7_kinds_61 flX7_10 (hX 0 _ rfl) rfl ?_
        refine A_aload_n dX7_kinds_64 rfl rfl ?_
        refine B_getR (r := 42) dX7_kinds_65 flX7_56 (hX 0 _ rfl) rfl ?_
        refine A_iload_n dX7_kinds_68 rfl rfl ?_
        refine B_aald (i := s1) (r := (44 + 2 * s1)) dX7_kinds_69 (hX 42 _ rfl) (by decide) rfl rfl (by decide) (rfl) (by omega) (zsh_r h8_s1) ?_
        refine A_iload_n dX7_kinds_70 rfl rfl ?_
        refine A_iload_n dX7_kinds_71 rfl rfl ?_
        have hF := lyX_fore hX
        refine B_sg (zput_self sg 14).symm ?_
        have hzz := KX.hz hK h8_s1
        refine A_callV (n := 0) dX7_kinds_72 kvX3_kindsBy mlX7_262 rfl (az_rc_obj clX3 (hX 13 _ rfl)) (f_X3_kindsBy l G (d + 27) sh sg la 13 1 (ct sg 14) (xN σ) (44 + 2 * s1) n1 p1 hF hC (by omega) hK.now hK.tl.1 hK.ctl hK.rng hS_s1 (by omega) hzz hp1 (by omega)) (by omega) (Nat.le_refl _) (Nat.le_refl _) rfl (Nat.le_of_ble_eq_true rfl) (fun r S1 hp => ?_)
        obtain ⟨rfl, e1, he1, rfl⟩ := hp
        show AW l G mX7_kinds (d + 32) (az_F G Post) 0 0 75 [some (.ref 0), some (.int (nI s1)), some (.int (nI n1)), some (.int (nI p1)), some (.int (q_tf σ (nI s1) (nI n1)))] [.int (zbits (fun v => zaK sg la (44 + 2 * s1) (xN σ) n1 p1 v) 6)] (sh, (zput sg 14 e1), la)
        have hq : (q_kinds σ (nI s1) (nI n1) (nI p1)) = (zbits (fun v => zaK sg la (44 + 2 * s1) (xN σ) n1 p1 v) 6, σ) := by
          unfold q_kinds
          rw [if_pos h_1', if_pos htf, hc_n1, if_pos (by rw [← zairs_x hK h8_s1]; exact h_4'), hc_p1]
          rw [show (fun v => zaK sg la (44 + 2 * s1) (xN σ) n1 p1 v) = q_aK σ (nI s1) n1 p1 from funext (fun v => zaK_x hK h8_s1)]
        exact A_iret dX7_kinds_75 rfl (hP _ _ (XQ_i hq (hK.put14 he1)))
      · skip
        have h_4' := b2i_0.mp h_4
        refine A_aload_n dX7_kinds_49 rfl rfl ?_
        refine A_bipush (v := (-5)) dX7_kinds_50 (by decide) ?_
        refine A_callV (n := 0) dX7_kinds_52 kvX7_refuse mlX7_77 rfl (az_rc_obj clX7 (hX 0 _ rfl)) (c_X7_refuse l G (d + 30) sh sg la (-5) 3 hX (by decide) (by decide)) (by omega) (Nat.le_refl _) (Nat.le_refl _) rfl (Nat.le_of_ble_eq_true rfl) (fun r S1 hp => ?_)
        obtain ⟨rfl, rfl⟩ := hp
        show AW l G mX7_kinds (d + 32) (az_F G Post) 0 0 55 [some (.ref 0), some (.int (nI s1)), some (.int (nI n1)), some (.int (nI p1)), some (.int (q_tf σ (nI s1) (nI n1)))] [.int (-5)] (sh, (az_w sg 43 3 (sg 43 3 + 1)), la)
        have hq : (q_kinds σ (nI s1) (nI n1) (nI p1)) = ((-5), (rfs σ 3)) := by
          unfold q_kinds
          rw [if_pos h_1', if_pos htf, hc_n1, if_neg (fun q => h_4' (by rw [zairs_x hK h8_s1]; exact q))]
          first | done | rfl
        exact A_iret dX7_kinds_55 rfl (hP _ _ (XQ_i hq (hK.ref (by decide))))
    · skip
      refine A_aload_n dX7_kinds_29 rfl rfl ?_
      refine A_iload dX7_kinds_30 rfl ?_
      obtain ⟨k9, hk9, hq9⟩ := q_tf_k σ s n
      have hq9 := hq9.resolve_left h_3
      refine A_callV (n := 0) dX7_kinds_32 kvX7_refuse mlX7_77 rfl (az_rc_obj clX7 (hX 0 _ rfl)) (c_X7_refuse l G (d + 30) sh sg la (q_tf σ s n) k9 hX hk9 hq9) (by omega) (Nat.le_refl _) (Nat.le_refl _) rfl (Nat.le_of_ble_eq_true rfl) (fun r S1 hp => ?_)
      obtain ⟨rfl, rfl⟩ := hp
      show AW l G mX7_kinds (d + 32) (az_F G Post) 0 0 35 [some (.ref 0), some (.int s), some (.int n), some (.int p), some (.int (q_tf σ s n))] [.int (q_tf σ s n)] (sh, (az_w sg 43 k9 (sg 43 k9 + 1)), la)
      have hq : (q_kinds σ s n p) = (q_tf σ s n, (rfs σ k9)) := by
        unfold q_kinds
        rw [if_pos h_1', if_neg h_3]
        exact qr_v hk9 hq9
      exact A_iret dX7_kinds_35 rfl (hP _ _ (XQ_i hq (hK.ref hk9)))
set_option maxHeartbeats 1000000 in
set_option maxRecDepth 100000 in
theorem x_byTurns (l : Launch) (G : az_Gh) (d : Nat) (sh : List az_Sh) (sg : Nat → Nat → Int32) (la : Nat → Nat → Int64) (g : GGM) (σ : SGM) (n : Int32) (hX : az_at sh 0 lyX) (hK : KX g sg la σ) : AM l G (d + 32) mX7_byTurns [.ref 0, .int n] (sh, sg, la) 0 0 (XQ sh g (.int (q_byTurns σ n).1) (q_byTurns σ n).2) := by
  refine az_am knX7_byTurns (Nat.le_of_ble_eq_true rfl) rfl (fun Post hP => ?_)
  show AW l G mX7_byTurns (d + 32) (az_F G Post) 0 0 0 [some (.ref 0), some (.int n)] [] (sh, sg, la)
  have hC := lyX_now hX
  have h8N := hK.ok.2
  refine A_iload_n dX7_byTurns_0 rfl rfl ?_
  refine A_iconst (v := 4) dX7_byTurns_1 (by decide) ?_
  refine A_callS (n := 0) dX7_byTurns_2 ksX7_isWithin mlX7_73 rfl (c_X7_isWithin l G (d + 31) sh sg la n 4) (by omega) (Nat.le_refl _) (Nat.le_refl _) rfl (Nat.le_of_ble_eq_true rfl) (fun r S1 hp => ?_)
  obtain ⟨rfl, rfl⟩ := hp
  show AW l G mX7_byTurns (d + 32) (az_F G Post) 0 0 5 [some (.ref 0), some (.int n)] [.int (b2i (0 ≤ n ∧ n ≤ 4))] (sh, sg, la)
  refine A_if_eq (tgt := 26) dX7_byTurns_5 rfl (fun h_1 => ?_) (fun h_1 => ?_)
  · skip
    have h_1' := b2i_0.mp h_1
    refine A_aload_n dX7_byTurns_26 rfl rfl ?_
    refine A_bipush (v := (-2)) dX7_byTurns_27 (by decide) ?_
    refine A_callV (n := 0) dX7_byTurns_29 kvX7_refuse mlX7_77 rfl (az_rc_obj clX7 (hX 0 _ rfl)) (c_X7_refuse l G (d + 30) sh sg la (-2) 0 hX (by decide) (by decide)) (by omega) (Nat.le_refl _) (Nat.le_refl _) rfl (Nat.le_of_ble_eq_true rfl) (fun r S1 hp => ?_)
    obtain ⟨rfl, rfl⟩ := hp
    show AW l G mX7_byTurns (d + 32) (az_F G Post) 0 0 32 [some (.ref 0), some (.int n)] [.int (-2)] (sh, (az_w sg 43 0 (sg 43 0 + 1)), la)
    have hq : (q_byTurns σ n) = ((-2), (rfs σ 0)) := by
      unfold q_byTurns
      try simp only [h_1', and_true, true_and, and_false, false_and, and_self, or_true, true_or, or_false, false_or, not_true_eq_false, not_false_eq_true, if_true, if_false, ite_true, ite_false, decide_true, decide_false, reduceIte]
      first | done | rfl | (rw [Int32.add_comm]; done)
    exact A_iret dX7_byTurns_32 rfl (hP _ _ (XQ_i hq (hK.ref (by decide))))
  · skip
    have h_1' := b2i_n.mp h_1
    obtain ⟨n1, hn1, rfl⟩ := nI_ex (m := 4) h_1'
    have hc_n1 : (nI n1).toNatClampNeg = n1 := nI_clamp (by omega)
    refine A_aload_n dX7_byTurns_8 rfl rfl ?_
    refine B_getR (r := 29) dX7_byTurns_9 flX7_36 (hX 0 _ rfl) rfl ?_
    refine A_aload_n dX7_byTurns_12 rfl rfl ?_
    refine B_getR (r := 1) dX7_byTurns_13 flX7_10 (hX 0 _ rfl) rfl ?_
    refine A_iload_n dX7_byTurns_16 rfl rfl ?_
    refine B_sg (zput_self sg 30).symm ?_
    refine A_callV (n := 0) dX7_byTurns_17 kvX6_canMakeSo mlX7_284 rfl (az_rc_obj clX6 (hX 29 _ rfl)) (c_X6_canMakeSo l G (d + 1) sh sg la 29 1 (ct sg 30) (xN σ) n1 (lyX_turn hX) hC (by omega) hK.now hK.tl.2.2.1 hK.ctl hK.rng hK.aw (by omega)) (by omega) (Nat.le_refl _) (Nat.le_refl _) rfl (Nat.le_of_ble_eq_true rfl) (fun r S1 hp => ?_)
    obtain ⟨rfl, rfl⟩ := hp
    show AW l G mX7_byTurns (d + 32) (az_F G Post) 0 0 20 [some (.ref 0), some (.int (nI n1))] [.int (b2i (zmk n1 (xN σ) true = true))] (sh, (zput (va_up sg 36 (zkc (xN σ) (sg 36))) 30 (xN σ)), la)
    refine A_callS (n := 0) dX7_byTurns_20 ksX7_asNumber mlX7_177 rfl (c_X7_asNumber l G (d + 31) sh (zput (va_up sg 36 (zkc (xN σ) (sg 36))) 30 (xN σ)) la (zmk n1 (xN σ) true = true)) (by omega) (Nat.le_refl _) (Nat.le_refl _) rfl (Nat.le_of_ble_eq_true rfl) (fun r S1 hp => ?_)
    obtain ⟨rfl, rfl⟩ := hp
    show AW l G mX7_byTurns (d + 32) (az_F G Post) 0 0 23 [some (.ref 0), some (.int (nI n1))] [.int (b2i (zmk n1 (xN σ) true = true))] (sh, (zput (va_up sg 36 (zkc (xN σ) (sg 36))) 30 (xN σ)), la)
    refine A_goto (tgt := 32) dX7_byTurns_23 rfl ?_
    have hq : (q_byTurns σ (nI n1)) = (b2i (zmk n1 (xN σ) true = true), σ) := by
      unfold q_byTurns
      rw [if_pos h_1', hc_n1]
    exact A_iret dX7_byTurns_32 rfl (hP _ _ (XQ_i hq (hK.turn hK.ctl)))
theorem zfi_t {w : Nat → Nat} {a m : Nat} (ha : a < 41) (h : ∀ j, 41 ≤ j → w j = 0) : ∀ n, ∀ j, 41 ≤ j → zfi w a m n j = 0
  | 0, j, hj => by
    show va_up w a 0 j = 0
    rw [az_up_ne (by omega)]; exact h j hj
  | n + 1, j, hj => by
    show va_up (zfi w a m n) (a - n) (zfi w a m n (a - n) + m) j = 0
    rw [az_up_ne (by omega)]; exact zfi_t ha h n j hj
theorem zfs_t {w : Nat → Nat} (h : ∀ j, 41 ≤ j → w j = 0) : ∀ n, n ≤ 41 → ∀ j, 41 ≤ j → zfs w n j = 0
  | 0, _, j, hj => h j hj
  | n + 1, hn, j, hj => zfi_t (w := zfs w n) (by omega) (zfs_t h n (by omega)) 4 j hj
theorem zdr_t {c : CT} {q : Nat → Nat} (h : ∀ j, 41 ≤ j → q j = 0) (i : Nat) : ∀ j, 41 ≤ j → zdr c q i j = 0 := by
  intro j hj
  unfold zdr
  by_cases e : j < i ∧ zso (sAir c (nI j)) = true
  · rw [if_pos e]
  · rw [if_neg e]; exact h j hj
theorem zW_t {a : Nat} (ha : a ≤ 40) : ∀ t, ∀ j, 41 ≤ j → zW a t j = 0
  | 0, j, hj => by
    show va_up (fun _ => 0) a 1 j = 0
    exact az_up_ne (by omega)
  | t + 1, j, hj => zfs_t (zW_t ha t) 41 (Nat.le_refl _) j hj
theorem zQ_t {c : CT} {a : Nat} (ha : a ≤ 40) : ∀ t, ∀ j, 41 ≤ j → zQ c a t j = 0
  | 0, j, hj => zdr_t (fun i hi => az_up_ne (f := fun _ => 0) (by omega)) 41 j hj
  | t + 1, j, hj => zdr_t (fun i hi => zfs_t (zQ_t ha t) 41 (Nat.le_refl _) i hi) 41 j hj
