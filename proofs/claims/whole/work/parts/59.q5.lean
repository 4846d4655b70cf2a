set_option maxHeartbeats 1000000 in
set_option maxRecDepth 100000 in
theorem x_when (l : Launch) (G : az_Gh) (d : Nat) (sh : List az_Sh) (sg : Nat → Nat → Int32) (la : Nat → Nat → Int64) (g : GGM) (σ : SGM) (w : Int32) (hX : az_at sh 0 lyX) (hK : KX g sg la σ) : AM l G (d + 32) mX7_when [.ref 0, .int w] (sh, sg, la) 0 0 (XQ sh g (.int (q_when σ w).1) (q_when σ w).2) := by
  refine az_am knX7_when (Nat.le_of_ble_eq_true rfl) rfl (fun Post hP => ?_)
  show AW l G mX7_when (d + 32) (az_F G Post) 0 0 0 [some (.ref 0), some (.int w), none, none] [] (sh, sg, la)
  have hC := lyX_now hX
  have h8N := hK.ok.2
  refine A_iload_n dX7_when_0 rfl rfl ?_
  refine A_iconst (v := 1) dX7_when_1 (by decide) ?_
  refine A_callS (n := 0) dX7_when_2 ksX7_isWithin mlX7_73 rfl (c_X7_isWithin l G (d + 31) sh sg la w 1) (by omega) (Nat.le_refl _) (Nat.le_refl _) rfl (Nat.le_of_ble_eq_true rfl) (fun r S1 hp => ?_)
  obtain ⟨rfl, rfl⟩ := hp
  show AW l G mX7_when (d + 32) (az_F G Post) 0 0 5 [some (.ref 0), some (.int w), none, none] [.int (b2i (0 ≤ w ∧ w ≤ 1))] (sh, sg, la)
  refine A_if_ne (tgt := 15) dX7_when_5 rfl (fun h_1 => ?_) (fun h_1 => ?_)
  · skip
    have h_1' := b2i_n.mp h_1
    refine A_aload_n dX7_when_15 rfl rfl ?_
    refine B_getR (r := 13) dX7_when_16 flX7_22 (hX 0 _ rfl) rfl ?_
    refine A_aload_n dX7_when_19 rfl rfl ?_
    refine B_getR (r := 1) dX7_when_20 flX7_10 (hX 0 _ rfl) rfl ?_
    have hF := lyX_fore hX
    have hT : az_at sh 14 (lyC 14) := lyF_C hF
    refine B_sg (zput_self sg 14).symm ?_
    refine A_callV (n := 0) dX7_when_23 kvX3_begin mlX7_189 rfl (az_rc_obj clX3 (hX 13 _ rfl)) (f_X3_begin l G (d + 28) sh sg la 13 1 (ct sg 14) (xN σ) hF hC (by omega) hK.now hK.tl.1 hK.ctl hK.rng) (by omega) (Nat.le_refl _) (Nat.le_refl _) rfl (Nat.le_of_ble_eq_true rfl) (fun r S1 hp => ?_)
    obtain ⟨rfl, rfl⟩ := hp
    show AW l G mX7_when (d + 32) (az_F G Post) 0 0 26 [some (.ref 0), some (.int w), none, none] [.ref 14] (sh, (zput sg 14 (xN σ)), la)
    refine A_astore_n (lo2 := [some (.ref 0), some (.int w), some (.ref 14), none]) dX7_when_26 rfl (by decide) rfl ?_
    refine A_aload_n dX7_when_27 rfl rfl ?_
    refine A_bipush (v := 60) dX7_when_28 (by decide) ?_
    refine A_callV (n := 0) dX7_when_30 kvX2_firstSo mlX7_222 rfl (az_rc_obj clX2 (hX 14 _ rfl)) (z_X2_firstSo l G (d + 27) sh sg la 14 (xN σ) 60 hT hK.rng (by omega)) (by omega) (Nat.le_refl _) (Nat.le_refl _) rfl (Nat.le_of_ble_eq_true rfl) (fun r S1 hp => ?_)
    obtain ⟨rfl, rfl⟩ := hp
    show AW l G mX7_when (d + 32) (az_F G Post) 0 0 33 [some (.ref 0), some (.int w), some (.ref 14), none] [.int (zwhenI (xN σ) 60)] (sh, (zput sg 14 (zdays (zwhen (xN σ) 60) (xN σ))), la)
    refine A_istore_n (lo2 := [some (.ref 0), some (.int w), some (.ref 14), some (.int (zwhenI (xN σ) 60))]) dX7_when_33 rfl (by decide) rfl ?_
    refine A_iload_n dX7_when_34 rfl rfl ?_
    refine A_if_eq (tgt := 43) dX7_when_35 rfl (fun h_2 => ?_) (fun h_2 => ?_)
    · skip
      refine A_iload_n dX7_when_43 rfl rfl ?_
      refine A_goto (tgt := 51) dX7_when_44 rfl ?_
      have hq : (q_when σ w) = (zwhenI (xN σ) 60, σ) := by
        unfold q_when
        rw [if_pos h_1', if_pos (Or.inl h_2)]
      exact A_iret dX7_when_51 rfl (hP _ _ (XQ_i hq (hK.put14 (cTl_days hK.ctl hK.ok.2 _))))
    · skip
      refine A_iload_n dX7_when_38 rfl rfl ?_
      refine A_iconst (v := (-1)) dX7_when_39 (by decide) ?_
      refine A_icmp_ne (tgt := 47) dX7_when_40 rfl (fun h_3 => ?_) (fun h_3 => ?_)
      · skip
        refine A_aload_n dX7_when_47 rfl rfl ?_
        refine A_callV (n := 0) dX7_when_48 kvX2_coldestOne mlX7_210 rfl (az_rc_obj clX2 (hX 14 _ rfl)) (z_X2_coldestOne l G (d + 29) sh sg la 14 (zdays (zwhen (xN σ) 60) (xN σ)) hT ((zdays_Rng hK.rng _)).1 (cRng_pos (zdays_Rng hK.rng _))) (by omega) (Nat.le_refl _) (Nat.le_refl _) rfl (Nat.le_of_ble_eq_true rfl) (fun r S1 hp => ?_)
        obtain ⟨rfl, rfl⟩ := hp
        show AW l G mX7_when (d + 32) (az_F G Post) 0 0 51 [some (.ref 0), some (.int w), some (.ref 14), some (.int (zwhenI (xN σ) 60))] [.int (oI (zbest (zdays (zwhen (xN σ) 60) (xN σ))))] (sh, (zput sg 14 (zdays (zwhen (xN σ) 60) (xN σ))), la)
        have hq : (q_when σ w) = (oI (zbest (zdays (zwhen (xN σ) 60) (xN σ))), σ) := by
          unfold q_when
          rw [if_pos h_1', if_neg (fun q => q.elim h_2 h_3)]
        exact A_iret dX7_when_51 rfl (hP _ _ (XQ_i hq (hK.put14 (cTl_days hK.ctl hK.ok.2 _))))
      · skip
        refine A_iload_n dX7_when_43 rfl rfl ?_
        refine A_goto (tgt := 51) dX7_when_44 rfl ?_
        have hq : (q_when σ w) = (zwhenI (xN σ) 60, σ) := by
          unfold q_when
          rw [if_pos h_1', if_pos (Or.inr h_3)]
        exact A_iret dX7_when_51 rfl (hP _ _ (XQ_i hq (hK.put14 (cTl_days hK.ctl hK.ok.2 _))))
  · skip
    have h_1' := b2i_0.mp h_1
    refine A_aload_n dX7_when_8 rfl rfl ?_
    refine A_bipush (v := (-2)) dX7_when_9 (by decide) ?_
    refine A_callV (n := 0) dX7_when_11 kvX7_refuse mlX7_77 rfl (az_rc_obj clX7 (hX 0 _ rfl)) (c_X7_refuse l G (d + 30) sh sg la (-2) 0 hX (by decide) (by decide)) (by omega) (Nat.le_refl _) (Nat.le_refl _) rfl (Nat.le_of_ble_eq_true rfl) (fun r S1 hp => ?_)
    obtain ⟨rfl, rfl⟩ := hp
    show AW l G mX7_when (d + 32) (az_F G Post) 0 0 14 [some (.ref 0), some (.int w), none, none] [.int (-2)] (sh, (az_w sg 43 0 (sg 43 0 + 1)), la)
    have hq : (q_when σ w) = ((-2), (rfs σ 0)) := by
      unfold q_when
      try simp only [h_1', and_true, true_and, and_false, false_and, and_self, or_true, true_or, or_false, false_or, not_true_eq_false, not_false_eq_true, if_true, if_false, ite_true, ite_false, decide_true, decide_false, reduceIte]
      first | done | rfl | (rw [Int32.add_comm]; done)
    exact A_iret dX7_when_14 rfl (hP _ _ (XQ_i hq (hK.ref (by decide))))
set_option maxHeartbeats 1000000 in
set_option maxRecDepth 100000 in
theorem x_ahead (l : Launch) (G : az_Gh) (d : Nat) (sh : List az_Sh) (sg : Nat → Nat → Int32) (la : Nat → Nat → Int64) (g : GGM) (σ : SGM) (n w : Int32) (hX : az_at sh 0 lyX) (hK : KX g sg la σ) : AM l G (d + 32) mX7_ahead [.ref 0, .int n, .int w] (sh, sg, la) 0 0 (XQ sh g (.int (q_ahead σ n w).1) (q_ahead σ n w).2) := by
  refine az_am knX7_ahead (Nat.le_of_ble_eq_true rfl) rfl (fun Post hP => ?_)
  show AW l G mX7_ahead (d + 32) (az_F G Post) 0 0 0 [some (.ref 0), some (.int n), some (.int w), none, none] [] (sh, sg, la)
  have hC := lyX_now hX
  have h8N := hK.ok.2
  refine A_iload_n dX7_ahead_0 rfl rfl ?_
  refine A_sipush (v := 200) dX7_ahead_1 (by decide) ?_
  refine A_callS (n := 0) dX7_ahead_4 ksX7_isWithin mlX7_73 rfl (c_X7_isWithin l G (d + 31) sh sg la n 200) (by omega) (Nat.le_refl _) (Nat.le_refl _) rfl (Nat.le_of_ble_eq_true rfl) (fun r S1 hp => ?_)
  obtain ⟨rfl, rfl⟩ := hp
  show AW l G mX7_ahead (d + 32) (az_F G Post) 0 0 7 [some (.ref 0), some (.int n), some (.int w), none, none] [.int (b2i (0 ≤ n ∧ n ≤ 200))] (sh, sg, la)
  refine A_if_eq (tgt := 18) dX7_ahead_7 rfl (fun h_1 => ?_) (fun h_1 => ?_)
  · skip
    have h_1' := b2i_0.mp h_1
    refine A_aload_n dX7_ahead_18 rfl rfl ?_
    refine A_bipush (v := (-2)) dX7_ahead_19 (by decide) ?_
    refine A_callV (n := 0) dX7_ahead_21 kvX7_refuse mlX7_77 rfl (az_rc_obj clX7 (hX 0 _ rfl)) (c_X7_refuse l G (d + 30) sh sg la (-2) 0 hX (by decide) (by decide)) (by omega) (Nat.le_refl _) (Nat.le_refl _) rfl (Nat.le_of_ble_eq_true rfl) (fun r S1 hp => ?_)
    obtain ⟨rfl, rfl⟩ := hp
    show AW l G mX7_ahead (d + 32) (az_F G Post) 0 0 24 [some (.ref 0), some (.int n), some (.int w), none, none] [.int (-2)] (sh, (az_w sg 43 0 (sg 43 0 + 1)), la)
    have hq : (q_ahead σ n w) = ((-2), (rfs σ 0)) := by
      unfold q_ahead
      try simp only [h_1', and_true, true_and, and_false, false_and, and_self, or_true, true_or, or_false, false_or, not_true_eq_false, not_false_eq_true, if_true, if_false, ite_true, ite_false, decide_true, decide_false, reduceIte]
      first | done | rfl | (rw [Int32.add_comm]; done)
    exact A_iret dX7_ahead_24 rfl (hP _ _ (XQ_i hq (hK.ref (by decide))))
  · skip
    have h_1' := b2i_n.mp h_1
    refine A_iload_n dX7_ahead_10 rfl rfl ?_
    refine A_iconst (v := 2) dX7_ahead_11 (by decide) ?_
    refine A_callS (n := 0) dX7_ahead_12 ksX7_isWithin mlX7_73 rfl (c_X7_isWithin l G (d + 31) sh sg la w 2) (by omega) (Nat.le_refl _) (Nat.le_refl _) rfl (Nat.le_of_ble_eq_true rfl) (fun r S1 hp => ?_)
    obtain ⟨rfl, rfl⟩ := hp
    show AW l G mX7_ahead (d + 32) (az_F G Post) 0 0 15 [some (.ref 0), some (.int n), some (.int w), none, none] [.int (b2i (0 ≤ w ∧ w ≤ 2))] (sh, sg, la)
    refine A_if_ne (tgt := 25) dX7_ahead_15 rfl (fun h_2 => ?_) (fun h_2 => ?_)
    · skip
      have h_2' := b2i_n.mp h_2
      obtain ⟨n1, hn1, rfl⟩ := nI_ex (m := 200) h_1'
      have hc_n1 : (nI n1).toNatClampNeg = n1 := nI_clamp (by omega)
      refine A_aload_n dX7_ahead_25 rfl rfl ?_
      refine B_getR (r := 13) dX7_ahead_26 flX7_22 (hX 0 _ rfl) rfl ?_
      refine A_aload_n dX7_ahead_29 rfl rfl ?_
      refine B_getR (r := 1) dX7_ahead_30 flX7_10 (hX 0 _ rfl) rfl ?_
      have hF := lyX_fore hX
      have hT : az_at sh 14 (lyC 14) := lyF_C hF
      refine B_sg (zput_self sg 14).symm ?_
      refine A_callV (n := 0) dX7_ahead_33 kvX3_begin mlX7_189 rfl (az_rc_obj clX3 (hX 13 _ rfl)) (f_X3_begin l G (d + 28) sh sg la 13 1 (ct sg 14) (xN σ) hF hC (by omega) hK.now hK.tl.1 hK.ctl hK.rng) (by omega) (Nat.le_refl _) (Nat.le_refl _) rfl (Nat.le_of_ble_eq_true rfl) (fun r S1 hp => ?_)
      obtain ⟨rfl, rfl⟩ := hp
      show AW l G mX7_ahead (d + 32) (az_F G Post) 0 0 36 [some (.ref 0), some (.int (nI n1)), some (.int w), none, none] [.ref 14] (sh, (zput sg 14 (xN σ)), la)
      refine A_astore_n (lo2 := [some (.ref 0), some (.int (nI n1)), some (.int w), some (.ref 14), none]) dX7_ahead_36 rfl (by decide) rfl ?_
      refine A_aload_n dX7_ahead_37 rfl rfl ?_
      refine A_iload_n dX7_ahead_38 rfl rfl ?_
      refine A_callV (n := 0) dX7_ahead_39 kvX2_coolDown mlX7_225 rfl (az_rc_obj clX2 (hX 14 _ rfl)) (z_X2_coolDown l G (d + 30) sh sg la 14 (xN σ) (nI n1) hT (hK.rng).1) (by omega) (Nat.le_refl _) (Nat.le_refl _) rfl (Nat.le_of_ble_eq_true rfl) (fun r S1 hp => ?_)
      obtain ⟨rfl, rfl⟩ := hp
      refine B_sg (congrArg (zput sg 14) (zcool_days hK.rng (k := n1) (by omega))) ?_
      show AW l G mX7_ahead (d + 32) (az_F G Post) 0 0 42 [some (.ref 0), some (.int (nI n1)), some (.int w), some (.ref 14), none] [] (sh, (zput sg 14 (zdays n1 (xN σ))), la)
      refine A_aload_n dX7_ahead_42 rfl rfl ?_
      refine A_callV (n := 0) dX7_ahead_43 kvX2_coldestOne mlX7_210 rfl (az_rc_obj clX2 (hX 14 _ rfl)) (z_X2_coldestOne l G (d + 29) sh sg la 14 (zdays n1 (xN σ)) hT ((zdays_Rng hK.rng _)).1 (cRng_pos (zdays_Rng hK.rng _))) (by omega) (Nat.le_refl _) (Nat.le_refl _) rfl (Nat.le_of_ble_eq_true rfl) (fun r S1 hp => ?_)
      obtain ⟨rfl, rfl⟩ := hp
      show AW l G mX7_ahead (d + 32) (az_F G Post) 0 0 46 [some (.ref 0), some (.int (nI n1)), some (.int w), some (.ref 14), none] [.int (oI (zbest (zdays n1 (xN σ))))] (sh, (zput sg 14 (zdays n1 (xN σ))), la)
      refine A_istore (lo2 := [some (.ref 0), some (.int (nI n1)), some (.int w), some (.ref 14), some (.int (oI (zbest (zdays n1 (xN σ)))))]) dX7_ahead_46 (by decide) rfl ?_
      refine A_iload_n dX7_ahead_48 rfl rfl ?_
      refine A_if_ne (tgt := 57) dX7_ahead_49 rfl (fun h_3 => ?_) (fun h_3 => ?_)
      · skip
        refine A_iload_n dX7_ahead_57 rfl rfl ?_
        refine A_iconst (v := 1) dX7_ahead_58 (by decide) ?_
        refine A_icmp_ne (tgt := 65) dX7_ahead_59 rfl (fun h_4 => ?_) (fun h_4 => ?_)
        · skip
          refine A_iload dX7_ahead_65 rfl ?_
          refine A_iconst (v := (-1)) dX7_ahead_67 (by decide) ?_
          refine A_icmp_ne (tgt := 75) dX7_ahead_68 rfl (fun h_5 => ?_) (fun h_5 => ?_)
          · skip
            obtain ⟨p1, ep1⟩ := oI_s h_5
            have hp1 : p1 < cN (zdays n1 (xN σ)) := zb_lt _ _ _ ep1
            have h8p : p1 < 8 := by rw [zdays_N] at hp1; omega
            refine az_jn2 (show oI (zbest (zdays n1 (xN σ))) = nI p1 by rw [ep1]; rfl) (P := fun z => AW l G mX7_ahead (d + 32) (az_F G Post) 0 0 75 [some (.ref 0), some (.int (nI n1)), some (.int w), some (.ref 14), some (.int (z))] [] (sh, (zput sg 14 (zdays n1 (xN σ))), la)) ?_
            refine A_aload_n dX7_ahead_75 rfl rfl ?_
            refine A_aload_n dX7_ahead_76 rfl rfl ?_
            refine B_getR (r := 15) dX7_ahead_77 flX7_140 (hX 14 _ rfl) rfl ?_
            refine A_iload dX7_ahead_80 rfl ?_
            refine B_ialdV (i := p1) (cKd (zdays n1 (xN σ)) p1) dX7_ahead_82 (hX 15 _ rfl) (by decide) (rfl) (by omega) (ze_1 _ _ _ _) ?_
            refine A_iload dX7_ahead_83 rfl ?_
            refine A_callV (n := 0) dX7_ahead_85 kvX2_coldAs mlX7_149 rfl (az_rc_obj clX2 (hX 14 _ rfl)) (z_X2_coldAs l G (d + 30) sh sg la 14 (zdays n1 (xN σ)) p1 (cKd (zdays n1 (xN σ)) p1) hT ((zdays_Rng hK.rng _)).1 hp1) (by omega) (Nat.le_refl _) (Nat.le_refl _) rfl (Nat.le_of_ble_eq_true rfl) (fun r S1 hp => ?_)
            obtain ⟨rfl, rfl⟩ := hp
            show AW l G mX7_ahead (d + 32) (az_F G Post) 0 0 88 [some (.ref 0), some (.int (nI n1)), some (.int w), some (.ref 14), some (.int (nI p1))] [.int (zcT (cKd (zdays n1 (xN σ)) p1) (zdays n1 (xN σ)) p1)] (sh, (zput sg 14 (zdays n1 (xN σ))), la)
            have hq : (q_ahead σ (nI n1) w) = (zcT (cKd (zdays n1 (xN σ)) p1) (zdays n1 (xN σ)) p1, σ) := by
              unfold q_ahead zahd
              rw [if_pos ⟨h_1', h_2'⟩, hc_n1, if_neg h_3, if_neg h_4, ep1]
              first | done | rfl
            exact A_iret dX7_ahead_88 rfl (hP _ _ (XQ_i hq (hK.put14 (cTl_days hK.ctl hK.ok.2 _))))
          · skip
            refine A_iconst (v := 0) dX7_ahead_71 (by decide) ?_
            refine A_goto (tgt := 88) dX7_ahead_72 rfl ?_
            have hq : (q_ahead σ (nI n1) w) = (0, σ) := by
              unfold q_ahead zahd
              rw [if_pos ⟨h_1', h_2'⟩, hc_n1, if_neg h_3, if_neg h_4, (oI_n (fun k hk => by have := zb_lt _ _ _ hk; rw [zdays_N] at this; omega)).mp h_5]
            exact A_iret dX7_ahead_88 rfl (hP _ _ (XQ_i hq (hK.put14 (cTl_days hK.ctl hK.ok.2 _))))
        · skip
          refine A_iload dX7_ahead_62 rfl ?_
          have hq : (q_ahead σ (nI n1) w) = (oI (zbest (zdays n1 (xN σ))), σ) := by
            unfold q_ahead zahd
            rw [if_pos ⟨h_1', h_2'⟩, hc_n1, if_neg h_3, if_pos h_4]
          exact A_iret dX7_ahead_64 rfl (hP _ _ (XQ_i hq (hK.put14 (cTl_days hK.ctl hK.ok.2 _))))
      · skip
        refine A_aload_n dX7_ahead_52 rfl rfl ?_
        refine B_getV (cAir (zdays n1 (xN σ))) dX7_ahead_53 flX7_228 (hX 14 _ rfl) rfl (zr_6 _ _ _) ?_
        have hq : (q_ahead σ (nI n1) w) = (cAir (zdays n1 (xN σ)), σ) := by
          unfold q_ahead zahd
          rw [if_pos ⟨h_1', h_2'⟩, hc_n1, if_pos h_3]
        exact A_iret dX7_ahead_56 rfl (hP _ _ (XQ_i hq (hK.put14 (cTl_days hK.ctl hK.ok.2 _))))
    · skip
      have h_2' := b2i_0.mp h_2
      refine A_aload_n dX7_ahead_18 rfl rfl ?_
      refine A_bipush (v := (-2)) dX7_ahead_19 (by decide) ?_
      refine A_callV (n := 0) dX7_ahead_21 kvX7_refuse mlX7_77 rfl (az_rc_obj clX7 (hX 0 _ rfl)) (c_X7_refuse l G (d + 30) sh sg la (-2) 0 hX (by decide) (by decide)) (by omega) (Nat.le_refl _) (Nat.le_refl _) rfl (Nat.le_of_ble_eq_true rfl) (fun r S1 hp => ?_)
      obtain ⟨rfl, rfl⟩ := hp
      show AW l G mX7_ahead (d + 32) (az_F G Post) 0 0 24 [some (.ref 0), some (.int n), some (.int w), none, none] [.int (-2)] (sh, (az_w sg 43 0 (sg 43 0 + 1)), la)
      have hq : (q_ahead σ n w) = ((-2), (rfs σ 0)) := by
        unfold q_ahead
        try simp only [h_1', h_2', and_true, true_and, and_false, false_and, and_self, or_true, true_or, or_false, false_or, not_true_eq_false, not_false_eq_true, if_true, if_false, ite_true, ite_false, decide_true, decide_false, reduceIte]
        first | done | rfl | (rw [Int32.add_comm]; done)
      exact A_iret dX7_ahead_24 rfl (hP _ _ (XQ_i hq (hK.ref (by decide))))
set_option maxHeartbeats 1000000 in
set_option maxRecDepth 100000 in
theorem x_later (l : Launch) (G : az_Gh) (d : Nat) (sh : List az_Sh) (sg : Nat → Nat → Int32) (la : Nat → Nat → Int64) (g : GGM) (σ : SGM) (p n : Int32) (hX : az_at sh 0 lyX) (hK : KX g sg la σ) : AM l G (d + 32) mX7_later [.ref 0, .int p, .int n] (sh, sg, la) 0 0 (XQ sh g (.int (q_later σ p n).1) (q_later σ p n).2) := by
  refine az_am knX7_later (Nat.le_of_ble_eq_true rfl) rfl (fun Post hP => ?_)
  show AW l G mX7_later (d + 32) (az_F G Post) 0 0 0 [some (.ref 0), some (.int p), some (.int n), none] [] (sh, sg, la)
  have hC := lyX_now hX
  have h8N := hK.ok.2
  refine A_aload_n dX7_later_0 rfl rfl ?_
  refine B_getR (r := 1) dX7_later_1 flX7_10 (hX 0 _ rfl) rfl ?_
  refine A_iload_n dX7_later_4 rfl rfl ?_
  refine A_callV (n := 0) dX7_later_5 kvX2_hasOne mlX7_127 rfl (az_rc_obj clX2 (hX 1 _ rfl)) (kx_hasOne l G (d + 31) sh sg la g σ p hX hK) (by omega) (Nat.le_refl _) (Nat.le_refl _) rfl (Nat.le_of_ble_eq_true rfl) (fun r S1 hp => ?_)
  obtain ⟨rfl, rfl⟩ := hp
  show AW l G mX7_later (d + 32) (az_F G Post) 0 0 8 [some (.ref 0), some (.int p), some (.int n), none] [.int (b2i (0 ≤ p ∧ p < cPp (xN σ)))] (sh, sg, la)
  refine A_if_eq (tgt := 21) dX7_later_8 rfl (fun h_1 => ?_) (fun h_1 => ?_)
  · skip
    have h_1' := b2i_0.mp h_1
    refine A_aload_n dX7_later_21 rfl rfl ?_
    refine A_bipush (v := (-2)) dX7_later_22 (by decide) ?_
    refine A_callV (n := 0) dX7_later_24 kvX7_refuse mlX7_77 rfl (az_rc_obj clX7 (hX 0 _ rfl)) (c_X7_refuse l G (d + 30) sh sg la (-2) 0 hX (by decide) (by decide)) (by omega) (Nat.le_refl _) (Nat.le_refl _) rfl (Nat.le_of_ble_eq_true rfl) (fun r S1 hp => ?_)
    obtain ⟨rfl, rfl⟩ := hp
    show AW l G mX7_later (d + 32) (az_F G Post) 0 0 27 [some (.ref 0), some (.int p), some (.int n), none] [.int (-2)] (sh, (az_w sg 43 0 (sg 43 0 + 1)), la)
    have hq : (q_later σ p n) = ((-2), (rfs σ 0)) := by
      unfold q_later
      try simp only [h_1', and_true, true_and, and_false, false_and, and_self, or_true, true_or, or_false, false_or, not_true_eq_false, not_false_eq_true, if_true, if_false, ite_true, ite_false, decide_true, decide_false, reduceIte]
      first | done | rfl | (rw [Int32.add_comm]; done)
    exact A_iret dX7_later_27 rfl (hP _ _ (XQ_i hq (hK.ref (by decide))))
  · skip
    have h_1' := b2i_n.mp h_1
    obtain ⟨p1, hp1, rfl⟩ := nI_exp hK.ok h_1'
    have hc_p1 : (nI p1).toNatClampNeg = p1 := nI_clamp (by omega)
    refine A_iload_n dX7_later_11 rfl rfl ?_
    refine A_sipush (v := 200) dX7_later_12 (by decide) ?_
    refine A_callS (n := 0) dX7_later_15 ksX7_isWithin mlX7_73 rfl (c_X7_isWithin l G (d + 31) sh sg la n 200) (by omega) (Nat.le_refl _) (Nat.le_refl _) rfl (Nat.le_of_ble_eq_true rfl) (fun r S1 hp => ?_)
    obtain ⟨rfl, rfl⟩ := hp
    show AW l G mX7_later (d + 32) (az_F G Post) 0 0 18 [some (.ref 0), some (.int (nI p1)), some (.int n), none] [.int (b2i (0 ≤ n ∧ n ≤ 200))] (sh, sg, la)
    refine A_if_ne (tgt := 28) dX7_later_18 rfl (fun h_2 => ?_) (fun h_2 => ?_)
    · skip
      have h_2' := b2i_n.mp h_2
      obtain ⟨n1, hn1, rfl⟩ := nI_ex (m := 200) h_2'
      have hc_n1 : (nI n1).toNatClampNeg = n1 := nI_clamp (by omega)
      refine A_aload_n dX7_later_28 rfl rfl ?_
      refine B_getR (r := 13) dX7_later_29 flX7_22 (hX 0 _ rfl) rfl ?_
      refine A_aload_n dX7_later_32 rfl rfl ?_
      refine B_getR (r := 1) dX7_later_33 flX7_10 (hX 0 _ rfl) rfl ?_
      have hF := lyX_fore hX
      have hT : az_at sh 14 (lyC 14) := lyF_C hF
      refine B_sg (zput_self sg 14).symm ?_
      refine A_callV (n := 0) dX7_later_36 kvX3_begin mlX7_189 rfl (az_rc_obj clX3 (hX 13 _ rfl)) (f_X3_begin l G (d + 28) sh sg la 13 1 (ct sg 14) (xN σ) hF hC (by omega) hK.now hK.tl.1 hK.ctl hK.rng) (by omega) (Nat.le_refl _) (Nat.le_refl _) rfl (Nat.le_of_ble_eq_true rfl) (fun r S1 hp => ?_)
      obtain ⟨rfl, rfl⟩ := hp
      show AW l G mX7_later (d + 32) (az_F G Post) 0 0 39 [some (.ref 0), some (.int (nI p1)), some (.int (nI n1)), none] [.ref 14] (sh, (zput sg 14 (xN σ)), la)
      refine A_astore_n (lo2 := [some (.ref 0), some (.int (nI p1)), some (.int (nI n1)), some (.ref 14)]) dX7_later_39 rfl (by decide) rfl ?_
      refine A_aload_n dX7_later_40 rfl rfl ?_
      refine A_iload_n dX7_later_41 rfl rfl ?_
      refine A_callV (n := 0) dX7_later_42 kvX2_coolDown mlX7_225 rfl (az_rc_obj clX2 (hX 14 _ rfl)) (z_X2_coolDown l G (d + 30) sh sg la 14 (xN σ) (nI n1) hT (hK.rng).1) (by omega) (Nat.le_refl _) (Nat.le_refl _) rfl (Nat.le_of_ble_eq_true rfl) (fun r S1 hp => ?_)
      obtain ⟨rfl, rfl⟩ := hp
      refine B_sg (congrArg (zput sg 14) (zcool_days hK.rng (k := n1) (by omega))) ?_
      show AW l G mX7_later (d + 32) (az_F G Post) 0 0 45 [some (.ref 0), some (.int (nI p1)), some (.int (nI n1)), some (.ref 14)] [] (sh, (zput sg 14 (zdays n1 (xN σ))), la)
      refine A_aload_n dX7_later_45 rfl rfl ?_
      refine A_aload_n dX7_later_46 rfl rfl ?_
      refine B_getR (r := 15) dX7_later_47 flX7_140 (hX 14 _ rfl) rfl ?_
      refine A_iload_n dX7_later_50 rfl rfl ?_
      refine B_ialdV (i := p1) (cKd (zdays n1 (xN σ)) p1) dX7_later_51 (hX 15 _ rfl) (by decide) (rfl) (by omega) (ze_1 _ _ _ _) ?_
      refine A_iload_n dX7_later_52 rfl rfl ?_
      refine A_callV (n := 0) dX7_later_53 kvX2_coldAs mlX7_149 rfl (az_rc_obj clX2 (hX 14 _ rfl)) (z_X2_coldAs l G (d + 30) sh sg la 14 (zdays n1 (xN σ)) p1 (cKd (zdays n1 (xN σ)) p1) hT ((zdays_Rng hK.rng _)).1 (by rw [zdays_N]; exact hp1)) (by omega) (Nat.le_refl _) (Nat.le_refl _) rfl (Nat.le_of_ble_eq_true rfl) (fun r S1 hp => ?_)
      obtain ⟨rfl, rfl⟩ := hp
      show AW l G mX7_later (d + 32) (az_F G Post) 0 0 56 [some (.ref 0), some (.int (nI p1)), some (.int (nI n1)), some (.ref 14)] [.int (zcT (cKd (zdays n1 (xN σ)) p1) (zdays n1 (xN σ)) p1)] (sh, (zput sg 14 (zdays n1 (xN σ))), la)
      have hq : (q_later σ (nI p1) (nI n1)) = (zcT (cKd (zdays n1 (xN σ)) p1) (zdays n1 (xN σ)) p1, σ) := by
        unfold q_later
        rw [if_pos ⟨h_1', h_2'⟩, hc_p1, hc_n1]
        first | done | rfl
      exact A_iret dX7_later_56 rfl (hP _ _ (XQ_i hq (hK.put14 (cTl_days hK.ctl hK.ok.2 _))))
    · skip
      have h_2' := b2i_0.mp h_2
      refine A_aload_n dX7_later_21 rfl rfl ?_
      refine A_bipush (v := (-2)) dX7_later_22 (by decide) ?_
      refine A_callV (n := 0) dX7_later_24 kvX7_refuse mlX7_77 rfl (az_rc_obj clX7 (hX 0 _ rfl)) (c_X7_refuse l G (d + 30) sh sg la (-2) 0 hX (by decide) (by decide)) (by omega) (Nat.le_refl _) (Nat.le_refl _) rfl (Nat.le_of_ble_eq_true rfl) (fun r S1 hp => ?_)
      obtain ⟨rfl, rfl⟩ := hp
      show AW l G mX7_later (d + 32) (az_F G Post) 0 0 27 [some (.ref 0), some (.int (nI p1)), some (.int n), none] [.int (-2)] (sh, (az_w sg 43 0 (sg 43 0 + 1)), la)
      have hq : (q_later σ (nI p1) n) = ((-2), (rfs σ 0)) := by
        unfold q_later
        try simp only [h_1', h_2', hc_p1, and_true, true_and, and_false, false_and, and_self, or_true, true_or, or_false, false_or, not_true_eq_false, not_false_eq_true, if_true, if_false, ite_true, ite_false, decide_true, decide_false, reduceIte]
        first | done | rfl | (rw [Int32.add_comm]; done)
      exact A_iret dX7_later_27 rfl (hP _ _ (XQ_i hq (hK.ref (by decide))))
set_option maxHeartbeats 1000000 in
set_option maxRecDepth 100000 in
theorem x_second (l : Launch) (G : az_Gh) (d : Nat) (sh : List az_Sh) (sg : Nat → Nat → Int32) (la : Nat → Nat → Int64) (g : GGM) (σ : SGM) (p : Int32) (hX : az_at sh 0 lyX) (hK : KX g sg la σ) : AM l G (d + 32) mX7_second [.ref 0, .int p] (sh, sg, la) 0 0 (XQ sh g (.int (q_second σ p).1) (q_second σ p).2) := by
  refine az_am knX7_second (Nat.le_of_ble_eq_true rfl) rfl (fun Post hP => ?_)
  show AW l G mX7_second (d + 32) (az_F G Post) 0 0 0 [some (.ref 0), some (.int p), none] [] (sh, sg, la)
  have hC := lyX_now hX
  have h8N := hK.ok.2
  refine A_aload_n dX7_second_0 rfl rfl ?_
  refine B_getR (r := 1) dX7_second_1 flX7_10 (hX 0 _ rfl) rfl ?_
  refine A_iload_n dX7_second_4 rfl rfl ?_
  refine A_callV (n := 0) dX7_second_5 kvX2_hasOne mlX7_127 rfl (az_rc_obj clX2 (hX 1 _ rfl)) (kx_hasOne l G (d + 31) sh sg la g σ p hX hK) (by omega) (Nat.le_refl _) (Nat.le_refl _) rfl (Nat.le_of_ble_eq_true rfl) (fun r S1 hp => ?_)
  obtain ⟨rfl, rfl⟩ := hp
  show AW l G mX7_second (d + 32) (az_F G Post) 0 0 8 [some (.ref 0), some (.int p), none] [.int (b2i (0 ≤ p ∧ p < cPp (xN σ)))] (sh, sg, la)
  refine A_if_ne (tgt := 18) dX7_second_8 rfl (fun h_1 => ?_) (fun h_1 => ?_)
  · skip
    have h_1' := b2i_n.mp h_1
    obtain ⟨p1, hp1, rfl⟩ := nI_exp hK.ok h_1'
    have hc_p1 : (nI p1).toNatClampNeg = p1 := nI_clamp (by omega)
    refine A_aload_n dX7_second_18 rfl rfl ?_
    refine B_getR (r := 13) dX7_second_19 flX7_22 (hX 0 _ rfl) rfl ?_
    refine A_aload_n dX7_second_22 rfl rfl ?_
    refine B_getR (r := 1) dX7_second_23 flX7_10 (hX 0 _ rfl) rfl ?_
    have hF := lyX_fore hX
    have hT : az_at sh 14 (lyC 14) := lyF_C hF
    refine B_sg (zput_self sg 14).symm ?_
    refine A_callV (n := 0) dX7_second_26 kvX3_begin mlX7_189 rfl (az_rc_obj clX3 (hX 13 _ rfl)) (f_X3_begin l G (d + 28) sh sg la 13 1 (ct sg 14) (xN σ) hF hC (by omega) hK.now hK.tl.1 hK.ctl hK.rng) (by omega) (Nat.le_refl _) (Nat.le_refl _) rfl (Nat.le_of_ble_eq_true rfl) (fun r S1 hp => ?_)
    obtain ⟨rfl, rfl⟩ := hp
    show AW l G mX7_second (d + 32) (az_F G Post) 0 0 29 [some (.ref 0), some (.int (nI p1)), none] [.ref 14] (sh, (zput sg 14 (xN σ)), la)
    refine A_astore_n (lo2 := [some (.ref 0), some (.int (nI p1)), some (.ref 14)]) dX7_second_29 rfl (by decide) rfl ?_
    refine A_aload_n dX7_second_30 rfl rfl ?_
    refine A_iload_n dX7_second_31 rfl rfl ?_
    refine A_callV (n := 0) dX7_second_32 kvX2_leaveOut mlX7_310 rfl (az_rc_obj clX2 (hX 14 _ rfl)) (z_X2_leaveOut l G (d + 30) sh sg la 14 (xN σ) p1 hT (hK.rng).1 hp1 hK.aw) (by omega) (Nat.le_refl _) (Nat.le_refl _) rfl (Nat.le_of_ble_eq_true rfl) (fun r S1 hp => ?_)
    obtain ⟨rfl, rfl⟩ := hp
    show AW l G mX7_second (d + 32) (az_F G Post) 0 0 35 [some (.ref 0), some (.int (nI p1)), some (.ref 14)] [] (sh, (zput sg 14 (zleave (xN σ) p1)), la)
    refine A_aload_n dX7_second_35 rfl rfl ?_
    refine A_callV (n := 0) dX7_second_36 kvX2_coldestOne mlX7_210 rfl (az_rc_obj clX2 (hX 14 _ rfl)) (z_X2_coldestOne l G (d + 29) sh sg la 14 (zleave (xN σ) p1) hT ((cRng_leave hK.rng _)).1 (cRng_pos (cRng_leave hK.rng _))) (by omega) (Nat.le_refl _) (Nat.le_refl _) rfl (Nat.le_of_ble_eq_true rfl) (fun r S1 hp => ?_)
    obtain ⟨rfl, rfl⟩ := hp
    show AW l G mX7_second (d + 32) (az_F G Post) 0 0 39 [some (.ref 0), some (.int (nI p1)), some (.ref 14)] [.int (oI (zbest (zleave (xN σ) p1)))] (sh, (zput sg 14 (zleave (xN σ) p1)), la)
    have hq : (q_second σ (nI p1)) = (oI (zbest (zleave (xN σ) p1)), σ) := by
      unfold q_second
      rw [if_pos h_1', hc_p1]
    exact A_iret dX7_second_39 rfl (hP _ _ (XQ_i hq (hK.put14 (cTl_leave hK.ctl _))))
  · skip
    have h_1' := b2i_0.mp h_1
    refine A_aload_n dX7_second_11 rfl rfl ?_
    refine A_bipush (v := (-2)) dX7_second_12 (by decide) ?_
    refine A_callV (n := 0) dX7_second_14 kvX7_refuse mlX7_77 rfl (az_rc_obj clX7 (hX 0 _ rfl)) (c_X7_refuse l G (d + 30) sh sg la (-2) 0 hX (by decide) (by decide)) (by omega) (Nat.le_refl _) (Nat.le_refl _) rfl (Nat.le_of_ble_eq_true rfl) (fun r S1 hp => ?_)
    obtain ⟨rfl, rfl⟩ := hp
    show AW l G mX7_second (d + 32) (az_F G Post) 0 0 17 [some (.ref 0), some (.int p), none] [.int (-2)] (sh, (az_w sg 43 0 (sg 43 0 + 1)), la)
    have hq : (q_second σ p) = ((-2), (rfs σ 0)) := by
      unfold q_second
      try simp only [h_1', and_true, true_and, and_false, false_and, and_self, or_true, true_or, or_false, false_or, not_true_eq_false, not_false_eq_true, if_true, if_false, ite_true, ite_false, decide_true, decide_false, reduceIte]
      first | done | rfl | (rw [Int32.add_comm]; done)
    exact A_iret dX7_second_17 rfl (hP _ _ (XQ_i hq (hK.ref (by decide))))
set_option maxHeartbeats 1000000 in
set_option maxRecDepth 100000 in
theorem x_feeds (l : Launch) (G : az_Gh) (d : Nat) (sh : List az_Sh) (sg : Nat → Nat → Int32) (la : Nat → Nat → Int64) (g : GGM) (σ : SGM) (t w : Int32) (hX : az_at sh 0 lyX) (hK : KX g sg la σ) : AM l G (d + 32) mX7_feeds [.ref 0, .int t, .int w] (sh, sg, la) 0 0 (XQ sh g (.int (q_feeds σ t w).1) (q_feeds σ t w).2) := by
  refine az_am knX7_feeds (Nat.le_of_ble_eq_true rfl) rfl (fun Post hP => ?_)
  show AW l G mX7_feeds (d + 32) (az_F G Post) 0 0 0 [some (.ref 0), some (.int t), some (.int w), none] [] (sh, sg, la)
  have hC := lyX_now hX
  have h8N := hK.ok.2
  refine A_iload_n dX7_feeds_0 rfl rfl ?_
  refine A_bipush (v := 60) dX7_feeds_1 (by decide) ?_
  refine A_callS (n := 0) dX7_feeds_3 ksX7_isWithin mlX7_73 rfl (c_X7_isWithin l G (d + 31) sh sg la t 60) (by omega) (Nat.le_refl _) (Nat.le_refl _) rfl (Nat.le_of_ble_eq_true rfl) (fun r S1 hp => ?_)
  obtain ⟨rfl, rfl⟩ := hp
  show AW l G mX7_feeds (d + 32) (az_F G Post) 0 0 6 [some (.ref 0), some (.int t), some (.int w), none] [.int (b2i (0 ≤ t ∧ t ≤ 60))] (sh, sg, la)
  refine A_if_eq (tgt := 17) dX7_feeds_6 rfl (fun h_1 => ?_) (fun h_1 => ?_)
  · skip
    have h_1' := b2i_0.mp h_1
    refine A_aload_n dX7_feeds_17 rfl rfl ?_
    refine A_bipush (v := (-2)) dX7_feeds_18 (by decide) ?_
    refine A_callV (n := 0) dX7_feeds_20 kvX7_refuse mlX7_77 rfl (az_rc_obj clX7 (hX 0 _ rfl)) (c_X7_refuse l G (d + 30) sh sg la (-2) 0 hX (by decide) (by decide)) (by omega) (Nat.le_refl _) (Nat.le_refl _) rfl (Nat.le_of_ble_eq_true rfl) (fun r S1 hp => ?_)
    obtain ⟨rfl, rfl⟩ := hp
    show AW l G mX7_feeds (d + 32) (az_F G Post) 0 0 23 [some (.ref 0), some (.int t), some (.int w), none] [.int (-2)] (sh, (az_w sg 43 0 (sg 43 0 + 1)), la)
    have hq : (q_feeds σ t w) = ((-2), (rfs σ 0)) := by
      unfold q_feeds
      try simp only [h_1', and_true, true_and, and_false, false_and, and_self, or_true, true_or, or_false, false_or, not_true_eq_false, not_false_eq_true, if_true, if_false, ite_true, ite_false, decide_true, decide_false, reduceIte]
      first | done | rfl | (rw [Int32.add_comm]; done)
    exact A_iret dX7_feeds_23 rfl (hP _ _ (XQ_i hq (hK.ref (by decide))))
  · skip
    have h_1' := b2i_n.mp h_1
    refine A_iload_n dX7_feeds_9 rfl rfl ?_
    refine A_iconst (v := 2) dX7_feeds_10 (by decide) ?_
    refine A_callS (n := 0) dX7_feeds_11 ksX7_isWithin mlX7_73 rfl (c_X7_isWithin l G (d + 31) sh sg la w 2) (by omega) (Nat.le_refl _) (Nat.le_refl _) rfl (Nat.le_of_ble_eq_true rfl) (fun r S1 hp => ?_)
    obtain ⟨rfl, rfl⟩ := hp
    show AW l G mX7_feeds (d + 32) (az_F G Post) 0 0 14 [some (.ref 0), some (.int t), some (.int w), none] [.int (b2i (0 ≤ w ∧ w ≤ 2))] (sh, sg, la)
    refine A_if_ne (tgt := 24) dX7_feeds_14 rfl (fun h_2 => ?_) (fun h_2 => ?_)
    · skip
      have h_2' := b2i_n.mp h_2
      obtain ⟨t1, ht1, rfl⟩ := nI_ex (m := 60) h_1'
      have hc_t1 : (nI t1).toNatClampNeg = t1 := nI_clamp (by omega)
      refine A_aload_n dX7_feeds_24 rfl rfl ?_
      refine B_getR (r := 1) dX7_feeds_25 flX7_10 (hX 0 _ rfl) rfl ?_
      refine B_getV (cPp (xN σ)) dX7_feeds_28 flX7_213 (hX 1 _ rfl) rfl (hK.f5) ?_
      refine A_if_ne (tgt := 41) dX7_feeds_31 rfl (fun h_3 => ?_) (fun h_3 => ?_)
      · skip
        refine A_aload_n dX7_feeds_41 rfl rfl ?_
        refine B_getR (r := 13) dX7_feeds_42 flX7_22 (hX 0 _ rfl) rfl ?_
        refine A_aload_n dX7_feeds_45 rfl rfl ?_
        refine B_getR (r := 1) dX7_feeds_46 flX7_10 (hX 0 _ rfl) rfl ?_
        refine A_iload_n dX7_feeds_49 rfl rfl ?_
        have hF := lyX_fore hX
        refine B_sg (zput_self sg 14).symm ?_
        refine A_callV (n := 0) dX7_feeds_50 kvX3_leastFeed mlX7_231 rfl (az_rc_obj clX3 (hX 13 _ rfl)) (f_X3_leastFeed l G (d + 26) sh sg la 13 1 (ct sg 14) (xN σ) t1 hF hC (by omega) hK.now hK.tl.1 hK.ctl hK.rng (by omega)) (by omega) (Nat.le_refl _) (Nat.le_refl _) rfl (Nat.le_of_ble_eq_true rfl) (fun r S1 hp => ?_)
        obtain ⟨rfl, e1, he1, rfl⟩ := hp
        show AW l G mX7_feeds (d + 32) (az_F G Post) 0 0 53 [some (.ref 0), some (.int (nI t1)), some (.int w), none] [.int (zleast (xN σ) t1).1] (sh, (zput (az_w sg 13 1 (zleast (xN σ) t1).2) 14 e1), la)
        refine A_istore_n (lo2 := [some (.ref 0), some (.int (nI t1)), some (.int w), some (.int (zleast (xN σ) t1).1)]) dX7_feeds_53 rfl (by decide) rfl ?_
        refine A_iload_n dX7_feeds_54 rfl rfl ?_
        refine A_iconst (v := 1) dX7_feeds_55 (by decide) ?_
        refine A_icmp_ne (tgt := 67) dX7_feeds_56 rfl (fun h_4 => ?_) (fun h_4 => ?_)
        · skip
          refine A_iload_n dX7_feeds_67 rfl rfl ?_
          refine A_if_eq (tgt := 76) dX7_feeds_68 rfl (fun h_5 => ?_) (fun h_5 => ?_)
          · skip
            refine A_iload_n dX7_feeds_76 rfl rfl ?_
            refine A_goto (tgt := 89) dX7_feeds_77 rfl ?_
            have hq : (q_feeds σ (nI t1) w) = ((zleast (xN σ) t1).1, σ) := by
              unfold q_feeds
              rw [if_pos ⟨h_1', h_2'⟩, if_neg h_3, hc_t1, if_neg h_4, if_pos (Or.inl h_5)]
            exact A_iret dX7_feeds_89 rfl (hP _ _ (XQ_i hq ((hK.w13 _).put14 he1)))
          · skip
            refine A_iload_n dX7_feeds_71 rfl rfl ?_
            refine A_iconst (v := (-1)) dX7_feeds_72 (by decide) ?_
            refine A_icmp_ne (tgt := 80) dX7_feeds_73 rfl (fun h_6 => ?_) (fun h_6 => ?_)
            · skip
              refine A_iload_n dX7_feeds_80 rfl rfl ?_
              refine A_aload_n dX7_feeds_81 rfl rfl ?_
              refine B_getR (r := 1) dX7_feeds_82 flX7_10 (hX 0 _ rfl) rfl ?_
              refine B_getV (cCoal (xN σ)) dX7_feeds_85 flX7_238 (hX 1 _ rfl) rfl (((hK.w13 _).put14 he1).f10) ?_
              refine A_imul dX7_feeds_88 ?_
              have hq : (q_feeds σ (nI t1) w) = (((zleast (xN σ) t1).1 * cCoal (xN σ)), σ) := by
                unfold q_feeds
                rw [if_pos ⟨h_1', h_2'⟩, if_neg h_3, hc_t1, if_neg h_4, if_neg (fun q => q.elim h_5 h_6)]
              exact A_iret dX7_feeds_89 rfl (hP _ _ (XQ_i hq ((hK.w13 _).put14 he1)))
            · skip
              refine A_iload_n dX7_feeds_76 rfl rfl ?_
              refine A_goto (tgt := 89) dX7_feeds_77 rfl ?_
              have hq : (q_feeds σ (nI t1) w) = ((zleast (xN σ) t1).1, σ) := by
                unfold q_feeds
                rw [if_pos ⟨h_1', h_2'⟩, if_neg h_3, hc_t1, if_neg h_4, if_pos (Or.inr h_6)]
              exact A_iret dX7_feeds_89 rfl (hP _ _ (XQ_i hq ((hK.w13 _).put14 he1)))
        · skip
          refine A_aload_n dX7_feeds_59 rfl rfl ?_
          refine B_getR (r := 13) dX7_feeds_60 flX7_22 (hX 0 _ rfl) rfl ?_
          refine B_getV ((zleast (xN σ) t1).2) dX7_feeds_63 flX7_235 (hX 13 _ rfl) rfl ((congrFun (zput_ne (by omega)) 1).trans (az_w_at _ _ _ _)) ?_
          have hq : (q_feeds σ (nI t1) w) = ((zleast (xN σ) t1).2, σ) := by
            unfold q_feeds
            rw [if_pos ⟨h_1', h_2'⟩, if_neg h_3, hc_t1, if_pos h_4]
          exact A_iret dX7_feeds_66 rfl (hP _ _ (XQ_i hq ((hK.w13 _).put14 he1)))
      · skip
        refine A_aload_n dX7_feeds_34 rfl rfl ?_
        refine A_bipush (v := (-5)) dX7_feeds_35 (by decide) ?_
        refine A_callV (n := 0) dX7_feeds_37 kvX7_refuse mlX7_77 rfl (az_rc_obj clX7 (hX 0 _ rfl)) (c_X7_refuse l G (d + 30) sh sg la (-5) 3 hX (by decide) (by decide)) (by omega) (Nat.le_refl _) (Nat.le_refl _) rfl (Nat.le_of_ble_eq_true rfl) (fun r S1 hp => ?_)
        obtain ⟨rfl, rfl⟩ := hp
        show AW l G mX7_feeds (d + 32) (az_F G Post) 0 0 40 [some (.ref 0), some (.int (nI t1)), some (.int w), none] [.int (-5)] (sh, (az_w sg 43 3 (sg 43 3 + 1)), la)
        have hq : (q_feeds σ (nI t1) w) = ((-5), (rfs σ 3)) := by
          unfold q_feeds
          rw [if_pos ⟨h_1', h_2'⟩, if_pos h_3]
          first | done | rfl
        exact A_iret dX7_feeds_40 rfl (hP _ _ (XQ_i hq (hK.ref (by decide))))
    · skip
      have h_2' := b2i_0.mp h_2
      refine A_aload_n dX7_feeds_17 rfl rfl ?_
      refine A_bipush (v := (-2)) dX7_feeds_18 (by decide) ?_
      refine A_callV (n := 0) dX7_feeds_20 kvX7_refuse mlX7_77 rfl (az_rc_obj clX7 (hX 0 _ rfl)) (c_X7_refuse l G (d + 30) sh sg la (-2) 0 hX (by decide) (by decide)) (by omega) (Nat.le_refl _) (Nat.le_refl _) rfl (Nat.le_of_ble_eq_true rfl) (fun r S1 hp => ?_)
      obtain ⟨rfl, rfl⟩ := hp
      show AW l G mX7_feeds (d + 32) (az_F G Post) 0 0 23 [some (.ref 0), some (.int t), some (.int w), none] [.int (-2)] (sh, (az_w sg 43 0 (sg 43 0 + 1)), la)
      have hq : (q_feeds σ t w) = ((-2), (rfs σ 0)) := by
        unfold q_feeds
        try simp only [h_1', h_2', and_true, true_and, and_false, false_and, and_self, or_true, true_or, or_false, false_or, not_true_eq_false, not_false_eq_true, if_true, if_false, ite_true, ite_false, decide_true, decide_false, reduceIte]
        first | done | rfl | (rw [Int32.add_comm]; done)
      exact A_iret dX7_feeds_23 rfl (hP _ _ (XQ_i hq (hK.ref (by decide))))
set_option maxHeartbeats 1000000 in
set_option maxRecDepth 100000 in
theorem x_warm (l : Launch) (G : az_Gh) (d : Nat) (sh : List az_Sh) (sg : Nat → Nat → Int32) (la : Nat → Nat → Int64) (g : GGM) (σ : SGM) (t : Int32) (hX : az_at sh 0 lyX) (hK : KX g sg la σ) : AM l G (d + 32) mX7_warm [.ref 0, .int t] (sh, sg, la) 0 0 (XQ sh g (.int (q_warm σ t).1) (q_warm σ t).2) := by
  refine az_am knX7_warm (Nat.le_of_ble_eq_true rfl) rfl (fun Post hP => ?_)
  show AW l G mX7_warm (d + 32) (az_F G Post) 0 0 0 [some (.ref 0), some (.int t)] [] (sh, sg, la)
  have hC := lyX_now hX
  have h8N := hK.ok.2
  refine A_iload_n dX7_warm_0 rfl rfl ?_
  refine A_bipush (v := 60) dX7_warm_1 (by decide) ?_
  refine A_callS (n := 0) dX7_warm_3 ksX7_isWithin mlX7_73 rfl (c_X7_isWithin l G (d + 31) sh sg la t 60) (by omega) (Nat.le_refl _) (Nat.le_refl _) rfl (Nat.le_of_ble_eq_true rfl) (fun r S1 hp => ?_)
  obtain ⟨rfl, rfl⟩ := hp
  show AW l G mX7_warm (d + 32) (az_F G Post) 0 0 6 [some (.ref 0), some (.int t)] [.int (b2i (0 ≤ t ∧ t ≤ 60))] (sh, sg, la)
  refine A_if_eq (tgt := 24) dX7_warm_6 rfl (fun h_1 => ?_) (fun h_1 => ?_)
  · skip
    have h_1' := b2i_0.mp h_1
    refine A_aload_n dX7_warm_24 rfl rfl ?_
    refine A_bipush (v := (-2)) dX7_warm_25 (by decide) ?_
    refine A_callV (n := 0) dX7_warm_27 kvX7_refuse mlX7_77 rfl (az_rc_obj clX7 (hX 0 _ rfl)) (c_X7_refuse l G (d + 30) sh sg la (-2) 0 hX (by decide) (by decide)) (by omega) (Nat.le_refl _) (Nat.le_refl _) rfl (Nat.le_of_ble_eq_true rfl) (fun r S1 hp => ?_)
    obtain ⟨rfl, rfl⟩ := hp
    show AW l G mX7_warm (d + 32) (az_F G Post) 0 0 30 [some (.ref 0), some (.int t)] [.int (-2)] (sh, (az_w sg 43 0 (sg 43 0 + 1)), la)
    have hq : (q_warm σ t) = ((-2), (rfs σ 0)) := by
      unfold q_warm
      try simp only [h_1', and_true, true_and, and_false, false_and, and_self, or_true, true_or, or_false, false_or, not_true_eq_false, not_false_eq_true, if_true, if_false, ite_true, ite_false, decide_true, decide_false, reduceIte]
      first | done | rfl | (rw [Int32.add_comm]; done)
    exact A_iret dX7_warm_30 rfl (hP _ _ (XQ_i hq (hK.ref (by decide))))
  · skip
    have h_1' := b2i_n.mp h_1
    obtain ⟨t1, ht1, rfl⟩ := nI_ex (m := 60) h_1'
    have hc_t1 : (nI t1).toNatClampNeg = t1 := nI_clamp (by omega)
    refine A_aload_n dX7_warm_9 rfl rfl ?_
    refine B_getR (r := 13) dX7_warm_10 flX7_22 (hX 0 _ rfl) rfl ?_
    refine A_aload_n dX7_warm_13 rfl rfl ?_
    refine B_getR (r := 1) dX7_warm_14 flX7_10 (hX 0 _ rfl) rfl ?_
    refine A_iload_n dX7_warm_17 rfl rfl ?_
    have hF := lyX_fore hX
    refine B_sg (zput_self sg 14).symm ?_
    refine A_callV (n := 0) dX7_warm_18 kvX3_fewestWarmed mlX7_241 rfl (az_rc_obj clX3 (hX 13 _ rfl)) (f_X3_fewestWarmed l G (d + 26) sh sg la 13 1 (ct sg 14) (xN σ) t1 hF hC (by omega) hK.now hK.tl.1 hK.ctl hK.rng (by omega)) (by omega) (Nat.le_refl _) (Nat.le_refl _) rfl (Nat.le_of_ble_eq_true rfl) (fun r S1 hp => ?_)
    obtain ⟨rfl, e1, he1, rfl⟩ := hp
    show AW l G mX7_warm (d + 32) (az_F G Post) 0 0 21 [some (.ref 0), some (.int (nI t1))] [.int (oI (zfw (xN σ) t1 (2 ^ cN (xN σ))).1)] (sh, (zput sg 14 e1), la)
    refine A_goto (tgt := 30) dX7_warm_21 rfl ?_
    have hq : (q_warm σ (nI t1)) = (oI (zfw (xN σ) t1 (2 ^ cN (xN σ))).1, σ) := by
      unfold q_warm
      rw [if_pos h_1', hc_t1]
    exact A_iret dX7_warm_30 rfl (hP _ _ (XQ_i hq (hK.put14 he1)))
set_option maxHeartbeats 1000000 in
set_option maxRecDepth 100000 in
theorem x_all (l : Launch) (G : az_Gh) (d : Nat) (sh : List az_Sh) (sg : Nat → Nat → Int32) (la : Nat → Nat → Int64) (g : GGM) (σ : SGM) (t : Int32) (hX : az_at sh 0 lyX) (hK : KX g sg la σ) : AM l G (d + 32) mX7_all [.ref 0, .int t] (sh, sg, la) 0 0 (XQ sh g (.int (q_all σ t).1) (q_all σ t).2) := by
  refine az_am knX7_all (Nat.le_of_ble_eq_true rfl) rfl (fun Post hP => ?_)
  show AW l G mX7_all (d + 32) (az_F G Post) 0 0 0 [some (.ref 0), some (.int t)] [] (sh, sg, la)
  have hC := lyX_now hX
  have h8N := hK.ok.2
  refine A_iload_n dX7_all_0 rfl rfl ?_
  refine A_bipush (v := 60) dX7_all_1 (by decide) ?_
  refine A_callS (n := 0) dX7_all_3 ksX7_isWithin mlX7_73 rfl (c_X7_isWithin l G (d + 31) sh sg la t 60) (by omega) (Nat.le_refl _) (Nat.le_refl _) rfl (Nat.le_of_ble_eq_true rfl) (fun r S1 hp => ?_)
  obtain ⟨rfl, rfl⟩ := hp
  show AW l G mX7_all (d + 32) (az_F G Post) 0 0 6 [some (.ref 0), some (.int t)] [.int (b2i (0 ≤ t ∧ t ≤ 60))] (sh, sg, la)
  refine A_if_eq (tgt := 24) dX7_all_6 rfl (fun h_1 => ?_) (fun h_1 => ?_)
  · skip
    have h_1' := b2i_0.mp h_1
    refine A_aload_n dX7_all_24 rfl rfl ?_
    refine A_bipush (v := (-2)) dX7_all_25 (by decide) ?_
    refine A_callV (n := 0) dX7_all_27 kvX7_refuse mlX7_77 rfl (az_rc_obj clX7 (hX 0 _ rfl)) (c_X7_refuse l G (d + 30) sh sg la (-2) 0 hX (by decide) (by decide)) (by omega) (Nat.le_refl _) (Nat.le_refl _) rfl (Nat.le_of_ble_eq_true rfl) (fun r S1 hp => ?_)
    obtain ⟨rfl, rfl⟩ := hp
    show AW l G mX7_all (d + 32) (az_F G Post) 0 0 30 [some (.ref 0), some (.int t)] [.int (-2)] (sh, (az_w sg 43 0 (sg 43 0 + 1)), la)
    have hq : (q_all σ t) = ((-2), (rfs σ 0)) := by
      unfold q_all
      try simp only [h_1', and_true, true_and, and_false, false_and, and_self, or_true, true_or, or_false, false_or, not_true_eq_false, not_false_eq_true, if_true, if_false, ite_true, ite_false, decide_true, decide_false, reduceIte]
      first | done | rfl | (rw [Int32.add_comm]; done)
    exact A_iret dX7_all_30 rfl (hP _ _ (XQ_i hq (hK.ref (by decide))))
  · skip
    have h_1' := b2i_n.mp h_1
    obtain ⟨t1, ht1, rfl⟩ := nI_ex (m := 60) h_1'
    have hc_t1 : (nI t1).toNatClampNeg = t1 := nI_clamp (by omega)
    refine A_aload_n dX7_all_9 rfl rfl ?_
    refine B_getR (r := 13) dX7_all_10 flX7_22 (hX 0 _ rfl) rfl ?_
    refine A_aload_n dX7_all_13 rfl rfl ?_
    refine B_getR (r := 1) dX7_all_14 flX7_10 (hX 0 _ rfl) rfl ?_
    refine A_iload_n dX7_all_17 rfl rfl ?_
    have hF := lyX_fore hX
    refine B_sg (zput_self sg 14).symm ?_
    refine A_callV (n := 0) dX7_all_18 kvX3_leastForEach mlX7_313 rfl (az_rc_obj clX3 (hX 13 _ rfl)) (f_X3_leastForEach l G (d + 26) sh sg la 13 1 (ct sg 14) (xN σ) t1 hF hC (by omega) hK.now hK.tl.1 hK.ctl hK.rng (by omega)) (by omega) (Nat.le_refl _) (Nat.le_refl _) rfl (Nat.le_of_ble_eq_true rfl) (fun r S1 hp => ?_)
    obtain ⟨rfl, e1, he1, rfl⟩ := hp
    show AW l G mX7_all (d + 32) (az_F G Post) 0 0 21 [some (.ref 0), some (.int (nI t1))] [.int (oI (zeach (xN σ) t1))] (sh, (zput sg 14 e1), la)
    refine A_goto (tgt := 30) dX7_all_21 rfl ?_
    have hq : (q_all σ (nI t1)) = (oI (zeach (xN σ) t1), σ) := by
      unfold q_all
      rw [if_pos h_1', hc_t1]
    exact A_iret dX7_all_30 rfl (hP _ _ (XQ_i hq (hK.put14 he1)))
set_option maxHeartbeats 1000000 in
set_option maxRecDepth 100000 in
theorem x_out (l : Launch) (G : az_Gh) (d : Nat) (sh : List az_Sh) (sg : Nat → Nat → Int32) (la : Nat → Nat → Int64) (g : GGM) (σ : SGM) (w : Int32) (hX : az_at sh 0 lyX) (hK : KX g sg la σ) : AM l G (d + 32) mX7_out [.ref 0, .int w] (sh, sg, la) 0 0 (XQ sh g (.int (q_out σ w).1) (q_out σ w).2) := by
  refine az_am knX7_out (Nat.le_of_ble_eq_true rfl) rfl (fun Post hP => ?_)
  show AW l G mX7_out (d + 32) (az_F G Post) 0 0 0 [some (.ref 0), some (.int w)] [] (sh, sg, la)
  have hC := lyX_now hX
  have h8N := hK.ok.2
  refine A_iload_n dX7_out_0 rfl rfl ?_
  refine A_iconst (v := 1) dX7_out_1 (by decide) ?_
  refine A_callS (n := 0) dX7_out_2 ksX7_isWithin mlX7_73 rfl (c_X7_isWithin l G (d + 31) sh sg la w 1) (by omega) (Nat.le_refl _) (Nat.le_refl _) rfl (Nat.le_of_ble_eq_true rfl) (fun r S1 hp => ?_)
  obtain ⟨rfl, rfl⟩ := hp
  show AW l G mX7_out (d + 32) (az_F G Post) 0 0 5 [some (.ref 0), some (.int w)] [.int (b2i (0 ≤ w ∧ w ≤ 1))] (sh, sg, la)
  refine A_if_ne (tgt := 15) dX7_out_5 rfl (fun h_1 => ?_) (fun h_1 => ?_)
  · skip
    have h_1' := b2i_n.mp h_1
    refine A_aload_n dX7_out_15 rfl rfl ?_
    refine B_getR (r := 1) dX7_out_16 flX7_10 (hX 0 _ rfl) rfl ?_
    refine B_getV (cPp (xN σ)) dX7_out_19 flX7_213 (hX 1 _ rfl) rfl (hK.f5) ?_
    refine A_if_ne (tgt := 34) dX7_out_22 rfl (fun h_2 => ?_) (fun h_2 => ?_)
    · skip
      refine A_aload_n dX7_out_34 rfl rfl ?_
      refine B_getR (r := 13) dX7_out_35 flX7_22 (hX 0 _ rfl) rfl ?_
      refine A_aload_n dX7_out_38 rfl rfl ?_
      refine B_getR (r := 1) dX7_out_39 flX7_10 (hX 0 _ rfl) rfl ?_
      refine A_iload_n dX7_out_42 rfl rfl ?_
      refine A_if_ne (tgt := 50) dX7_out_43 rfl (fun h_3 => ?_) (fun h_3 => ?_)
      · skip
        refine A_iconst (v := 0) dX7_out_50 (by decide) ?_
        refine B_top (y := b2i ((decide (w = 0)) = true)) (b2i_f (fun q => h_3 (of_decide_eq_true q))) ?_
        have hF := lyX_fore hX
        refine B_sg (zput_self sg 14).symm ?_
        refine A_callV (n := 0) dX7_out_51 kvX3_bestAway mlX7_244 rfl (az_rc_obj clX3 (hX 13 _ rfl)) (f_X3_bestAway l G (d + 26) sh sg la 13 1 (ct sg 14) (xN σ) (decide (w = 0)) hF hC (by omega) hK.now hK.tl.1 hK.ctl hK.rng hK.aw) (by omega) (Nat.le_refl _) (Nat.le_refl _) rfl (Nat.le_of_ble_eq_true rfl) (fun r S1 hp => ?_)
        obtain ⟨rfl, e1, he1, rfl⟩ := hp
        show AW l G mX7_out (d + 32) (az_F G Post) 0 0 54 [some (.ref 0), some (.int w)] [.int (oI (zbst (zfW (xN σ)) (decide (w = 0)) (cN (xN σ))))] (sh, (zput sg 14 e1), la)
        have hq : (q_out σ w) = (oI (zbst (zfW (xN σ)) (decide (w = 0)) (cN (xN σ))), σ) := by
          unfold q_out
          rw [if_pos h_1', if_neg h_2]
        exact A_iret dX7_out_54 rfl (hP _ _ (XQ_i hq (hK.put14 he1)))
      · skip
        refine A_iconst (v := 1) dX7_out_46 (by decide) ?_
        refine A_goto (tgt := 51) dX7_out_47 rfl ?_
        refine B_top (y := b2i ((decide (w = 0)) = true)) (b2i_t (decide_eq_true h_3)) ?_
        have hF := lyX_fore hX
        refine B_sg (zput_self sg 14).symm ?_
        refine A_callV (n := 0) dX7_out_51 kvX3_bestAway mlX7_244 rfl (az_rc_obj clX3 (hX 13 _ rfl)) (f_X3_bestAway l G (d + 26) sh sg la 13 1 (ct sg 14) (xN σ) (decide (w = 0)) hF hC (by omega) hK.now hK.tl.1 hK.ctl hK.rng hK.aw) (by omega) (Nat.le_refl _) (Nat.le_refl _) rfl (Nat.le_of_ble_eq_true rfl) (fun r S1 hp => ?_)
        obtain ⟨rfl, e1, he1, rfl⟩ := hp
        show AW l G mX7_out (d + 32) (az_F G Post) 0 0 54 [some (.ref 0), some (.int w)] [.int (oI (zbst (zfW (xN σ)) (decide (w = 0)) (cN (xN σ))))] (sh, (zput sg 14 e1), la)
        have hq : (q_out σ w) = (oI (zbst (zfW (xN σ)) (decide (w = 0)) (cN (xN σ))), σ) := by
          unfold q_out
          rw [if_pos h_1', if_neg h_2]
        exact A_iret dX7_out_54 rfl (hP _ _ (XQ_i hq (hK.put14 he1)))
    · skip
      refine A_aload_n dX7_out_25 rfl rfl ?_
      refine A_bipush (v := (-5)) dX7_out_26 (by decide) ?_
      refine A_callV (n := 0) dX7_out_28 kvX7_refuse mlX7_77 rfl (az_rc_obj clX7 (hX 0 _ rfl)) (c_X7_refuse l G (d + 30) sh sg la (-5) 3 hX (by decide) (by decide)) (by omega) (Nat.le_refl _) (Nat.le_refl _) rfl (Nat.le_of_ble_eq_true rfl) (fun r S1 hp => ?_)
      obtain ⟨rfl, rfl⟩ := hp
      show AW l G mX7_out (d + 32) (az_F G Post) 0 0 31 [some (.ref 0), some (.int w)] [.int (-5)] (sh, (az_w sg 43 3 (sg 43 3 + 1)), la)
      refine A_goto (tgt := 54) dX7_out_31 rfl ?_
      have hq : (q_out σ w) = ((-5), (rfs σ 3)) := by
        unfold q_out
        rw [if_pos h_1', if_pos h_2]
        first | done | rfl
      exact A_iret dX7_out_54 rfl (hP _ _ (XQ_i hq (hK.ref (by decide))))
  · skip
    have h_1' := b2i_0.mp h_1
    refine A_aload_n dX7_out_8 rfl rfl ?_
    refine A_bipush (v := (-2)) dX7_out_9 (by decide) ?_
    refine A_callV (n := 0) dX7_out_11 kvX7_refuse mlX7_77 rfl (az_rc_obj clX7 (hX 0 _ rfl)) (c_X7_refuse l G (d + 30) sh sg la (-2) 0 hX (by decide) (by decide)) (by omega) (Nat.le_refl _) (Nat.le_refl _) rfl (Nat.le_of_ble_eq_true rfl) (fun r S1 hp => ?_)
    obtain ⟨rfl, rfl⟩ := hp
    show AW l G mX7_out (d + 32) (az_F G Post) 0 0 14 [some (.ref 0), some (.int w)] [.int (-2)] (sh, (az_w sg 43 0 (sg 43 0 + 1)), la)
    have hq : (q_out σ w) = ((-2), (rfs σ 0)) := by
      unfold q_out
      try simp only [h_1', and_true, true_and, and_false, false_and, and_self, or_true, true_or, or_false, false_or, not_true_eq_false, not_false_eq_true, if_true, if_false, ite_true, ite_false, decide_true, decide_false, reduceIte]
      first | done | rfl | (rw [Int32.add_comm]; done)
    exact A_iret dX7_out_14 rfl (hP _ _ (XQ_i hq (hK.ref (by decide))))
set_option maxHeartbeats 1000000 in
set_option maxRecDepth 100000 in
theorem x_toughest (l : Launch) (G : az_Gh) (d : Nat) (sh : List az_Sh) (sg : Nat → Nat → Int32) (la : Nat → Nat → Int64) (g : GGM) (σ : SGM) (w : Int32) (hX : az_at sh 0 lyX) (hK : KX g sg la σ) : AM l G (d + 32) mX7_toughest [.ref 0, .int w] (sh, sg, la) 0 0 (XQ sh g (.int (q_toughest σ w).1) (q_toughest σ w).2) := by
  refine az_am knX7_toughest (Nat.le_of_ble_eq_true rfl) rfl (fun Post hP => ?_)
  show AW l G mX7_toughest (d + 32) (az_F G Post) 0 0 0 [some (.ref 0), some (.int w)] [] (sh, sg, la)
  have hC := lyX_now hX
  have h8N := hK.ok.2
  refine A_iload_n dX7_toughest_0 rfl rfl ?_
  refine A_iconst (v := 1) dX7_toughest_1 (by decide) ?_
  refine A_callS (n := 0) dX7_toughest_2 ksX7_isWithin mlX7_73 rfl (c_X7_isWithin l G (d + 31) sh sg la w 1) (by omega) (Nat.le_refl _) (Nat.le_refl _) rfl (Nat.le_of_ble_eq_true rfl) (fun r S1 hp => ?_)
  obtain ⟨rfl, rfl⟩ := hp
  show AW l G mX7_toughest (d + 32) (az_F G Post) 0 0 5 [some (.ref 0), some (.int w)] [.int (b2i (0 ≤ w ∧ w ≤ 1))] (sh, sg, la)
  refine A_if_ne (tgt := 15) dX7_toughest_5 rfl (fun h_1 => ?_) (fun h_1 => ?_)
  · skip
    have h_1' := b2i_n.mp h_1
    refine A_aload_n dX7_toughest_15 rfl rfl ?_
    refine B_getR (r := 1) dX7_toughest_16 flX7_10 (hX 0 _ rfl) rfl ?_
    refine B_getV (cPp (xN σ)) dX7_toughest_19 flX7_213 (hX 1 _ rfl) rfl (hK.f5) ?_
    refine A_if_ne (tgt := 34) dX7_toughest_22 rfl (fun h_2 => ?_) (fun h_2 => ?_)
    · skip
      refine A_aload_n dX7_toughest_34 rfl rfl ?_
      refine B_getR (r := 13) dX7_toughest_35 flX7_22 (hX 0 _ rfl) rfl ?_
      refine A_aload_n dX7_toughest_38 rfl rfl ?_
      refine B_getR (r := 1) dX7_toughest_39 flX7_10 (hX 0 _ rfl) rfl ?_
      refine A_iload_n dX7_toughest_42 rfl rfl ?_
      refine A_if_ne (tgt := 50) dX7_toughest_43 rfl (fun h_3 => ?_) (fun h_3 => ?_)
      · skip
        refine A_iconst (v := 0) dX7_toughest_50 (by decide) ?_
        refine B_top (y := b2i ((decide (w = 0)) = true)) (b2i_f (fun q => h_3 (of_decide_eq_true q))) ?_
        have hF := lyX_fore hX
        refine B_sg (zput_self sg 14).symm ?_
        refine A_callV (n := 0) dX7_toughest_51 kvX3_bestHolder mlX7_304 rfl (az_rc_obj clX3 (hX 13 _ rfl)) (f_X3_bestHolder l G (d + 26) sh sg la 13 1 (ct sg 14) (xN σ) (decide (w = 0)) hF hC (by omega) hK.now hK.tl.1 hK.ctl hK.rng ) (by omega) (Nat.le_refl _) (Nat.le_refl _) rfl (Nat.le_of_ble_eq_true rfl) (fun r S1 hp => ?_)
        obtain ⟨rfl, e1, he1, rfl⟩ := hp
        show AW l G mX7_toughest (d + 32) (az_F G Post) 0 0 54 [some (.ref 0), some (.int w)] [.int (oI (zbst (zfH (xN σ)) (decide (w = 0)) (cN (xN σ))))] (sh, (zput sg 14 e1), la)
        have hq : (q_toughest σ w) = (oI (zbst (zfH (xN σ)) (decide (w = 0)) (cN (xN σ))), σ) := by
          unfold q_toughest
          rw [if_pos h_1', if_neg h_2]
        exact A_iret dX7_toughest_54 rfl (hP _ _ (XQ_i hq (hK.put14 he1)))
      · skip
        refine A_iconst (v := 1) dX7_toughest_46 (by decide) ?_
        refine A_goto (tgt := 51) dX7_toughest_47 rfl ?_
        refine B_top (y := b2i ((decide (w = 0)) = true)) (b2i_t (decide_eq_true h_3)) ?_
        have hF := lyX_fore hX
        refine B_sg (zput_self sg 14).symm ?_
        refine A_callV (n := 0) dX7_toughest_51 kvX3_bestHolder mlX7_304 rfl (az_rc_obj clX3 (hX 13 _ rfl)) (f_X3_bestHolder l G (d + 26) sh sg la 13 1 (ct sg 14) (xN σ) (decide (w = 0)) hF hC (by omega) hK.now hK.tl.1 hK.ctl hK.rng ) (by omega) (Nat.le_refl _) (Nat.le_refl _) rfl (Nat.le_of_ble_eq_true rfl) (fun r S1 hp => ?_)
        obtain ⟨rfl, e1, he1, rfl⟩ := hp
        show AW l G mX7_toughest (d + 32) (az_F G Post) 0 0 54 [some (.ref 0), some (.int w)] [.int (oI (zbst (zfH (xN σ)) (decide (w = 0)) (cN (xN σ))))] (sh, (zput sg 14 e1), la)
        have hq : (q_toughest σ w) = (oI (zbst (zfH (xN σ)) (decide (w = 0)) (cN (xN σ))), σ) := by
          unfold q_toughest
          rw [if_pos h_1', if_neg h_2]
        exact A_iret dX7_toughest_54 rfl (hP _ _ (XQ_i hq (hK.put14 he1)))
    · skip
      refine A_aload_n dX7_toughest_25 rfl rfl ?_
      refine A_bipush (v := (-5)) dX7_toughest_26 (by decide) ?_
      refine A_callV (n := 0) dX7_toughest_28 kvX7_refuse mlX7_77 rfl (az_rc_obj clX7 (hX 0 _ rfl)) (c_X7_refuse l G (d + 30) sh sg la (-5) 3 hX (by decide) (by decide)) (by omega) (Nat.le_refl _) (Nat.le_refl _) rfl (Nat.le_of_ble_eq_true rfl) (fun r S1 hp => ?_)
      obtain ⟨rfl, rfl⟩ := hp
      show AW l G mX7_toughest (d + 32) (az_F G Post) 0 0 31 [some (.ref 0), some (.int w)] [.int (-5)] (sh, (az_w sg 43 3 (sg 43 3 + 1)), la)
      refine A_goto (tgt := 54) dX7_toughest_31 rfl ?_
      have hq : (q_toughest σ w) = ((-5), (rfs σ 3)) := by
        unfold q_toughest
        rw [if_pos h_1', if_pos h_2]
        first | done | rfl
      exact A_iret dX7_toughest_54 rfl (hP _ _ (XQ_i hq (hK.ref (by decide))))
  · skip
    have h_1' := b2i_0.mp h_1
    refine A_aload_n dX7_toughest_8 rfl rfl ?_
    refine A_bipush (v := (-2)) dX7_toughest_9 (by decide) ?_
    refine A_callV (n := 0) dX7_toughest_11 kvX7_refuse mlX7_77 rfl (az_rc_obj clX7 (hX 0 _ rfl)) (c_X7_refuse l G (d + 30) sh sg la (-2) 0 hX (by decide) (by decide)) (by omega) (Nat.le_refl _) (Nat.le_refl _) rfl (Nat.le_of_ble_eq_true rfl) (fun r S1 hp => ?_)
    obtain ⟨rfl, rfl⟩ := hp
    show AW l G mX7_toughest (d + 32) (az_F G Post) 0 0 14 [some (.ref 0), some (.int w)] [.int (-2)] (sh, (az_w sg 43 0 (sg 43 0 + 1)), la)
    have hq : (q_toughest σ w) = ((-2), (rfs σ 0)) := by
      unfold q_toughest
      try simp only [h_1', and_true, true_and, and_false, false_and, and_self, or_true, true_or, or_false, false_or, not_true_eq_false, not_false_eq_true, if_true, if_false, ite_true, ite_false, decide_true, decide_false, reduceIte]
      first | done | rfl | (rw [Int32.add_comm]; done)
    exact A_iret dX7_toughest_14 rfl (hP _ _ (XQ_i hq (hK.ref (by decide))))
set_option maxHeartbeats 1000000 in
set_option maxRecDepth 100000 in
theorem x_quiet (l : Launch) (G : az_Gh) (d : Nat) (sh : List az_Sh) (sg : Nat → Nat → Int32) (la : Nat → Nat → Int64) (g : GGM) (σ : SGM)  (hX : az_at sh 0 lyX) (hK : KX g sg la σ) : AM l G (d + 32) mX7_quiet [.ref 0] (sh, sg, la) 0 0 (XQ sh g (.int (q_quiet σ)) σ) := by
  refine az_am knX7_quiet (Nat.le_of_ble_eq_true rfl) rfl (fun Post hP => ?_)
  show AW l G mX7_quiet (d + 32) (az_F G Post) 0 0 0 [some (.ref 0)] [] (sh, sg, la)
  have hC := lyX_now hX
  have h8N := hK.ok.2
  refine A_aload_n dX7_quiet_0 rfl rfl ?_
  refine B_getR (r := 13) dX7_quiet_1 flX7_22 (hX 0 _ rfl) rfl ?_
  refine A_aload_n dX7_quiet_4 rfl rfl ?_
  refine B_getR (r := 1) dX7_quiet_5 flX7_10 (hX 0 _ rfl) rfl ?_
  have hF := lyX_fore hX
  refine B_sg (zput_self sg 14).symm ?_
  refine A_callV (n := 0) dX7_quiet_8 kvX3_feedAllQuiet mlX7_307 rfl (az_rc_obj clX3 (hX 13 _ rfl)) (f_X3_feedAllQuiet l G (d + 27) sh sg la 13 1 (ct sg 14) (xN σ)  hF hC (by omega) hK.now hK.tl.1 hK.ctl hK.rng ) (by omega) (Nat.le_refl _) (Nat.le_refl _) rfl (Nat.le_of_ble_eq_true rfl) (fun r S1 hp => ?_)
  obtain ⟨rfl, e1, he1, rfl⟩ := hp
  show AW l G mX7_quiet (d + 32) (az_F G Post) 0 0 11 [some (.ref 0)] [.int (zquiet (xN σ))] (sh, (zput sg 14 e1), la)
  have hq : (q_quiet σ) = zquiet (xN σ) := by
    rfl
  exact A_iret dX7_quiet_11 rfl (hP _ _ (XQ_0 hq (hK.put14 he1)))
set_option maxHeartbeats 1000000 in
set_option maxRecDepth 100000 in
theorem x_holdsOut (l : Launch) (G : az_Gh) (d : Nat) (sh : List az_Sh) (sg : Nat → Nat → Int32) (la : Nat → Nat → Int64) (g : GGM) (σ : SGM) (p : Int32) (hX : az_at sh 0 lyX) (hK : KX g sg la σ) : AM l G (d + 32) mX7_holdsOut [.ref 0, .int p] (sh, sg, la) 0 0 (XQ sh g (.int (q_holdsOut σ p).1) (q_holdsOut σ p).2) := by
  refine az_am knX7_holdsOut (Nat.le_of_ble_eq_true rfl) rfl (fun Post hP => ?_)
  show AW l G mX7_holdsOut (d + 32) (az_F G Post) 0 0 0 [some (.ref 0), some (.int p)] [] (sh, sg, la)
  have hC := lyX_now hX
  have h8N := hK.ok.2
  refine A_aload_n dX7_holdsOut_0 rfl rfl ?_
  refine B_getR (r := 1) dX7_holdsOut_1 flX7_10 (hX 0 _ rfl) rfl ?_
  refine A_iload_n dX7_holdsOut_4 rfl rfl ?_
  refine A_callV (n := 0) dX7_holdsOut_5 kvX2_hasOne mlX7_127 rfl (az_rc_obj clX2 (hX 1 _ rfl)) (kx_hasOne l G (d + 31) sh sg la g σ p hX hK) (by omega) (Nat.le_refl _) (Nat.le_refl _) rfl (Nat.le_of_ble_eq_true rfl) (fun r S1 hp => ?_)
  obtain ⟨rfl, rfl⟩ := hp
  show AW l G mX7_holdsOut (d + 32) (az_F G Post) 0 0 8 [some (.ref 0), some (.int p)] [.int (b2i (0 ≤ p ∧ p < cPp (xN σ)))] (sh, sg, la)
  refine A_if_eq (tgt := 26) dX7_holdsOut_8 rfl (fun h_1 => ?_) (fun h_1 => ?_)
  · skip
    have h_1' := b2i_0.mp h_1
    refine A_aload_n dX7_holdsOut_26 rfl rfl ?_
    refine A_bipush (v := (-2)) dX7_holdsOut_27 (by decide) ?_
    refine A_callV (n := 0) dX7_holdsOut_29 kvX7_refuse mlX7_77 rfl (az_rc_obj clX7 (hX 0 _ rfl)) (c_X7_refuse l G (d + 30) sh sg la (-2) 0 hX (by decide) (by decide)) (by omega) (Nat.le_refl _) (Nat.le_refl _) rfl (Nat.le_of_ble_eq_true rfl) (fun r S1 hp => ?_)
    obtain ⟨rfl, rfl⟩ := hp
    show AW l G mX7_holdsOut (d + 32) (az_F G Post) 0 0 32 [some (.ref 0), some (.int p)] [.int (-2)] (sh, (az_w sg 43 0 (sg 43 0 + 1)), la)
    have hq : (q_holdsOut σ p) = ((-2), (rfs σ 0)) := by
      unfold q_holdsOut
      try simp only [h_1', and_true, true_and, and_false, false_and, and_self, or_true, true_or, or_false, false_or, not_true_eq_false, not_false_eq_true, if_true, if_false, ite_true, ite_false, decide_true, decide_false, reduceIte]
      first | done | rfl | (rw [Int32.add_comm]; done)
    exact A_iret dX7_holdsOut_32 rfl (hP _ _ (XQ_i hq (hK.ref (by decide))))
  · skip
    have h_1' := b2i_n.mp h_1
    obtain ⟨p1, hp1, rfl⟩ := nI_exp hK.ok h_1'
    have hc_p1 : (nI p1).toNatClampNeg = p1 := nI_clamp (by omega)
    refine A_aload_n dX7_holdsOut_11 rfl rfl ?_
    refine B_getR (r := 13) dX7_holdsOut_12 flX7_22 (hX 0 _ rfl) rfl ?_
    refine A_aload_n dX7_holdsOut_15 rfl rfl ?_
    refine B_getR (r := 1) dX7_holdsOut_16 flX7_10 (hX 0 _ rfl) rfl ?_
    refine A_iload_n dX7_holdsOut_19 rfl rfl ?_
    have hF := lyX_fore hX
    refine B_sg (zput_self sg 14).symm ?_
    refine A_callV (n := 0) dX7_holdsOut_20 kvX3_firstHeard mlX7_301 rfl (az_rc_obj clX3 (hX 13 _ rfl)) (f_X3_firstHeard l G (d + 27) sh sg la 13 1 (ct sg 14) (xN σ) p1 hF hC (by omega) hK.now hK.tl.1 hK.ctl hK.rng hp1) (by omega) (Nat.le_refl _) (Nat.le_refl _) rfl (Nat.le_of_ble_eq_true rfl) (fun r S1 hp => ?_)
    obtain ⟨rfl, rfl⟩ := hp
    show AW l G mX7_holdsOut (d + 32) (az_F G Post) 0 0 23 [some (.ref 0), some (.int (nI p1))] [.int (zhearI (xN σ) p1)] (sh, (zput sg 14 (zdays (zhear (xN σ) p1) (xN σ))), la)
    refine A_goto (tgt := 32) dX7_holdsOut_23 rfl ?_
    have hq : (q_holdsOut σ (nI p1)) = (zhearI (xN σ) p1, σ) := by
      unfold q_holdsOut
      rw [if_pos h_1', hc_p1]
    exact A_iret dX7_holdsOut_32 rfl (hP _ _ (XQ_i hq (hK.put14 (cTl_days hK.ctl hK.ok.2 _))))
