set_option maxHeartbeats 1000000 in
set_option maxRecDepth 100000 in
theorem x_show (l : Launch) (G : az_Gh) (d : Nat) (sh : List az_Sh) (sg : Nat → Nat → Int32) (la : Nat → Nat → Int64) (g : GGM) (σ : SGM) (s p : Int32) (hX : az_at sh 0 lyX) (hK : KX g sg la σ) : AM l G (d + 32) mX7_show [.ref 0, .int s, .int p] (sh, sg, la) 0 0 (XQ sh g (.int (q_show σ s p).1) (q_show σ s p).2) := by
  refine az_am knX7_show (Nat.le_of_ble_eq_true rfl) rfl (fun Post hP => ?_)
  show AW l G mX7_show (d + 32) (az_F G Post) 0 0 0 [some (.ref 0), some (.int s), some (.int p)] [] (sh, sg, la)
  have hC := lyX_now hX
  have h8N := hK.ok.2
  refine A_iload_n dX7_show_0 rfl rfl ?_
  refine A_callS (n := 0) dX7_show_1 ksX7_isShelf mlX7_69 rfl (c_X7_isShelf l G (d + 30) sh sg la s) (by omega) (Nat.le_refl _) (Nat.le_refl _) rfl (Nat.le_of_ble_eq_true rfl) (fun r S1 hp => ?_)
  obtain ⟨rfl, rfl⟩ := hp
  show AW l G mX7_show (d + 32) (az_F G Post) 0 0 4 [some (.ref 0), some (.int s), some (.int p)] [.int (b2i (0 ≤ s ∧ s ≤ 7))] (sh, sg, la)
  refine A_if_eq (tgt := 23) dX7_show_4 rfl (fun h_1 => ?_) (fun h_1 => ?_)
  · skip
    have h_1' := b2i_0.mp h_1
    refine A_aload_n dX7_show_23 rfl rfl ?_
    refine A_bipush (v := (-2)) dX7_show_24 (by decide) ?_
    refine A_callV (n := 0) dX7_show_26 kvX7_refuse mlX7_77 rfl (az_rc_obj clX7 (hX 0 _ rfl)) (c_X7_refuse l G (d + 30) sh sg la (-2) 0 hX (by decide) (by decide)) (by omega) (Nat.le_refl _) (Nat.le_refl _) rfl (Nat.le_of_ble_eq_true rfl) (fun r S1 hp => ?_)
    obtain ⟨rfl, rfl⟩ := hp
    show AW l G mX7_show (d + 32) (az_F G Post) 0 0 29 [some (.ref 0), some (.int s), some (.int p)] [.int (-2)] (sh, (az_w sg 43 0 (sg 43 0 + 1)), la)
    have hq : (q_show σ s p) = ((-2), (rfs σ 0)) := by
      unfold q_show
      try simp only [h_1', and_true, true_and, and_false, false_and, and_self, or_true, true_or, or_false, false_or, not_true_eq_false, not_false_eq_true, if_true, if_false, ite_true, ite_false, decide_true, decide_false, reduceIte]
      first | done | rfl | (rw [Int32.add_comm]; done)
    exact A_iret dX7_show_29 rfl (hP _ _ (XQ_i hq (hK.ref (by decide))))
  · skip
    have h_1' := b2i_n.mp h_1
    refine A_iload_n dX7_show_7 rfl rfl ?_
    refine A_iconst (v := (-1)) dX7_show_8 (by decide) ?_
    refine A_icmp_eq (tgt := 30) dX7_show_9 rfl (fun h_2 => ?_) (fun h_2 => ?_)
    · skip
      have hpp : p = -1 ∨ (0 ≤ p ∧ p < cPp (xN σ)) := Or.inl h_2
      obtain ⟨s1, hs1, rfl⟩ := nI_ex (m := 7) h_1'
      have hc_s1 : (nI s1).toNatClampNeg = s1 := nI_clamp (by omega)
      refine A_aload_n dX7_show_30 rfl rfl ?_
      refine B_getR (r := 42) dX7_show_31 flX7_56 (hX 0 _ rfl) rfl ?_
      refine A_iload_n dX7_show_34 rfl rfl ?_
      have hS_s1 := lyX_shelf hX (show s1 < 8 by omega)
      have h8_s1 : s1 < 8 := by omega
      refine B_aald (i := s1) (r := (44 + 2 * s1)) dX7_show_35 (hX 42 _ rfl) (by decide) rfl rfl (by decide) (rfl) (by omega) (zsh_r h8_s1) ?_
      refine A_iload_n dX7_show_36 rfl rfl ?_
      refine A_callV (n := 0) dX7_show_37 kvX4_holdOne mlX7_130 rfl (az_rc_obj clX4 (hS_s1 0 _ rfl)) (c_X4_holdOne l G (d + 31) sh sg la (44 + 2 * s1) p hS_s1) (by omega) (Nat.le_refl _) (Nat.le_refl _) rfl (Nat.le_of_ble_eq_true rfl) (fun r S1 hp => ?_)
      obtain ⟨rfl, rfl⟩ := hp
      show AW l G mX7_show (d + 32) (az_F G Post) 0 0 40 [some (.ref 0), some (.int (nI s1)), some (.int p)] [] (sh, (az_w (az_w (az_w sg (44 + 2 * s1) 1 (-1)) (44 + 2 * s1) 2 0) (44 + 2 * s1) 3 p), la)
      refine A_iconst (v := 1) dX7_show_40 (by decide) ?_
      have hK2 : KX g _ _ (yS σ (va_up (xS σ) s1 (-1, 0, p, fEl (xS σ s1)))) := hK.setS (s' := (az_w (az_w (az_w sg (44 + 2 * s1) 1 (-1)) (44 + 2 * s1) 2 0) (44 + 2 * s1) 3 p)) (l' := la) h8_s1 (f := (-1, 0, p, fEl (xS σ s1))) ⟨Or.inl rfl, Nat.zero_le _, fun q => absurd rfl q, fun _ => rfl, hpp.imp id (fun q => nI_exp hK.ok q)⟩ (fun k hk => by rw [az_w_ne hk, az_w_ne hk, az_w_ne hk]) (fun k hk => rfl) ⟨by rw [az_w_nj (by decide), az_w_nj (by decide), az_w_at]; rfl, by rw [az_w_nj (by decide), az_w_at]; rfl, az_w_at _ _ _ _, (hK.sh h8_s1).2.2.2⟩
      have hq : (q_show σ (nI s1) p) = (1, yS σ (va_up (xS σ) s1 (-1, 0, p, fEl (xS σ s1)))) := by
        unfold q_show xf
        rw [if_pos ⟨h_1', hpp⟩, hc_s1]
      exact A_iret dX7_show_41 rfl (hP _ _ (XQ_i hq hK2))
    · skip
      refine A_aload_n dX7_show_12 rfl rfl ?_
      refine B_getR (r := 1) dX7_show_13 flX7_10 (hX 0 _ rfl) rfl ?_
      refine A_iload_n dX7_show_16 rfl rfl ?_
      refine A_callV (n := 0) dX7_show_17 kvX2_hasOne mlX7_127 rfl (az_rc_obj clX2 (hX 1 _ rfl)) (kx_hasOne l G (d + 31) sh sg la g σ p hX hK) (by omega) (Nat.le_refl _) (Nat.le_refl _) rfl (Nat.le_of_ble_eq_true rfl) (fun r S1 hp => ?_)
      obtain ⟨rfl, rfl⟩ := hp
      show AW l G mX7_show (d + 32) (az_F G Post) 0 0 20 [some (.ref 0), some (.int s), some (.int p)] [.int (b2i (0 ≤ p ∧ p < cPp (xN σ)))] (sh, sg, la)
      refine A_if_ne (tgt := 30) dX7_show_20 rfl (fun h_3 => ?_) (fun h_3 => ?_)
      · skip
        have h_3' := b2i_n.mp h_3
        have hpp : p = -1 ∨ (0 ≤ p ∧ p < cPp (xN σ)) := Or.inr h_3'
        obtain ⟨s1, hs1, rfl⟩ := nI_ex (m := 7) h_1'
        have hc_s1 : (nI s1).toNatClampNeg = s1 := nI_clamp (by omega)
        refine A_aload_n dX7_show_30 rfl rfl ?_
        refine B_getR (r := 42) dX7_show_31 flX7_56 (hX 0 _ rfl) rfl ?_
        refine A_iload_n dX7_show_34 rfl rfl ?_
        have hS_s1 := lyX_shelf hX (show s1 < 8 by omega)
        have h8_s1 : s1 < 8 := by omega
        refine B_aald (i := s1) (r := (44 + 2 * s1)) dX7_show_35 (hX 42 _ rfl) (by decide) rfl rfl (by decide) (rfl) (by omega) (zsh_r h8_s1) ?_
        refine A_iload_n dX7_show_36 rfl rfl ?_
        refine A_callV (n := 0) dX7_show_37 kvX4_holdOne mlX7_130 rfl (az_rc_obj clX4 (hS_s1 0 _ rfl)) (c_X4_holdOne l G (d + 31) sh sg la (44 + 2 * s1) p hS_s1) (by omega) (Nat.le_refl _) (Nat.le_refl _) rfl (Nat.le_of_ble_eq_true rfl) (fun r S1 hp => ?_)
        obtain ⟨rfl, rfl⟩ := hp
        show AW l G mX7_show (d + 32) (az_F G Post) 0 0 40 [some (.ref 0), some (.int (nI s1)), some (.int p)] [] (sh, (az_w (az_w (az_w sg (44 + 2 * s1) 1 (-1)) (44 + 2 * s1) 2 0) (44 + 2 * s1) 3 p), la)
        refine A_iconst (v := 1) dX7_show_40 (by decide) ?_
        have hK2 : KX g _ _ (yS σ (va_up (xS σ) s1 (-1, 0, p, fEl (xS σ s1)))) := hK.setS (s' := (az_w (az_w (az_w sg (44 + 2 * s1) 1 (-1)) (44 + 2 * s1) 2 0) (44 + 2 * s1) 3 p)) (l' := la) h8_s1 (f := (-1, 0, p, fEl (xS σ s1))) ⟨Or.inl rfl, Nat.zero_le _, fun q => absurd rfl q, fun _ => rfl, hpp.imp id (fun q => nI_exp hK.ok q)⟩ (fun k hk => by rw [az_w_ne hk, az_w_ne hk, az_w_ne hk]) (fun k hk => rfl) ⟨by rw [az_w_nj (by decide), az_w_nj (by decide), az_w_at]; rfl, by rw [az_w_nj (by decide), az_w_at]; rfl, az_w_at _ _ _ _, (hK.sh h8_s1).2.2.2⟩
        have hq : (q_show σ (nI s1) p) = (1, yS σ (va_up (xS σ) s1 (-1, 0, p, fEl (xS σ s1)))) := by
          unfold q_show xf
          rw [if_pos ⟨h_1', hpp⟩, hc_s1]
        exact A_iret dX7_show_41 rfl (hP _ _ (XQ_i hq hK2))
      · skip
        have h_3' := b2i_0.mp h_3
        refine A_aload_n dX7_show_23 rfl rfl ?_
        refine A_bipush (v := (-2)) dX7_show_24 (by decide) ?_
        refine A_callV (n := 0) dX7_show_26 kvX7_refuse mlX7_77 rfl (az_rc_obj clX7 (hX 0 _ rfl)) (c_X7_refuse l G (d + 30) sh sg la (-2) 0 hX (by decide) (by decide)) (by omega) (Nat.le_refl _) (Nat.le_refl _) rfl (Nat.le_of_ble_eq_true rfl) (fun r S1 hp => ?_)
        obtain ⟨rfl, rfl⟩ := hp
        show AW l G mX7_show (d + 32) (az_F G Post) 0 0 29 [some (.ref 0), some (.int s), some (.int p)] [.int (-2)] (sh, (az_w sg 43 0 (sg 43 0 + 1)), la)
        have hq : (q_show σ s p) = ((-2), (rfs σ 0)) := by
          unfold q_show
          try simp only [h_1', h_2, h_3', and_true, true_and, and_false, false_and, and_self, or_true, true_or, or_false, false_or, not_true_eq_false, not_false_eq_true, if_true, if_false, ite_true, ite_false, decide_true, decide_false, reduceIte]
          first | done | rfl | (rw [Int32.add_comm]; done)
        exact A_iret dX7_show_29 rfl (hP _ _ (XQ_i hq (hK.ref (by decide))))
theorem az_jn2 {P : Int32 → Prop} {x y : Int32} (h : x = y) (k : P y) : P x := by subst h; exact k
set_option maxHeartbeats 1000000 in
set_option maxRecDepth 100000 in
theorem x_says (l : Launch) (G : az_Gh) (d : Nat) (sh : List az_Sh) (sg : Nat → Nat → Int32) (la : Nat → Nat → Int64) (g : GGM) (σ : SGM) (s k : Int32) (hX : az_at sh 0 lyX) (hK : KX g sg la σ) : AM l G (d + 32) mX7_says [.ref 0, .int s, .int k] (sh, sg, la) 0 0 (XQ sh g (.int (q_says σ s k).1) (q_says σ s k).2) := by
  refine az_am knX7_says (Nat.le_of_ble_eq_true rfl) rfl (fun Post hP => ?_)
  show AW l G mX7_says (d + 32) (az_F G Post) 0 0 0 [some (.ref 0), some (.int s), some (.int k), none, none] [] (sh, sg, la)
  have hC := lyX_now hX
  have h8N := hK.ok.2
  refine A_iload_n dX7_says_0 rfl rfl ?_
  refine A_callS (n := 0) dX7_says_1 ksX7_isShelf mlX7_69 rfl (c_X7_isShelf l G (d + 30) sh sg la s) (by omega) (Nat.le_refl _) (Nat.le_refl _) rfl (Nat.le_of_ble_eq_true rfl) (fun r S1 hp => ?_)
  obtain ⟨rfl, rfl⟩ := hp
  show AW l G mX7_says (d + 32) (az_F G Post) 0 0 4 [some (.ref 0), some (.int s), some (.int k), none, none] [.int (b2i (0 ≤ s ∧ s ≤ 7))] (sh, sg, la)
  refine A_if_eq (tgt := 14) dX7_says_4 rfl (fun h_1 => ?_) (fun h_1 => ?_)
  · skip
    have h_1' := b2i_0.mp h_1
    refine A_aload_n dX7_says_14 rfl rfl ?_
    refine A_bipush (v := (-2)) dX7_says_15 (by decide) ?_
    refine A_callV (n := 0) dX7_says_17 kvX7_refuse mlX7_77 rfl (az_rc_obj clX7 (hX 0 _ rfl)) (c_X7_refuse l G (d + 30) sh sg la (-2) 0 hX (by decide) (by decide)) (by omega) (Nat.le_refl _) (Nat.le_refl _) rfl (Nat.le_of_ble_eq_true rfl) (fun r S1 hp => ?_)
    obtain ⟨rfl, rfl⟩ := hp
    show AW l G mX7_says (d + 32) (az_F G Post) 0 0 20 [some (.ref 0), some (.int s), some (.int k), none, none] [.int (-2)] (sh, (az_w sg 43 0 (sg 43 0 + 1)), la)
    have hq : (q_says σ s k) = ((-2), (rfs σ 0)) := by
      unfold q_says
      try simp only [h_1', and_true, true_and, and_false, false_and, and_self, or_true, true_or, or_false, false_or, not_true_eq_false, not_false_eq_true, if_true, if_false, ite_true, ite_false, decide_true, decide_false, reduceIte]
      first | done | rfl | (rw [Int32.add_comm]; done)
    exact A_iret dX7_says_20 rfl (hP _ _ (XQ_i hq (hK.ref (by decide))))
  · skip
    have h_1' := b2i_n.mp h_1
    refine A_iload_n dX7_says_7 rfl rfl ?_
    refine A_callS (n := 0) dX7_says_8 ksX7_isKind mlX7_134 rfl (c_X7_isKind l G (d + 30) sh sg la k) (by omega) (Nat.le_refl _) (Nat.le_refl _) rfl (Nat.le_of_ble_eq_true rfl) (fun r S1 hp => ?_)
    obtain ⟨rfl, rfl⟩ := hp
    show AW l G mX7_says (d + 32) (az_F G Post) 0 0 11 [some (.ref 0), some (.int s), some (.int k), none, none] [.int (b2i (0 ≤ k ∧ k ≤ 5))] (sh, sg, la)
    refine A_if_ne (tgt := 21) dX7_says_11 rfl (fun h_2 => ?_) (fun h_2 => ?_)
    · skip
      have h_2' := b2i_n.mp h_2
      obtain ⟨s1, hs1, rfl⟩ := nI_ex (m := 7) h_1'
      have hc_s1 : (nI s1).toNatClampNeg = s1 := nI_clamp (by omega)
      refine A_aload_n dX7_says_21 rfl rfl ?_
      refine B_getR (r := 42) dX7_says_22 flX7_56 (hX 0 _ rfl) rfl ?_
      refine A_iload_n dX7_says_25 rfl rfl ?_
      have hS_s1 := lyX_shelf hX (show s1 < 8 by omega)
      have h8_s1 : s1 < 8 := by omega
      refine B_aald (i := s1) (r := (44 + 2 * s1)) dX7_says_26 (hX 42 _ rfl) (by decide) rfl rfl (by decide) (rfl) (by omega) (zsh_r h8_s1) ?_
      refine A_astore_n (lo2 := [some (.ref 0), some (.int (nI s1)), some (.int k), some (.ref (44 + 2 * s1)), none]) dX7_says_27 rfl (by decide) rfl ?_
      refine A_aload_n dX7_says_28 rfl rfl ?_
      refine A_callV (n := 0) dX7_says_29 kvX4_holdsRow mlX7_137 rfl (az_rc_obj clX4 (hS_s1 0 _ rfl)) (ks_holdsRow l G (d + 31) sh sg la g σ s1  hX hK h8_s1) (by omega) (Nat.le_refl _) (Nat.le_refl _) rfl (Nat.le_of_ble_eq_true rfl) (fun r S1 hp => ?_)
      obtain ⟨rfl, rfl⟩ := hp
      show AW l G mX7_says (d + 32) (az_F G Post) 0 0 32 [some (.ref 0), some (.int (nI s1)), some (.int k), some (.ref (44 + 2 * s1)), none] [.int (b2i (¬ fSo (xS σ s1) = -1))] (sh, sg, la)
      refine A_if_eq (tgt := 42) dX7_says_32 rfl (fun h_3 => ?_) (fun h_3 => ?_)
      · skip
        have h_3' := b2i_0.mp h_3
        have hso := Decidable.not_not.mp h_3'
        refine A_aload_n dX7_says_42 rfl rfl ?_
        refine B_getV (fSh (xS σ s1)) dX7_says_43 flX7_124 (hS_s1 0 _ rfl) rfl ((hK.sh h8_s1).2.2.1) ?_
        refine A_istore (lo2 := [some (.ref 0), some (.int (nI s1)), some (.int k), some (.ref (44 + 2 * s1)), some (.int (fSh (xS σ s1)))]) dX7_says_46 (by decide) rfl ?_
        refine A_aload_n dX7_says_48 rfl rfl ?_
        refine B_getR (r := 1) dX7_says_49 flX7_10 (hX 0 _ rfl) rfl ?_
        refine A_iload dX7_says_52 rfl ?_
        refine A_callV (n := 0) dX7_says_54 kvX2_hasOne mlX7_127 rfl (az_rc_obj clX2 (hX 1 _ rfl)) (kx_hasOne l G (d + 31) sh sg la g σ (fSh (xS σ s1)) hX hK) (by omega) (Nat.le_refl _) (Nat.le_refl _) rfl (Nat.le_of_ble_eq_true rfl) (fun r S1 hp => ?_)
        obtain ⟨rfl, rfl⟩ := hp
        show AW l G mX7_says (d + 32) (az_F G Post) 0 0 57 [some (.ref 0), some (.int (nI s1)), some (.int k), some (.ref (44 + 2 * s1)), some (.int (fSh (xS σ s1)))] [.int (b2i (0 ≤ fSh (xS σ s1) ∧ fSh (xS σ s1) < cPp (xN σ)))] (sh, sg, la)
        refine A_if_ne (tgt := 67) dX7_says_57 rfl (fun h_4 => ?_) (fun h_4 => ?_)
        · skip
          have h_4' := b2i_n.mp h_4
          have hsn : ¬ fSh (xS σ s1) = -1 := fun q => absurd h_4'.1 (by rw [q]; decide)
          obtain ⟨p1, hp1, ep⟩ := nI_exp hK.ok h_4'
          have hc_p1 : (fSh (xS σ s1)).toNatClampNeg = p1 := by rw [ep]; exact nI_clamp (by omega)
          refine az_jn2 ep (P := fun z => AW l G mX7_says (d + 32) (az_F G Post) 0 0 67 [some (.ref 0), some (.int (nI s1)), some (.int k), some (.ref (44 + 2 * s1)), some (.int (z))] [] (sh, sg, la)) ?_
          refine A_aload_n dX7_says_67 rfl rfl ?_
          refine B_getR (r := 1) dX7_says_68 flX7_10 (hX 0 _ rfl) rfl ?_
          refine B_getR (r := 2) dX7_says_71 flX7_140 (hX 1 _ rfl) rfl ?_
          refine A_iload dX7_says_74 rfl ?_
          refine B_ialdV (i := p1) (cKd (xN σ) p1) dX7_says_76 (hX 2 _ rfl) (by decide) (rfl) (by omega) (hK.e1 _) ?_
          obtain ⟨k1, hk1, ek⟩ := iR_nI (m := 5) (hK.rng.2.2.2 p1 hp1).2.2.2.2
          have hc_k1 : (cKd (xN σ) p1).toNatClampNeg = k1 := by rw [ek]; exact nI_clamp (by omega)
          refine B_top ek ?_
          refine A_iload_n dX7_says_77 rfl rfl ?_
          refine A_callS (n := 0) dX7_says_78 ksX7_isOfOrUnder mlX7_143 rfl (c_X7_isOfOrUnder l G (d + 29) sh sg la k1 k hk1) (by omega) (Nat.le_refl _) (Nat.le_refl _) rfl (Nat.le_of_ble_eq_true rfl) (fun r S1 hp => ?_)
          obtain ⟨rfl, rfl⟩ := hp
          show AW l G mX7_says (d + 32) (az_F G Post) 0 0 81 [some (.ref 0), some (.int (nI s1)), some (.int k), some (.ref (44 + 2 * s1)), some (.int (nI p1))] [.int (b2i (zou k1 k = true))] (sh, sg, la)
          refine A_if_ne (tgt := 91) dX7_says_81 rfl (fun h_5 => ?_) (fun h_5 => ?_)
          · skip
            have h_5' := b2i_n.mp h_5
            refine A_iload_n dX7_says_91 rfl rfl ?_
            refine A_if_ne (tgt := 108) dX7_says_92 rfl (fun h_6 => ?_) (fun h_6 => ?_)
            · skip
              refine A_aload_n dX7_says_108 rfl rfl ?_
              refine B_getR (r := 1) dX7_says_109 flX7_10 (hX 0 _ rfl) rfl ?_
              refine A_aload_n dX7_says_112 rfl rfl ?_
              refine B_getR (r := 1) dX7_says_113 flX7_10 (hX 0 _ rfl) rfl ?_
              refine B_getR (r := 2) dX7_says_116 flX7_140 (hX 1 _ rfl) rfl ?_
              refine A_iload dX7_says_119 rfl ?_
              refine B_ialdV (i := p1) (cKd (xN σ) p1) dX7_says_121 (hX 2 _ rfl) (by decide) (rfl) (by omega) (hK.e1 _) ?_
              refine A_iload dX7_says_122 rfl ?_
              refine A_callV (n := 0) dX7_says_124 kvX2_coldAs mlX7_149 rfl (az_rc_obj clX2 (hX 1 _ rfl)) (kx_coldAs l G (d + 30) sh sg la g σ p1 (cKd (xN σ) p1) hX hK (by omega)) (by omega) (Nat.le_refl _) (Nat.le_refl _) rfl (Nat.le_of_ble_eq_true rfl) (fun r S1 hp => ?_)
              obtain ⟨rfl, rfl⟩ := hp
              show AW l G mX7_says (d + 32) (az_F G Post) 0 0 127 [some (.ref 0), some (.int (nI s1)), some (.int k), some (.ref (44 + 2 * s1)), some (.int (nI p1))] [.int (zcT (cKd (xN σ) p1) (xN σ) p1)] (sh, sg, la)
              have hq : (q_says σ (nI s1) k) = (zcT (cKd (xN σ) p1) (xN σ) p1, σ) := by
                unfold q_says xf
                rw [if_pos ⟨h_1', h_2'⟩, hc_s1, if_pos hso, if_neg hsn, hc_p1, hc_k1, if_pos h_5', if_neg h_6]
                first | done | rfl
              exact A_iret dX7_says_127 rfl (hP _ _ (XQ_i hq hK))
            · skip
              refine A_aload_n dX7_says_95 rfl rfl ?_
              refine B_getR (r := 1) dX7_says_96 flX7_10 (hX 0 _ rfl) rfl ?_
              refine B_getR (r := 4) dX7_says_99 flX7_146 (hX 1 _ rfl) rfl ?_
              refine A_iload dX7_says_102 rfl ?_
              refine B_ialdV (i := p1) (cPr (xN σ) p1) dX7_says_104 (hX 4 _ rfl) (by decide) (rfl) (by omega) (hK.e3 _) ?_
              refine A_goto (tgt := 127) dX7_says_105 rfl ?_
              have hq : (q_says σ (nI s1) k) = (cPr (xN σ) p1, σ) := by
                unfold q_says xf
                rw [if_pos ⟨h_1', h_2'⟩, hc_s1, if_pos hso, if_neg hsn, hc_p1, hc_k1, if_pos h_5', if_pos h_6]
                first | done | rfl
              exact A_iret dX7_says_127 rfl (hP _ _ (XQ_i hq hK))
          · skip
            have h_5' := b2i_0.mp h_5
            refine A_aload_n dX7_says_84 rfl rfl ?_
            refine A_bipush (v := (-3)) dX7_says_85 (by decide) ?_
            refine A_callV (n := 0) dX7_says_87 kvX7_refuse mlX7_77 rfl (az_rc_obj clX7 (hX 0 _ rfl)) (c_X7_refuse l G (d + 30) sh sg la (-3) 1 hX (by decide) (by decide)) (by omega) (Nat.le_refl _) (Nat.le_refl _) rfl (Nat.le_of_ble_eq_true rfl) (fun r S1 hp => ?_)
            obtain ⟨rfl, rfl⟩ := hp
            show AW l G mX7_says (d + 32) (az_F G Post) 0 0 90 [some (.ref 0), some (.int (nI s1)), some (.int k), some (.ref (44 + 2 * s1)), some (.int (nI p1))] [.int (-3)] (sh, (az_w sg 43 1 (sg 43 1 + 1)), la)
            have hq : (q_says σ (nI s1) k) = ((-3), (rfs σ 1)) := by
              unfold q_says xf
              rw [if_pos ⟨h_1', h_2'⟩, hc_s1, if_pos hso, if_neg hsn, hc_p1, hc_k1, if_neg h_5']
              first | done | rfl
            exact A_iret dX7_says_90 rfl (hP _ _ (XQ_i hq (hK.ref (by decide))))
        · skip
          have h_4' := b2i_0.mp h_4
          have hsn : fSh (xS σ s1) = -1 := by
            rcases (hK.fw h8_s1).2.2.2.2 with q | ⟨p9, hp9, e9⟩
            · exact q
            · exact absurd ⟨by rw [e9]; exact nI_pos' (by omega), by rw [e9, hK.ok.1]; exact nI_lt hp9 (by omega)⟩ h_4'
          refine A_aload_n dX7_says_60 rfl rfl ?_
          refine A_bipush (v := (-4)) dX7_says_61 (by decide) ?_
          refine A_callV (n := 0) dX7_says_63 kvX7_refuse mlX7_77 rfl (az_rc_obj clX7 (hX 0 _ rfl)) (c_X7_refuse l G (d + 30) sh sg la (-4) 2 hX (by decide) (by decide)) (by omega) (Nat.le_refl _) (Nat.le_refl _) rfl (Nat.le_of_ble_eq_true rfl) (fun r S1 hp => ?_)
          obtain ⟨rfl, rfl⟩ := hp
          show AW l G mX7_says (d + 32) (az_F G Post) 0 0 66 [some (.ref 0), some (.int (nI s1)), some (.int k), some (.ref (44 + 2 * s1)), some (.int (fSh (xS σ s1)))] [.int (-4)] (sh, (az_w sg 43 2 (sg 43 2 + 1)), la)
          have hq : (q_says σ (nI s1) k) = ((-4), (rfs σ 2)) := by
            unfold q_says xf
            rw [if_pos ⟨h_1', h_2'⟩, hc_s1, if_pos hso, if_pos hsn]
            first | done | rfl
          exact A_iret dX7_says_66 rfl (hP _ _ (XQ_i hq (hK.ref (by decide))))
      · skip
        have h_3' := b2i_n.mp h_3
        refine A_aload_n dX7_says_35 rfl rfl ?_
        refine A_bipush (v := (-3)) dX7_says_36 (by decide) ?_
        refine A_callV (n := 0) dX7_says_38 kvX7_refuse mlX7_77 rfl (az_rc_obj clX7 (hX 0 _ rfl)) (c_X7_refuse l G (d + 30) sh sg la (-3) 1 hX (by decide) (by decide)) (by omega) (Nat.le_refl _) (Nat.le_refl _) rfl (Nat.le_of_ble_eq_true rfl) (fun r S1 hp => ?_)
        obtain ⟨rfl, rfl⟩ := hp
        show AW l G mX7_says (d + 32) (az_F G Post) 0 0 41 [some (.ref 0), some (.int (nI s1)), some (.int k), some (.ref (44 + 2 * s1)), none] [.int (-3)] (sh, (az_w sg 43 1 (sg 43 1 + 1)), la)
        have hq : (q_says σ (nI s1) k) = ((-3), (rfs σ 1)) := by
          unfold q_says xf
          rw [if_pos ⟨h_1', h_2'⟩, hc_s1, if_neg h_3']
          first | done | rfl
        exact A_iret dX7_says_41 rfl (hP _ _ (XQ_i hq (hK.ref (by decide))))
    · skip
      have h_2' := b2i_0.mp h_2
      refine A_aload_n dX7_says_14 rfl rfl ?_
      refine A_bipush (v := (-2)) dX7_says_15 (by decide) ?_
      refine A_callV (n := 0) dX7_says_17 kvX7_refuse mlX7_77 rfl (az_rc_obj clX7 (hX 0 _ rfl)) (c_X7_refuse l G (d + 30) sh sg la (-2) 0 hX (by decide) (by decide)) (by omega) (Nat.le_refl _) (Nat.le_refl _) rfl (Nat.le_of_ble_eq_true rfl) (fun r S1 hp => ?_)
      obtain ⟨rfl, rfl⟩ := hp
      show AW l G mX7_says (d + 32) (az_F G Post) 0 0 20 [some (.ref 0), some (.int s), some (.int k), none, none] [.int (-2)] (sh, (az_w sg 43 0 (sg 43 0 + 1)), la)
      have hq : (q_says σ s k) = ((-2), (rfs σ 0)) := by
        unfold q_says
        try simp only [h_1', h_2', and_true, true_and, and_false, false_and, and_self, or_true, true_or, or_false, false_or, not_true_eq_false, not_false_eq_true, if_true, if_false, ite_true, ite_false, decide_true, decide_false, reduceIte]
        first | done | rfl | (rw [Int32.add_comm]; done)
      exact A_iret dX7_says_20 rfl (hP _ _ (XQ_i hq (hK.ref (by decide))))
set_option maxHeartbeats 1000000 in
set_option maxRecDepth 100000 in
theorem x_copy (l : Launch) (G : az_Gh) (d : Nat) (sh : List az_Sh) (sg : Nat → Nat → Int32) (la : Nat → Nat → Int64) (g : GGM) (σ : SGM) (p q i j n : Int32) (hX : az_at sh 0 lyX) (hK : KX g sg la σ) : AM l G (d + 32) mX7_copy [.ref 0, .int p, .int q, .int i, .int j, .int n] (sh, sg, la) 0 0 (XQ sh g (.int (q_copy σ p q i j n).1) (q_copy σ p q i j n).2) := by
  refine az_am knX7_copy (Nat.le_of_ble_eq_true rfl) rfl (fun Post hP => ?_)
  show AW l G mX7_copy (d + 32) (az_F G Post) 0 0 0 [some (.ref 0), some (.int p), some (.int q), some (.int i), some (.int j), some (.int n), none, none] [] (sh, sg, la)
  have hC := lyX_now hX
  have h8N := hK.ok.2
  refine A_iload_n dX7_copy_0 rfl rfl ?_
  refine A_callS (n := 0) dX7_copy_1 ksX7_isShelf mlX7_69 rfl (c_X7_isShelf l G (d + 30) sh sg la p) (by omega) (Nat.le_refl _) (Nat.le_refl _) rfl (Nat.le_of_ble_eq_true rfl) (fun r S1 hp => ?_)
  obtain ⟨rfl, rfl⟩ := hp
  show AW l G mX7_copy (d + 32) (az_F G Post) 0 0 4 [some (.ref 0), some (.int p), some (.int q), some (.int i), some (.int j), some (.int n), none, none] [.int (b2i (0 ≤ p ∧ p ≤ 7))] (sh, sg, la)
  refine A_if_eq (tgt := 14) dX7_copy_4 rfl (fun h_1 => ?_) (fun h_1 => ?_)
  · skip
    have h_1' := b2i_0.mp h_1
    refine A_aload_n dX7_copy_14 rfl rfl ?_
    refine A_bipush (v := (-2)) dX7_copy_15 (by decide) ?_
    refine A_callV (n := 0) dX7_copy_17 kvX7_refuse mlX7_77 rfl (az_rc_obj clX7 (hX 0 _ rfl)) (c_X7_refuse l G (d + 30) sh sg la (-2) 0 hX (by decide) (by decide)) (by omega) (Nat.le_refl _) (Nat.le_refl _) rfl (Nat.le_of_ble_eq_true rfl) (fun r S1 hp => ?_)
    obtain ⟨rfl, rfl⟩ := hp
    show AW l G mX7_copy (d + 32) (az_F G Post) 0 0 20 [some (.ref 0), some (.int p), some (.int q), some (.int i), some (.int j), some (.int n), none, none] [.int (-2)] (sh, (az_w sg 43 0 (sg 43 0 + 1)), la)
    have hq : (q_copy σ p q i j n) = ((-2), (rfs σ 0)) := by
      unfold q_copy
      try simp only [h_1', and_true, true_and, and_false, false_and, and_self, or_true, true_or, or_false, false_or, not_true_eq_false, not_false_eq_true, if_true, if_false, ite_true, ite_false, decide_true, decide_false, reduceIte]
      first | done | rfl | (rw [Int32.add_comm]; done)
    exact A_iret dX7_copy_20 rfl (hP _ _ (XQ_i hq (hK.ref (by decide))))
  · skip
    have h_1' := b2i_n.mp h_1
    refine A_iload_n dX7_copy_7 rfl rfl ?_
    refine A_callS (n := 0) dX7_copy_8 ksX7_isShelf mlX7_69 rfl (c_X7_isShelf l G (d + 30) sh sg la q) (by omega) (Nat.le_refl _) (Nat.le_refl _) rfl (Nat.le_of_ble_eq_true rfl) (fun r S1 hp => ?_)
    obtain ⟨rfl, rfl⟩ := hp
    show AW l G mX7_copy (d + 32) (az_F G Post) 0 0 11 [some (.ref 0), some (.int p), some (.int q), some (.int i), some (.int j), some (.int n), none, none] [.int (b2i (0 ≤ q ∧ q ≤ 7))] (sh, sg, la)
    refine A_if_ne (tgt := 21) dX7_copy_11 rfl (fun h_2 => ?_) (fun h_2 => ?_)
    · skip
      have h_2' := b2i_n.mp h_2
      obtain ⟨p1, hp1, rfl⟩ := nI_ex (m := 7) h_1'
      have hc_p1 : (nI p1).toNatClampNeg = p1 := nI_clamp (by omega)
      obtain ⟨q1, hq1, rfl⟩ := nI_ex (m := 7) h_2'
      have hc_q1 : (nI q1).toNatClampNeg = q1 := nI_clamp (by omega)
      refine A_aload_n dX7_copy_21 rfl rfl ?_
      refine B_getR (r := 42) dX7_copy_22 flX7_56 (hX 0 _ rfl) rfl ?_
      refine A_iload_n dX7_copy_25 rfl rfl ?_
      have hS_p1 := lyX_shelf hX (show p1 < 8 by omega)
      have h8_p1 : p1 < 8 := by omega
      refine B_aald (i := p1) (r := (44 + 2 * p1)) dX7_copy_26 (hX 42 _ rfl) (by decide) rfl rfl (by decide) (rfl) (by omega) (zsh_r h8_p1) ?_
      refine A_astore (lo2 := [some (.ref 0), some (.int (nI p1)), some (.int (nI q1)), some (.int i), some (.int j), some (.int n), some (.ref (44 + 2 * p1)), none]) dX7_copy_27 (by decide) rfl ?_
      refine A_aload_n dX7_copy_29 rfl rfl ?_
      refine B_getR (r := 42) dX7_copy_30 flX7_56 (hX 0 _ rfl) rfl ?_
      refine A_iload_n dX7_copy_33 rfl rfl ?_
      have hS_q1 := lyX_shelf hX (show q1 < 8 by omega)
      have h8_q1 : q1 < 8 := by omega
      refine B_aald (i := q1) (r := (44 + 2 * q1)) dX7_copy_34 (hX 42 _ rfl) (by decide) rfl rfl (by decide) (rfl) (by omega) (zsh_r h8_q1) ?_
      refine A_astore (lo2 := [some (.ref 0), some (.int (nI p1)), some (.int (nI q1)), some (.int i), some (.int j), some (.int n), some (.ref (44 + 2 * p1)), some (.ref (44 + 2 * q1))]) dX7_copy_35 (by decide) rfl ?_
      refine A_aload dX7_copy_37 rfl ?_
      refine A_callV (n := 0) dX7_copy_39 kvX4_holdsOne mlX7_96 rfl (az_rc_obj clX4 (hS_p1 0 _ rfl)) (ks_holdsOne l G (d + 31) sh sg la g σ p1  hX hK h8_p1) (by omega) (Nat.le_refl _) (Nat.le_refl _) rfl (Nat.le_of_ble_eq_true rfl) (fun r S1 hp => ?_)
      obtain ⟨rfl, rfl⟩ := hp
      show AW l G mX7_copy (d + 32) (az_F G Post) 0 0 42 [some (.ref 0), some (.int (nI p1)), some (.int (nI q1)), some (.int i), some (.int j), some (.int n), some (.ref (44 + 2 * p1)), some (.ref (44 + 2 * q1))] [.int (b2i (¬ fSh (xS σ p1) = -1))] (sh, sg, la)
      refine A_if_ne (tgt := 53) dX7_copy_42 rfl (fun h_3 => ?_) (fun h_3 => ?_)
      · skip
        have h_3' := b2i_n.mp h_3
        refine A_aload_n dX7_copy_53 rfl rfl ?_
        refine A_bipush (v := (-3)) dX7_copy_54 (by decide) ?_
        refine A_callV (n := 0) dX7_copy_56 kvX7_refuse mlX7_77 rfl (az_rc_obj clX7 (hX 0 _ rfl)) (c_X7_refuse l G (d + 30) sh sg la (-3) 1 hX (by decide) (by decide)) (by omega) (Nat.le_refl _) (Nat.le_refl _) rfl (Nat.le_of_ble_eq_true rfl) (fun r S1 hp => ?_)
        obtain ⟨rfl, rfl⟩ := hp
        show AW l G mX7_copy (d + 32) (az_F G Post) 0 0 59 [some (.ref 0), some (.int (nI p1)), some (.int (nI q1)), some (.int i), some (.int j), some (.int n), some (.ref (44 + 2 * p1)), some (.ref (44 + 2 * q1))] [.int (-3)] (sh, (az_w sg 43 1 (sg 43 1 + 1)), la)
        have hq : (q_copy σ (nI p1) (nI q1) i j n) = ((-3), (rfs σ 1)) := by
          unfold q_copy xf
          rw [if_pos ⟨h_1', h_2'⟩, hc_p1, hc_q1, if_neg (fun q => h_3' q.1)]
          first | done | rfl
        exact A_iret dX7_copy_59 rfl (hP _ _ (XQ_i hq (hK.ref (by decide))))
      · skip
        have h_3' := b2i_0.mp h_3
        refine A_aload dX7_copy_45 rfl ?_
        refine A_callV (n := 0) dX7_copy_47 kvX4_holdsOne mlX7_96 rfl (az_rc_obj clX4 (hS_q1 0 _ rfl)) (ks_holdsOne l G (d + 31) sh sg la g σ q1  hX hK h8_q1) (by omega) (Nat.le_refl _) (Nat.le_refl _) rfl (Nat.le_of_ble_eq_true rfl) (fun r S1 hp => ?_)
        obtain ⟨rfl, rfl⟩ := hp
        show AW l G mX7_copy (d + 32) (az_F G Post) 0 0 50 [some (.ref 0), some (.int (nI p1)), some (.int (nI q1)), some (.int i), some (.int j), some (.int n), some (.ref (44 + 2 * p1)), some (.ref (44 + 2 * q1))] [.int (b2i (¬ fSh (xS σ q1) = -1))] (sh, sg, la)
        refine A_if_eq (tgt := 60) dX7_copy_50 rfl (fun h_4 => ?_) (fun h_4 => ?_)
        · skip
          have h_4' := b2i_0.mp h_4
          have ha1 := Decidable.not_not.mp h_3'
          have ha2 := Decidable.not_not.mp h_4'
          refine A_aload dX7_copy_60 rfl ?_
          refine A_callV (n := 0) dX7_copy_62 kvX4_isBare mlX7_100 rfl (az_rc_obj clX4 (hS_p1 0 _ rfl)) (ks_isBare l G (d + 30) sh sg la g σ p1  hX hK h8_p1) (by omega) (Nat.le_refl _) (Nat.le_refl _) rfl (Nat.le_of_ble_eq_true rfl) (fun r S1 hp => ?_)
          obtain ⟨rfl, rfl⟩ := hp
          show AW l G mX7_copy (d + 32) (az_F G Post) 0 0 65 [some (.ref 0), some (.int (nI p1)), some (.int (nI q1)), some (.int i), some (.int j), some (.int n), some (.ref (44 + 2 * p1)), some (.ref (44 + 2 * q1))] [.int (b2i (fSo (xS σ p1) = -1 ∧ fSh (xS σ p1) = -1))] (sh, sg, la)
          refine A_if_ne (tgt := 76) dX7_copy_65 rfl (fun h_5 => ?_) (fun h_5 => ?_)
          · skip
            have h_5' := b2i_n.mp h_5
            refine A_aload_n dX7_copy_76 rfl rfl ?_
            refine A_bipush (v := (-4)) dX7_copy_77 (by decide) ?_
            refine A_callV (n := 0) dX7_copy_79 kvX7_refuse mlX7_77 rfl (az_rc_obj clX7 (hX 0 _ rfl)) (c_X7_refuse l G (d + 30) sh sg la (-4) 2 hX (by decide) (by decide)) (by omega) (Nat.le_refl _) (Nat.le_refl _) rfl (Nat.le_of_ble_eq_true rfl) (fun r S1 hp => ?_)
            obtain ⟨rfl, rfl⟩ := hp
            show AW l G mX7_copy (d + 32) (az_F G Post) 0 0 82 [some (.ref 0), some (.int (nI p1)), some (.int (nI q1)), some (.int i), some (.int j), some (.int n), some (.ref (44 + 2 * p1)), some (.ref (44 + 2 * q1))] [.int (-4)] (sh, (az_w sg 43 2 (sg 43 2 + 1)), la)
            have hq : (q_copy σ (nI p1) (nI q1) i j n) = ((-4), (rfs σ 2)) := by
              unfold q_copy xf
              rw [if_pos ⟨h_1', h_2'⟩, hc_p1, hc_q1, if_pos ⟨ha1, ha2⟩, if_pos (Or.inl h_5'.1)]
              first | done | rfl
            exact A_iret dX7_copy_82 rfl (hP _ _ (XQ_i hq (hK.ref (by decide))))
          · skip
            have h_5' := b2i_0.mp h_5
            refine A_aload dX7_copy_68 rfl ?_
            refine A_callV (n := 0) dX7_copy_70 kvX4_isBare mlX7_100 rfl (az_rc_obj clX4 (hS_q1 0 _ rfl)) (ks_isBare l G (d + 30) sh sg la g σ q1  hX hK h8_q1) (by omega) (Nat.le_refl _) (Nat.le_refl _) rfl (Nat.le_of_ble_eq_true rfl) (fun r S1 hp => ?_)
            obtain ⟨rfl, rfl⟩ := hp
            show AW l G mX7_copy (d + 32) (az_F G Post) 0 0 73 [some (.ref 0), some (.int (nI p1)), some (.int (nI q1)), some (.int i), some (.int j), some (.int n), some (.ref (44 + 2 * p1)), some (.ref (44 + 2 * q1))] [.int (b2i (fSo (xS σ q1) = -1 ∧ fSh (xS σ q1) = -1))] (sh, sg, la)
            refine A_if_eq (tgt := 83) dX7_copy_73 rfl (fun h_6 => ?_) (fun h_6 => ?_)
            · skip
              have h_6' := b2i_0.mp h_6
              refine A_aload dX7_copy_83 rfl ?_
              refine B_getV (fSo (xS σ p1)) dX7_copy_85 flX7_103 (hS_p1 0 _ rfl) rfl ((hK.sh h8_p1).1) ?_
              refine A_aload dX7_copy_88 rfl ?_
              refine B_getV (fSo (xS σ q1)) dX7_copy_90 flX7_103 (hS_q1 0 _ rfl) rfl ((hK.sh h8_q1).1) ?_
              refine A_icmp_eq (tgt := 103) dX7_copy_93 rfl (fun h_7 => ?_) (fun h_7 => ?_)
              · skip
                refine A_aload dX7_copy_103 rfl ?_
                refine A_iload_n dX7_copy_105 rfl rfl ?_
                refine A_iload dX7_copy_106 rfl ?_
                refine A_callV (n := 0) dX7_copy_108 kvX4_hasStretch mlX7_107 rfl (az_rc_obj clX4 (hS_p1 0 _ rfl)) (ks_hasStretch l G (d + 31) sh sg la g σ p1 i n hX hK h8_p1) (by omega) (Nat.le_refl _) (Nat.le_refl _) rfl (Nat.le_of_ble_eq_true rfl) (fun r S1 hp => ?_)
                obtain ⟨rfl, rfl⟩ := hp
                show AW l G mX7_copy (d + 32) (az_F G Post) 0 0 111 [some (.ref 0), some (.int (nI p1)), some (.int (nI q1)), some (.int i), some (.int j), some (.int n), some (.ref (44 + 2 * p1)), some (.ref (44 + 2 * q1))] [.int (b2i (0 ≤ n ∧ n ≤ nI (fSz (xS σ p1)) ∧ 0 ≤ i ∧ i ≤ nI (fSz (xS σ p1)) - n))] (sh, sg, la)
                refine A_if_eq (tgt := 126) dX7_copy_111 rfl (fun h_8 => ?_) (fun h_8 => ?_)
                · skip
                  have h_8' := b2i_0.mp h_8
                  refine A_aload_n dX7_copy_126 rfl rfl ?_
                  refine A_bipush (v := (-2)) dX7_copy_127 (by decide) ?_
                  refine A_callV (n := 0) dX7_copy_129 kvX7_refuse mlX7_77 rfl (az_rc_obj clX7 (hX 0 _ rfl)) (c_X7_refuse l G (d + 30) sh sg la (-2) 0 hX (by decide) (by decide)) (by omega) (Nat.le_refl _) (Nat.le_refl _) rfl (Nat.le_of_ble_eq_true rfl) (fun r S1 hp => ?_)
                  obtain ⟨rfl, rfl⟩ := hp
                  show AW l G mX7_copy (d + 32) (az_F G Post) 0 0 132 [some (.ref 0), some (.int (nI p1)), some (.int (nI q1)), some (.int i), some (.int j), some (.int n), some (.ref (44 + 2 * p1)), some (.ref (44 + 2 * q1))] [.int (-2)] (sh, (az_w sg 43 0 (sg 43 0 + 1)), la)
                  have hq : (q_copy σ (nI p1) (nI q1) i j n) = ((-2), (rfs σ 0)) := by
                    unfold q_copy xf
                    rw [if_pos ⟨h_1', h_2'⟩, hc_p1, hc_q1, if_pos ⟨ha1, ha2⟩, if_neg (fun q => q.elim (fun z => h_5' ⟨z, ha1⟩) (fun z => h_6' ⟨z, ha2⟩)), if_pos h_7, if_neg (fun q => h_8' q.1)]
                    first | done | rfl
                  exact A_iret dX7_copy_132 rfl (hP _ _ (XQ_i hq (hK.ref (by decide))))
                · skip
                  have h_8' := b2i_n.mp h_8
                  refine A_aload dX7_copy_114 rfl ?_
                  refine A_iload dX7_copy_116 rfl ?_
                  refine A_iload dX7_copy_118 rfl ?_
                  refine A_callV (n := 0) dX7_copy_120 kvX4_hasStretch mlX7_107 rfl (az_rc_obj clX4 (hS_q1 0 _ rfl)) (ks_hasStretch l G (d + 31) sh sg la g σ q1 j n hX hK h8_q1) (by omega) (Nat.le_refl _) (Nat.le_refl _) rfl (Nat.le_of_ble_eq_true rfl) (fun r S1 hp => ?_)
                  obtain ⟨rfl, rfl⟩ := hp
                  show AW l G mX7_copy (d + 32) (az_F G Post) 0 0 123 [some (.ref 0), some (.int (nI p1)), some (.int (nI q1)), some (.int i), some (.int j), some (.int n), some (.ref (44 + 2 * p1)), some (.ref (44 + 2 * q1))] [.int (b2i (0 ≤ n ∧ n ≤ nI (fSz (xS σ q1)) ∧ 0 ≤ j ∧ j ≤ nI (fSz (xS σ q1)) - n))] (sh, sg, la)
                  refine A_if_ne (tgt := 133) dX7_copy_123 rfl (fun h_9 => ?_) (fun h_9 => ?_)
                  · skip
                    have h_9' := b2i_n.mp h_9
                    have hst := And.intro h_8' h_9'
                    obtain ⟨i1, n1, rfl, rfl, hi1⟩ := str_n (hK.fw h8_p1).2.1 h_8'
                    obtain ⟨j1, n2, rfl, en, hj1⟩ := str_n (hK.fw h8_q1).2.1 h_9'
                    have hzp := (hK.fw h8_p1).2.1
                    have hzq := (hK.fw h8_q1).2.1
                    have en2 : n1 = n2 := (nI_eq (by omega) (by omega)).mp en
                    subst en2
                    have hc_i1 : (nI i1).toNatClampNeg = i1 := nI_clamp (by omega)
                    have hc_j1 : (nI j1).toNatClampNeg = j1 := nI_clamp (by omega)
                    have hc_n1 : (nI n1).toNatClampNeg = n1 := nI_clamp (by omega)
                    refine A_aload dX7_copy_133 rfl ?_
                    refine B_getR (r := ((44 + 2 * p1) + 1)) dX7_copy_135 flX7_110 (hS_p1 0 _ rfl) rfl ?_
                    refine A_iload_n dX7_copy_138 rfl rfl ?_
                    refine A_aload dX7_copy_139 rfl ?_
                    refine B_getR (r := ((44 + 2 * q1) + 1)) dX7_copy_141 flX7_110 (hS_q1 0 _ rfl) rfl ?_
                    refine A_iload dX7_copy_144 rfl ?_
                    refine A_iload dX7_copy_146 rfl ?_
                    refine B_copyL (sp := i1) (dp := j1) (n := n1) dX7_copy_148 mlX7_114 w_ac1 w_ac2 w_ac3 (hS_p1 1 _ rfl) (hS_q1 1 _ rfl) (rfl) (rfl) (rfl) (by omega) (by omega) (by decide) (by decide) (by omega) (Nat.le_of_ble_eq_true rfl) ?_
                    refine A_iload dX7_copy_151 rfl ?_
                    have hK2 : KX g _ _ (yS σ (va_up (xS σ) q1 (fSo (xS σ q1), fSz (xS σ q1), fSh (xS σ q1), va_cpy (fEl (xS σ p1)) (fEl (xS σ q1)) i1 j1 n1))) := hK.setS (s' := sg) (l' := (va_up la ((44 + 2 * q1) + 1) (va_cpy (la ((44 + 2 * p1) + 1)) (la ((44 + 2 * q1) + 1)) i1 j1 n1))) h8_q1 (hK.fw h8_q1) (fun k hk => rfl) (fun k hk => az_up_ne hk) ⟨(hK.sh h8_q1).1, (hK.sh h8_q1).2.1, (hK.sh h8_q1).2.2.1, by rw [az_up_self, (hK.sh h8_p1).2.2.2, (hK.sh h8_q1).2.2.2]; rfl⟩
                    have hq : (q_copy σ (nI p1) (nI q1) (nI i1) (nI j1) (nI n1)) = (nI n1, yS σ (va_up (xS σ) q1 (fSo (xS σ q1), fSz (xS σ q1), fSh (xS σ q1), va_cpy (fEl (xS σ p1)) (fEl (xS σ q1)) i1 j1 n1))) := by
                      unfold q_copy xf
                      rw [if_pos ⟨h_1', h_2'⟩, hc_p1, hc_q1, if_pos ⟨ha1, ha2⟩, if_neg (fun q => q.elim (fun z => h_5' ⟨z, ha1⟩) (fun z => h_6' ⟨z, ha2⟩)), if_pos h_7, if_pos hst, hc_i1, hc_j1, hc_n1]
                    exact A_iret dX7_copy_153 rfl (hP _ _ (XQ_i hq hK2))
                  · skip
                    have h_9' := b2i_0.mp h_9
                    refine A_aload_n dX7_copy_126 rfl rfl ?_
                    refine A_bipush (v := (-2)) dX7_copy_127 (by decide) ?_
                    refine A_callV (n := 0) dX7_copy_129 kvX7_refuse mlX7_77 rfl (az_rc_obj clX7 (hX 0 _ rfl)) (c_X7_refuse l G (d + 30) sh sg la (-2) 0 hX (by decide) (by decide)) (by omega) (Nat.le_refl _) (Nat.le_refl _) rfl (Nat.le_of_ble_eq_true rfl) (fun r S1 hp => ?_)
                    obtain ⟨rfl, rfl⟩ := hp
                    show AW l G mX7_copy (d + 32) (az_F G Post) 0 0 132 [some (.ref 0), some (.int (nI p1)), some (.int (nI q1)), some (.int i), some (.int j), some (.int n), some (.ref (44 + 2 * p1)), some (.ref (44 + 2 * q1))] [.int (-2)] (sh, (az_w sg 43 0 (sg 43 0 + 1)), la)
                    have hq : (q_copy σ (nI p1) (nI q1) i j n) = ((-2), (rfs σ 0)) := by
                      unfold q_copy xf
                      rw [if_pos ⟨h_1', h_2'⟩, hc_p1, hc_q1, if_pos ⟨ha1, ha2⟩, if_neg (fun q => q.elim (fun z => h_5' ⟨z, ha1⟩) (fun z => h_6' ⟨z, ha2⟩)), if_pos h_7, if_neg (fun q => h_9' q.2)]
                      first | done | rfl
                    exact A_iret dX7_copy_132 rfl (hP _ _ (XQ_i hq (hK.ref (by decide))))
              · skip
                refine A_aload_n dX7_copy_96 rfl rfl ?_
                refine A_bipush (v := (-3)) dX7_copy_97 (by decide) ?_
                refine A_callV (n := 0) dX7_copy_99 kvX7_refuse mlX7_77 rfl (az_rc_obj clX7 (hX 0 _ rfl)) (c_X7_refuse l G (d + 30) sh sg la (-3) 1 hX (by decide) (by decide)) (by omega) (Nat.le_refl _) (Nat.le_refl _) rfl (Nat.le_of_ble_eq_true rfl) (fun r S1 hp => ?_)
                obtain ⟨rfl, rfl⟩ := hp
                show AW l G mX7_copy (d + 32) (az_F G Post) 0 0 102 [some (.ref 0), some (.int (nI p1)), some (.int (nI q1)), some (.int i), some (.int j), some (.int n), some (.ref (44 + 2 * p1)), some (.ref (44 + 2 * q1))] [.int (-3)] (sh, (az_w sg 43 1 (sg 43 1 + 1)), la)
                have hq : (q_copy σ (nI p1) (nI q1) i j n) = ((-3), (rfs σ 1)) := by
                  unfold q_copy xf
                  rw [if_pos ⟨h_1', h_2'⟩, hc_p1, hc_q1, if_pos ⟨ha1, ha2⟩, if_neg (fun q => q.elim (fun z => h_5' ⟨z, ha1⟩) (fun z => h_6' ⟨z, ha2⟩)), if_neg h_7]
                  first | done | rfl
                exact A_iret dX7_copy_102 rfl (hP _ _ (XQ_i hq (hK.ref (by decide))))
            · skip
              have h_6' := b2i_n.mp h_6
              refine A_aload_n dX7_copy_76 rfl rfl ?_
              refine A_bipush (v := (-4)) dX7_copy_77 (by decide) ?_
              refine A_callV (n := 0) dX7_copy_79 kvX7_refuse mlX7_77 rfl (az_rc_obj clX7 (hX 0 _ rfl)) (c_X7_refuse l G (d + 30) sh sg la (-4) 2 hX (by decide) (by decide)) (by omega) (Nat.le_refl _) (Nat.le_refl _) rfl (Nat.le_of_ble_eq_true rfl) (fun r S1 hp => ?_)
              obtain ⟨rfl, rfl⟩ := hp
              show AW l G mX7_copy (d + 32) (az_F G Post) 0 0 82 [some (.ref 0), some (.int (nI p1)), some (.int (nI q1)), some (.int i), some (.int j), some (.int n), some (.ref (44 + 2 * p1)), some (.ref (44 + 2 * q1))] [.int (-4)] (sh, (az_w sg 43 2 (sg 43 2 + 1)), la)
              have hq : (q_copy σ (nI p1) (nI q1) i j n) = ((-4), (rfs σ 2)) := by
                unfold q_copy xf
                rw [if_pos ⟨h_1', h_2'⟩, hc_p1, hc_q1, if_pos ⟨ha1, ha2⟩, if_pos (Or.inr h_6'.1)]
                first | done | rfl
              exact A_iret dX7_copy_82 rfl (hP _ _ (XQ_i hq (hK.ref (by decide))))
        · skip
          have h_4' := b2i_n.mp h_4
          refine A_aload_n dX7_copy_53 rfl rfl ?_
          refine A_bipush (v := (-3)) dX7_copy_54 (by decide) ?_
          refine A_callV (n := 0) dX7_copy_56 kvX7_refuse mlX7_77 rfl (az_rc_obj clX7 (hX 0 _ rfl)) (c_X7_refuse l G (d + 30) sh sg la (-3) 1 hX (by decide) (by decide)) (by omega) (Nat.le_refl _) (Nat.le_refl _) rfl (Nat.le_of_ble_eq_true rfl) (fun r S1 hp => ?_)
          obtain ⟨rfl, rfl⟩ := hp
          show AW l G mX7_copy (d + 32) (az_F G Post) 0 0 59 [some (.ref 0), some (.int (nI p1)), some (.int (nI q1)), some (.int i), some (.int j), some (.int n), some (.ref (44 + 2 * p1)), some (.ref (44 + 2 * q1))] [.int (-3)] (sh, (az_w sg 43 1 (sg 43 1 + 1)), la)
          have hq : (q_copy σ (nI p1) (nI q1) i j n) = ((-3), (rfs σ 1)) := by
            unfold q_copy xf
            rw [if_pos ⟨h_1', h_2'⟩, hc_p1, hc_q1, if_neg (fun q => h_4' q.2)]
            first | done | rfl
          exact A_iret dX7_copy_59 rfl (hP _ _ (XQ_i hq (hK.ref (by decide))))
    · skip
      have h_2' := b2i_0.mp h_2
      refine A_aload_n dX7_copy_14 rfl rfl ?_
      refine A_bipush (v := (-2)) dX7_copy_15 (by decide) ?_
      refine A_callV (n := 0) dX7_copy_17 kvX7_refuse mlX7_77 rfl (az_rc_obj clX7 (hX 0 _ rfl)) (c_X7_refuse l G (d + 30) sh sg la (-2) 0 hX (by decide) (by decide)) (by omega) (Nat.le_refl _) (Nat.le_refl _) rfl (Nat.le_of_ble_eq_true rfl) (fun r S1 hp => ?_)
      obtain ⟨rfl, rfl⟩ := hp
      show AW l G mX7_copy (d + 32) (az_F G Post) 0 0 20 [some (.ref 0), some (.int p), some (.int q), some (.int i), some (.int j), some (.int n), none, none] [.int (-2)] (sh, (az_w sg 43 0 (sg 43 0 + 1)), la)
      have hq : (q_copy σ p q i j n) = ((-2), (rfs σ 0)) := by
        unfold q_copy
        try simp only [h_1', h_2', and_true, true_and, and_false, false_and, and_self, or_true, true_or, or_false, false_or, not_true_eq_false, not_false_eq_true, if_true, if_false, ite_true, ite_false, decide_true, decide_false, reduceIte]
        first | done | rfl | (rw [Int32.add_comm]; done)
      exact A_iret dX7_copy_20 rfl (hP _ _ (XQ_i hq (hK.ref (by decide))))
