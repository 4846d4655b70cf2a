theorem fill_wL (f : Nat → Nat → Int64) (k i : Nat) (g : Nat → Int64) (x : Int64) (hx : x = g i) : az_wL (va_up f k (fa_fill g (f k) i)) k i x = va_up f k (fa_fill g (f k) (i + 1)) := by
  subst hx
  rw [az_wL_up, fa_fill_up]
theorem cpy_s (f g : Nat → Int64) (i j n : Nat) : va_up (va_cpy f g i j n) (j + n) (f (i + n)) = va_cpy f g i j (n + 1) := by
  funext k
  unfold va_cpy
  by_cases h : k = j + n
  · subst h
    rw [az_up_self, if_pos (by omega), show j + n - j = n by omega]
  · rw [az_up_ne h]
    by_cases q : j ≤ k ∧ k < j + n
    · rw [if_pos q, if_pos (by omega)]
    · rw [if_neg q, if_neg (by omega)]
theorem cpy_0 (f g : Nat → Int64) (i j : Nat) : va_cpy f g i j 0 = g := funext fun k => by unfold va_cpy; rw [if_neg (by omega)]
theorem cpy_wL (f : Nat → Nat → Int64) (k : Nat) (e : Nat → Int64) (i j n : Nat) (x : Int64) (hx : x = e (i + n)) : az_wL (va_up f k (va_cpy e (f k) i j n)) k (j + n) x = va_up f k (va_cpy e (f k) i j (n + 1)) := by
  subst hx
  rw [az_wL_up, cpy_s]
set_option maxHeartbeats 1000000 in
set_option maxRecDepth 100000 in
theorem y_copy (l : Launch) (G : az_Gh) (d : Nat) (sh : List az_Sh) (sg : Nat → Nat → Int32) (la : Nat → Nat → Int64) (g : GGM) (σ : SGM) (kp tr : Option Nat) (p q i j n : Int32) (hM : az_at sh 60 (lyM 60 kp tr)) (hR : RX g sg la σ kp tr) (hW : WF σ)  : AM l G (d + 32) mX8_copy [.ref 60, .int p, .int q, .int i, .int j, .int n] (sh, sg, la) 0 0 (RQ sh g kp tr (.int (q_copy σ p q i j n).1) (q_copy σ p q i j n).2) := by
  refine az_am knX8_copy (Nat.le_of_ble_eq_true rfl) rfl (fun Post hP => ?_)
  show AW l G mX8_copy (d + 32) (az_F G Post) 0 0 0 [some (.ref 60), some (.int p), some (.int q), some (.int i), some (.int j), some (.int n), none] [] (sh, sg, la)
  have hO := hW.1.1.1
  have hL := cW_lv hW.1
  have haw := hW.1.2.2.1
  have h8 := hO.2
  refine A_iload_n dX8_copy_0 rfl rfl ?_
  refine A_i2l dX8_copy_1 ?_
  refine A_lconst (v := 0) dX8_copy_2 (by decide) ?_
  refine A_ldc2 (v := 7) dX8_copy_3 lcX8_95 ?_
  refine A_callS (n := 0) dX8_copy_6 ksX8_in mlX8_91 rfl (c_X8_inI l G (d + 31) sh sg la p 7 7 (by decide)) (by omega) (Nat.le_refl _) (Nat.le_refl _) rfl (Nat.le_of_ble_eq_true rfl) (fun r S1 hp => ?_)
  obtain ⟨rfl, rfl⟩ := hp
  show AW l G mX8_copy (d + 32) (az_F G Post) 0 0 9 [some (.ref 60), some (.int p), some (.int q), some (.int i), some (.int j), some (.int n), none] [.int (b2i (0 ≤ p ∧ p ≤ 7))] (sh, sg, la)
  refine A_if_eq (tgt := 24) dX8_copy_9 rfl (fun h_1 => ?_) (fun h_1 => ?_)
  · skip
    have h_1' := b2i_0.mp h_1
    refine A_aload_n dX8_copy_24 rfl rfl ?_
    refine A_bipush (v := (-2)) dX8_copy_25 (by decide) ?_
    refine A_callV (n := 0) dX8_copy_27 kvX8_refuse mlX8_101 rfl (az_rc_obj clX8 (hM 0 _ rfl)) (c_X8_refuse l G (d + 31) sh sg la kp tr (-2) 0 hM (by decide) (by decide)) (by omega) (Nat.le_refl _) (Nat.le_refl _) rfl (Nat.le_of_ble_eq_true rfl) (fun r S1 hp => ?_)
    obtain ⟨rfl, rfl⟩ := hp
    show AW l G mX8_copy (d + 32) (az_F G Post) 0 0 30 [some (.ref 60), some (.int p), some (.int q), some (.int i), some (.int j), some (.int n), none] [.int (-2)] (sh, (az_w sg 76 (0 + 2) (sg 76 (0 + 2) + 1)), la)
    have hq : (q_copy σ p q i j n) = ((-2), (rfs σ 0)) := by
      unfold q_copy
      try simp only [h_1', and_true, true_and, and_false, false_and, and_self, or_true, true_or, or_false, false_or, not_true_eq_false, not_false_eq_true, if_true, if_false, ite_true, ite_false, decide_true, decide_false, reduceIte]
      first | done | rfl
    exact A_iret dX8_copy_30 rfl (hP _ _ (RQ_i hq (hR.ref (k := 0) (by decide))))
  · skip
    have h_1' := b2i_n.mp h_1
    refine A_iload_n dX8_copy_12 rfl rfl ?_
    refine A_i2l dX8_copy_13 ?_
    refine A_lconst (v := 0) dX8_copy_14 (by decide) ?_
    refine A_ldc2 (v := 7) dX8_copy_15 lcX8_95 ?_
    refine A_callS (n := 0) dX8_copy_18 ksX8_in mlX8_91 rfl (c_X8_inI l G (d + 31) sh sg la q 7 7 (by decide)) (by omega) (Nat.le_refl _) (Nat.le_refl _) rfl (Nat.le_of_ble_eq_true rfl) (fun r S1 hp => ?_)
    obtain ⟨rfl, rfl⟩ := hp
    show AW l G mX8_copy (d + 32) (az_F G Post) 0 0 21 [some (.ref 60), some (.int p), some (.int q), some (.int i), some (.int j), some (.int n), none] [.int (b2i (0 ≤ q ∧ q ≤ 7))] (sh, sg, la)
    refine A_if_ne (tgt := 31) dX8_copy_21 rfl (fun h_2 => ?_) (fun h_2 => ?_)
    · skip
      have h_2' := b2i_n.mp h_2
      obtain ⟨p1, hp1, rfl⟩ := nI_ex (m := 7) h_1'
      have hc_p1 : (nI p1).toNatClampNeg = p1 := nI_clamp (by omega)
      obtain ⟨q1, hq1, rfl⟩ := nI_ex (m := 7) h_2'
      have hc_q1 : (nI q1).toNatClampNeg = q1 := nI_clamp (by omega)
      have hp8 : p1 < 8 := by omega
      have hq8 : q1 < 8 := by omega
      refine A_aload_n dX8_copy_31 rfl rfl ?_
      refine B_getR (r := 61) dX8_copy_32 flX8_7 (hM 0 _ rfl) rfl ?_
      refine A_iload_n dX8_copy_35 rfl rfl ?_
      refine B_ialdV (i := p1) (rTag (xS σ p1)) dX8_copy_36 (hM 1 _ rfl) (by decide) (rfl) (by omega) (hR.tag (by omega)) ?_
      refine A_iconst (v := 2) dX8_copy_37 (by decide) ?_
      refine A_icmp_eq (tgt := 86) dX8_copy_38 rfl (fun h_3 => ?_) (fun h_3 => ?_)
      · skip
        refine A_aload_n dX8_copy_86 rfl rfl ?_
        refine A_bipush (v := (-3)) dX8_copy_87 (by decide) ?_
        refine A_callV (n := 0) dX8_copy_89 kvX8_refuse mlX8_101 rfl (az_rc_obj clX8 (hM 0 _ rfl)) (c_X8_refuse l G (d + 31) sh sg la kp tr (-3) 1 hM (by decide) (by decide)) (by omega) (Nat.le_refl _) (Nat.le_refl _) rfl (Nat.le_of_ble_eq_true rfl) (fun r S1 hp => ?_)
        obtain ⟨rfl, rfl⟩ := hp
        show AW l G mX8_copy (d + 32) (az_F G Post) 0 0 92 [some (.ref 60), some (.int (nI p1)), some (.int (nI q1)), some (.int i), some (.int j), some (.int n), none] [.int (-3)] (sh, (az_w sg 76 (1 + 2) (sg 76 (1 + 2) + 1)), la)
        have hq : (q_copy σ (nI p1) (nI q1) i j n) = ((-3), (rfs σ 1)) := by
          unfold q_copy xf
          rw [if_pos ⟨h_1', h_2'⟩, hc_p1, hc_q1, if_neg (fun z => rTag_2.mp h_3 z.1)]
          first | done | rfl
        exact A_iret dX8_copy_92 rfl (hP _ _ (RQ_i hq (hR.ref (k := 1) (by decide))))
      · skip
        refine A_aload_n dX8_copy_41 rfl rfl ?_
        refine B_getR (r := 61) dX8_copy_42 flX8_7 (hM 0 _ rfl) rfl ?_
        refine A_iload_n dX8_copy_45 rfl rfl ?_
        refine B_ialdV (i := q1) (rTag (xS σ q1)) dX8_copy_46 (hM 1 _ rfl) (by decide) (rfl) (by omega) (hR.tag (by omega)) ?_
        refine A_iconst (v := 2) dX8_copy_47 (by decide) ?_
        refine A_icmp_eq (tgt := 86) dX8_copy_48 rfl (fun h_4 => ?_) (fun h_4 => ?_)
        · skip
          refine A_aload_n dX8_copy_86 rfl rfl ?_
          refine A_bipush (v := (-3)) dX8_copy_87 (by decide) ?_
          refine A_callV (n := 0) dX8_copy_89 kvX8_refuse mlX8_101 rfl (az_rc_obj clX8 (hM 0 _ rfl)) (c_X8_refuse l G (d + 31) sh sg la kp tr (-3) 1 hM (by decide) (by decide)) (by omega) (Nat.le_refl _) (Nat.le_refl _) rfl (Nat.le_of_ble_eq_true rfl) (fun r S1 hp => ?_)
          obtain ⟨rfl, rfl⟩ := hp
          show AW l G mX8_copy (d + 32) (az_F G Post) 0 0 92 [some (.ref 60), some (.int (nI p1)), some (.int (nI q1)), some (.int i), some (.int j), some (.int n), none] [.int (-3)] (sh, (az_w sg 76 (1 + 2) (sg 76 (1 + 2) + 1)), la)
          have hq : (q_copy σ (nI p1) (nI q1) i j n) = ((-3), (rfs σ 1)) := by
            unfold q_copy xf
            rw [if_pos ⟨h_1', h_2'⟩, hc_p1, hc_q1, if_neg (fun z => rTag_2.mp h_4 z.2)]
            first | done | rfl
          exact A_iret dX8_copy_92 rfl (hP _ _ (RQ_i hq (hR.ref (k := 1) (by decide))))
        · skip
          refine A_aload_n dX8_copy_51 rfl rfl ?_
          refine B_getR (r := 61) dX8_copy_52 flX8_7 (hM 0 _ rfl) rfl ?_
          refine A_iload_n dX8_copy_55 rfl rfl ?_
          refine B_ialdV (i := p1) (rTag (xS σ p1)) dX8_copy_56 (hM 1 _ rfl) (by decide) (rfl) (by omega) (hR.tag (by omega)) ?_
          refine A_iconst (v := 1) dX8_copy_57 (by decide) ?_
          refine A_icmp_ne (tgt := 93) dX8_copy_58 rfl (fun h_5 => ?_) (fun h_5 => ?_)
          · skip
            refine A_aload_n dX8_copy_93 rfl rfl ?_
            refine B_getR (r := 61) dX8_copy_94 flX8_7 (hM 0 _ rfl) rfl ?_
            refine A_iload_n dX8_copy_97 rfl rfl ?_
            refine B_ialdV (i := p1) (rTag (xS σ p1)) dX8_copy_98 (hM 1 _ rfl) (by decide) (rfl) (by omega) (hR.tag (by omega)) ?_
            refine A_if_eq (tgt := 111) dX8_copy_99 rfl (fun h_6 => ?_) (fun h_6 => ?_)
            · skip
              refine A_aload_n dX8_copy_111 rfl rfl ?_
              refine A_bipush (v := (-4)) dX8_copy_112 (by decide) ?_
              refine A_callV (n := 0) dX8_copy_114 kvX8_refuse mlX8_101 rfl (az_rc_obj clX8 (hM 0 _ rfl)) (c_X8_refuse l G (d + 31) sh sg la kp tr (-4) 2 hM (by decide) (by decide)) (by omega) (Nat.le_refl _) (Nat.le_refl _) rfl (Nat.le_of_ble_eq_true rfl) (fun r S1 hp => ?_)
              obtain ⟨rfl, rfl⟩ := hp
              show AW l G mX8_copy (d + 32) (az_F G Post) 0 0 117 [some (.ref 60), some (.int (nI p1)), some (.int (nI q1)), some (.int i), some (.int j), some (.int n), none] [.int (-4)] (sh, (az_w sg 76 (2 + 2) (sg 76 (2 + 2) + 1)), la)
              have hq : (q_copy σ (nI p1) (nI q1) i j n) = ((-4), (rfs σ 2)) := by
                unfold q_copy xf
                rw [if_pos ⟨h_1', h_2'⟩, hc_p1, hc_q1, if_pos ⟨Decidable.byContradiction (fun z => h_3 (rTag_2.mpr z)), Decidable.byContradiction (fun z => h_4 (rTag_2.mpr z))⟩, if_pos (Or.inl (rTag_0.mp h_6).1)]
                first | done | rfl
              exact A_iret dX8_copy_117 rfl (hP _ _ (RQ_i hq (hR.ref (k := 2) (by decide))))
            · skip
              exact absurd (rTag_1.mpr (rTag_r h_3 h_6)) h_5
          · skip
            refine A_aload_n dX8_copy_61 rfl rfl ?_
            refine B_getR (r := 61) dX8_copy_62 flX8_7 (hM 0 _ rfl) rfl ?_
            refine A_iload_n dX8_copy_65 rfl rfl ?_
            refine B_ialdV (i := q1) (rTag (xS σ q1)) dX8_copy_66 (hM 1 _ rfl) (by decide) (rfl) (by omega) (hR.tag (by omega)) ?_
            refine A_iconst (v := 1) dX8_copy_67 (by decide) ?_
            refine A_icmp_ne (tgt := 93) dX8_copy_68 rfl (fun h_7 => ?_) (fun h_7 => ?_)
            · skip
              refine A_aload_n dX8_copy_93 rfl rfl ?_
              refine B_getR (r := 61) dX8_copy_94 flX8_7 (hM 0 _ rfl) rfl ?_
              refine A_iload_n dX8_copy_97 rfl rfl ?_
              refine B_ialdV (i := p1) (rTag (xS σ p1)) dX8_copy_98 (hM 1 _ rfl) (by decide) (rfl) (by omega) (hR.tag (by omega)) ?_
              refine A_if_eq (tgt := 111) dX8_copy_99 rfl (fun h_8 => ?_) (fun h_8 => ?_)
              · skip
                exact absurd (h_5.symm.trans h_8) (by decide)
              · skip
                refine A_aload_n dX8_copy_102 rfl rfl ?_
                refine B_getR (r := 61) dX8_copy_103 flX8_7 (hM 0 _ rfl) rfl ?_
                refine A_iload_n dX8_copy_106 rfl rfl ?_
                refine B_ialdV (i := q1) (rTag (xS σ q1)) dX8_copy_107 (hM 1 _ rfl) (by decide) (rfl) (by omega) (hR.tag (by omega)) ?_
                refine A_if_ne (tgt := 118) dX8_copy_108 rfl (fun h_9 => ?_) (fun h_9 => ?_)
                · skip
                  exact absurd (rTag_1.mpr (rTag_r h_4 h_9)) h_7
                · skip
                  refine A_aload_n dX8_copy_111 rfl rfl ?_
                  refine A_bipush (v := (-4)) dX8_copy_112 (by decide) ?_
                  refine A_callV (n := 0) dX8_copy_114 kvX8_refuse mlX8_101 rfl (az_rc_obj clX8 (hM 0 _ rfl)) (c_X8_refuse l G (d + 31) sh sg la kp tr (-4) 2 hM (by decide) (by decide)) (by omega) (Nat.le_refl _) (Nat.le_refl _) rfl (Nat.le_of_ble_eq_true rfl) (fun r S1 hp => ?_)
                  obtain ⟨rfl, rfl⟩ := hp
                  show AW l G mX8_copy (d + 32) (az_F G Post) 0 0 117 [some (.ref 60), some (.int (nI p1)), some (.int (nI q1)), some (.int i), some (.int j), some (.int n), none] [.int (-4)] (sh, (az_w sg 76 (2 + 2) (sg 76 (2 + 2) + 1)), la)
                  have hq : (q_copy σ (nI p1) (nI q1) i j n) = ((-4), (rfs σ 2)) := by
                    unfold q_copy xf
                    rw [if_pos ⟨h_1', h_2'⟩, hc_p1, hc_q1, if_pos ⟨Decidable.byContradiction (fun z => h_3 (rTag_2.mpr z)), Decidable.byContradiction (fun z => h_4 (rTag_2.mpr z))⟩, if_pos (Or.inr (rTag_0.mp h_9).1)]
                    first | done | rfl
                  exact A_iret dX8_copy_117 rfl (hP _ _ (RQ_i hq (hR.ref (k := 2) (by decide))))
            · skip
              have htp := rTag_1.mp h_5
              have htq := rTag_1.mp h_7
              refine A_aload_n dX8_copy_71 rfl rfl ?_
              refine B_getR (r := 62) dX8_copy_72 flX8_13 (hM 0 _ rfl) rfl ?_
              refine A_iload_n dX8_copy_75 rfl rfl ?_
              refine B_ialdV (i := p1) (fSo (xS σ p1)) dX8_copy_76 (hM 2 _ rfl) (by decide) (rfl) (by omega) (((hR.sh (s := p1) (by omega)).2.1 htp.1).1) ?_
              refine A_aload_n dX8_copy_77 rfl rfl ?_
              refine B_getR (r := 62) dX8_copy_78 flX8_13 (hM 0 _ rfl) rfl ?_
              refine A_iload_n dX8_copy_81 rfl rfl ?_
              refine B_ialdV (i := q1) (fSo (xS σ q1)) dX8_copy_82 (hM 2 _ rfl) (by decide) (rfl) (by omega) (((hR.sh (s := q1) (by omega)).2.1 htq.1).1) ?_
              refine A_icmp_eq (tgt := 93) dX8_copy_83 rfl (fun h_10 => ?_) (fun h_10 => ?_)
              · skip
                refine A_aload_n dX8_copy_93 rfl rfl ?_
                refine B_getR (r := 61) dX8_copy_94 flX8_7 (hM 0 _ rfl) rfl ?_
                refine A_iload_n dX8_copy_97 rfl rfl ?_
                refine B_ialdV (i := p1) (rTag (xS σ p1)) dX8_copy_98 (hM 1 _ rfl) (by decide) (rfl) (by omega) (hR.tag (by omega)) ?_
                refine A_if_eq (tgt := 111) dX8_copy_99 rfl (fun h_11 => ?_) (fun h_11 => ?_)
                · skip
                  exact absurd (h_5.symm.trans h_11) (by decide)
                · skip
                  refine A_aload_n dX8_copy_102 rfl rfl ?_
                  refine B_getR (r := 61) dX8_copy_103 flX8_7 (hM 0 _ rfl) rfl ?_
                  refine A_iload_n dX8_copy_106 rfl rfl ?_
                  refine B_ialdV (i := q1) (rTag (xS σ q1)) dX8_copy_107 (hM 1 _ rfl) (by decide) (rfl) (by omega) (hR.tag (by omega)) ?_
                  refine A_if_ne (tgt := 118) dX8_copy_108 rfl (fun h_12 => ?_) (fun h_12 => ?_)
                  · skip
                    refine A_iload dX8_copy_118 rfl ?_
                    refine A_if_lt (tgt := 181) dX8_copy_120 rfl (fun h_13 => ?_) (fun h_13 => ?_)
                    · skip
                      refine A_aload_n dX8_copy_181 rfl rfl ?_
                      refine A_bipush (v := (-2)) dX8_copy_182 (by decide) ?_
                      refine A_callV (n := 0) dX8_copy_184 kvX8_refuse mlX8_101 rfl (az_rc_obj clX8 (hM 0 _ rfl)) (c_X8_refuse l G (d + 31) sh sg la kp tr (-2) 0 hM (by decide) (by decide)) (by omega) (Nat.le_refl _) (Nat.le_refl _) rfl (Nat.le_of_ble_eq_true rfl) (fun r S1 hp => ?_)
                      obtain ⟨rfl, rfl⟩ := hp
                      show AW l G mX8_copy (d + 32) (az_F G Post) 0 0 187 [some (.ref 60), some (.int (nI p1)), some (.int (nI q1)), some (.int i), some (.int j), some (.int n), none] [.int (-2)] (sh, (az_w sg 76 (0 + 2) (sg 76 (0 + 2) + 1)), la)
                      have hq : (q_copy σ (nI p1) (nI q1) i j n) = ((-2), (rfs σ 0)) := by
                        unfold q_copy xf
                        rw [if_pos ⟨h_1', h_2'⟩, hc_p1, hc_q1, if_pos ⟨htp.2, htq.2⟩, if_neg (fun z => z.elim htp.1 htq.1), if_pos h_10, if_neg (fun z => Int32.not_lt.mpr z.1.1 h_13)]
                        first | done | rfl
                      exact A_iret dX8_copy_187 rfl (hP _ _ (RQ_i hq (hR.ref (k := 0) (by decide))))
                    · skip
                      refine A_iload_n dX8_copy_123 rfl rfl ?_
                      refine A_if_lt (tgt := 181) dX8_copy_124 rfl (fun h_14 => ?_) (fun h_14 => ?_)
                      · skip
                        refine A_aload_n dX8_copy_181 rfl rfl ?_
                        refine A_bipush (v := (-2)) dX8_copy_182 (by decide) ?_
                        refine A_callV (n := 0) dX8_copy_184 kvX8_refuse mlX8_101 rfl (az_rc_obj clX8 (hM 0 _ rfl)) (c_X8_refuse l G (d + 31) sh sg la kp tr (-2) 0 hM (by decide) (by decide)) (by omega) (Nat.le_refl _) (Nat.le_refl _) rfl (Nat.le_of_ble_eq_true rfl) (fun r S1 hp => ?_)
                        obtain ⟨rfl, rfl⟩ := hp
                        show AW l G mX8_copy (d + 32) (az_F G Post) 0 0 187 [some (.ref 60), some (.int (nI p1)), some (.int (nI q1)), some (.int i), some (.int j), some (.int n), none] [.int (-2)] (sh, (az_w sg 76 (0 + 2) (sg 76 (0 + 2) + 1)), la)
                        have hq : (q_copy σ (nI p1) (nI q1) i j n) = ((-2), (rfs σ 0)) := by
                          unfold q_copy xf
                          rw [if_pos ⟨h_1', h_2'⟩, hc_p1, hc_q1, if_pos ⟨htp.2, htq.2⟩, if_neg (fun z => z.elim htp.1 htq.1), if_pos h_10, if_neg (fun z => Int32.not_lt.mpr z.1.2.2.1 h_14)]
                          first | done | rfl
                        exact A_iret dX8_copy_187 rfl (hP _ _ (RQ_i hq (hR.ref (k := 0) (by decide))))
                      · skip
                        refine A_iload dX8_copy_127 rfl ?_
                        refine A_if_lt (tgt := 181) dX8_copy_129 rfl (fun h_15 => ?_) (fun h_15 => ?_)
                        · skip
                          refine A_aload_n dX8_copy_181 rfl rfl ?_
                          refine A_bipush (v := (-2)) dX8_copy_182 (by decide) ?_
                          refine A_callV (n := 0) dX8_copy_184 kvX8_refuse mlX8_101 rfl (az_rc_obj clX8 (hM 0 _ rfl)) (c_X8_refuse l G (d + 31) sh sg la kp tr (-2) 0 hM (by decide) (by decide)) (by omega) (Nat.le_refl _) (Nat.le_refl _) rfl (Nat.le_of_ble_eq_true rfl) (fun r S1 hp => ?_)
                          obtain ⟨rfl, rfl⟩ := hp
                          show AW l G mX8_copy (d + 32) (az_F G Post) 0 0 187 [some (.ref 60), some (.int (nI p1)), some (.int (nI q1)), some (.int i), some (.int j), some (.int n), none] [.int (-2)] (sh, (az_w sg 76 (0 + 2) (sg 76 (0 + 2) + 1)), la)
                          have hq : (q_copy σ (nI p1) (nI q1) i j n) = ((-2), (rfs σ 0)) := by
                            unfold q_copy xf
                            rw [if_pos ⟨h_1', h_2'⟩, hc_p1, hc_q1, if_pos ⟨htp.2, htq.2⟩, if_neg (fun z => z.elim htp.1 htq.1), if_pos h_10, if_neg (fun z => Int32.not_lt.mpr z.2.2.2.1 h_15)]
                            first | done | rfl
                          exact A_iret dX8_copy_187 rfl (hP _ _ (RQ_i hq (hR.ref (k := 0) (by decide))))
                        · skip
                          refine A_iload dX8_copy_132 rfl ?_
                          refine A_aload_n dX8_copy_134 rfl rfl ?_
                          refine B_getR (r := 63) dX8_copy_135 flX8_16 (hM 0 _ rfl) rfl ?_
                          refine A_iload_n dX8_copy_138 rfl rfl ?_
                          refine B_ialdV (i := p1) (nI (fSz (xS σ p1))) dX8_copy_139 (hM 3 _ rfl) (by decide) (rfl) (by omega) (((hR.sh (s := p1) (by omega)).2.1 htp.1).2) ?_
                          refine A_icmp_gt (tgt := 181) dX8_copy_140 rfl (fun h_16 => ?_) (fun h_16 => ?_)
                          · skip
                            refine A_aload_n dX8_copy_181 rfl rfl ?_
                            refine A_bipush (v := (-2)) dX8_copy_182 (by decide) ?_
                            refine A_callV (n := 0) dX8_copy_184 kvX8_refuse mlX8_101 rfl (az_rc_obj clX8 (hM 0 _ rfl)) (c_X8_refuse l G (d + 31) sh sg la kp tr (-2) 0 hM (by decide) (by decide)) (by omega) (Nat.le_refl _) (Nat.le_refl _) rfl (Nat.le_of_ble_eq_true rfl) (fun r S1 hp => ?_)
                            obtain ⟨rfl, rfl⟩ := hp
                            show AW l G mX8_copy (d + 32) (az_F G Post) 0 0 187 [some (.ref 60), some (.int (nI p1)), some (.int (nI q1)), some (.int i), some (.int j), some (.int n), none] [.int (-2)] (sh, (az_w sg 76 (0 + 2) (sg 76 (0 + 2) + 1)), la)
                            have hq : (q_copy σ (nI p1) (nI q1) i j n) = ((-2), (rfs σ 0)) := by
                              unfold q_copy xf
                              rw [if_pos ⟨h_1', h_2'⟩, hc_p1, hc_q1, if_pos ⟨htp.2, htq.2⟩, if_neg (fun z => z.elim htp.1 htq.1), if_pos h_10, if_neg (fun z => Int32.not_lt.mpr z.1.2.1 h_16)]
                              first | done | rfl
                            exact A_iret dX8_copy_187 rfl (hP _ _ (RQ_i hq (hR.ref (k := 0) (by decide))))
                          · skip
                            refine A_iload dX8_copy_143 rfl ?_
                            refine A_aload_n dX8_copy_145 rfl rfl ?_
                            refine B_getR (r := 63) dX8_copy_146 flX8_16 (hM 0 _ rfl) rfl ?_
                            refine A_iload_n dX8_copy_149 rfl rfl ?_
                            refine B_ialdV (i := q1) (nI (fSz (xS σ q1))) dX8_copy_150 (hM 3 _ rfl) (by decide) (rfl) (by omega) (((hR.sh (s := q1) (by omega)).2.1 htq.1).2) ?_
                            refine A_icmp_gt (tgt := 181) dX8_copy_151 rfl (fun h_17 => ?_) (fun h_17 => ?_)
                            · skip
                              refine A_aload_n dX8_copy_181 rfl rfl ?_
                              refine A_bipush (v := (-2)) dX8_copy_182 (by decide) ?_
                              refine A_callV (n := 0) dX8_copy_184 kvX8_refuse mlX8_101 rfl (az_rc_obj clX8 (hM 0 _ rfl)) (c_X8_refuse l G (d + 31) sh sg la kp tr (-2) 0 hM (by decide) (by decide)) (by omega) (Nat.le_refl _) (Nat.le_refl _) rfl (Nat.le_of_ble_eq_true rfl) (fun r S1 hp => ?_)
                              obtain ⟨rfl, rfl⟩ := hp
                              show AW l G mX8_copy (d + 32) (az_F G Post) 0 0 187 [some (.ref 60), some (.int (nI p1)), some (.int (nI q1)), some (.int i), some (.int j), some (.int n), none] [.int (-2)] (sh, (az_w sg 76 (0 + 2) (sg 76 (0 + 2) + 1)), la)
                              have hq : (q_copy σ (nI p1) (nI q1) i j n) = ((-2), (rfs σ 0)) := by
                                unfold q_copy xf
                                rw [if_pos ⟨h_1', h_2'⟩, hc_p1, hc_q1, if_pos ⟨htp.2, htq.2⟩, if_neg (fun z => z.elim htp.1 htq.1), if_pos h_10, if_neg (fun z => Int32.not_lt.mpr z.2.2.1 h_17)]
                                first | done | rfl
                              exact A_iret dX8_copy_187 rfl (hP _ _ (RQ_i hq (hR.ref (k := 0) (by decide))))
                            · skip
                              refine A_iload_n dX8_copy_154 rfl rfl ?_
                              refine A_aload_n dX8_copy_155 rfl rfl ?_
                              refine B_getR (r := 63) dX8_copy_156 flX8_16 (hM 0 _ rfl) rfl ?_
                              refine A_iload_n dX8_copy_159 rfl rfl ?_
                              refine B_ialdV (i := p1) (nI (fSz (xS σ p1))) dX8_copy_160 (hM 3 _ rfl) (by decide) (rfl) (by omega) (((hR.sh (s := p1) (by omega)).2.1 htp.1).2) ?_
                              refine A_iload dX8_copy_161 rfl ?_
                              refine A_isub dX8_copy_163 ?_
                              refine A_icmp_gt (tgt := 181) dX8_copy_164 rfl (fun h_18 => ?_) (fun h_18 => ?_)
                              · skip
                                refine A_aload_n dX8_copy_181 rfl rfl ?_
                                refine A_bipush (v := (-2)) dX8_copy_182 (by decide) ?_
                                refine A_callV (n := 0) dX8_copy_184 kvX8_refuse mlX8_101 rfl (az_rc_obj clX8 (hM 0 _ rfl)) (c_X8_refuse l G (d + 31) sh sg la kp tr (-2) 0 hM (by decide) (by decide)) (by omega) (Nat.le_refl _) (Nat.le_refl _) rfl (Nat.le_of_ble_eq_true rfl) (fun r S1 hp => ?_)
                                obtain ⟨rfl, rfl⟩ := hp
                                show AW l G mX8_copy (d + 32) (az_F G Post) 0 0 187 [some (.ref 60), some (.int (nI p1)), some (.int (nI q1)), some (.int i), some (.int j), some (.int n), none] [.int (-2)] (sh, (az_w sg 76 (0 + 2) (sg 76 (0 + 2) + 1)), la)
                                have hq : (q_copy σ (nI p1) (nI q1) i j n) = ((-2), (rfs σ 0)) := by
                                  unfold q_copy xf
                                  rw [if_pos ⟨h_1', h_2'⟩, hc_p1, hc_q1, if_pos ⟨htp.2, htq.2⟩, if_neg (fun z => z.elim htp.1 htq.1), if_pos h_10, if_neg (fun z => Int32.not_lt.mpr z.1.2.2.2 h_18)]
                                  first | done | rfl
                                exact A_iret dX8_copy_187 rfl (hP _ _ (RQ_i hq (hR.ref (k := 0) (by decide))))
                              · skip
                                refine A_iload dX8_copy_167 rfl ?_
                                refine A_aload_n dX8_copy_169 rfl rfl ?_
                                refine B_getR (r := 63) dX8_copy_170 flX8_16 (hM 0 _ rfl) rfl ?_
                                refine A_iload_n dX8_copy_173 rfl rfl ?_
                                refine B_ialdV (i := q1) (nI (fSz (xS σ q1))) dX8_copy_174 (hM 3 _ rfl) (by decide) (rfl) (by omega) (((hR.sh (s := q1) (by omega)).2.1 htq.1).2) ?_
                                refine A_iload dX8_copy_175 rfl ?_
                                refine A_isub dX8_copy_177 ?_
                                refine A_icmp_le (tgt := 188) dX8_copy_178 rfl (fun h_19 => ?_) (fun h_19 => ?_)
                                · skip
                                  have hst : (0 ≤ n ∧ n ≤ nI (fSz (xS σ p1)) ∧ 0 ≤ i ∧ i ≤ nI (fSz (xS σ p1)) - n) ∧ (0 ≤ n ∧ n ≤ nI (fSz (xS σ q1)) ∧ 0 ≤ j ∧ j ≤ nI (fSz (xS σ q1)) - n) := ⟨⟨Int32.not_lt.mp h_13, Int32.not_lt.mp h_16, Int32.not_lt.mp h_14, Int32.not_lt.mp h_18⟩, Int32.not_lt.mp h_13, Int32.not_lt.mp h_17, Int32.not_lt.mp h_15, h_19⟩
                                  have hzp := (hW.2.2.2 p1 hp8).2.1
                                  have hzq := (hW.2.2.2 q1 hq8).2.1
                                  obtain ⟨i1, n1, rfl, rfl, hi1⟩ := str_n hzp hst.1
                                  obtain ⟨j1, n2, rfl, en, hj1⟩ := str_n hzq hst.2
                                  have en2 : n1 = n2 := (nI_eq (by omega) (by omega)).mp en
                                  subst en2
                                  have hc_i1 : (nI i1).toNatClampNeg = i1 := nI_clamp (by omega)
                                  have hc_j1 : (nI j1).toNatClampNeg = j1 := nI_clamp (by omega)
                                  have hc_n1 : (nI n1).toNatClampNeg = n1 := nI_clamp (by omega)
                                  refine A_iconst (v := 0) dX8_copy_188 (by decide) ?_
                                  refine A_istore (lo2 := [some (.ref 60), some (.int (nI p1)), some (.int (nI q1)), some (.int (nI i1)), some (.int (nI j1)), some (.int (nI n1)), some (.int 0)]) dX8_copy_189 (by decide) rfl ?_
                                  refine B_la (show la = (va_up la 73 (fa_fill (fun k => la (65 + p1) (i1 + k)) (la 73) 0)) by rw [fa_fill_0, az_up_id]) ?_
                                  have loop : ∀ (q_i9 i9 : Nat), i9 + q_i9 = n1 → AW l G mX8_copy (d + 32) (az_F G Post) 0 0 191 [some (.ref 60), some (.int (nI p1)), some (.int (nI q1)), some (.int (nI i1)), some (.int (nI j1)), some (.int (nI n1)), some (.int (nI i9))] [] (sh, sg, (va_up la 73 (fa_fill (fun k => la (65 + p1) (i1 + k)) (la 73) i9))) := by
                                    intro q_i9
                                    induction q_i9 with
                                    | zero =>
                                      intro i9  hi_i9  
                                      have hN_i9 : i9 = n1 := by omega
                                      subst i9
                                      refine A_iload dX8_copy_191 rfl ?_
                                      refine A_iload dX8_copy_193 rfl ?_
                                      refine A_icmp_ge (tgt := 222) dX8_copy_195 rfl (fun h_20 => ?_) (fun h_20 => ?_)
                                      · skip
                                        refine A_iconst (v := 0) dX8_copy_222 (by decide) ?_
                                        refine A_istore (lo2 := [some (.ref 60), some (.int (nI p1)), some (.int (nI q1)), some (.int (nI i1)), some (.int (nI j1)), some (.int (nI n1)), some (.int 0)]) dX8_copy_223 (by decide) rfl ?_
                                        refine B_la (show (va_up la 73 (fa_fill (fun k => la (65 + p1) (i1 + k)) (la 73) n1)) = (va_up (va_up la 73 (fa_fill (fun k => la (65 + p1) (i1 + k)) (la 73) n1)) (65 + q1) (va_cpy (la (65 + p1)) ((va_up la 73 (fa_fill (fun k => la (65 + p1) (i1 + k)) (la 73) n1)) (65 + q1)) i1 j1 0)) by rw [cpy_0, az_up_id]) ?_
                                        have loop2 : ∀ (q_j9 j9 : Nat), j9 + q_j9 = n1 → AW l G mX8_copy (d + 32) (az_F G Post) 0 0 225 [some (.ref 60), some (.int (nI p1)), some (.int (nI q1)), some (.int (nI i1)), some (.int (nI j1)), some (.int (nI n1)), some (.int (nI j9))] [] (sh, sg, (va_up (va_up la 73 (fa_fill (fun k => la (65 + p1) (i1 + k)) (la 73) n1)) (65 + q1) (va_cpy (la (65 + p1)) ((va_up la 73 (fa_fill (fun k => la (65 + p1) (i1 + k)) (la 73) n1)) (65 + q1)) i1 j1 j9))) := by
                                          intro q_j9
                                          induction q_j9 with
                                          | zero =>
                                            intro j9  hi_j9  
                                            have hN_j9 : j9 = n1 := by omega
                                            subst j9
                                            refine A_iload dX8_copy_225 rfl ?_
                                            refine A_iload dX8_copy_227 rfl ?_
                                            refine A_icmp_ge (tgt := 257) dX8_copy_229 rfl (fun h_21 => ?_) (fun h_21 => ?_)
                                            · skip
                                              refine A_iload dX8_copy_257 rfl ?_
                                              have hR2 : RX g _ _ (yS σ (va_up (xS σ) q1 (fSo (xS σ q1), fSz (xS σ q1), fSh (xS σ q1), va_cpy (fEl (xS σ p1)) (fEl (xS σ q1)) i1 j1 n1))) kp tr := hR.setS (s' := sg) (l' := (va_up (va_up la 73 (fa_fill (fun k => la (65 + p1) (i1 + k)) (la 73) n1)) (65 + q1) (va_cpy (la (65 + p1)) ((va_up la 73 (fa_fill (fun k => la (65 + p1) (i1 + k)) (la 73) n1)) (65 + q1)) i1 j1 n1))) (f := (fSo (xS σ q1), fSz (xS σ q1), fSh (xS σ q1), va_cpy (fEl (xS σ p1)) (fEl (xS σ q1)) i1 j1 n1)) (fun k a b c d => rfl) (fun k j hj hk => rfl) (fun k hk hk2 => by rw [az_up_ne hk, az_up_ne hk2]) hq8 ⟨(hR.sh hq8).1, (hR.sh hq8).2.1, (hR.sh hq8).2.2.1, by rw [az_up_self, az_up_ne (by omega), (hR.sh hp8).2.2.2, (hR.sh hq8).2.2.2]; rfl⟩
                                              have hq : (q_copy σ (nI p1) (nI q1) (nI i1) (nI j1) (nI n1)) = (nI n1, yS σ (va_up (xS σ) q1 (fSo (xS σ q1), fSz (xS σ q1), fSh (xS σ q1), va_cpy (fEl (xS σ p1)) (fEl (xS σ q1)) i1 j1 n1))) := by
                                                unfold q_copy xf
                                                rw [if_pos ⟨h_1', h_2'⟩, hc_p1, hc_q1, if_pos ⟨htp.2, htq.2⟩, if_neg (fun z => z.elim htp.1 htq.1), if_pos h_10, if_pos hst, hc_i1, hc_j1, hc_n1]
                                              exact A_iret dX8_copy_259 rfl (hP _ _ (RQ_i hq hR2))
                                            · skip
                                              exact absurd (Int32.le_refl _) h_21
                                          | succ q_j9 ih_j9 =>
                                            intro j9  hi_j9  
                                            refine A_iload dX8_copy_225 rfl ?_
                                            refine A_iload dX8_copy_227 rfl ?_
                                            refine A_icmp_ge (tgt := 257) dX8_copy_229 rfl (fun h_22 => ?_) (fun h_22 => ?_)
                                            · skip
                                              exact absurd h_22 (nI_ge (by omega) (by omega))
                                            · skip
                                              refine A_aload_n dX8_copy_232 rfl rfl ?_
                                              refine B_getR (r := 64) dX8_copy_233 flX8_21 (hM 0 _ rfl) rfl ?_
                                              refine A_iload_n dX8_copy_236 rfl rfl ?_
                                              have hL_q1 := lyM_row' hM (show q1 < 8 by omega)
                                              refine B_aald (i := q1) (r := (65 + q1)) dX8_copy_237 (hM 4 _ rfl) (by decide) rfl rfl (by decide) (rfl) (by omega) (zsm_r (show q1 < 8 by omega)) ?_
                                              refine A_iload dX8_copy_238 rfl ?_
                                              refine A_iload dX8_copy_240 rfl ?_
                                              refine A_iadd dX8_copy_242 ?_
                                              refine A_aload_n dX8_copy_243 rfl rfl ?_
                                              refine B_getR (r := 73) dX8_copy_244 flX8_24 (hM 0 _ rfl) rfl ?_
                                              refine A_iload dX8_copy_247 rfl ?_
                                              refine B_laldV (i := j9) (la (65 + p1) (i1 + j9)) dX8_copy_249 (hM 13 _ rfl) (by decide) (rfl) (by omega) ((congrFun ((az_up_ne (by omega)).trans az_up_self) _).trans (fa_fill_in (by omega))) ?_
                                              refine B_last (i := (j1 + j9)) dX8_copy_250 (hL_q1 0 _ rfl) (by decide) (nI_add _ _) (by omega) ?_
                                              refine B_la (cpy_wL _ _ _ _ _ _ _ rfl) ?_
                                              refine A_iinc (v := nI (j9 + 1)) (lo2 := [some (.ref 60), some (.int (nI p1)), some (.int (nI q1)), some (.int (nI i1)), some (.int (nI j1)), some (.int (nI n1)), some (.int (nI (j9 + 1)))]) dX8_copy_251 rfl (nI_1 j9) (by decide) rfl ?_
                                              refine A_goto (tgt := 225) dX8_copy_254 rfl ?_
                                              refine ih_j9 (j9 + 1) (by omega)
                                        exact loop2 (n1) 0 (by omega)
                                      · skip
                                        exact absurd (Int32.le_refl _) h_20
                                    | succ q_i9 ih =>
                                      intro i9  hi_i9  
                                      refine A_iload dX8_copy_191 rfl ?_
                                      refine A_iload dX8_copy_193 rfl ?_
                                      refine A_icmp_ge (tgt := 222) dX8_copy_195 rfl (fun h_23 => ?_) (fun h_23 => ?_)
                                      · skip
                                        exact absurd h_23 (nI_ge (by omega) (by omega))
                                      · skip
                                        refine A_aload_n dX8_copy_198 rfl rfl ?_
                                        refine B_getR (r := 73) dX8_copy_199 flX8_24 (hM 0 _ rfl) rfl ?_
                                        refine A_iload dX8_copy_202 rfl ?_
                                        refine A_aload_n dX8_copy_204 rfl rfl ?_
                                        refine B_getR (r := 64) dX8_copy_205 flX8_21 (hM 0 _ rfl) rfl ?_
                                        refine A_iload_n dX8_copy_208 rfl rfl ?_
                                        have hL_p1 := lyM_row' hM (show p1 < 8 by omega)
                                        refine B_aald (i := p1) (r := (65 + p1)) dX8_copy_209 (hM 4 _ rfl) (by decide) rfl rfl (by decide) (rfl) (by omega) (zsm_r (show p1 < 8 by omega)) ?_
                                        refine A_iload_n dX8_copy_210 rfl rfl ?_
                                        refine A_iload dX8_copy_211 rfl ?_
                                        refine A_iadd dX8_copy_213 ?_
                                        refine B_laldV (i := (i1 + i9)) (la (65 + p1) (i1 + i9)) dX8_copy_214 (hL_p1 0 _ rfl) (by decide) (nI_add _ _) (by omega) (congrFun (az_up_ne (by omega)) _) ?_
                                        refine B_last (i := i9) dX8_copy_215 (hM 13 _ rfl) (by decide) (rfl) (by omega) ?_
                                        refine B_la (fill_wL la 73 i9 (fun k => la (65 + p1) (i1 + k)) _ rfl) ?_
                                        refine A_iinc (v := nI (i9 + 1)) (lo2 := [some (.ref 60), some (.int (nI p1)), some (.int (nI q1)), some (.int (nI i1)), some (.int (nI j1)), some (.int (nI n1)), some (.int (nI (i9 + 1)))]) dX8_copy_216 rfl (nI_1 i9) (by decide) rfl ?_
                                        refine A_goto (tgt := 191) dX8_copy_219 rfl ?_
                                        refine ih (i9 + 1) (by omega)
                                  exact loop (n1) 0 (by omega)
                                · skip
                                  refine A_aload_n dX8_copy_181 rfl rfl ?_
                                  refine A_bipush (v := (-2)) dX8_copy_182 (by decide) ?_
                                  refine A_callV (n := 0) dX8_copy_184 kvX8_refuse mlX8_101 rfl (az_rc_obj clX8 (hM 0 _ rfl)) (c_X8_refuse l G (d + 31) sh sg la kp tr (-2) 0 hM (by decide) (by decide)) (by omega) (Nat.le_refl _) (Nat.le_refl _) rfl (Nat.le_of_ble_eq_true rfl) (fun r S1 hp => ?_)
                                  obtain ⟨rfl, rfl⟩ := hp
                                  show AW l G mX8_copy (d + 32) (az_F G Post) 0 0 187 [some (.ref 60), some (.int (nI p1)), some (.int (nI q1)), some (.int i), some (.int j), some (.int n), none] [.int (-2)] (sh, (az_w sg 76 (0 + 2) (sg 76 (0 + 2) + 1)), la)
                                  have hq : (q_copy σ (nI p1) (nI q1) i j n) = ((-2), (rfs σ 0)) := by
                                    unfold q_copy xf
                                    rw [if_pos ⟨h_1', h_2'⟩, hc_p1, hc_q1, if_pos ⟨htp.2, htq.2⟩, if_neg (fun z => z.elim htp.1 htq.1), if_pos h_10, if_neg (fun z => h_19 z.2.2.2.2)]
                                    first | done | rfl
                                  exact A_iret dX8_copy_187 rfl (hP _ _ (RQ_i hq (hR.ref (k := 0) (by decide))))
                  · skip
                    exact absurd (h_7.symm.trans h_12) (by decide)
              · skip
                refine A_aload_n dX8_copy_86 rfl rfl ?_
                refine A_bipush (v := (-3)) dX8_copy_87 (by decide) ?_
                refine A_callV (n := 0) dX8_copy_89 kvX8_refuse mlX8_101 rfl (az_rc_obj clX8 (hM 0 _ rfl)) (c_X8_refuse l G (d + 31) sh sg la kp tr (-3) 1 hM (by decide) (by decide)) (by omega) (Nat.le_refl _) (Nat.le_refl _) rfl (Nat.le_of_ble_eq_true rfl) (fun r S1 hp => ?_)
                obtain ⟨rfl, rfl⟩ := hp
                show AW l G mX8_copy (d + 32) (az_F G Post) 0 0 92 [some (.ref 60), some (.int (nI p1)), some (.int (nI q1)), some (.int i), some (.int j), some (.int n), none] [.int (-3)] (sh, (az_w sg 76 (1 + 2) (sg 76 (1 + 2) + 1)), la)
                have hq : (q_copy σ (nI p1) (nI q1) i j n) = ((-3), (rfs σ 1)) := by
                  unfold q_copy xf
                  rw [if_pos ⟨h_1', h_2'⟩, hc_p1, hc_q1, if_pos ⟨htp.2, htq.2⟩, if_neg (fun z => z.elim htp.1 htq.1), if_neg h_10]
                  first | done | rfl
                exact A_iret dX8_copy_92 rfl (hP _ _ (RQ_i hq (hR.ref (k := 1) (by decide))))
    · skip
      have h_2' := b2i_0.mp h_2
      refine A_aload_n dX8_copy_24 rfl rfl ?_
      refine A_bipush (v := (-2)) dX8_copy_25 (by decide) ?_
      refine A_callV (n := 0) dX8_copy_27 kvX8_refuse mlX8_101 rfl (az_rc_obj clX8 (hM 0 _ rfl)) (c_X8_refuse l G (d + 31) sh sg la kp tr (-2) 0 hM (by decide) (by decide)) (by omega) (Nat.le_refl _) (Nat.le_refl _) rfl (Nat.le_of_ble_eq_true rfl) (fun r S1 hp => ?_)
      obtain ⟨rfl, rfl⟩ := hp
      show AW l G mX8_copy (d + 32) (az_F G Post) 0 0 30 [some (.ref 60), some (.int p), some (.int q), some (.int i), some (.int j), some (.int n), none] [.int (-2)] (sh, (az_w sg 76 (0 + 2) (sg 76 (0 + 2) + 1)), la)
      have hq : (q_copy σ p q i j n) = ((-2), (rfs σ 0)) := by
        unfold q_copy
        try simp only [h_1', h_2', and_true, true_and, and_false, false_and, and_self, or_true, true_or, or_false, false_or, not_true_eq_false, not_false_eq_true, if_true, if_false, ite_true, ite_false, decide_true, decide_false, reduceIte]
        first | done | rfl
      exact A_iret dX8_copy_30 rfl (hP _ _ (RQ_i hq (hR.ref (k := 0) (by decide))))
