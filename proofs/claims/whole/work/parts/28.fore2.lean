set_option maxHeartbeats 600000 in
set_option maxRecDepth 100000 in
theorem f_X3_leastFeed (l : Launch) (G : az_Gh) (d : Nat) (sh : List az_Sh) (sg : Nat → Nat → Int32) (la : Nat → Nat → Int64) (o n0 : Nat) (c cn : CT) (t : Nat) (hF : az_at sh o (lyF o)) (hC2 : az_at sh n0 (lyC n0)) (hd : n0 + 5 < o ∨ o + 7 ≤ n0) (hcn : ct sg n0 = cn) (ht : cTl c) (ht2 : cTl cn) (hRn : cRng cn) (h60 : t ≤ 60) : AM l G (d + 5) mX3_leastFeed [.ref o, .ref n0, .int (nI t)] (sh, zput sg (o + 1) c, la) 0 0 (fun r1 S1 => r1 = some (.int (zleast cn t).1) ∧ ∃ e, cTl e ∧ S1 = (sh, zput (az_w sg o 1 (zleast cn t).2) (o + 1) e, la)) := by
  refine az_am knX3_leastFeed (Nat.le_of_ble_eq_true rfl) rfl (fun Post hP => ?_)
  show AW l G mX3_leastFeed (d + 5) (az_F G Post) 0 0 0 [some (.ref o), some (.ref n0), some (.int (nI t)), none, none, none] [] (sh, (zput sg (o + 1) c), la)
  have hT := lyF_C hF
  have hO := hRn.1
  have h8 := hO.2
  have hpp : sg n0 5 = nI (cN cn) := by have q := hRn.1.1; rw [← hcn] at q ⊢; exact q
  refine A_aload_n dX3_leastFeed_0 rfl rfl ?_
  refine A_iconst (v := (-1)) dX3_leastFeed_1 (by decide) ?_
  refine B_putI dX3_leastFeed_2 fwX3_18 (hF 0 _ rfl) rfl ?_
  refine B_sg (show _ = (zput (az_w sg o 1 (-1)) (o + 1) c) from zw_out (by omega)) ?_
  refine A_aload_n dX3_leastFeed_5 rfl rfl ?_
  refine A_aload_n dX3_leastFeed_6 rfl rfl ?_
  refine A_callV (n := 0) dX3_leastFeed_7 kvX3_begin mlX3_26 rfl (az_rc_obj clX3 (hF 0 _ rfl)) (f_X3_begin l G (d + 1) sh (az_w sg o 1 (-1)) la o n0 c cn hF hC2 hd (by rw [ct_w (by omega)]; exact hcn) ht ht2 hRn) (by omega) (Nat.le_refl _) (Nat.le_refl _) rfl (Nat.le_of_ble_eq_true rfl) (fun r S1 hp => ?_)
  obtain ⟨rfl, rfl⟩ := hp
  show AW l G mX3_leastFeed (d + 5) (az_F G Post) 0 0 10 [some (.ref o), some (.ref n0), some (.int (nI t)), none, none, none] [.ref (o + 1)] (sh, (zput (az_w sg o 1 (-1)) (o + 1) cn), la)
  refine A_pop dX3_leastFeed_10 rfl ?_
  refine A_aload_n dX3_leastFeed_11 rfl rfl ?_
  refine B_getR (r := (o + 1)) dX3_leastFeed_12 flX3_12 (hF 0 _ rfl) rfl ?_
  refine A_iload_n dX3_leastFeed_15 rfl rfl ?_
  refine A_callV (n := 0) dX3_leastFeed_16 kvX2_firstSo mlX3_30 rfl (az_rc_obj clX2 (hF 1 _ rfl)) (z_X2_firstSo l G d sh (az_w sg o 1 (-1)) la (o + 1) cn t hT hRn (by omega)) (by omega) (Nat.le_refl _) (Nat.le_refl _) rfl (Nat.le_of_ble_eq_true rfl) (fun r S1 hp => ?_)
  obtain ⟨rfl, rfl⟩ := hp
  show AW l G mX3_leastFeed (d + 5) (az_F G Post) 0 0 19 [some (.ref o), some (.ref n0), some (.int (nI t)), none, none, none] [.int (zwhenI cn t)] (sh, (zput (az_w sg o 1 (-1)) (o + 1) (zdays (zwhen cn t) cn)), la)
  refine A_iconst (v := (-1)) dX3_leastFeed_19 (by decide) ?_
  refine A_icmp_ne (tgt := 25) dX3_leastFeed_20 rfl (fun h_1 => ?_) (fun h_1 => ?_)
  · skip
    have hnz : ¬ zno cn t = true := by have q := h_1; rw [zno_I (by omega)] at q; exact q
    refine A_bipush (v := 41) dX3_leastFeed_25 (by decide) ?_
    refine A_istore_n (lo2 := [some (.ref o), some (.ref n0), some (.int (nI t)), some (.int 41), none, none]) dX3_leastFeed_27 rfl (by decide) rfl ?_
    refine A_iconst (v := 0) dX3_leastFeed_28 (by decide) ?_
    refine A_istore (lo2 := [some (.ref o), some (.ref n0), some (.int (nI t)), some (.int 41), some (.int 0), none]) dX3_leastFeed_29 (by decide) rfl ?_
    have loop : ∀ (q_i9 i9 : Nat) (x3 : Int32) (w1 : Int32) (e1 : CT), i9 + q_i9 = cN cn → cTl e1 → x3 = nI (zlf cn t i9).1 → w1 = oI (zlf cn t i9).2 → AW l G mX3_leastFeed (d + 5) (az_F G Post) 0 0 31 [some (.ref o), some (.ref n0), some (.int (nI t)), some (.int x3), some (.int (nI i9)), none] [] (sh, (zput (az_w sg o 1 w1) (o + 1) e1), la) := by
      intro q_i9
      induction q_i9 with
      | zero =>
        intro i9 x3 w1 e1 hi_i9 ht1 e_x3 e_w1
        have hN_i9 : i9 = cN cn := by omega
        subst hN_i9
        refine A_iload dX3_leastFeed_31 rfl ?_
        refine A_aload_n dX3_leastFeed_33 rfl rfl ?_
        refine B_getV (nI (cN cn)) dX3_leastFeed_34 flX3_34 (hC2 0 _ rfl) rfl ((congrFun (zput_ne (by omega)) 5).trans (by rw [az_w_ne (by omega)]; exact hpp)) ?_
        refine A_icmp_ge (tgt := 99) dX3_leastFeed_37 rfl (fun h_2 => ?_) (fun h_2 => ?_)
        · skip
          refine A_aload_n dX3_leastFeed_99 rfl rfl ?_
          refine B_getV (w1) dX3_leastFeed_100 flX3_18 (hF 0 _ rfl) rfl ((congrFun (zput_ne (by omega)) 1).trans (az_w_at _ _ _ _)) ?_
          refine A_iconst (v := (-1)) dX3_leastFeed_103 (by decide) ?_
          refine A_icmp_ne (tgt := 111) dX3_leastFeed_104 rfl (fun h_3 => ?_) (fun h_3 => ?_)
          · skip
            refine A_iload_n dX3_leastFeed_111 rfl rfl ?_
            refine A_iret dX3_leastFeed_112 rfl (hP _ _ ⟨congrArg (fun z => some (Value.int z)) ?_, _, ht1, (by unfold zleast; rw [if_neg hnz, e_w1])⟩)
            (show _ = (zleast cn t).1; unfold zleast; rw [if_neg hnz, e_x3]; exact (if_neg (fun q => h_3 (by rw [e_w1]; exact (oI_n (fun k hk => by have := zlf_lt hk; omega)).mpr q))).symm)
          · skip
            refine A_iconst (v := (-1)) dX3_leastFeed_107 (by decide) ?_
            refine A_goto (tgt := 112) dX3_leastFeed_108 rfl ?_
            refine A_iret dX3_leastFeed_112 rfl (hP _ _ ⟨congrArg (fun z => some (Value.int z)) ?_, _, ht1, (by unfold zleast; rw [if_neg hnz, e_w1])⟩)
            (show _ = (zleast cn t).1; unfold zleast; rw [if_neg hnz]; exact (if_pos ((oI_n (fun k hk => by have := zlf_lt hk; omega)).mp (by rw [← e_w1]; exact h_3))).symm)
        · skip
          exact absurd (Int32.le_refl _) h_2
      | succ q_i9 ih =>
        intro i9 x3 w1 e1 hi_i9 ht1 e_x3 e_w1
        refine A_iload dX3_leastFeed_31 rfl ?_
        refine A_aload_n dX3_leastFeed_33 rfl rfl ?_
        refine B_getV (nI (cN cn)) dX3_leastFeed_34 flX3_34 (hC2 0 _ rfl) rfl ((congrFun (zput_ne (by omega)) 5).trans (by rw [az_w_ne (by omega)]; exact hpp)) ?_
        refine A_icmp_ge (tgt := 99) dX3_leastFeed_37 rfl (fun h_4 => ?_) (fun h_4 => ?_)
        · skip
          exact absurd h_4 (nI_ge (by omega) (by omega))
        · skip
          refine A_iconst (v := 1) dX3_leastFeed_40 (by decide) ?_
          refine A_istore (lo2 := [some (.ref o), some (.ref n0), some (.int (nI t)), some (.int x3), some (.int (nI i9)), some (.int 1)]) dX3_leastFeed_41 (by decide) rfl ?_
          have hl := zlf_le cn t i9
          have loop2 : ∀ (q_j9 j9 : Nat) (e2 : CT), j9 + q_j9 = (zlf cn t i9).1 → 1 ≤ j9 → cTl e2 → (∀ k, 1 ≤ k → k < j9 → zno (zmore cn i9 (nI k)) t = false) → AW l G mX3_leastFeed (d + 5) (az_F G Post) 0 0 43 [some (.ref o), some (.ref n0), some (.int (nI t)), some (.int x3), some (.int (nI i9)), some (.int (nI j9))] [] (sh, (zput (az_w sg o 1 w1) (o + 1) e2), la) := by
            intro q_j9
            induction q_j9 with
            | zero =>
              intro j9 e2 hi_j9 h1j ht2_ hno 
              have hN_j9 : j9 = (zlf cn t i9).1 := by omega
              subst hN_j9
              refine A_iload dX3_leastFeed_43 rfl ?_
              refine A_iload_n dX3_leastFeed_45 rfl rfl ?_
              refine A_icmp_ge (tgt := 93) dX3_leastFeed_46 rfl (fun h_5 => ?_) (fun h_5 => ?_)
              · skip
                refine A_iinc (v := nI (i9 + 1)) (lo2 := [some (.ref o), some (.ref n0), some (.int (nI t)), some (.int x3), some (.int (nI (i9 + 1))), some (.int (nI ((zlf cn t i9).1)))]) dX3_leastFeed_93 rfl (nI_1 i9) (by decide) rfl ?_
                refine A_goto (tgt := 31) dX3_leastFeed_96 rfl ?_
                refine A_forget (lo2 := [some (.ref o), some (.ref n0), some (.int (nI t)), some (.int x3), some (.int (nI (i9 + 1))), none]) ⟨rfl, rfl, rfl, rfl, rfl, trivial⟩ ?_
                refine ih (i9 + 1) _ _ _ (by omega) ht2_ ?_ ?_
                · skip
                  rw [(zlf_no hno)]; exact e_x3
                · skip
                  rw [(zlf_no hno)]; exact e_w1
              · skip
                exact absurd (by rw [e_x3]; exact Int32.le_refl _) h_5
            | succ q_j9 ih_j9 =>
              intro j9 e2 hi_j9 h1j ht2_ hno 
              refine A_iload dX3_leastFeed_43 rfl ?_
              refine A_iload_n dX3_leastFeed_45 rfl rfl ?_
              refine A_icmp_ge (tgt := 93) dX3_leastFeed_46 rfl (fun h_6 => ?_) (fun h_6 => ?_)
              · skip
                exact absurd (show nI (zlf cn t i9).1 ≤ nI j9 from by rw [← e_x3]; exact h_6) (nI_ge (by omega) (by omega))
              · skip
                refine A_aload_n dX3_leastFeed_49 rfl rfl ?_
                refine A_aload_n dX3_leastFeed_50 rfl rfl ?_
                refine A_callV (n := 0) dX3_leastFeed_51 kvX3_begin mlX3_26 rfl (az_rc_obj clX3 (hF 0 _ rfl)) (f_X3_begin l G (d + 1) sh (az_w sg o 1 w1) la o n0 e2 cn hF hC2 hd (by rw [ct_w (by omega)]; exact hcn) ht2_ ht2 hRn) (by omega) (Nat.le_refl _) (Nat.le_refl _) rfl (Nat.le_of_ble_eq_true rfl) (fun r S1 hp => ?_)
                obtain ⟨rfl, rfl⟩ := hp
                show AW l G mX3_leastFeed (d + 5) (az_F G Post) 0 0 54 [some (.ref o), some (.ref n0), some (.int (nI t)), some (.int x3), some (.int (nI i9)), some (.int (nI j9))] [.ref (o + 1)] (sh, (zput (az_w sg o 1 w1) (o + 1) cn), la)
                refine A_pop dX3_leastFeed_54 rfl ?_
                refine A_aload_n dX3_leastFeed_55 rfl rfl ?_
                refine B_getR (r := (o + 1)) dX3_leastFeed_56 flX3_12 (hF 0 _ rfl) rfl ?_
                refine A_iload dX3_leastFeed_59 rfl ?_
                refine A_iload dX3_leastFeed_61 rfl ?_
                refine A_callV (n := 0) dX3_leastFeed_63 kvX2_feedMore mlX3_37 rfl (az_rc_obj clX2 (hF 1 _ rfl)) (z_X2_feedMore l G (d + 3) sh (az_w sg o 1 w1) la (o + 1) cn i9 (nI j9) hT hO (by show i9 < cN cn; omega)) (by omega) (Nat.le_refl _) (Nat.le_refl _) rfl (Nat.le_of_ble_eq_true rfl) (fun r S1 hp => ?_)
                obtain ⟨rfl, rfl⟩ := hp
                show AW l G mX3_leastFeed (d + 5) (az_F G Post) 0 0 66 [some (.ref o), some (.ref n0), some (.int (nI t)), some (.int x3), some (.int (nI i9)), some (.int (nI j9))] [] (sh, (zput (az_w sg o 1 w1) (o + 1) (zmore cn i9 (nI j9))), la)
                refine A_aload_n dX3_leastFeed_66 rfl rfl ?_
                refine B_getR (r := (o + 1)) dX3_leastFeed_67 flX3_12 (hF 0 _ rfl) rfl ?_
                refine A_iload_n dX3_leastFeed_70 rfl rfl ?_
                refine A_callV (n := 0) dX3_leastFeed_71 kvX2_firstSo mlX3_30 rfl (az_rc_obj clX2 (hF 1 _ rfl)) (z_X2_firstSo l G d sh (az_w sg o 1 w1) la (o + 1) (zmore cn i9 (nI j9)) t hT (cRng_more hRn (by omega) (nI_le40 (by omega))) (by omega)) (by omega) (Nat.le_refl _) (Nat.le_refl _) rfl (Nat.le_of_ble_eq_true rfl) (fun r S1 hp => ?_)
                obtain ⟨rfl, rfl⟩ := hp
                show AW l G mX3_leastFeed (d + 5) (az_F G Post) 0 0 74 [some (.ref o), some (.ref n0), some (.int (nI t)), some (.int x3), some (.int (nI i9)), some (.int (nI j9))] [.int (zwhenI (zmore cn i9 (nI j9)) t)] (sh, (zput (az_w sg o 1 w1) (o + 1) (zdays (zwhen (zmore cn i9 (nI j9)) t) (zmore cn i9 (nI j9)))), la)
                refine A_iconst (v := (-1)) dX3_leastFeed_74 (by decide) ?_
                refine A_icmp_ne (tgt := 87) dX3_leastFeed_75 rfl (fun h_7 => ?_) (fun h_7 => ?_)
                · skip
                  refine A_iinc (v := nI (j9 + 1)) (lo2 := [some (.ref o), some (.ref n0), some (.int (nI t)), some (.int x3), some (.int (nI i9)), some (.int (nI (j9 + 1)))]) dX3_leastFeed_87 rfl (nI_1 j9) (by decide) rfl ?_
                  refine A_goto (tgt := 43) dX3_leastFeed_90 rfl ?_
                  refine ih_j9 (j9 + 1) _ (by omega) (by omega) (cTl_days (cTl_more ht2 (by omega) _) h8 _) (lt1_s (P := fun k => zno (zmore cn i9 (nI k)) t) hno (by have q2 := h_7; rw [zno_I (by omega)] at q2; exact Bool.eq_false_iff.mpr q2))
                · skip
                  refine A_iload dX3_leastFeed_78 rfl ?_
                  refine A_istore_n (lo2 := [some (.ref o), some (.ref n0), some (.int (nI t)), some (.int (nI j9)), some (.int (nI i9)), some (.int (nI j9))]) dX3_leastFeed_80 rfl (by decide) rfl ?_
                  refine A_aload_n dX3_leastFeed_81 rfl rfl ?_
                  refine A_iload dX3_leastFeed_82 rfl ?_
                  refine B_putI dX3_leastFeed_84 fwX3_18 (hF 0 _ rfl) rfl ?_
                  refine B_sg (show _ = (zput (az_w sg o 1 (nI i9)) (o + 1) (zdays (zwhen (zmore cn i9 (nI j9)) t) (zmore cn i9 (nI j9)))) from (zw_out (by omega)).trans (congrArg (fun z => zput z (o + 1) (zdays (zwhen (zmore cn i9 (nI j9)) t) (zmore cn i9 (nI j9)))) (az_w_w _ _ _ _ _))) ?_
                  refine A_iinc (v := nI (j9 + 1)) (lo2 := [some (.ref o), some (.ref n0), some (.int (nI t)), some (.int (nI j9)), some (.int (nI i9)), some (.int (nI (j9 + 1)))]) dX3_leastFeed_87 rfl (nI_1 j9) (by decide) rfl ?_
                  refine A_goto (tgt := 43) dX3_leastFeed_90 rfl ?_
                  refine A_iload dX3_leastFeed_43 rfl ?_
                  refine A_iload_n dX3_leastFeed_45 rfl rfl ?_
                  refine A_icmp_ge (tgt := 93) dX3_leastFeed_46 rfl (fun h_8 => ?_) (fun h_8 => ?_)
                  · skip
                    refine A_iinc (v := nI (i9 + 1)) (lo2 := [some (.ref o), some (.ref n0), some (.int (nI t)), some (.int (nI j9)), some (.int (nI (i9 + 1))), some (.int (nI (j9 + 1)))]) dX3_leastFeed_93 rfl (nI_1 i9) (by decide) rfl ?_
                    refine A_goto (tgt := 31) dX3_leastFeed_96 rfl ?_
                    refine A_forget (lo2 := [some (.ref o), some (.ref n0), some (.int (nI t)), some (.int (nI j9)), some (.int (nI (i9 + 1))), none]) ⟨rfl, rfl, rfl, rfl, rfl, trivial⟩ ?_
                    refine ih (i9 + 1) _ _ _ (by omega) (cTl_days (cTl_more ht2 (by omega) _) h8 _) ?_ ?_
                    · skip
                      rw [(zlf_yes h1j (by omega) (by have q := h_7; rw [zno_I (by omega)] at q; exact q) hno)]
                    · skip
                      rw [(zlf_yes h1j (by omega) (by have q := h_7; rw [zno_I (by omega)] at q; exact q) hno)]; rfl
                  · skip
                    exact absurd (nI_le (Nat.le_succ _) (by omega)) h_8
          exact loop2 (((zlf cn t i9).1) - (1)) 1 _ (by omega) (Nat.le_refl 1) ht1 (fun k k1 hk => absurd hk (by omega))
    exact loop (cN cn) 0 _ _ _ (by omega) (cTl_days ht2 h8 _) (rfl) (rfl)
  · skip
    refine A_iconst (v := 0) dX3_leastFeed_23 (by decide) ?_
    refine A_iret dX3_leastFeed_24 rfl (hP _ _ ⟨congrArg (fun z => some (Value.int z)) ?_, _, (cTl_days ht2 h8 _), (by unfold zleast; rw [if_pos (by have q := h_1; rw [zno_I (by omega)] at q; exact q)])⟩)
    (show _ = (zleast cn t).1; unfold zleast; rw [if_pos (by have q := h_1; rw [zno_I (by omega)] at q; exact q)])
set_option maxHeartbeats 600000 in
set_option maxRecDepth 100000 in
theorem f_X3_fewestWarmed (l : Launch) (G : az_Gh) (d : Nat) (sh : List az_Sh) (sg : Nat → Nat → Int32) (la : Nat → Nat → Int64) (o n0 : Nat) (c cn : CT) (t : Nat) (hF : az_at sh o (lyF o)) (hC2 : az_at sh n0 (lyC n0)) (hd : n0 + 5 < o ∨ o + 7 ≤ n0) (hcn : ct sg n0 = cn) (ht : cTl c) (ht2 : cTl cn) (hRn : cRng cn) (h60 : t ≤ 60) : AM l G (d + 5) mX3_fewestWarmed [.ref o, .ref n0, .int (nI t)] (sh, zput sg (o + 1) c, la) 0 0 (fun r1 S1 => r1 = some (.int (oI (zfw cn t (2 ^ cN cn)).1)) ∧ ∃ e, cTl e ∧ S1 = (sh, zput sg (o + 1) e, la)) := by
  refine az_am knX3_fewestWarmed (Nat.le_of_ble_eq_true rfl) rfl (fun Post hP => ?_)
  show AW l G mX3_fewestWarmed (d + 5) (az_F G Post) 0 0 0 [some (.ref o), some (.ref n0), some (.int (nI t)), none, none, none] [] (sh, (zput sg (o + 1) c), la)
  have hT := lyF_C hF
  have hO := hRn.1
  have h8 := hO.2
  have hpp : sg n0 5 = nI (cN cn) := by have q := hRn.1.1; rw [← hcn] at q ⊢; exact q
  have hp2 := p2_8 h8
  refine A_iconst (v := (-1)) dX3_fewestWarmed_0 (by decide) ?_
  refine A_istore_n (lo2 := [some (.ref o), some (.ref n0), some (.int (nI t)), some (.int (-1)), none, none]) dX3_fewestWarmed_1 rfl (by decide) rfl ?_
  refine A_bipush (v := 9) dX3_fewestWarmed_2 (by decide) ?_
  refine A_istore (lo2 := [some (.ref o), some (.ref n0), some (.int (nI t)), some (.int (-1)), some (.int 9), none]) dX3_fewestWarmed_4 (by decide) rfl ?_
  refine A_iconst (v := 0) dX3_fewestWarmed_6 (by decide) ?_
  refine A_istore (lo2 := [some (.ref o), some (.ref n0), some (.int (nI t)), some (.int (-1)), some (.int 9), some (.int 0)]) dX3_fewestWarmed_7 (by decide) rfl ?_
  have loop : ∀ (q_i9 i9 : Nat) (x3 : Int32) (x4 : Int32) (e1 : CT), i9 + q_i9 = 2 ^ cN cn → cTl e1 → x3 = oI (zfw cn t i9).1 → x4 = (zfw cn t i9).2 → AW l G mX3_fewestWarmed (d + 5) (az_F G Post) 0 0 9 [some (.ref o), some (.ref n0), some (.int (nI t)), some (.int x3), some (.int x4), some (.int (nI i9))] [] (sh, (zput sg (o + 1) e1), la) := by
    intro q_i9
    induction q_i9 with
    | zero =>
      intro i9 x3 x4 e1 hi_i9 ht1 e_x3 e_x4
      have hN_i9 : i9 = 2 ^ cN cn := by omega
      subst hN_i9
      refine A_iload dX3_fewestWarmed_9 rfl ?_
      refine A_iconst (v := 1) dX3_fewestWarmed_11 (by decide) ?_
      refine A_aload_n dX3_fewestWarmed_12 rfl rfl ?_
      refine B_getV (nI (cN cn)) dX3_fewestWarmed_13 flX3_34 (hC2 0 _ rfl) rfl ((congrFun (zput_ne (by omega)) 5).trans hpp) ?_
      refine A_ishl dX3_fewestWarmed_16 ?_
      refine A_icmp_ge (tgt := 73) dX3_fewestWarmed_17 rfl (fun h_1 => ?_) (fun h_1 => ?_)
      · skip
        refine A_iload_n dX3_fewestWarmed_73 rfl rfl ?_
        refine A_iret dX3_fewestWarmed_74 rfl (hP _ _ ⟨congrArg (fun z => some (Value.int z)) ?_, e1, ht1, rfl⟩)
        exact e_x3
      · skip
        exact absurd (by rw [sh1 h8]; exact Int32.le_refl _) h_1
    | succ q_i9 ih =>
      intro i9 x3 x4 e1 hi_i9 ht1 e_x3 e_x4
      refine A_iload dX3_fewestWarmed_9 rfl ?_
      refine A_iconst (v := 1) dX3_fewestWarmed_11 (by decide) ?_
      refine A_aload_n dX3_fewestWarmed_12 rfl rfl ?_
      refine B_getV (nI (cN cn)) dX3_fewestWarmed_13 flX3_34 (hC2 0 _ rfl) rfl ((congrFun (zput_ne (by omega)) 5).trans hpp) ?_
      refine A_ishl dX3_fewestWarmed_16 ?_
      refine A_icmp_ge (tgt := 73) dX3_fewestWarmed_17 rfl (fun h_2 => ?_) (fun h_2 => ?_)
      · skip
        exact absurd (show nI (2 ^ cN cn) ≤ nI i9 from by rw [← sh1 h8]; exact h_2) (nI_ge (by omega) (by omega))
      · skip
        refine A_iload dX3_fewestWarmed_20 rfl ?_
        refine A_callS (n := 0) dX3_fewestWarmed_22 ksJ6_bitCount_0f7a4 mlX3_41 rfl (c_J6_bitCount_0f7a4 l G (d + 4) sh (zput sg (o + 1) e1) la (nI i9)) (by omega) (Nat.le_refl _) (Nat.le_refl _) rfl (Nat.le_of_ble_eq_true rfl) (fun r S1 hp => ?_)
        obtain ⟨rfl, rfl⟩ := hp
        show AW l G mX3_fewestWarmed (d + 5) (az_F G Post) 0 0 25 [some (.ref o), some (.ref n0), some (.int (nI t)), some (.int x3), some (.int x4), some (.int (nI i9))] [.int (zbc (nI i9))] (sh, (zput sg (o + 1) e1), la)
        refine A_iload dX3_fewestWarmed_25 rfl ?_
        refine A_icmp_lt (tgt := 33) dX3_fewestWarmed_27 rfl (fun h_3 => ?_) (fun h_3 => ?_)
        · skip
          refine A_aload_n dX3_fewestWarmed_33 rfl rfl ?_
          refine A_aload_n dX3_fewestWarmed_34 rfl rfl ?_
          refine A_callV (n := 0) dX3_fewestWarmed_35 kvX3_begin mlX3_26 rfl (az_rc_obj clX3 (hF 0 _ rfl)) (f_X3_begin l G (d + 1) sh sg la o n0 e1 cn hF hC2 hd hcn ht1 ht2 hRn) (by omega) (Nat.le_refl _) (Nat.le_refl _) rfl (Nat.le_of_ble_eq_true rfl) (fun r S1 hp => ?_)
          obtain ⟨rfl, rfl⟩ := hp
          show AW l G mX3_fewestWarmed (d + 5) (az_F G Post) 0 0 38 [some (.ref o), some (.ref n0), some (.int (nI t)), some (.int x3), some (.int x4), some (.int (nI i9))] [.ref (o + 1)] (sh, (zput sg (o + 1) cn), la)
          refine A_pop dX3_fewestWarmed_38 rfl ?_
          refine A_aload_n dX3_fewestWarmed_39 rfl rfl ?_
          refine A_iload dX3_fewestWarmed_40 rfl ?_
          refine A_callV (n := 0) dX3_fewestWarmed_42 kvX3_warmThese mlX3_46 rfl (az_rc_obj clX3 (hF 0 _ rfl)) (f_X3_warmThese l G (d + 2) sh sg la o cn (nI i9) hF hO) (by omega) (Nat.le_refl _) (Nat.le_refl _) rfl (Nat.le_of_ble_eq_true rfl) (fun r S1 hp => ?_)
          obtain ⟨rfl, rfl⟩ := hp
          show AW l G mX3_fewestWarmed (d + 5) (az_F G Post) 0 0 45 [some (.ref o), some (.ref n0), some (.int (nI t)), some (.int x3), some (.int x4), some (.int (nI i9))] [] (sh, (zput sg (o + 1) (zmf cn (zG1 (nI i9)) 20 (cN cn))), la)
          refine A_aload_n dX3_fewestWarmed_45 rfl rfl ?_
          refine B_getR (r := (o + 1)) dX3_fewestWarmed_46 flX3_12 (hF 0 _ rfl) rfl ?_
          refine A_iload_n dX3_fewestWarmed_49 rfl rfl ?_
          refine A_callV (n := 0) dX3_fewestWarmed_50 kvX2_firstSo mlX3_30 rfl (az_rc_obj clX2 (hF 1 _ rfl)) (z_X2_firstSo l G d sh sg la (o + 1) (zmf cn (zG1 (nI i9)) 20 (cN cn)) t hT (cRng_mf hRn iR_20 _) (by omega)) (by omega) (Nat.le_refl _) (Nat.le_refl _) rfl (Nat.le_of_ble_eq_true rfl) (fun r S1 hp => ?_)
          obtain ⟨rfl, rfl⟩ := hp
          show AW l G mX3_fewestWarmed (d + 5) (az_F G Post) 0 0 53 [some (.ref o), some (.ref n0), some (.int (nI t)), some (.int x3), some (.int x4), some (.int (nI i9))] [.int (zwhenI (zmf cn (zG1 (nI i9)) 20 (cN cn)) t)] (sh, (zput sg (o + 1) (zdays (zwhen (zmf cn (zG1 (nI i9)) 20 (cN cn)) t) (zmf cn (zG1 (nI i9)) 20 (cN cn)))), la)
          refine A_iload_n dX3_fewestWarmed_53 rfl rfl ?_
          refine A_icmp_ne (tgt := 67) dX3_fewestWarmed_54 rfl (fun h_4 => ?_) (fun h_4 => ?_)
          · skip
            refine A_iinc (v := nI (i9 + 1)) (lo2 := [some (.ref o), some (.ref n0), some (.int (nI t)), some (.int x3), some (.int x4), some (.int (nI (i9 + 1)))]) dX3_fewestWarmed_67 rfl (nI_1 i9) (by decide) rfl ?_
            refine A_goto (tgt := 9) dX3_fewestWarmed_70 rfl ?_
            refine ih (i9 + 1) _ _ _ (by omega) (cTl_days (cTl_mf ht2 h8) h8 _) ?_ ?_
            · skip
              rw [(zfw_n2 (fun q => h_4 ((zjust_I (by omega)).mpr q)))]; exact e_x3
            · skip
              rw [(zfw_n2 (fun q => h_4 ((zjust_I (by omega)).mpr q)))]; exact e_x4
          · skip
            refine A_iload dX3_fewestWarmed_57 rfl ?_
            refine A_istore_n (lo2 := [some (.ref o), some (.ref n0), some (.int (nI t)), some (.int (nI i9)), some (.int x4), some (.int (nI i9))]) dX3_fewestWarmed_59 rfl (by decide) rfl ?_
            refine A_iload dX3_fewestWarmed_60 rfl ?_
            refine A_callS (n := 0) dX3_fewestWarmed_62 ksJ6_bitCount_0f7a4 mlX3_41 rfl (c_J6_bitCount_0f7a4 l G (d + 4) sh (zput sg (o + 1) (zdays (zwhen (zmf cn (zG1 (nI i9)) 20 (cN cn)) t) (zmf cn (zG1 (nI i9)) 20 (cN cn)))) la (nI i9)) (by omega) (Nat.le_refl _) (Nat.le_refl _) rfl (Nat.le_of_ble_eq_true rfl) (fun r S1 hp => ?_)
            obtain ⟨rfl, rfl⟩ := hp
            show AW l G mX3_fewestWarmed (d + 5) (az_F G Post) 0 0 65 [some (.ref o), some (.ref n0), some (.int (nI t)), some (.int (nI i9)), some (.int x4), some (.int (nI i9))] [.int (zbc (nI i9))] (sh, (zput sg (o + 1) (zdays (zwhen (zmf cn (zG1 (nI i9)) 20 (cN cn)) t) (zmf cn (zG1 (nI i9)) 20 (cN cn)))), la)
            refine A_istore (lo2 := [some (.ref o), some (.ref n0), some (.int (nI t)), some (.int (nI i9)), some (.int (zbc (nI i9))), some (.int (nI i9))]) dX3_fewestWarmed_65 (by decide) rfl ?_
            refine A_iinc (v := nI (i9 + 1)) (lo2 := [some (.ref o), some (.ref n0), some (.int (nI t)), some (.int (nI i9)), some (.int (zbc (nI i9))), some (.int (nI (i9 + 1)))]) dX3_fewestWarmed_67 rfl (nI_1 i9) (by decide) rfl ?_
            refine A_goto (tgt := 9) dX3_fewestWarmed_70 rfl ?_
            refine ih (i9 + 1) _ _ _ (by omega) (cTl_days (cTl_mf ht2 h8) h8 _) ?_ ?_
            · skip
              rw [(zfw_y (by rw [← e_x4]; exact h_3) ((zjust_I (by omega)).mp h_4))]; rfl
            · skip
              rw [(zfw_y (by rw [← e_x4]; exact h_3) ((zjust_I (by omega)).mp h_4))]
        · skip
          refine A_goto (tgt := 67) dX3_fewestWarmed_30 rfl ?_
          refine A_iinc (v := nI (i9 + 1)) (lo2 := [some (.ref o), some (.ref n0), some (.int (nI t)), some (.int x3), some (.int x4), some (.int (nI (i9 + 1)))]) dX3_fewestWarmed_67 rfl (nI_1 i9) (by decide) rfl ?_
          refine A_goto (tgt := 9) dX3_fewestWarmed_70 rfl ?_
          refine ih (i9 + 1) _ _ _ (by omega) ht1 ?_ ?_
          · skip
            rw [(zfw_n1 (by rw [← e_x4]; exact Int32.not_lt.mpr (Int32.not_lt.mp h_3)))]; exact e_x3
          · skip
            rw [(zfw_n1 (by rw [← e_x4]; exact Int32.not_lt.mpr (Int32.not_lt.mp h_3)))]; exact e_x4
  exact loop (2 ^ cN cn) 0 _ _ _ (by omega) ht (rfl) (rfl)
set_option maxHeartbeats 600000 in
set_option maxRecDepth 100000 in
theorem f_X3_agreesPride (l : Launch) (G : az_Gh) (d : Nat) (sh : List az_Sh) (sg : Nat → Nat → Int32) (la : Nat → Nat → Int64) (o s0 : Nat) (cn : CT) (m p v : Nat) (v0 a0 : Int32) (hF : az_at sh o (lyF o)) (hO : cOk cn) (hp : p < cN cn) (hm : m ≤ 20) (hS : az_at sh s0 (lyS s0)) (hds : s0 < o + 1 ∨ o + 7 ≤ s0) (hz : ∃ z, sg s0 2 = nI z ∧ z ≤ 40) : AM l G (d + 3) mX3_agreesPride [.ref o, .ref s0, .int (nI m), .int (nI p), .int (nI v)] (sh, zput sg (o + 1) (cPA cn p v0 a0), la) 0 0 (fun r1 S1 => r1 = some (.int (b2i (zaP sg la s0 cn m p v = true))) ∧ ∃ a, S1 = (sh, zput sg (o + 1) (cPA cn p (nI v) a), la)) := by
  refine az_am knX3_agreesPride (Nat.le_of_ble_eq_true rfl) rfl (fun Post hP => ?_)
  show AW l G mX3_agreesPride (d + 3) (az_F G Post) 0 0 0 [some (.ref o), some (.ref s0), some (.int (nI m)), some (.int (nI p)), some (.int (nI v)), none] [] (sh, (zput sg (o + 1) (cPA cn p v0 a0)), la)
  have hT := lyF_C hF
  have h8 := hO.2
  refine A_aload_n dX3_agreesPride_0 rfl rfl ?_
  refine B_getR (r := (o + 1)) dX3_agreesPride_1 flX3_12 (hF 0 _ rfl) rfl ?_
  refine B_getR (r := (o + 4)) dX3_agreesPride_4 flX3_71 (hF 1 _ rfl) rfl ?_
  refine A_iload_n dX3_agreesPride_7 rfl rfl ?_
  refine A_iload dX3_agreesPride_8 rfl ?_
  refine B_iast (i := p) dX3_agreesPride_10 (hF 4 _ rfl) (by decide) (rfl) (by omega) ?_
  refine B_sg (show _ = (zput sg (o + 1) (sPr (cPA cn p v0 a0) (va_up (cPr (cPA cn p v0 a0)) p (nI v)))) from zx_3 _ _ _ _ _) ?_
  refine B_sg (show _ = (zput sg (o + 1) (cPA cn p (nI v) a0)) from congrArg (fun z => zput sg (o + 1) z) (cPA_v cn p v0 (nI v) a0)) ?_
  refine A_iconst (v := 0) dX3_agreesPride_11 (by decide) ?_
  refine A_istore (lo2 := [some (.ref o), some (.ref s0), some (.int (nI m)), some (.int (nI p)), some (.int (nI v)), some (.int 0)]) dX3_agreesPride_12 (by decide) rfl ?_
  have loop : ∀ (q_i9 i9 : Nat) (a1 : Int32), i9 + q_i9 = m → (∀ k, k < i9 → (fun k => decide ((b2i (zsp (cPA cn p (nI v) (zat sg la s0 (2 * nI k)).toInt32) p = true)).toInt64 = zat sg la s0 (2 * nI k + 1))) k = true) → AW l G mX3_agreesPride (d + 3) (az_F G Post) 0 0 14 [some (.ref o), some (.ref s0), some (.int (nI m)), some (.int (nI p)), some (.int (nI v)), some (.int (nI i9))] [] (sh, (zput sg (o + 1) (cPA cn p (nI v) a1)), la) := by
    intro q_i9
    induction q_i9 with
    | zero =>
      intro i9 a1 hi_i9 hno 
      have hN_i9 : i9 = m := by omega
      subst hN_i9
      refine A_iload dX3_agreesPride_14 rfl ?_
      refine A_iload_n dX3_agreesPride_16 rfl rfl ?_
      refine A_icmp_ge (tgt := 70) dX3_agreesPride_17 rfl (fun h_1 => ?_) (fun h_1 => ?_)
      · skip
        refine A_iconst (v := 1) dX3_agreesPride_70 (by decide) ?_
        refine A_zret dX3_agreesPride_71 rfl (rfl) (hP _ _ ⟨congrArg (fun z => some (Value.int z)) ?_, _, rfl⟩)
        (exact b2i_t (show zaP sg la s0 cn _ p v = true from zallb_t hno))
      · skip
        exact absurd (Int32.le_refl _) h_1
    | succ q_i9 ih =>
      intro i9 a1 hi_i9 hno 
      refine A_iload dX3_agreesPride_14 rfl ?_
      refine A_iload_n dX3_agreesPride_16 rfl rfl ?_
      refine A_icmp_ge (tgt := 70) dX3_agreesPride_17 rfl (fun h_2 => ?_) (fun h_2 => ?_)
      · skip
        exact absurd h_2 (nI_ge (by omega) (by omega))
      · skip
        refine A_aload_n dX3_agreesPride_20 rfl rfl ?_
        refine B_getR (r := (o + 1)) dX3_agreesPride_21 flX3_12 (hF 0 _ rfl) rfl ?_
        refine A_aload_n dX3_agreesPride_24 rfl rfl ?_
        refine A_iconst (v := 2) dX3_agreesPride_25 (by decide) ?_
        refine A_iload dX3_agreesPride_26 rfl ?_
        refine A_imul dX3_agreesPride_28 ?_
        refine A_callV (n := 0) dX3_agreesPride_29 kvX4_at mlX3_75 rfl (az_rc_obj clX4 (hS 0 _ rfl)) (zs_at l G (d + 1) sh sg la (o + 1) (cPA cn p (nI v) a1) s0 (2 * nI i9) hS (by omega) hz) (by omega) (Nat.le_refl _) (Nat.le_refl _) rfl (Nat.le_of_ble_eq_true rfl) (fun r S1 hp => ?_)
        obtain ⟨rfl, rfl⟩ := hp
        show AW l G mX3_agreesPride (d + 3) (az_F G Post) 0 0 32 [some (.ref o), some (.ref s0), some (.int (nI m)), some (.int (nI p)), some (.int (nI v)), some (.int (nI i9))] [.long (zat sg la s0 (2 * nI i9)), .ref (o + 1)] (sh, (zput sg (o + 1) (cPA cn p (nI v) a1)), la)
        refine A_l2i dX3_agreesPride_32 ?_
        refine B_putI dX3_agreesPride_33 fwX3_81 (hF 1 _ rfl) rfl ?_
        refine B_sg (show _ = (zput sg (o + 1) (sAir (cPA cn p (nI v) a1) (Int64.toInt32 (zat sg la s0 (2 * nI i9))))) from zw_6 _ _ _ _) ?_
        refine B_sg (show _ = (zput sg (o + 1) (cPA cn p (nI v) (zat sg la s0 (2 * nI i9)).toInt32)) from rfl) ?_
        refine A_aload_n dX3_agreesPride_36 rfl rfl ?_
        refine B_getR (r := (o + 1)) dX3_agreesPride_37 flX3_12 (hF 0 _ rfl) rfl ?_
        refine A_iload_n dX3_agreesPride_40 rfl rfl ?_
        refine A_callV (n := 0) dX3_agreesPride_41 kvX2_isHeard mlX3_56 rfl (az_rc_obj clX2 (hF 1 _ rfl)) (z_X2_isHeard l G d sh sg la (o + 1) (cPA cn p (nI v) (zat sg la s0 (2 * nI i9)).toInt32) p hT (show cOk (cPA cn p (nI v) (zat sg la s0 (2 * nI i9)).toInt32) from hO) hp) (by omega) (Nat.le_refl _) (Nat.le_refl _) rfl (Nat.le_of_ble_eq_true rfl) (fun r S1 hp => ?_)
        obtain ⟨rfl, rfl⟩ := hp
        show AW l G mX3_agreesPride (d + 3) (az_F G Post) 0 0 44 [some (.ref o), some (.ref s0), some (.int (nI m)), some (.int (nI p)), some (.int (nI v)), some (.int (nI i9))] [.int (b2i (zsp (cPA cn p (nI v) (zat sg la s0 (2 * nI i9)).toInt32) p = true))] (sh, (zput sg (o + 1) (cPA cn p (nI v) (zat sg la s0 (2 * nI i9)).toInt32)), la)
        refine A_callS (n := 0) dX3_agreesPride_44 ksX7_asNumber mlX3_84 rfl (c_X7_asNumber l G (d + 2) sh (zput sg (o + 1) (cPA cn p (nI v) (zat sg la s0 (2 * nI i9)).toInt32)) la (zsp (cPA cn p (nI v) (zat sg la s0 (2 * nI i9)).toInt32) p = true)) (by omega) (Nat.le_refl _) (Nat.le_refl _) rfl (Nat.le_of_ble_eq_true rfl) (fun r S1 hp => ?_)
        obtain ⟨rfl, rfl⟩ := hp
        show AW l G mX3_agreesPride (d + 3) (az_F G Post) 0 0 47 [some (.ref o), some (.ref s0), some (.int (nI m)), some (.int (nI p)), some (.int (nI v)), some (.int (nI i9))] [.int (b2i (zsp (cPA cn p (nI v) (zat sg la s0 (2 * nI i9)).toInt32) p = true))] (sh, (zput sg (o + 1) (cPA cn p (nI v) (zat sg la s0 (2 * nI i9)).toInt32)), la)
        refine A_i2l dX3_agreesPride_47 ?_
        refine A_aload_n dX3_agreesPride_48 rfl rfl ?_
        refine A_iconst (v := 2) dX3_agreesPride_49 (by decide) ?_
        refine A_iload dX3_agreesPride_50 rfl ?_
        refine A_imul dX3_agreesPride_52 ?_
        refine A_iconst (v := 1) dX3_agreesPride_53 (by decide) ?_
        refine A_iadd dX3_agreesPride_54 ?_
        refine A_callV (n := 0) dX3_agreesPride_55 kvX4_at mlX3_75 rfl (az_rc_obj clX4 (hS 0 _ rfl)) (zs_at l G (d + 1) sh sg la (o + 1) (cPA cn p (nI v) (zat sg la s0 (2 * nI i9)).toInt32) s0 ((2 * nI i9) + 1) hS (by omega) hz) (by omega) (Nat.le_refl _) (Nat.le_refl _) rfl (Nat.le_of_ble_eq_true rfl) (fun r S1 hp => ?_)
        obtain ⟨rfl, rfl⟩ := hp
        show AW l G mX3_agreesPride (d + 3) (az_F G Post) 0 0 58 [some (.ref o), some (.ref s0), some (.int (nI m)), some (.int (nI p)), some (.int (nI v)), some (.int (nI i9))] [.long (zat sg la s0 ((2 * nI i9) + 1)), .long (Int32.toInt64 (b2i (zsp (cPA cn p (nI v) (zat sg la s0 (2 * nI i9)).toInt32) p = true)))] (sh, (zput sg (o + 1) (cPA cn p (nI v) (zat sg la s0 (2 * nI i9)).toInt32)), la)
        refine A_lcmp dX3_agreesPride_58 ?_
        refine A_if_eq (tgt := 64) dX3_agreesPride_59 rfl (fun h_3 => ?_) (fun h_3 => ?_)
        · skip
          refine A_iinc (v := nI (i9 + 1)) (lo2 := [some (.ref o), some (.ref s0), some (.int (nI m)), some (.int (nI p)), some (.int (nI v)), some (.int (nI (i9 + 1)))]) dX3_agreesPride_64 rfl (nI_1 i9) (by decide) rfl ?_
          refine A_goto (tgt := 14) dX3_agreesPride_67 rfl ?_
          refine ih (i9 + 1) _ (by omega) (lt_s hno (decide_eq_true (lcmp_0.mp h_3)))
        · skip
          refine A_iconst (v := 0) dX3_agreesPride_62 (by decide) ?_
          refine A_zret dX3_agreesPride_63 rfl (rfl) (hP _ _ ⟨congrArg (fun z => some (Value.int z)) ?_, _, rfl⟩)
          (exact b2i_f (fun q => by rw [show zaP sg la s0 cn m p v = false from zallb_f (i := i9) (by omega) (decide_eq_false (fun q2 => h_3 (lcmp_0.mpr q2))) hno] at q; cases q))
  exact loop (m) 0 _ (by omega) lt_0
set_option maxHeartbeats 600000 in
set_option maxRecDepth 100000 in
theorem f_X3_agreesKind (l : Launch) (G : az_Gh) (d : Nat) (sh : List az_Sh) (sg : Nat → Nat → Int32) (la : Nat → Nat → Int64) (o s0 : Nat) (cn : CT) (m p v : Nat) (a0 : Int32) (hF : az_at sh o (lyF o)) (hO : cOk cn) (hp : p < cN cn) (hm : m ≤ 20) (hS : az_at sh s0 (lyS s0)) (hds : s0 < o + 1 ∨ o + 7 ≤ s0) (hz : ∃ z, sg s0 2 = nI z ∧ z ≤ 40) : AM l G (d + 2) mX3_agreesKind [.ref o, .ref s0, .int (nI m), .int (nI p), .int (nI v)] (sh, zput sg (o + 1) (sAir cn a0), la) 0 0 (fun r1 S1 => r1 = some (.int (b2i (zaK sg la s0 cn m p v = true))) ∧ ∃ a, S1 = (sh, zput sg (o + 1) (sAir cn a), la)) := by
  refine az_am knX3_agreesKind (Nat.le_of_ble_eq_true rfl) rfl (fun Post hP => ?_)
  show AW l G mX3_agreesKind (d + 2) (az_F G Post) 0 0 0 [some (.ref o), some (.ref s0), some (.int (nI m)), some (.int (nI p)), some (.int (nI v)), none] [] (sh, (zput sg (o + 1) (sAir cn a0)), la)
  have hT := lyF_C hF
  have h8 := hO.2
  refine A_iconst (v := 0) dX3_agreesKind_0 (by decide) ?_
  refine A_istore (lo2 := [some (.ref o), some (.ref s0), some (.int (nI m)), some (.int (nI p)), some (.int (nI v)), some (.int 0)]) dX3_agreesKind_1 (by decide) rfl ?_
  have loop : ∀ (q_i9 i9 : Nat) (a1 : Int32), i9 + q_i9 = m → (∀ k, k < i9 → (fun k => decide ((zcT (nI v) (sAir cn (zat sg la s0 (2 * nI k)).toInt32) p).toInt64 = zat sg la s0 (2 * nI k + 1))) k = true) → AW l G mX3_agreesKind (d + 2) (az_F G Post) 0 0 3 [some (.ref o), some (.ref s0), some (.int (nI m)), some (.int (nI p)), some (.int (nI v)), some (.int (nI i9))] [] (sh, (zput sg (o + 1) (sAir cn a1)), la) := by
    intro q_i9
    induction q_i9 with
    | zero =>
      intro i9 a1 hi_i9 hno 
      have hN_i9 : i9 = m := by omega
      subst hN_i9
      refine A_iload dX3_agreesKind_3 rfl ?_
      refine A_iload_n dX3_agreesKind_5 rfl rfl ?_
      refine A_icmp_ge (tgt := 58) dX3_agreesKind_6 rfl (fun h_1 => ?_) (fun h_1 => ?_)
      · skip
        refine A_iconst (v := 1) dX3_agreesKind_58 (by decide) ?_
        refine A_zret dX3_agreesKind_59 rfl (rfl) (hP _ _ ⟨congrArg (fun z => some (Value.int z)) ?_, _, rfl⟩)
        (exact b2i_t (show zaK sg la s0 cn _ p v = true from zallb_t hno))
      · skip
        exact absurd (Int32.le_refl _) h_1
    | succ q_i9 ih =>
      intro i9 a1 hi_i9 hno 
      refine A_iload dX3_agreesKind_3 rfl ?_
      refine A_iload_n dX3_agreesKind_5 rfl rfl ?_
      refine A_icmp_ge (tgt := 58) dX3_agreesKind_6 rfl (fun h_2 => ?_) (fun h_2 => ?_)
      · skip
        exact absurd h_2 (nI_ge (by omega) (by omega))
      · skip
        refine A_aload_n dX3_agreesKind_9 rfl rfl ?_
        refine B_getR (r := (o + 1)) dX3_agreesKind_10 flX3_12 (hF 0 _ rfl) rfl ?_
        refine A_aload_n dX3_agreesKind_13 rfl rfl ?_
        refine A_iconst (v := 2) dX3_agreesKind_14 (by decide) ?_
        refine A_iload dX3_agreesKind_15 rfl ?_
        refine A_imul dX3_agreesKind_17 ?_
        refine A_callV (n := 0) dX3_agreesKind_18 kvX4_at mlX3_75 rfl (az_rc_obj clX4 (hS 0 _ rfl)) (zs_at l G d sh sg la (o + 1) (sAir cn a1) s0 (2 * nI i9) hS (by omega) hz) (by omega) (Nat.le_refl _) (Nat.le_refl _) rfl (Nat.le_of_ble_eq_true rfl) (fun r S1 hp => ?_)
        obtain ⟨rfl, rfl⟩ := hp
        show AW l G mX3_agreesKind (d + 2) (az_F G Post) 0 0 21 [some (.ref o), some (.ref s0), some (.int (nI m)), some (.int (nI p)), some (.int (nI v)), some (.int (nI i9))] [.long (zat sg la s0 (2 * nI i9)), .ref (o + 1)] (sh, (zput sg (o + 1) (sAir cn a1)), la)
        refine A_l2i dX3_agreesKind_21 ?_
        refine B_putI dX3_agreesKind_22 fwX3_81 (hF 1 _ rfl) rfl ?_
        refine B_sg (show _ = (zput sg (o + 1) (sAir cn (Int64.toInt32 (zat sg la s0 (2 * nI i9))))) from zw_6 _ _ _ _) ?_
        refine B_sg (show _ = (zput sg (o + 1) (sAir cn (zat sg la s0 (2 * nI i9)).toInt32)) from rfl) ?_
        refine A_aload_n dX3_agreesKind_25 rfl rfl ?_
        refine B_getR (r := (o + 1)) dX3_agreesKind_26 flX3_12 (hF 0 _ rfl) rfl ?_
        refine A_iload dX3_agreesKind_29 rfl ?_
        refine A_iload_n dX3_agreesKind_31 rfl rfl ?_
        refine A_callV (n := 0) dX3_agreesKind_32 kvX2_coldAs mlX3_91 rfl (az_rc_obj clX2 (hF 1 _ rfl)) (z_X2_coldAs l G d sh sg la (o + 1) (sAir cn (zat sg la s0 (2 * nI i9)).toInt32) p (nI v) hT (show cOk (sAir cn (zat sg la s0 (2 * nI i9)).toInt32) from hO) hp) (by omega) (Nat.le_refl _) (Nat.le_refl _) rfl (Nat.le_of_ble_eq_true rfl) (fun r S1 hp => ?_)
        obtain ⟨rfl, rfl⟩ := hp
        show AW l G mX3_agreesKind (d + 2) (az_F G Post) 0 0 35 [some (.ref o), some (.ref s0), some (.int (nI m)), some (.int (nI p)), some (.int (nI v)), some (.int (nI i9))] [.int (zcT (nI v) (sAir cn (zat sg la s0 (2 * nI i9)).toInt32) p)] (sh, (zput sg (o + 1) (sAir cn (zat sg la s0 (2 * nI i9)).toInt32)), la)
        refine A_i2l dX3_agreesKind_35 ?_
        refine A_aload_n dX3_agreesKind_36 rfl rfl ?_
        refine A_iconst (v := 2) dX3_agreesKind_37 (by decide) ?_
        refine A_iload dX3_agreesKind_38 rfl ?_
        refine A_imul dX3_agreesKind_40 ?_
        refine A_iconst (v := 1) dX3_agreesKind_41 (by decide) ?_
        refine A_iadd dX3_agreesKind_42 ?_
        refine A_callV (n := 0) dX3_agreesKind_43 kvX4_at mlX3_75 rfl (az_rc_obj clX4 (hS 0 _ rfl)) (zs_at l G d sh sg la (o + 1) (sAir cn (zat sg la s0 (2 * nI i9)).toInt32) s0 ((2 * nI i9) + 1) hS (by omega) hz) (by omega) (Nat.le_refl _) (Nat.le_refl _) rfl (Nat.le_of_ble_eq_true rfl) (fun r S1 hp => ?_)
        obtain ⟨rfl, rfl⟩ := hp
        show AW l G mX3_agreesKind (d + 2) (az_F G Post) 0 0 46 [some (.ref o), some (.ref s0), some (.int (nI m)), some (.int (nI p)), some (.int (nI v)), some (.int (nI i9))] [.long (zat sg la s0 ((2 * nI i9) + 1)), .long (Int32.toInt64 (zcT (nI v) (sAir cn (zat sg la s0 (2 * nI i9)).toInt32) p))] (sh, (zput sg (o + 1) (sAir cn (zat sg la s0 (2 * nI i9)).toInt32)), la)
        refine A_lcmp dX3_agreesKind_46 ?_
        refine A_if_eq (tgt := 52) dX3_agreesKind_47 rfl (fun h_3 => ?_) (fun h_3 => ?_)
        · skip
          refine A_iinc (v := nI (i9 + 1)) (lo2 := [some (.ref o), some (.ref s0), some (.int (nI m)), some (.int (nI p)), some (.int (nI v)), some (.int (nI (i9 + 1)))]) dX3_agreesKind_52 rfl (nI_1 i9) (by decide) rfl ?_
          refine A_goto (tgt := 3) dX3_agreesKind_55 rfl ?_
          refine ih (i9 + 1) _ (by omega) (lt_s hno (decide_eq_true (lcmp_0.mp h_3)))
        · skip
          refine A_iconst (v := 0) dX3_agreesKind_50 (by decide) ?_
          refine A_zret dX3_agreesKind_51 rfl (rfl) (hP _ _ ⟨congrArg (fun z => some (Value.int z)) ?_, _, rfl⟩)
          (exact b2i_f (fun q => by rw [show zaK sg la s0 cn m p v = false from zallb_f (i := i9) (by omega) (decide_eq_false (fun q2 => h_3 (lcmp_0.mpr q2))) hno] at q; cases q))
  exact loop (m) 0 _ (by omega) lt_0
set_option maxHeartbeats 600000 in
set_option maxRecDepth 100000 in
theorem f_X3_pridesBy (l : Launch) (G : az_Gh) (d : Nat) (sh : List az_Sh) (sg : Nat → Nat → Int32) (la : Nat → Nat → Int64) (o n0 : Nat) (c cn : CT) (s0 m p : Nat) (hF : az_at sh o (lyF o)) (hC2 : az_at sh n0 (lyC n0)) (hd : n0 + 5 < o ∨ o + 7 ≤ n0) (hcn : ct sg n0 = cn) (ht : cTl c) (ht2 : cTl cn) (hRn : cRng cn) (hS : az_at sh s0 (lyS s0)) (hds : s0 < o + 1 ∨ o + 7 ≤ s0) (hz : ∃ z, sg s0 2 = nI z ∧ z ≤ 40) (hp : p < cN cn) (hm : m ≤ 20) : AM l G (d + 4) mX3_pridesBy [.ref o, .ref n0, .ref s0, .int (nI m), .int (nI p)] (sh, zput sg (o + 1) c, la) 0 0 (fun r1 S1 => r1 = some (.int (zbits (fun v => zaP sg la s0 cn m p v) 21)) ∧ ∃ e, cTl e ∧ S1 = (sh, zput sg (o + 1) e, la)) := by
  refine az_am knX3_pridesBy (Nat.le_of_ble_eq_true rfl) rfl (fun Post hP => ?_)
  show AW l G mX3_pridesBy (d + 4) (az_F G Post) 0 0 0 [some (.ref o), some (.ref n0), some (.ref s0), some (.int (nI m)), some (.int (nI p)), none, none] [] (sh, (zput sg (o + 1) c), la)
  have hT := lyF_C hF
  have hO := hRn.1
  have h8 := hO.2
  have hpp : sg n0 5 = nI (cN cn) := by have q := hRn.1.1; rw [← hcn] at q ⊢; exact q
  refine A_iconst (v := 0) dX3_pridesBy_0 (by decide) ?_
  refine A_istore (lo2 := [some (.ref o), some (.ref n0), some (.ref s0), some (.int (nI m)), some (.int (nI p)), some (.int 0), none]) dX3_pridesBy_1 (by decide) rfl ?_
  refine A_aload_n dX3_pridesBy_3 rfl rfl ?_
  refine A_aload_n dX3_pridesBy_4 rfl rfl ?_
  refine A_callV (n := 0) dX3_pridesBy_5 kvX3_begin mlX3_26 rfl (az_rc_obj clX3 (hF 0 _ rfl)) (f_X3_begin l G d sh sg la o n0 c cn hF hC2 hd hcn ht ht2 hRn) (by omega) (Nat.le_refl _) (Nat.le_refl _) rfl (Nat.le_of_ble_eq_true rfl) (fun r S1 hp => ?_)
  obtain ⟨rfl, rfl⟩ := hp
  show AW l G mX3_pridesBy (d + 4) (az_F G Post) 0 0 8 [some (.ref o), some (.ref n0), some (.ref s0), some (.int (nI m)), some (.int (nI p)), some (.int 0), none] [.ref (o + 1)] (sh, (zput sg (o + 1) cn), la)
  refine A_pop dX3_pridesBy_8 rfl ?_
  refine B_sg (show _ = (zput sg (o + 1) (cPA cn p (cPr cn p) (cAir cn))) from congrArg (fun z => zput sg (o + 1) z) (cPA_0 cn p)) ?_
  refine A_iconst (v := 0) dX3_pridesBy_9 (by decide) ?_
  refine A_istore (lo2 := [some (.ref o), some (.ref n0), some (.ref s0), some (.int (nI m)), some (.int (nI p)), some (.int 0), some (.int 0)]) dX3_pridesBy_10 (by decide) rfl ?_
  have loop : ∀ (q_i9 i9 : Nat) (v1 : Int32) (a1 : Int32) (x5 : Int32), i9 + q_i9 = 21 → x5 = zbits (fun v => zaP sg la s0 cn m p v) i9 → AW l G mX3_pridesBy (d + 4) (az_F G Post) 0 0 12 [some (.ref o), some (.ref n0), some (.ref s0), some (.int (nI m)), some (.int (nI p)), some (.int x5), some (.int (nI i9))] [] (sh, (zput sg (o + 1) (cPA cn p v1 a1)), la) := by
    intro q_i9
    induction q_i9 with
    | zero =>
      intro i9 v1 a1 x5 hi_i9  e_x5
      have hN_i9 : i9 = 21 := by omega
      subst hN_i9
      refine A_iload dX3_pridesBy_12 rfl ?_
      refine A_bipush (v := 20) dX3_pridesBy_14 (by decide) ?_
      refine A_icmp_gt (tgt := 47) dX3_pridesBy_16 rfl (fun h_1 => ?_) (fun h_1 => ?_)
      · skip
        refine A_iload dX3_pridesBy_47 rfl ?_
        refine A_iret dX3_pridesBy_49 rfl (hP _ _ ⟨congrArg (fun z => some (Value.int z)) ?_, _, (cTl_PA ht2 (by omega) _ _), rfl⟩)
        exact e_x5
      · skip
        exact absurd (by decide) h_1
    | succ q_i9 ih =>
      intro i9 v1 a1 x5 hi_i9  e_x5
      refine A_iload dX3_pridesBy_12 rfl ?_
      refine A_bipush (v := 20) dX3_pridesBy_14 (by decide) ?_
      refine A_icmp_gt (tgt := 47) dX3_pridesBy_16 rfl (fun h_2 => ?_) (fun h_2 => ?_)
      · skip
        exact absurd h_2 (nI_nlt (b := i9) (a := 20) (by omega) (by decide))
      · skip
        refine A_aload_n dX3_pridesBy_19 rfl rfl ?_
        refine A_aload_n dX3_pridesBy_20 rfl rfl ?_
        refine A_iload_n dX3_pridesBy_21 rfl rfl ?_
        refine A_iload dX3_pridesBy_22 rfl ?_
        refine A_iload dX3_pridesBy_24 rfl ?_
        refine A_callV (n := 0) dX3_pridesBy_26 kvX3_agreesPride mlX3_67 rfl (az_rc_obj clX3 (hF 0 _ rfl)) (f_X3_agreesPride l G d sh sg la o s0 cn m p i9 v1 a1 hF hO hp hm hS hds hz) (by omega) (Nat.le_refl _) (Nat.le_refl _) rfl (Nat.le_of_ble_eq_true rfl) (fun r S1 hq => ?_)
        obtain ⟨rfl, a2, rfl⟩ := hq
        show AW l G mX3_pridesBy (d + 4) (az_F G Post) 0 0 29 [some (.ref o), some (.ref n0), some (.ref s0), some (.int (nI m)), some (.int (nI p)), some (.int x5), some (.int (nI i9))] [.int (b2i (zaP sg la s0 cn m p i9 = true))] (sh, (zput sg (o + 1) (cPA cn p (nI i9) a2)), la)
        refine A_if_eq (tgt := 41) dX3_pridesBy_29 rfl (fun h_3 => ?_) (fun h_3 => ?_)
        · skip
          have h_3' := b2i_0.mp h_3
          refine A_iinc (v := nI (i9 + 1)) (lo2 := [some (.ref o), some (.ref n0), some (.ref s0), some (.int (nI m)), some (.int (nI p)), some (.int x5), some (.int (nI (i9 + 1)))]) dX3_pridesBy_41 rfl (nI_1 i9) (by decide) rfl ?_
          refine A_goto (tgt := 12) dX3_pridesBy_44 rfl ?_
          refine ih (i9 + 1) _ _ _ (by omega) ?_
          · skip
            rw [zbits_n (f := (fun v => zaP sg la s0 cn m p v)) (b2i_0.mp h_3)]; exact e_x5
        · skip
          have h_3' := b2i_n.mp h_3
          refine A_iload dX3_pridesBy_32 rfl ?_
          refine A_iconst (v := 1) dX3_pridesBy_34 (by decide) ?_
          refine A_iload dX3_pridesBy_35 rfl ?_
          refine A_ishl dX3_pridesBy_37 ?_
          refine A_ior dX3_pridesBy_38 ?_
          refine A_istore (lo2 := [some (.ref o), some (.ref n0), some (.ref s0), some (.int (nI m)), some (.int (nI p)), some (.int (x5 ||| (1 <<< (nI i9 &&& 31)))), some (.int (nI i9))]) dX3_pridesBy_39 (by decide) rfl ?_
          refine A_iinc (v := nI (i9 + 1)) (lo2 := [some (.ref o), some (.ref n0), some (.ref s0), some (.int (nI m)), some (.int (nI p)), some (.int (x5 ||| (1 <<< (nI i9 &&& 31)))), some (.int (nI (i9 + 1)))]) dX3_pridesBy_41 rfl (nI_1 i9) (by decide) rfl ?_
          refine A_goto (tgt := 12) dX3_pridesBy_44 rfl ?_
          refine ih (i9 + 1) _ _ _ (by omega) ?_
          · skip
            rw [zbits_y (f := (fun v => zaP sg la s0 cn m p v)) (b2i_n.mp h_3)]; rw [e_x5]
  exact loop (21) 0 _ _ _ (by omega) (rfl)
set_option maxHeartbeats 600000 in
set_option maxRecDepth 100000 in
theorem f_X3_kindsBy (l : Launch) (G : az_Gh) (d : Nat) (sh : List az_Sh) (sg : Nat → Nat → Int32) (la : Nat → Nat → Int64) (o n0 : Nat) (c cn : CT) (s0 m p : Nat) (hF : az_at sh o (lyF o)) (hC2 : az_at sh n0 (lyC n0)) (hd : n0 + 5 < o ∨ o + 7 ≤ n0) (hcn : ct sg n0 = cn) (ht : cTl c) (ht2 : cTl cn) (hRn : cRng cn) (hS : az_at sh s0 (lyS s0)) (hds : s0 < o + 1 ∨ o + 7 ≤ s0) (hz : ∃ z, sg s0 2 = nI z ∧ z ≤ 40) (hp : p < cN cn) (hm : m ≤ 20) : AM l G (d + 4) mX3_kindsBy [.ref o, .ref n0, .ref s0, .int (nI m), .int (nI p)] (sh, zput sg (o + 1) c, la) 0 0 (fun r1 S1 => r1 = some (.int (zbits (fun v => zaK sg la s0 cn m p v) 6)) ∧ ∃ e, cTl e ∧ S1 = (sh, zput sg (o + 1) e, la)) := by
  refine az_am knX3_kindsBy (Nat.le_of_ble_eq_true rfl) rfl (fun Post hP => ?_)
  show AW l G mX3_kindsBy (d + 4) (az_F G Post) 0 0 0 [some (.ref o), some (.ref n0), some (.ref s0), some (.int (nI m)), some (.int (nI p)), none, none] [] (sh, (zput sg (o + 1) c), la)
  have hT := lyF_C hF
  have hO := hRn.1
  have h8 := hO.2
  have hpp : sg n0 5 = nI (cN cn) := by have q := hRn.1.1; rw [← hcn] at q ⊢; exact q
  refine A_iconst (v := 0) dX3_kindsBy_0 (by decide) ?_
  refine A_istore (lo2 := [some (.ref o), some (.ref n0), some (.ref s0), some (.int (nI m)), some (.int (nI p)), some (.int 0), none]) dX3_kindsBy_1 (by decide) rfl ?_
  refine A_aload_n dX3_kindsBy_3 rfl rfl ?_
  refine A_aload_n dX3_kindsBy_4 rfl rfl ?_
  refine A_callV (n := 0) dX3_kindsBy_5 kvX3_begin mlX3_26 rfl (az_rc_obj clX3 (hF 0 _ rfl)) (f_X3_begin l G d sh sg la o n0 c cn hF hC2 hd hcn ht ht2 hRn) (by omega) (Nat.le_refl _) (Nat.le_refl _) rfl (Nat.le_of_ble_eq_true rfl) (fun r S1 hp => ?_)
  obtain ⟨rfl, rfl⟩ := hp
  show AW l G mX3_kindsBy (d + 4) (az_F G Post) 0 0 8 [some (.ref o), some (.ref n0), some (.ref s0), some (.int (nI m)), some (.int (nI p)), some (.int 0), none] [.ref (o + 1)] (sh, (zput sg (o + 1) cn), la)
  refine A_pop dX3_kindsBy_8 rfl ?_
  refine B_sg (show _ = (zput sg (o + 1) (sAir cn (cAir cn))) from congrArg (fun z => zput sg (o + 1) z) (show cn = sAir cn (cAir cn) from rfl)) ?_
  refine A_iconst (v := 0) dX3_kindsBy_9 (by decide) ?_
  refine A_istore (lo2 := [some (.ref o), some (.ref n0), some (.ref s0), some (.int (nI m)), some (.int (nI p)), some (.int 0), some (.int 0)]) dX3_kindsBy_10 (by decide) rfl ?_
  have loop : ∀ (q_i9 i9 : Nat) (a1 : Int32) (x5 : Int32), i9 + q_i9 = 6 → x5 = zbits (fun v => zaK sg la s0 cn m p v) i9 → AW l G mX3_kindsBy (d + 4) (az_F G Post) 0 0 12 [some (.ref o), some (.ref n0), some (.ref s0), some (.int (nI m)), some (.int (nI p)), some (.int x5), some (.int (nI i9))] [] (sh, (zput sg (o + 1) (sAir cn a1)), la) := by
    intro q_i9
    induction q_i9 with
    | zero =>
      intro i9 a1 x5 hi_i9  e_x5
      have hN_i9 : i9 = 6 := by omega
      subst hN_i9
      refine A_iload dX3_kindsBy_12 rfl ?_
      refine A_bipush (v := 6) dX3_kindsBy_14 (by decide) ?_
      refine A_icmp_ge (tgt := 47) dX3_kindsBy_16 rfl (fun h_1 => ?_) (fun h_1 => ?_)
      · skip
        refine A_iload dX3_kindsBy_47 rfl ?_
        refine A_iret dX3_kindsBy_49 rfl (hP _ _ ⟨congrArg (fun z => some (Value.int z)) ?_, _, (cTl_air ht2 _), rfl⟩)
        exact e_x5
      · skip
        exact absurd (by decide) h_1
    | succ q_i9 ih =>
      intro i9 a1 x5 hi_i9  e_x5
      refine A_iload dX3_kindsBy_12 rfl ?_
      refine A_bipush (v := 6) dX3_kindsBy_14 (by decide) ?_
      refine A_icmp_ge (tgt := 47) dX3_kindsBy_16 rfl (fun h_2 => ?_) (fun h_2 => ?_)
      · skip
        exact absurd h_2 (nI_ge (b := 6) (by omega) (by decide))
      · skip
        refine A_aload_n dX3_kindsBy_19 rfl rfl ?_
        refine A_aload_n dX3_kindsBy_20 rfl rfl ?_
        refine A_iload_n dX3_kindsBy_21 rfl rfl ?_
        refine A_iload dX3_kindsBy_22 rfl ?_
        refine A_iload dX3_kindsBy_24 rfl ?_
        refine A_callV (n := 0) dX3_kindsBy_26 kvX3_agreesKind mlX3_88 rfl (az_rc_obj clX3 (hF 0 _ rfl)) (f_X3_agreesKind l G (d + 1) sh sg la o s0 cn m p i9 a1 hF hO hp hm hS hds hz) (by omega) (Nat.le_refl _) (Nat.le_refl _) rfl (Nat.le_of_ble_eq_true rfl) (fun r S1 hq => ?_)
        obtain ⟨rfl, a2, rfl⟩ := hq
        show AW l G mX3_kindsBy (d + 4) (az_F G Post) 0 0 29 [some (.ref o), some (.ref n0), some (.ref s0), some (.int (nI m)), some (.int (nI p)), some (.int x5), some (.int (nI i9))] [.int (b2i (zaK sg la s0 cn m p i9 = true))] (sh, (zput sg (o + 1) (sAir cn a2)), la)
        refine A_if_eq (tgt := 41) dX3_kindsBy_29 rfl (fun h_3 => ?_) (fun h_3 => ?_)
        · skip
          have h_3' := b2i_0.mp h_3
          refine A_iinc (v := nI (i9 + 1)) (lo2 := [some (.ref o), some (.ref n0), some (.ref s0), some (.int (nI m)), some (.int (nI p)), some (.int x5), some (.int (nI (i9 + 1)))]) dX3_kindsBy_41 rfl (nI_1 i9) (by decide) rfl ?_
          refine A_goto (tgt := 12) dX3_kindsBy_44 rfl ?_
          refine ih (i9 + 1) _ _ (by omega) ?_
          · skip
            rw [zbits_n (f := (fun v => zaK sg la s0 cn m p v)) (b2i_0.mp h_3)]; exact e_x5
        · skip
          have h_3' := b2i_n.mp h_3
          refine A_iload dX3_kindsBy_32 rfl ?_
          refine A_iconst (v := 1) dX3_kindsBy_34 (by decide) ?_
          refine A_iload dX3_kindsBy_35 rfl ?_
          refine A_ishl dX3_kindsBy_37 ?_
          refine A_ior dX3_kindsBy_38 ?_
          refine A_istore (lo2 := [some (.ref o), some (.ref n0), some (.ref s0), some (.int (nI m)), some (.int (nI p)), some (.int (x5 ||| (1 <<< (nI i9 &&& 31)))), some (.int (nI i9))]) dX3_kindsBy_39 (by decide) rfl ?_
          refine A_iinc (v := nI (i9 + 1)) (lo2 := [some (.ref o), some (.ref n0), some (.ref s0), some (.int (nI m)), some (.int (nI p)), some (.int (x5 ||| (1 <<< (nI i9 &&& 31)))), some (.int (nI (i9 + 1)))]) dX3_kindsBy_41 rfl (nI_1 i9) (by decide) rfl ?_
          refine A_goto (tgt := 12) dX3_kindsBy_44 rfl ?_
          refine ih (i9 + 1) _ _ (by omega) ?_
          · skip
            rw [zbits_y (f := (fun v => zaK sg la s0 cn m p v)) (b2i_n.mp h_3)]; rw [e_x5]
  exact loop (6) 0 _ _ (by omega) (rfl)
set_option maxHeartbeats 600000 in
set_option maxRecDepth 100000 in
theorem f_X3_feedAllQuiet (l : Launch) (G : az_Gh) (d : Nat) (sh : List az_Sh) (sg : Nat → Nat → Int32) (la : Nat → Nat → Int64) (o n0 : Nat) (c cn : CT)  (hF : az_at sh o (lyF o)) (hC2 : az_at sh n0 (lyC n0)) (hd : n0 + 5 < o ∨ o + 7 ≤ n0) (hcn : ct sg n0 = cn) (ht : cTl c) (ht2 : cTl cn) (hRn : cRng cn)  : AM l G (d + 4) mX3_feedAllQuiet [.ref o, .ref n0] (sh, zput sg (o + 1) c, la) 0 0 (fun r1 S1 => r1 = some (.int (zquiet cn)) ∧ ∃ e, cTl e ∧ S1 = (sh, zput sg (o + 1) e, la)) := by
  refine az_am knX3_feedAllQuiet (Nat.le_of_ble_eq_true rfl) rfl (fun Post hP => ?_)
  show AW l G mX3_feedAllQuiet (d + 4) (az_F G Post) 0 0 0 [some (.ref o), some (.ref n0), none, none] [] (sh, (zput sg (o + 1) c), la)
  have hT := lyF_C hF
  have hO := hRn.1
  have h8 := hO.2
  have hpp : sg n0 5 = nI (cN cn) := by have q := hRn.1.1; rw [← hcn] at q ⊢; exact q
  refine A_iconst (v := 0) dX3_feedAllQuiet_0 (by decide) ?_
  refine A_istore_n (lo2 := [some (.ref o), some (.ref n0), some (.int 0), none]) dX3_feedAllQuiet_1 rfl (by decide) rfl ?_
  refine A_aload_n dX3_feedAllQuiet_2 rfl rfl ?_
  refine A_aload_n dX3_feedAllQuiet_3 rfl rfl ?_
  refine A_callV (n := 0) dX3_feedAllQuiet_4 kvX3_begin mlX3_26 rfl (az_rc_obj clX3 (hF 0 _ rfl)) (f_X3_begin l G d sh sg la o n0 c cn hF hC2 hd hcn ht ht2 hRn) (by omega) (Nat.le_refl _) (Nat.le_refl _) rfl (Nat.le_of_ble_eq_true rfl) (fun r S1 hp => ?_)
  obtain ⟨rfl, rfl⟩ := hp
  show AW l G mX3_feedAllQuiet (d + 4) (az_F G Post) 0 0 7 [some (.ref o), some (.ref n0), some (.int 0), none] [.ref (o + 1)] (sh, (zput sg (o + 1) cn), la)
  refine A_pop dX3_feedAllQuiet_7 rfl ?_
  refine A_iconst (v := 0) dX3_feedAllQuiet_8 (by decide) ?_
  refine A_istore_n (lo2 := [some (.ref o), some (.ref n0), some (.int 0), some (.int 0)]) dX3_feedAllQuiet_9 rfl (by decide) rfl ?_
  have loop : ∀ (q_i9 i9 : Nat) (x2 : Int32) (e1 : CT), i9 + q_i9 = cN cn → (∀ k, k < i9 → zqP cn k = false) → x2 = l_sum (fun j => nI (zqk cn j)) i9 → e1 = zqg cn i9 0 → AW l G mX3_feedAllQuiet (d + 4) (az_F G Post) 0 0 10 [some (.ref o), some (.ref n0), some (.int x2), some (.int (nI i9))] [] (sh, (zput sg (o + 1) e1), la) := by
    intro q_i9
    induction q_i9 with
    | zero =>
      intro i9 x2 e1 hi_i9 hno e_x2 e_e1
      have hN_i9 : i9 = cN cn := by omega
      subst hN_i9
      refine A_iload_n dX3_feedAllQuiet_10 rfl rfl ?_
      refine A_aload_n dX3_feedAllQuiet_11 rfl rfl ?_
      refine B_getV (nI (cN cn)) dX3_feedAllQuiet_12 flX3_34 (hC2 0 _ rfl) rfl ((congrFun (zput_ne (by omega)) 5).trans hpp) ?_
      refine A_icmp_ge (tgt := 81) dX3_feedAllQuiet_15 rfl (fun h_1 => ?_) (fun h_1 => ?_)
      · skip
        refine A_iload_n dX3_feedAllQuiet_81 rfl rfl ?_
        refine A_iret dX3_feedAllQuiet_82 rfl (hP _ _ ⟨congrArg (fun z => some (Value.int z)) ?_, _, (by rw [e_e1]; exact cTl_qg0 ht2 h8), rfl⟩)
        (unfold zquiet; rw [zfind_none hno, if_pos rfl]; exact e_x2)
      · skip
        exact absurd (Int32.le_refl _) h_1
    | succ q_i9 ih =>
      intro i9 x2 e1 hi_i9 hno e_x2 e_e1
      refine A_iload_n dX3_feedAllQuiet_10 rfl rfl ?_
      refine A_aload_n dX3_feedAllQuiet_11 rfl rfl ?_
      refine B_getV (nI (cN cn)) dX3_feedAllQuiet_12 flX3_34 (hC2 0 _ rfl) rfl ((congrFun (zput_ne (by omega)) 5).trans hpp) ?_
      refine A_icmp_ge (tgt := 81) dX3_feedAllQuiet_15 rfl (fun h_2 => ?_) (fun h_2 => ?_)
      · skip
        exact absurd h_2 (nI_ge (by omega) (by omega))
      · skip
        have loop2 : ∀ (q_j9 j9 : Nat) (y2 : Int32) (e2 : CT), j9 + q_j9 = zqk cn i9 → y2 = l_sum (fun j => nI (zqk cn j)) i9 + nI j9 → e2 = zqg cn i9 j9 → AW l G mX3_feedAllQuiet (d + 4) (az_F G Post) 0 0 18 [some (.ref o), some (.ref n0), some (.int y2), some (.int (nI i9))] [] (sh, (zput sg (o + 1) e2), la) := by
          intro q_j9
          induction q_j9 with
          | zero =>
            intro j9 y2 e2 hi_j9  e_y2 e_e2
            have hN_j9 : j9 = zqk cn i9 := by omega
            subst j9
            refine A_aload_n dX3_feedAllQuiet_18 rfl rfl ?_
            refine B_getR (r := (o + 1)) dX3_feedAllQuiet_19 flX3_12 (hF 0 _ rfl) rfl ?_
            refine A_iload_n dX3_feedAllQuiet_22 rfl rfl ?_
            refine A_callV (n := 0) dX3_feedAllQuiet_23 kvX2_isHeard mlX3_56 rfl (az_rc_obj clX2 (hF 1 _ rfl)) (z_X2_isHeard l G (d + 1) sh sg la (o + 1) e2 i9 hT (by rw [e_e2]; exact hO) (by rw [e_e2]; show i9 < cN cn; omega)) (by omega) (Nat.le_refl _) (Nat.le_refl _) rfl (Nat.le_of_ble_eq_true rfl) (fun r S1 hp => ?_)
            obtain ⟨rfl, rfl⟩ := hp
            show AW l G mX3_feedAllQuiet (d + 4) (az_F G Post) 0 0 26 [some (.ref o), some (.ref n0), some (.int y2), some (.int (nI i9))] [.int (b2i (zsp e2 i9 = true))] (sh, (zput sg (o + 1) e2), la)
            refine A_if_eq (tgt := 62) dX3_feedAllQuiet_26 rfl (fun h_3 => ?_) (fun h_3 => ?_)
            · skip
              have h_3' := b2i_0.mp h_3
              refine A_aload_n dX3_feedAllQuiet_62 rfl rfl ?_
              refine B_getR (r := (o + 1)) dX3_feedAllQuiet_63 flX3_12 (hF 0 _ rfl) rfl ?_
              refine A_iload_n dX3_feedAllQuiet_66 rfl rfl ?_
              refine A_callV (n := 0) dX3_feedAllQuiet_67 kvX2_isHeard mlX3_56 rfl (az_rc_obj clX2 (hF 1 _ rfl)) (z_X2_isHeard l G (d + 1) sh sg la (o + 1) e2 i9 hT (by rw [e_e2]; exact hO) (by rw [e_e2]; show i9 < cN cn; omega)) (by omega) (Nat.le_refl _) (Nat.le_refl _) rfl (Nat.le_of_ble_eq_true rfl) (fun r S1 hp => ?_)
              obtain ⟨rfl, rfl⟩ := hp
              show AW l G mX3_feedAllQuiet (d + 4) (az_F G Post) 0 0 70 [some (.ref o), some (.ref n0), some (.int y2), some (.int (nI i9))] [.int (b2i (zsp e2 i9 = true))] (sh, (zput sg (o + 1) e2), la)
              refine A_if_eq (tgt := 75) dX3_feedAllQuiet_70 rfl (fun h_4 => ?_) (fun h_4 => ?_)
              · skip
                have h_4' := b2i_0.mp h_4
                refine A_iinc (v := nI (i9 + 1)) (lo2 := [some (.ref o), some (.ref n0), some (.int y2), some (.int (nI (i9 + 1)))]) dX3_feedAllQuiet_75 rfl (nI_1 i9) (by decide) rfl ?_
                refine A_goto (tgt := 10) dX3_feedAllQuiet_78 rfl ?_
                refine ih (i9 + 1) _ _ (by omega) (lt_s hno (by have q := b2i_0.mp h_4; rw [e_e2, zqg_sp] at q; exact Bool.eq_false_iff.mpr q)) ?_ ?_
                · skip
                  rw [e_y2]; rfl
                · skip
                  rw [e_e2]; exact zqg_n cn i9
              · skip
                have h_4' := b2i_n.mp h_4
                refine A_iconst (v := (-1)) dX3_feedAllQuiet_73 (by decide) ?_
                refine A_iret dX3_feedAllQuiet_74 rfl (hP _ _ ⟨congrArg (fun z => some (Value.int z)) ?_, _, (by rw [e_e2]; exact cTl_qg ht2 (by omega)), rfl⟩)
                (unfold zquiet; rw [zfind_some (i := i9) (by omega) (by have q := b2i_n.mp h_4; rw [e_e2, zqg_sp] at q; exact q) hno, if_neg (by intro q; cases q)])
            · skip
              have h_3' := b2i_n.mp h_3
              refine A_aload_n dX3_feedAllQuiet_29 rfl rfl ?_
              refine B_getR (r := (o + 1)) dX3_feedAllQuiet_30 flX3_12 (hF 0 _ rfl) rfl ?_
              refine B_getR (r := (o + 6)) dX3_feedAllQuiet_33 flX3_95 (hF 1 _ rfl) rfl ?_
              refine A_iload_n dX3_feedAllQuiet_36 rfl rfl ?_
              refine B_ialdV (i := i9) (cFe e2 i9) dX3_feedAllQuiet_37 (hF 6 _ rfl) (by decide) (rfl) (by omega) (ze_5 _ _ _ _) ?_
              refine A_bipush (v := 40) dX3_feedAllQuiet_38 (by decide) ?_
              refine A_icmp_ge (tgt := 62) dX3_feedAllQuiet_40 rfl (fun h_5 => ?_) (fun h_5 => ?_)
              · skip
                refine A_aload_n dX3_feedAllQuiet_62 rfl rfl ?_
                refine B_getR (r := (o + 1)) dX3_feedAllQuiet_63 flX3_12 (hF 0 _ rfl) rfl ?_
                refine A_iload_n dX3_feedAllQuiet_66 rfl rfl ?_
                refine A_callV (n := 0) dX3_feedAllQuiet_67 kvX2_isHeard mlX3_56 rfl (az_rc_obj clX2 (hF 1 _ rfl)) (z_X2_isHeard l G (d + 1) sh sg la (o + 1) e2 i9 hT (by rw [e_e2]; exact hO) (by rw [e_e2]; show i9 < cN cn; omega)) (by omega) (Nat.le_refl _) (Nat.le_refl _) rfl (Nat.le_of_ble_eq_true rfl) (fun r S1 hp => ?_)
                obtain ⟨rfl, rfl⟩ := hp
                show AW l G mX3_feedAllQuiet (d + 4) (az_F G Post) 0 0 70 [some (.ref o), some (.ref n0), some (.int y2), some (.int (nI i9))] [.int (b2i (zsp e2 i9 = true))] (sh, (zput sg (o + 1) e2), la)
                refine A_if_eq (tgt := 75) dX3_feedAllQuiet_70 rfl (fun h_6 => ?_) (fun h_6 => ?_)
                · skip
                  have h_6' := b2i_0.mp h_6
                  refine A_iinc (v := nI (i9 + 1)) (lo2 := [some (.ref o), some (.ref n0), some (.int y2), some (.int (nI (i9 + 1)))]) dX3_feedAllQuiet_75 rfl (nI_1 i9) (by decide) rfl ?_
                  refine A_goto (tgt := 10) dX3_feedAllQuiet_78 rfl ?_
                  refine ih (i9 + 1) _ _ (by omega) (lt_s hno (by have q := b2i_0.mp h_6; rw [e_e2, zqg_sp] at q; exact Bool.eq_false_iff.mpr q)) ?_ ?_
                  · skip
                    rw [e_y2]; rfl
                  · skip
                    rw [e_e2]; exact zqg_n cn i9
                · skip
                  have h_6' := b2i_n.mp h_6
                  refine A_iconst (v := (-1)) dX3_feedAllQuiet_73 (by decide) ?_
                  refine A_iret dX3_feedAllQuiet_74 rfl (hP _ _ ⟨congrArg (fun z => some (Value.int z)) ?_, _, (by rw [e_e2]; exact cTl_qg ht2 (by omega)), rfl⟩)
                  (unfold zquiet; rw [zfind_some (i := i9) (by omega) (by have q := b2i_n.mp h_6; rw [e_e2, zqg_sp] at q; exact q) hno, if_neg (by intro q; cases q)])
              · skip
                exact absurd (by rw [e_e2, zqg_fe]; exact zqk_end (hRn.2.2.2 i9 (by omega)).2.2.1 (by rw [← zqg_sp, ← e_e2]; exact b2i_n.mp h_3)) h_5
          | succ q_j9 ih_j9 =>
            intro j9 y2 e2 hi_j9  e_y2 e_e2
            refine A_aload_n dX3_feedAllQuiet_18 rfl rfl ?_
            refine B_getR (r := (o + 1)) dX3_feedAllQuiet_19 flX3_12 (hF 0 _ rfl) rfl ?_
            refine A_iload_n dX3_feedAllQuiet_22 rfl rfl ?_
            refine A_callV (n := 0) dX3_feedAllQuiet_23 kvX2_isHeard mlX3_56 rfl (az_rc_obj clX2 (hF 1 _ rfl)) (z_X2_isHeard l G (d + 1) sh sg la (o + 1) e2 i9 hT (by rw [e_e2]; exact hO) (by rw [e_e2]; show i9 < cN cn; omega)) (by omega) (Nat.le_refl _) (Nat.le_refl _) rfl (Nat.le_of_ble_eq_true rfl) (fun r S1 hp => ?_)
            obtain ⟨rfl, rfl⟩ := hp
            show AW l G mX3_feedAllQuiet (d + 4) (az_F G Post) 0 0 26 [some (.ref o), some (.ref n0), some (.int y2), some (.int (nI i9))] [.int (b2i (zsp e2 i9 = true))] (sh, (zput sg (o + 1) e2), la)
            refine A_if_eq (tgt := 62) dX3_feedAllQuiet_26 rfl (fun h_7 => ?_) (fun h_7 => ?_)
            · skip
              have h_7' := b2i_0.mp h_7
              exact absurd (by rw [e_e2, zqg_sp]; exact (zqk_lt (by omega)).1) (b2i_0.mp h_7)
            · skip
              have h_7' := b2i_n.mp h_7
              refine A_aload_n dX3_feedAllQuiet_29 rfl rfl ?_
              refine B_getR (r := (o + 1)) dX3_feedAllQuiet_30 flX3_12 (hF 0 _ rfl) rfl ?_
              refine B_getR (r := (o + 6)) dX3_feedAllQuiet_33 flX3_95 (hF 1 _ rfl) rfl ?_
              refine A_iload_n dX3_feedAllQuiet_36 rfl rfl ?_
              refine B_ialdV (i := i9) (cFe e2 i9) dX3_feedAllQuiet_37 (hF 6 _ rfl) (by decide) (rfl) (by omega) (ze_5 _ _ _ _) ?_
              refine A_bipush (v := 40) dX3_feedAllQuiet_38 (by decide) ?_
              refine A_icmp_ge (tgt := 62) dX3_feedAllQuiet_40 rfl (fun h_8 => ?_) (fun h_8 => ?_)
              · skip
                exact absurd (by have q := h_8; rw [e_e2, zqg_fe] at q; exact q) (zqk_lt (by omega)).2
              · skip
                refine A_aload_n dX3_feedAllQuiet_43 rfl rfl ?_
                refine B_getR (r := (o + 1)) dX3_feedAllQuiet_44 flX3_12 (hF 0 _ rfl) rfl ?_
                refine B_getR (r := (o + 6)) dX3_feedAllQuiet_47 flX3_95 (hF 1 _ rfl) rfl ?_
                refine A_iload_n dX3_feedAllQuiet_50 rfl rfl ?_
                refine A_dup2 dX3_feedAllQuiet_51 rfl rfl ?_
                refine B_ialdV (i := i9) (cFe e2 i9) dX3_feedAllQuiet_52 (hF 6 _ rfl) (by decide) (rfl) (by omega) (ze_5 _ _ _ _) ?_
                refine A_iconst (v := 1) dX3_feedAllQuiet_53 (by decide) ?_
                refine A_iadd dX3_feedAllQuiet_54 ?_
                refine B_iast (i := i9) dX3_feedAllQuiet_55 (hF 6 _ rfl) (by decide) (rfl) (by omega) ?_
                refine B_sg (show _ = (zput sg (o + 1) (sFe e2 (va_up (cFe e2) i9 (cFe e2 i9 + 1)))) from zx_5 _ _ _ _ _) ?_
                refine A_iinc (v := (y2 + 1)) (lo2 := [some (.ref o), some (.ref n0), some (.int (y2 + 1)), some (.int (nI i9))]) dX3_feedAllQuiet_56 rfl rfl (by decide) rfl ?_
                refine A_goto (tgt := 18) dX3_feedAllQuiet_59 rfl ?_
                refine ih_j9 (j9 + 1) _ _ (by omega) ?_ ?_
                · skip
                  rw [e_y2, Int32.add_assoc, ← nI_succ]
                · skip
                  rw [e_e2, zqg_fe]; exact zqg_s cn i9 j9
        exact loop2 (zqk cn i9) 0 _ _ (by omega) (by rw [e_x2, nI_0]; exact (Int32.add_zero _).symm) (e_e1)
  exact loop (cN cn) 0 _ _ (by omega) lt_0 (rfl) ((zqg_0 cn).symm)
