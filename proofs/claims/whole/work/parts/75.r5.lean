theorem zbst_lt' {f : Nat → Int32} {lg : Bool} : ∀ {i k : Nat}, zbst f lg i = some k → k < i
  | 0, k, h => by cases h
  | i + 1, k, h => by
    unfold zbst at h
    cases hz : zbst f lg i with
    | none => rw [hz] at h; cases h; omega
    | some m =>
      rw [hz] at h
      have hm := zbst_lt' hz
      by_cases q : zcmp lg (f m) (f i) = true
      · have e : (if zcmp lg (f m) (f i) = true then some i else some m) = some k := h
        rw [if_pos q] at e; cases e; omega
      · have e : (if zcmp lg (f m) (f i) = true then some i else some m) = some k := h
        rw [if_neg q] at e; cases e; omega
theorem zbst_s1 {f : Nat → Int32} {lg : Bool} {i m : Nat} (h : zbst f lg i = some m) (q : zcmp lg (f m) (f i) = true) : zbst f lg (i + 1) = some i := by
  unfold zbst; rw [h]; exact if_pos q
theorem zbst_s2 {f : Nat → Int32} {lg : Bool} {i m : Nat} (h : zbst f lg i = some m) (q : ¬ zcmp lg (f m) (f i) = true) : zbst f lg (i + 1) = some m := by
  unfold zbst; rw [h]; exact if_neg q
theorem zcmp_tt {a b : Int32} : zcmp true a b = true ↔ a < b := by unfold zcmp; rw [if_pos rfl]; exact decide_eq_true_iff
theorem zcmp_ff {a b : Int32} : zcmp false a b = true ↔ b < a := by unfold zcmp; rw [if_neg (by decide)]; exact decide_eq_true_iff
set_option maxHeartbeats 1000000 in
set_option maxRecDepth 100000 in
theorem y_toughest (l : Launch) (G : az_Gh) (d : Nat) (sh : List az_Sh) (sg : Nat → Nat → Int32) (la : Nat → Nat → Int64) (g : GGM) (σ : SGM) (kp tr : Option Nat) (w : Int32) (hM : az_at sh 60 (lyM 60 kp tr)) (hR : RX g sg la σ kp tr) (hW : WF σ)  : AM l G (d + 32) mX8_toughest [.ref 60, .int w] (sh, sg, la) 0 0 (RQ sh g kp tr (.int (q_toughest σ w).1) (q_toughest σ w).2) := by
  refine az_am knX8_toughest (Nat.le_of_ble_eq_true rfl) rfl (fun Post hP => ?_)
  show AW l G mX8_toughest (d + 32) (az_F G Post) 0 0 0 [some (.ref 60), some (.int w), none, none] [] (sh, sg, la)
  have hO := hW.1.1.1
  have hL := cW_lv hW.1
  have haw := hW.1.2.2.1
  have h8 := hO.2
  refine B_sg hR.z.symm ?_
  refine A_iload_n dX8_toughest_0 rfl rfl ?_
  refine A_i2l dX8_toughest_1 ?_
  refine A_lconst (v := 0) dX8_toughest_2 (by decide) ?_
  refine A_lconst (v := 1) dX8_toughest_3 (by decide) ?_
  refine A_callS (n := 0) dX8_toughest_4 ksX8_in mlX8_91 rfl (c_X8_inI l G (d + 31) sh (mput sg 60 (xN σ)) la w 1 1 (by decide)) (by omega) (Nat.le_refl _) (Nat.le_refl _) rfl (Nat.le_of_ble_eq_true rfl) (fun r S1 hp => ?_)
  obtain ⟨rfl, rfl⟩ := hp
  show AW l G mX8_toughest (d + 32) (az_F G Post) 0 0 7 [some (.ref 60), some (.int w), none, none] [.int (b2i (0 ≤ w ∧ w ≤ 1))] (sh, (mput sg 60 (xN σ)), la)
  refine A_if_ne (tgt := 17) dX8_toughest_7 rfl (fun h_1 => ?_) (fun h_1 => ?_)
  · skip
    have h_1' := b2i_n.mp h_1
    obtain ⟨w1, hw1, rfl⟩ := nI_ex (m := 1) h_1'
    have hc_w1 : (nI w1).toNatClampNeg = w1 := nI_clamp (by omega)
    rcases (by omega : w1 = 0 ∨ w1 = 1) with rfl | rfl
    · skip
      show AW l G mX8_toughest (d + 32) (az_F G Post) 0 0 17 [some (.ref 60), some (.int 0), none, none] [] (sh, (mput sg 60 (xN σ)), la)
      refine A_aload_n dX8_toughest_17 rfl rfl ?_
      refine B_getV (nI (cN (xN σ))) dX8_toughest_18 flX8_88 (hM 0 _ rfl) rfl ((mr_14 _ _ _).trans hO.1) ?_
      refine A_if_ne (tgt := 31) dX8_toughest_21 rfl (fun h_2 => ?_) (fun h_2 => ?_)
      · skip
        refine A_iconst (v := 0) dX8_toughest_31 (by decide) ?_
        refine A_istore_n (lo2 := [some (.ref 60), some (.int 0), some (.int 0), none]) dX8_toughest_32 rfl (by decide) rfl ?_
        refine A_iconst (v := 1) dX8_toughest_33 (by decide) ?_
        refine A_istore_n (lo2 := [some (.ref 60), some (.int 0), some (.int 0), some (.int 1)]) dX8_toughest_34 rfl (by decide) rfl ?_
        have hn1 : 1 ≤ (cN (xN σ)) := by
          rcases Nat.eq_zero_or_pos (cN (xN σ)) with q | q
          · exact absurd (by rw [q]; rfl) h_2
          · exact q
        show AW l G mX8_toughest (d + 32) (az_F G Post) 0 0 35 [some (.ref 60), some (.int 0), some (.int (nI 0)), some (.int (nI 1))] [] (sh, (mput sg 60 (xN σ)), la)
        have loop : ∀ (q_i9 i9 : Nat) (u9 : Nat → Nat → Int32) (b9 : Nat), i9 + q_i9 = (cN (xN σ)) → sC sg u9 → b9 < i9 → zbst (zfH (xN σ)) true i9 = some b9 → AW l G mX8_toughest (d + 32) (az_F G Post) 0 0 35 [some (.ref 60), some (.int 0), some (.int (nI b9)), some (.int (nI i9))] [] (sh, (mput u9 60 (xN σ)), la) := by
          intro q_i9
          induction q_i9 with
          | zero =>
            intro i9 u9 b9 hi_i9 hs9 hlt9 hb9 
            have hN_i9 : i9 = (cN (xN σ)) := by omega
            subst i9
            refine A_iload_n dX8_toughest_35 rfl rfl ?_
            refine A_aload_n dX8_toughest_36 rfl rfl ?_
            refine B_getV (nI (cN (xN σ))) dX8_toughest_37 flX8_88 (hM 0 _ rfl) rfl ((mr_14 _ _ _).trans hO.1) ?_
            refine A_icmp_ge (tgt := 90) dX8_toughest_40 rfl (fun h_3 => ?_) (fun h_3 => ?_)
            · skip
              refine A_iload_n dX8_toughest_90 rfl rfl ?_
              have hq : (q_toughest σ (0)) = (nI b9, σ) := by
                unfold q_toughest
                rw [if_pos (by decide), if_neg (by rw [hO.1]; exact h_2), show (decide ((0 : Int32) = 0)) = true by decide, hb9]
                first | done | rfl
              exact A_iret dX8_toughest_91 rfl (hP _ _ (RQ_i hq (hR.fin0 hs9)))
            · skip
              exact absurd (Int32.le_refl _) h_3
          | succ q_i9 ih =>
            intro i9 u9 b9 hi_i9 hs9 hlt9 hb9 
            refine A_iload_n dX8_toughest_35 rfl rfl ?_
            refine A_aload_n dX8_toughest_36 rfl rfl ?_
            refine B_getV (nI (cN (xN σ))) dX8_toughest_37 flX8_88 (hM 0 _ rfl) rfl ((mr_14 _ _ _).trans hO.1) ?_
            refine A_icmp_ge (tgt := 90) dX8_toughest_40 rfl (fun h_4 => ?_) (fun h_4 => ?_)
            · skip
              exact absurd h_4 (nI_ge (by omega) (by omega))
            · skip
              refine A_iload_n dX8_toughest_43 rfl rfl ?_
              refine A_if_ne (tgt := 60) dX8_toughest_44 rfl (fun h_5 => ?_) (fun h_5 => ?_)
              · skip
                exact absurd rfl h_5
              · skip
                refine A_aload_n dX8_toughest_47 rfl rfl ?_
                refine A_iload_n dX8_toughest_48 rfl rfl ?_
                refine A_callV (n := 0) dX8_toughest_49 kvX8_lasts mlX8_276 rfl (az_rc_obj clX8 (hM 0 _ rfl)) (r_lasts l G (d + 27) sh u9 la kp tr (xN σ) i9 hM hO hL (by omega) (by rw [haw]; exact nI_n1 (by omega))) (by omega) (Nat.le_refl _) (Nat.le_refl _) rfl (Nat.le_of_ble_eq_true rfl) (fun r S1 hp => ?_)
                obtain ⟨rfl, rfl⟩ := hp
                show AW l G mX8_toughest (d + 32) (az_F G Post) 0 0 52 [some (.ref 60), some (.int 0), some (.int (nI b9)), some (.int (nI i9))] [.int (nI (zhear (xN σ) i9))] (sh, (mput (mkp u9 (xN σ)) 60 (xN σ)), la)
                refine A_aload_n dX8_toughest_52 rfl rfl ?_
                refine A_iload_n dX8_toughest_53 rfl rfl ?_
                refine A_callV (n := 0) dX8_toughest_54 kvX8_lasts mlX8_276 rfl (az_rc_obj clX8 (hM 0 _ rfl)) (r_lasts l G (d + 27) sh (mkp u9 (xN σ)) la kp tr (xN σ) b9 hM hO hL (by omega) (by rw [haw]; exact nI_n1 (by omega))) (by omega) (Nat.le_refl _) (Nat.le_refl _) rfl (Nat.le_of_ble_eq_true rfl) (fun r S1 hp => ?_)
                obtain ⟨rfl, rfl⟩ := hp
                show AW l G mX8_toughest (d + 32) (az_F G Post) 0 0 57 [some (.ref 60), some (.int 0), some (.int (nI b9)), some (.int (nI i9))] [.int (nI (zhear (xN σ) b9)), .int (nI (zhear (xN σ) i9))] (sh, (mput (mkp (mkp u9 (xN σ)) (xN σ)) 60 (xN σ)), la)
                refine A_icmp_gt (tgt := 78) dX8_toughest_57 rfl (fun h_6 => ?_) (fun h_6 => ?_)
                · skip
                  refine A_iload_n dX8_toughest_78 rfl rfl ?_
                  refine A_goto (tgt := 83) dX8_toughest_79 rfl ?_
                  refine A_istore_n (lo2 := [some (.ref 60), some (.int 0), some (.int (nI i9)), some (.int (nI i9))]) dX8_toughest_83 rfl (by decide) rfl ?_
                  refine A_iinc (v := nI (i9 + 1)) (lo2 := [some (.ref 60), some (.int 0), some (.int (nI i9)), some (.int (nI (i9 + 1)))]) dX8_toughest_84 rfl (nI_1 i9) (by decide) rfl ?_
                  refine A_goto (tgt := 35) dX8_toughest_87 rfl ?_
                  refine ih (i9 + 1) _ _ (by omega) ((hs9.kp _).kp _) (by omega) (zbst_s1 hb9 (zcmp_tt.mpr h_6))
                · skip
                  refine A_iload_n dX8_toughest_60 rfl rfl ?_
                  refine A_iconst (v := 1) dX8_toughest_61 (by decide) ?_
                  refine A_icmp_ne (tgt := 82) dX8_toughest_62 rfl (fun h_7 => ?_) (fun h_7 => ?_)
                  · skip
                    refine A_iload_n dX8_toughest_82 rfl rfl ?_
                    refine A_istore_n (lo2 := [some (.ref 60), some (.int 0), some (.int (nI b9)), some (.int (nI i9))]) dX8_toughest_83 rfl (by decide) rfl ?_
                    refine A_iinc (v := nI (i9 + 1)) (lo2 := [some (.ref 60), some (.int 0), some (.int (nI b9)), some (.int (nI (i9 + 1)))]) dX8_toughest_84 rfl (nI_1 i9) (by decide) rfl ?_
                    refine A_goto (tgt := 35) dX8_toughest_87 rfl ?_
                    refine ih (i9 + 1) _ _ (by omega) ((hs9.kp _).kp _) (by omega) (zbst_s2 hb9 (fun q => absurd (zcmp_tt.mp q) h_6))
                  · skip
                    exact absurd h_7 (by decide)
        exact loop (((cN (xN σ))) - (1)) 1 _ _ (by omega) (sC.rf sg) (by omega) rfl
      · skip
        refine A_aload_n dX8_toughest_24 rfl rfl ?_
        refine A_bipush (v := (-5)) dX8_toughest_25 (by decide) ?_
        refine A_callV (n := 0) dX8_toughest_27 kvX8_refuse mlX8_101 rfl (az_rc_obj clX8 (hM 0 _ rfl)) (c_X8_refuse l G (d + 31) sh (mput sg 60 (xN σ)) la kp tr (-5) 3 hM (by decide) (by decide)) (by omega) (Nat.le_refl _) (Nat.le_refl _) rfl (Nat.le_of_ble_eq_true rfl) (fun r S1 hp => ?_)
        obtain ⟨rfl, rfl⟩ := hp
        show AW l G mX8_toughest (d + 32) (az_F G Post) 0 0 30 [some (.ref 60), some (.int 0), none, none] [.int (-5)] (sh, (az_w (mput sg 60 (xN σ)) 76 (3 + 2) ((mput sg 60 (xN σ)) 76 (3 + 2) + 1)), la)
        have hq : (q_toughest σ (0)) = ((-5), (rfs σ 3)) := by
          unfold q_toughest
          rw [if_pos (by decide), if_pos (by rw [hO.1]; exact h_2)]
          first | done | rfl
        exact A_iret dX8_toughest_30 rfl (hP _ _ (RQ_i hq ((hR.fin0 (sC.rf sg)).ref (k := 3) (by decide))))
    · skip
      show AW l G mX8_toughest (d + 32) (az_F G Post) 0 0 17 [some (.ref 60), some (.int 1), none, none] [] (sh, (mput sg 60 (xN σ)), la)
      refine A_aload_n dX8_toughest_17 rfl rfl ?_
      refine B_getV (nI (cN (xN σ))) dX8_toughest_18 flX8_88 (hM 0 _ rfl) rfl ((mr_14 _ _ _).trans hO.1) ?_
      refine A_if_ne (tgt := 31) dX8_toughest_21 rfl (fun h_8 => ?_) (fun h_8 => ?_)
      · skip
        refine A_iconst (v := 0) dX8_toughest_31 (by decide) ?_
        refine A_istore_n (lo2 := [some (.ref 60), some (.int 1), some (.int 0), none]) dX8_toughest_32 rfl (by decide) rfl ?_
        refine A_iconst (v := 1) dX8_toughest_33 (by decide) ?_
        refine A_istore_n (lo2 := [some (.ref 60), some (.int 1), some (.int 0), some (.int 1)]) dX8_toughest_34 rfl (by decide) rfl ?_
        have hn1 : 1 ≤ (cN (xN σ)) := by
          rcases Nat.eq_zero_or_pos (cN (xN σ)) with q | q
          · exact absurd (by rw [q]; rfl) h_8
          · exact q
        show AW l G mX8_toughest (d + 32) (az_F G Post) 0 0 35 [some (.ref 60), some (.int 1), some (.int (nI 0)), some (.int (nI 1))] [] (sh, (mput sg 60 (xN σ)), la)
        have loop : ∀ (q_i9 i9 : Nat) (u9 : Nat → Nat → Int32) (b9 : Nat), i9 + q_i9 = (cN (xN σ)) → sC sg u9 → b9 < i9 → zbst (zfH (xN σ)) false i9 = some b9 → AW l G mX8_toughest (d + 32) (az_F G Post) 0 0 35 [some (.ref 60), some (.int 1), some (.int (nI b9)), some (.int (nI i9))] [] (sh, (mput u9 60 (xN σ)), la) := by
          intro q_i9
          induction q_i9 with
          | zero =>
            intro i9 u9 b9 hi_i9 hs9 hlt9 hb9 
            have hN_i9 : i9 = (cN (xN σ)) := by omega
            subst i9
            refine A_iload_n dX8_toughest_35 rfl rfl ?_
            refine A_aload_n dX8_toughest_36 rfl rfl ?_
            refine B_getV (nI (cN (xN σ))) dX8_toughest_37 flX8_88 (hM 0 _ rfl) rfl ((mr_14 _ _ _).trans hO.1) ?_
            refine A_icmp_ge (tgt := 90) dX8_toughest_40 rfl (fun h_9 => ?_) (fun h_9 => ?_)
            · skip
              refine A_iload_n dX8_toughest_90 rfl rfl ?_
              have hq : (q_toughest σ (1)) = (nI b9, σ) := by
                unfold q_toughest
                rw [if_pos (by decide), if_neg (by rw [hO.1]; exact h_8), show (decide ((1 : Int32) = 0)) = false by decide, hb9]
                first | done | rfl
              exact A_iret dX8_toughest_91 rfl (hP _ _ (RQ_i hq (hR.fin0 hs9)))
            · skip
              exact absurd (Int32.le_refl _) h_9
          | succ q_i9 ih =>
            intro i9 u9 b9 hi_i9 hs9 hlt9 hb9 
            refine A_iload_n dX8_toughest_35 rfl rfl ?_
            refine A_aload_n dX8_toughest_36 rfl rfl ?_
            refine B_getV (nI (cN (xN σ))) dX8_toughest_37 flX8_88 (hM 0 _ rfl) rfl ((mr_14 _ _ _).trans hO.1) ?_
            refine A_icmp_ge (tgt := 90) dX8_toughest_40 rfl (fun h_10 => ?_) (fun h_10 => ?_)
            · skip
              exact absurd h_10 (nI_ge (by omega) (by omega))
            · skip
              refine A_iload_n dX8_toughest_43 rfl rfl ?_
              refine A_if_ne (tgt := 60) dX8_toughest_44 rfl (fun h_11 => ?_) (fun h_11 => ?_)
              · skip
                refine A_iload_n dX8_toughest_60 rfl rfl ?_
                refine A_iconst (v := 1) dX8_toughest_61 (by decide) ?_
                refine A_icmp_ne (tgt := 82) dX8_toughest_62 rfl (fun h_12 => ?_) (fun h_12 => ?_)
                · skip
                  exact absurd rfl h_12
                · skip
                  refine A_aload_n dX8_toughest_65 rfl rfl ?_
                  refine A_iload_n dX8_toughest_66 rfl rfl ?_
                  refine A_callV (n := 0) dX8_toughest_67 kvX8_lasts mlX8_276 rfl (az_rc_obj clX8 (hM 0 _ rfl)) (r_lasts l G (d + 27) sh u9 la kp tr (xN σ) i9 hM hO hL (by omega) (by rw [haw]; exact nI_n1 (by omega))) (by omega) (Nat.le_refl _) (Nat.le_refl _) rfl (Nat.le_of_ble_eq_true rfl) (fun r S1 hp => ?_)
                  obtain ⟨rfl, rfl⟩ := hp
                  show AW l G mX8_toughest (d + 32) (az_F G Post) 0 0 70 [some (.ref 60), some (.int 1), some (.int (nI b9)), some (.int (nI i9))] [.int (nI (zhear (xN σ) i9))] (sh, (mput (mkp u9 (xN σ)) 60 (xN σ)), la)
                  refine A_aload_n dX8_toughest_70 rfl rfl ?_
                  refine A_iload_n dX8_toughest_71 rfl rfl ?_
                  refine A_callV (n := 0) dX8_toughest_72 kvX8_lasts mlX8_276 rfl (az_rc_obj clX8 (hM 0 _ rfl)) (r_lasts l G (d + 27) sh (mkp u9 (xN σ)) la kp tr (xN σ) b9 hM hO hL (by omega) (by rw [haw]; exact nI_n1 (by omega))) (by omega) (Nat.le_refl _) (Nat.le_refl _) rfl (Nat.le_of_ble_eq_true rfl) (fun r S1 hp => ?_)
                  obtain ⟨rfl, rfl⟩ := hp
                  show AW l G mX8_toughest (d + 32) (az_F G Post) 0 0 75 [some (.ref 60), some (.int 1), some (.int (nI b9)), some (.int (nI i9))] [.int (nI (zhear (xN σ) b9)), .int (nI (zhear (xN σ) i9))] (sh, (mput (mkp (mkp u9 (xN σ)) (xN σ)) 60 (xN σ)), la)
                  refine A_icmp_ge (tgt := 82) dX8_toughest_75 rfl (fun h_13 => ?_) (fun h_13 => ?_)
                  · skip
                    refine A_iload_n dX8_toughest_82 rfl rfl ?_
                    refine A_istore_n (lo2 := [some (.ref 60), some (.int 1), some (.int (nI b9)), some (.int (nI i9))]) dX8_toughest_83 rfl (by decide) rfl ?_
                    refine A_iinc (v := nI (i9 + 1)) (lo2 := [some (.ref 60), some (.int 1), some (.int (nI b9)), some (.int (nI (i9 + 1)))]) dX8_toughest_84 rfl (nI_1 i9) (by decide) rfl ?_
                    refine A_goto (tgt := 35) dX8_toughest_87 rfl ?_
                    refine ih (i9 + 1) _ _ (by omega) ((hs9.kp _).kp _) (by omega) (zbst_s2 hb9 (fun q => absurd (zcmp_ff.mp q) (Int32.not_lt.mpr h_13)))
                  · skip
                    refine A_iload_n dX8_toughest_78 rfl rfl ?_
                    refine A_goto (tgt := 83) dX8_toughest_79 rfl ?_
                    refine A_istore_n (lo2 := [some (.ref 60), some (.int 1), some (.int (nI i9)), some (.int (nI i9))]) dX8_toughest_83 rfl (by decide) rfl ?_
                    refine A_iinc (v := nI (i9 + 1)) (lo2 := [some (.ref 60), some (.int 1), some (.int (nI i9)), some (.int (nI (i9 + 1)))]) dX8_toughest_84 rfl (nI_1 i9) (by decide) rfl ?_
                    refine A_goto (tgt := 35) dX8_toughest_87 rfl ?_
                    refine ih (i9 + 1) _ _ (by omega) ((hs9.kp _).kp _) (by omega) (zbst_s1 hb9 (zcmp_ff.mpr (Int32.not_le.mp h_13)))
              · skip
                exact absurd h_11 (by decide)
        exact loop (((cN (xN σ))) - (1)) 1 _ _ (by omega) (sC.rf sg) (by omega) rfl
      · skip
        refine A_aload_n dX8_toughest_24 rfl rfl ?_
        refine A_bipush (v := (-5)) dX8_toughest_25 (by decide) ?_
        refine A_callV (n := 0) dX8_toughest_27 kvX8_refuse mlX8_101 rfl (az_rc_obj clX8 (hM 0 _ rfl)) (c_X8_refuse l G (d + 31) sh (mput sg 60 (xN σ)) la kp tr (-5) 3 hM (by decide) (by decide)) (by omega) (Nat.le_refl _) (Nat.le_refl _) rfl (Nat.le_of_ble_eq_true rfl) (fun r S1 hp => ?_)
        obtain ⟨rfl, rfl⟩ := hp
        show AW l G mX8_toughest (d + 32) (az_F G Post) 0 0 30 [some (.ref 60), some (.int 1), none, none] [.int (-5)] (sh, (az_w (mput sg 60 (xN σ)) 76 (3 + 2) ((mput sg 60 (xN σ)) 76 (3 + 2) + 1)), la)
        have hq : (q_toughest σ (1)) = ((-5), (rfs σ 3)) := by
          unfold q_toughest
          rw [if_pos (by decide), if_pos (by rw [hO.1]; exact h_8)]
          first | done | rfl
        exact A_iret dX8_toughest_30 rfl (hP _ _ (RQ_i hq ((hR.fin0 (sC.rf sg)).ref (k := 3) (by decide))))
  · skip
    have h_1' := b2i_0.mp h_1
    refine A_aload_n dX8_toughest_10 rfl rfl ?_
    refine A_bipush (v := (-2)) dX8_toughest_11 (by decide) ?_
    refine A_callV (n := 0) dX8_toughest_13 kvX8_refuse mlX8_101 rfl (az_rc_obj clX8 (hM 0 _ rfl)) (c_X8_refuse l G (d + 31) sh (mput sg 60 (xN σ)) la kp tr (-2) 0 hM (by decide) (by decide)) (by omega) (Nat.le_refl _) (Nat.le_refl _) rfl (Nat.le_of_ble_eq_true rfl) (fun r S1 hp => ?_)
    obtain ⟨rfl, rfl⟩ := hp
    show AW l G mX8_toughest (d + 32) (az_F G Post) 0 0 16 [some (.ref 60), some (.int w), none, none] [.int (-2)] (sh, (az_w (mput sg 60 (xN σ)) 76 (0 + 2) ((mput sg 60 (xN σ)) 76 (0 + 2) + 1)), la)
    have hq : (q_toughest σ w) = ((-2), (rfs σ 0)) := by
      unfold q_toughest
      try simp only [h_1', and_true, true_and, and_false, false_and, and_self, or_true, true_or, or_false, false_or, not_true_eq_false, not_false_eq_true, if_true, if_false, ite_true, ite_false, decide_true, decide_false, reduceIte]
      first | done | rfl
    exact A_iret dX8_toughest_16 rfl (hP _ _ (RQ_i hq ((hR.fin0 (sC.rf sg)).ref (k := 0) (by decide))))
theorem zsub_pos {a b : Nat} (ha : a ≤ 61) (hb : b ≤ 61) : (0 < nI a - nI b ↔ nI b < nI a) ∧ (nI a - nI b < 0 ↔ nI a < nI b) := by
  have e : (nI a - nI b).toInt = (a : Int) - b := by
    rw [Int32.toInt_sub, nI_toInt (by omega), nI_toInt (by omega)]
    exact Int.bmod_eq_of_le (by omega) (by omega)
  rw [Int32.lt_iff_toInt_lt, Int32.lt_iff_toInt_lt, Int32.lt_iff_toInt_lt, Int32.lt_iff_toInt_lt, e, nI_toInt (by omega), nI_toInt (by omega), show (0 : Int32).toInt = 0 by decide]
  exact ⟨⟨fun h => by omega, fun h => by omega⟩, ⟨fun h => by omega, fun h => by omega⟩⟩
set_option maxHeartbeats 1000000 in
set_option maxRecDepth 100000 in
theorem y_out (l : Launch) (G : az_Gh) (d : Nat) (sh : List az_Sh) (sg : Nat → Nat → Int32) (la : Nat → Nat → Int64) (g : GGM) (σ : SGM) (kp tr : Option Nat) (w : Int32) (hM : az_at sh 60 (lyM 60 kp tr)) (hR : RX g sg la σ kp tr) (hW : WF σ)  : AM l G (d + 32) mX8_out [.ref 60, .int w] (sh, sg, la) 0 0 (RQ sh g kp tr (.int (q_out σ w).1) (q_out σ w).2) := by
  refine az_am knX8_out (Nat.le_of_ble_eq_true rfl) rfl (fun Post hP => ?_)
  show AW l G mX8_out (d + 32) (az_F G Post) 0 0 0 [some (.ref 60), some (.int w), none, none, none] [] (sh, sg, la)
  have hO := hW.1.1.1
  have hL := cW_lv hW.1
  have haw := hW.1.2.2.1
  have h8 := hO.2
  refine B_sg hR.z.symm ?_
  refine A_iload_n dX8_out_0 rfl rfl ?_
  refine A_i2l dX8_out_1 ?_
  refine A_lconst (v := 0) dX8_out_2 (by decide) ?_
  refine A_lconst (v := 1) dX8_out_3 (by decide) ?_
  refine A_callS (n := 0) dX8_out_4 ksX8_in mlX8_91 rfl (c_X8_inI l G (d + 31) sh (mput sg 60 (xN σ)) la w 1 1 (by decide)) (by omega) (Nat.le_refl _) (Nat.le_refl _) rfl (Nat.le_of_ble_eq_true rfl) (fun r S1 hp => ?_)
  obtain ⟨rfl, rfl⟩ := hp
  show AW l G mX8_out (d + 32) (az_F G Post) 0 0 7 [some (.ref 60), some (.int w), none, none, none] [.int (b2i (0 ≤ w ∧ w ≤ 1))] (sh, (mput sg 60 (xN σ)), la)
  refine A_if_ne (tgt := 17) dX8_out_7 rfl (fun h_1 => ?_) (fun h_1 => ?_)
  · skip
    have h_1' := b2i_n.mp h_1
    obtain ⟨w1, hw1, rfl⟩ := nI_ex (m := 1) h_1'
    have hc_w1 : (nI w1).toNatClampNeg = w1 := nI_clamp (by omega)
    rcases (by omega : w1 = 0 ∨ w1 = 1) with rfl | rfl
    · skip
      show AW l G mX8_out (d + 32) (az_F G Post) 0 0 17 [some (.ref 60), some (.int 0), none, none, none] [] (sh, (mput sg 60 (xN σ)), la)
      refine A_aload_n dX8_out_17 rfl rfl ?_
      refine B_getV (nI (cN (xN σ))) dX8_out_18 flX8_88 (hM 0 _ rfl) rfl ((mr_14 _ _ _).trans hO.1) ?_
      refine A_if_ne (tgt := 31) dX8_out_21 rfl (fun h_2 => ?_) (fun h_2 => ?_)
      · skip
        refine A_iconst (v := 0) dX8_out_31 (by decide) ?_
        refine A_istore_n (lo2 := [some (.ref 60), some (.int 0), some (.int 0), none, none]) dX8_out_32 rfl (by decide) rfl ?_
        refine A_iconst (v := 1) dX8_out_33 (by decide) ?_
        refine A_istore_n (lo2 := [some (.ref 60), some (.int 0), some (.int 0), some (.int 1), none]) dX8_out_34 rfl (by decide) rfl ?_
        have hn1 : 1 ≤ (cN (xN σ)) := by
          rcases Nat.eq_zero_or_pos (cN (xN σ)) with q | q
          · exact absurd (by rw [q]; rfl) h_2
          · exact q
        show AW l G mX8_out (d + 32) (az_F G Post) 0 0 35 [some (.ref 60), some (.int 0), some (.int (nI 0)), some (.int (nI 1)), none] [] (sh, (mput sg 60 (xN σ)), la)
        have loop : ∀ (q_i9 i9 : Nat) (u9 : Nat → Nat → Int32) (b9 : Nat), i9 + q_i9 = (cN (xN σ)) → sC sg u9 → b9 < i9 → zbst (zfW (xN σ)) true i9 = some b9 → AW l G mX8_out (d + 32) (az_F G Post) 0 0 35 [some (.ref 60), some (.int 0), some (.int (nI b9)), some (.int (nI i9)), none] [] (sh, (mput u9 60 (xN σ)), la) := by
          intro q_i9
          induction q_i9 with
          | zero =>
            intro i9 u9 b9 hi_i9 hs9 hlt9 hb9 
            have hN_i9 : i9 = (cN (xN σ)) := by omega
            subst i9
            refine A_iload_n dX8_out_35 rfl rfl ?_
            refine A_aload_n dX8_out_36 rfl rfl ?_
            refine B_getV (nI (cN (xN σ))) dX8_out_37 flX8_88 (hM 0 _ rfl) rfl ((mr_14 _ _ _).trans hO.1) ?_
            refine A_icmp_ge (tgt := 87) dX8_out_40 rfl (fun h_3 => ?_) (fun h_3 => ?_)
            · skip
              refine A_iload_n dX8_out_87 rfl rfl ?_
              have hq : (q_out σ (0)) = (nI b9, σ) := by
                unfold q_out
                rw [if_pos (by decide), if_neg (by rw [hO.1]; exact h_2), show (decide ((0 : Int32) = 0)) = true by decide, hb9]
                first | done | rfl
              exact A_iret dX8_out_88 rfl (hP _ _ (RQ_i hq (hR.fin0 hs9)))
            · skip
              exact absurd (Int32.le_refl _) h_3
          | succ q_i9 ih =>
            intro i9 u9 b9 hi_i9 hs9 hlt9 hb9 
            refine A_iload_n dX8_out_35 rfl rfl ?_
            refine A_aload_n dX8_out_36 rfl rfl ?_
            refine B_getV (nI (cN (xN σ))) dX8_out_37 flX8_88 (hM 0 _ rfl) rfl ((mr_14 _ _ _).trans hO.1) ?_
            refine A_icmp_ge (tgt := 87) dX8_out_40 rfl (fun h_4 => ?_) (fun h_4 => ?_)
            · skip
              exact absurd h_4 (nI_ge (by omega) (by omega))
            · skip
              refine A_aload_n dX8_out_43 rfl rfl ?_
              refine A_iload_n dX8_out_44 rfl rfl ?_
              refine A_callV (n := 0) dX8_out_45 kvX8_whenWithout mlX8_303 rfl (az_rc_obj clX8 (hM 0 _ rfl)) (r_whenWithout l G (d + 26) sh u9 la kp tr (xN σ) i9 hM hW.1 (by omega)) (by omega) (Nat.le_refl _) (Nat.le_refl _) rfl (Nat.le_of_ble_eq_true rfl) (fun r S1 hp => ?_)
              obtain ⟨rfl, rfl⟩ := hp
              show AW l G mX8_out (d + 32) (az_F G Post) 0 0 48 [some (.ref 60), some (.int 0), some (.int (nI b9)), some (.int (nI i9)), none] [.int (nI (zwhen (zleave (xN σ) i9) 60))] (sh, (mput (az_w (mkp u9 (xN σ)) 60 34 (mwho (zleave (xN σ) i9))) 60 (xN σ)), la)
              refine A_aload_n dX8_out_48 rfl rfl ?_
              refine A_iload_n dX8_out_49 rfl rfl ?_
              refine A_callV (n := 0) dX8_out_50 kvX8_whenWithout mlX8_303 rfl (az_rc_obj clX8 (hM 0 _ rfl)) (r_whenWithout l G (d + 26) sh (az_w (mkp u9 (xN σ)) 60 34 (mwho (zleave (xN σ) i9))) la kp tr (xN σ) b9 hM hW.1 (by omega)) (by omega) (Nat.le_refl _) (Nat.le_refl _) rfl (Nat.le_of_ble_eq_true rfl) (fun r S1 hp => ?_)
              obtain ⟨rfl, rfl⟩ := hp
              show AW l G mX8_out (d + 32) (az_F G Post) 0 0 53 [some (.ref 60), some (.int 0), some (.int (nI b9)), some (.int (nI i9)), none] [.int (nI (zwhen (zleave (xN σ) b9) 60)), .int (nI (zwhen (zleave (xN σ) i9) 60))] (sh, (mput (az_w (mkp (az_w (mkp u9 (xN σ)) 60 34 (mwho (zleave (xN σ) i9))) (xN σ)) 60 34 (mwho (zleave (xN σ) b9))) 60 (xN σ)), la)
              refine A_isub dX8_out_53 ?_
              refine A_istore (lo2 := [some (.ref 60), some (.int 0), some (.int (nI b9)), some (.int (nI i9)), some (.int (nI (zwhen (zleave (xN σ) i9) 60) - nI (zwhen (zleave (xN σ) b9) 60)))]) dX8_out_54 (by decide) rfl ?_
              refine A_iload_n dX8_out_56 rfl rfl ?_
              refine A_if_ne (tgt := 65) dX8_out_57 rfl (fun h_5 => ?_) (fun h_5 => ?_)
              · skip
                exact absurd rfl h_5
              · skip
                refine A_iload dX8_out_60 rfl ?_
                refine A_if_gt (tgt := 75) dX8_out_62 rfl (fun h_6 => ?_) (fun h_6 => ?_)
                · skip
                  refine A_iload_n dX8_out_75 rfl rfl ?_
                  refine A_goto (tgt := 80) dX8_out_76 rfl ?_
                  refine A_istore_n (lo2 := [some (.ref 60), some (.int 0), some (.int (nI i9)), some (.int (nI i9)), some (.int (nI (zwhen (zleave (xN σ) i9) 60) - nI (zwhen (zleave (xN σ) b9) 60)))]) dX8_out_80 rfl (by decide) rfl ?_
                  refine A_iinc (v := nI (i9 + 1)) (lo2 := [some (.ref 60), some (.int 0), some (.int (nI i9)), some (.int (nI (i9 + 1))), some (.int (nI (zwhen (zleave (xN σ) i9) 60) - nI (zwhen (zleave (xN σ) b9) 60)))]) dX8_out_81 rfl (nI_1 i9) (by decide) rfl ?_
                  refine A_goto (tgt := 35) dX8_out_84 rfl ?_
                  refine A_forget (lo2 := [some (.ref 60), some (.int 0), some (.int (nI i9)), some (.int (nI (i9 + 1))), none]) ⟨rfl, rfl, rfl, rfl, trivial⟩ ?_
                  refine ih (i9 + 1) _ _ (by omega) ((((hs9.kp _).w (j := 34) rfl _).kp _).w (j := 34) rfl _) (by omega) (zbst_s1 hb9 (zcmp_tt.mpr ((zsub_pos (zwhen_le (zleave (xN σ) i9) 60) (zwhen_le (zleave (xN σ) b9) 60)).1.mp h_6)))
                · skip
                  refine A_iload_n dX8_out_65 rfl rfl ?_
                  refine A_iconst (v := 1) dX8_out_66 (by decide) ?_
                  refine A_icmp_ne (tgt := 79) dX8_out_67 rfl (fun h_7 => ?_) (fun h_7 => ?_)
                  · skip
                    refine A_iload_n dX8_out_79 rfl rfl ?_
                    refine A_istore_n (lo2 := [some (.ref 60), some (.int 0), some (.int (nI b9)), some (.int (nI i9)), some (.int (nI (zwhen (zleave (xN σ) i9) 60) - nI (zwhen (zleave (xN σ) b9) 60)))]) dX8_out_80 rfl (by decide) rfl ?_
                    refine A_iinc (v := nI (i9 + 1)) (lo2 := [some (.ref 60), some (.int 0), some (.int (nI b9)), some (.int (nI (i9 + 1))), some (.int (nI (zwhen (zleave (xN σ) i9) 60) - nI (zwhen (zleave (xN σ) b9) 60)))]) dX8_out_81 rfl (nI_1 i9) (by decide) rfl ?_
                    refine A_goto (tgt := 35) dX8_out_84 rfl ?_
                    refine A_forget (lo2 := [some (.ref 60), some (.int 0), some (.int (nI b9)), some (.int (nI (i9 + 1))), none]) ⟨rfl, rfl, rfl, rfl, trivial⟩ ?_
                    refine ih (i9 + 1) _ _ (by omega) ((((hs9.kp _).w (j := 34) rfl _).kp _).w (j := 34) rfl _) (by omega) (zbst_s2 hb9 (fun q => h_6 ((zsub_pos (zwhen_le (zleave (xN σ) i9) 60) (zwhen_le (zleave (xN σ) b9) 60)).1.mpr (zcmp_tt.mp q))))
                  · skip
                    exact absurd h_7 (by decide)
        exact loop (((cN (xN σ))) - (1)) 1 _ _ (by omega) (sC.rf sg) (by omega) rfl
      · skip
        refine A_aload_n dX8_out_24 rfl rfl ?_
        refine A_bipush (v := (-5)) dX8_out_25 (by decide) ?_
        refine A_callV (n := 0) dX8_out_27 kvX8_refuse mlX8_101 rfl (az_rc_obj clX8 (hM 0 _ rfl)) (c_X8_refuse l G (d + 31) sh (mput sg 60 (xN σ)) la kp tr (-5) 3 hM (by decide) (by decide)) (by omega) (Nat.le_refl _) (Nat.le_refl _) rfl (Nat.le_of_ble_eq_true rfl) (fun r S1 hp => ?_)
        obtain ⟨rfl, rfl⟩ := hp
        show AW l G mX8_out (d + 32) (az_F G Post) 0 0 30 [some (.ref 60), some (.int 0), none, none, none] [.int (-5)] (sh, (az_w (mput sg 60 (xN σ)) 76 (3 + 2) ((mput sg 60 (xN σ)) 76 (3 + 2) + 1)), la)
        have hq : (q_out σ (0)) = ((-5), (rfs σ 3)) := by
          unfold q_out
          rw [if_pos (by decide), if_pos (by rw [hO.1]; exact h_2)]
          first | done | rfl
        exact A_iret dX8_out_30 rfl (hP _ _ (RQ_i hq ((hR.fin0 (sC.rf sg)).ref (k := 3) (by decide))))
    · skip
      show AW l G mX8_out (d + 32) (az_F G Post) 0 0 17 [some (.ref 60), some (.int 1), none, none, none] [] (sh, (mput sg 60 (xN σ)), la)
      refine A_aload_n dX8_out_17 rfl rfl ?_
      refine B_getV (nI (cN (xN σ))) dX8_out_18 flX8_88 (hM 0 _ rfl) rfl ((mr_14 _ _ _).trans hO.1) ?_
      refine A_if_ne (tgt := 31) dX8_out_21 rfl (fun h_8 => ?_) (fun h_8 => ?_)
      · skip
        refine A_iconst (v := 0) dX8_out_31 (by decide) ?_
        refine A_istore_n (lo2 := [some (.ref 60), some (.int 1), some (.int 0), none, none]) dX8_out_32 rfl (by decide) rfl ?_
        refine A_iconst (v := 1) dX8_out_33 (by decide) ?_
        refine A_istore_n (lo2 := [some (.ref 60), some (.int 1), some (.int 0), some (.int 1), none]) dX8_out_34 rfl (by decide) rfl ?_
        have hn1 : 1 ≤ (cN (xN σ)) := by
          rcases Nat.eq_zero_or_pos (cN (xN σ)) with q | q
          · exact absurd (by rw [q]; rfl) h_8
          · exact q
        show AW l G mX8_out (d + 32) (az_F G Post) 0 0 35 [some (.ref 60), some (.int 1), some (.int (nI 0)), some (.int (nI 1)), none] [] (sh, (mput sg 60 (xN σ)), la)
        have loop : ∀ (q_i9 i9 : Nat) (u9 : Nat → Nat → Int32) (b9 : Nat), i9 + q_i9 = (cN (xN σ)) → sC sg u9 → b9 < i9 → zbst (zfW (xN σ)) false i9 = some b9 → AW l G mX8_out (d + 32) (az_F G Post) 0 0 35 [some (.ref 60), some (.int 1), some (.int (nI b9)), some (.int (nI i9)), none] [] (sh, (mput u9 60 (xN σ)), la) := by
          intro q_i9
          induction q_i9 with
          | zero =>
            intro i9 u9 b9 hi_i9 hs9 hlt9 hb9 
            have hN_i9 : i9 = (cN (xN σ)) := by omega
            subst i9
            refine A_iload_n dX8_out_35 rfl rfl ?_
            refine A_aload_n dX8_out_36 rfl rfl ?_
            refine B_getV (nI (cN (xN σ))) dX8_out_37 flX8_88 (hM 0 _ rfl) rfl ((mr_14 _ _ _).trans hO.1) ?_
            refine A_icmp_ge (tgt := 87) dX8_out_40 rfl (fun h_9 => ?_) (fun h_9 => ?_)
            · skip
              refine A_iload_n dX8_out_87 rfl rfl ?_
              have hq : (q_out σ (1)) = (nI b9, σ) := by
                unfold q_out
                rw [if_pos (by decide), if_neg (by rw [hO.1]; exact h_8), show (decide ((1 : Int32) = 0)) = false by decide, hb9]
                first | done | rfl
              exact A_iret dX8_out_88 rfl (hP _ _ (RQ_i hq (hR.fin0 hs9)))
            · skip
              exact absurd (Int32.le_refl _) h_9
          | succ q_i9 ih =>
            intro i9 u9 b9 hi_i9 hs9 hlt9 hb9 
            refine A_iload_n dX8_out_35 rfl rfl ?_
            refine A_aload_n dX8_out_36 rfl rfl ?_
            refine B_getV (nI (cN (xN σ))) dX8_out_37 flX8_88 (hM 0 _ rfl) rfl ((mr_14 _ _ _).trans hO.1) ?_
            refine A_icmp_ge (tgt := 87) dX8_out_40 rfl (fun h_10 => ?_) (fun h_10 => ?_)
            · skip
              exact absurd h_10 (nI_ge (by omega) (by omega))
            · skip
              refine A_aload_n dX8_out_43 rfl rfl ?_
              refine A_iload_n dX8_out_44 rfl rfl ?_
              refine A_callV (n := 0) dX8_out_45 kvX8_whenWithout mlX8_303 rfl (az_rc_obj clX8 (hM 0 _ rfl)) (r_whenWithout l G (d + 26) sh u9 la kp tr (xN σ) i9 hM hW.1 (by omega)) (by omega) (Nat.le_refl _) (Nat.le_refl _) rfl (Nat.le_of_ble_eq_true rfl) (fun r S1 hp => ?_)
              obtain ⟨rfl, rfl⟩ := hp
              show AW l G mX8_out (d + 32) (az_F G Post) 0 0 48 [some (.ref 60), some (.int 1), some (.int (nI b9)), some (.int (nI i9)), none] [.int (nI (zwhen (zleave (xN σ) i9) 60))] (sh, (mput (az_w (mkp u9 (xN σ)) 60 34 (mwho (zleave (xN σ) i9))) 60 (xN σ)), la)
              refine A_aload_n dX8_out_48 rfl rfl ?_
              refine A_iload_n dX8_out_49 rfl rfl ?_
              refine A_callV (n := 0) dX8_out_50 kvX8_whenWithout mlX8_303 rfl (az_rc_obj clX8 (hM 0 _ rfl)) (r_whenWithout l G (d + 26) sh (az_w (mkp u9 (xN σ)) 60 34 (mwho (zleave (xN σ) i9))) la kp tr (xN σ) b9 hM hW.1 (by omega)) (by omega) (Nat.le_refl _) (Nat.le_refl _) rfl (Nat.le_of_ble_eq_true rfl) (fun r S1 hp => ?_)
              obtain ⟨rfl, rfl⟩ := hp
              show AW l G mX8_out (d + 32) (az_F G Post) 0 0 53 [some (.ref 60), some (.int 1), some (.int (nI b9)), some (.int (nI i9)), none] [.int (nI (zwhen (zleave (xN σ) b9) 60)), .int (nI (zwhen (zleave (xN σ) i9) 60))] (sh, (mput (az_w (mkp (az_w (mkp u9 (xN σ)) 60 34 (mwho (zleave (xN σ) i9))) (xN σ)) 60 34 (mwho (zleave (xN σ) b9))) 60 (xN σ)), la)
              refine A_isub dX8_out_53 ?_
              refine A_istore (lo2 := [some (.ref 60), some (.int 1), some (.int (nI b9)), some (.int (nI i9)), some (.int (nI (zwhen (zleave (xN σ) i9) 60) - nI (zwhen (zleave (xN σ) b9) 60)))]) dX8_out_54 (by decide) rfl ?_
              refine A_iload_n dX8_out_56 rfl rfl ?_
              refine A_if_ne (tgt := 65) dX8_out_57 rfl (fun h_11 => ?_) (fun h_11 => ?_)
              · skip
                refine A_iload_n dX8_out_65 rfl rfl ?_
                refine A_iconst (v := 1) dX8_out_66 (by decide) ?_
                refine A_icmp_ne (tgt := 79) dX8_out_67 rfl (fun h_12 => ?_) (fun h_12 => ?_)
                · skip
                  exact absurd rfl h_12
                · skip
                  refine A_iload dX8_out_70 rfl ?_
                  refine A_if_ge (tgt := 79) dX8_out_72 rfl (fun h_13 => ?_) (fun h_13 => ?_)
                  · skip
                    refine A_iload_n dX8_out_79 rfl rfl ?_
                    refine A_istore_n (lo2 := [some (.ref 60), some (.int 1), some (.int (nI b9)), some (.int (nI i9)), some (.int (nI (zwhen (zleave (xN σ) i9) 60) - nI (zwhen (zleave (xN σ) b9) 60)))]) dX8_out_80 rfl (by decide) rfl ?_
                    refine A_iinc (v := nI (i9 + 1)) (lo2 := [some (.ref 60), some (.int 1), some (.int (nI b9)), some (.int (nI (i9 + 1))), some (.int (nI (zwhen (zleave (xN σ) i9) 60) - nI (zwhen (zleave (xN σ) b9) 60)))]) dX8_out_81 rfl (nI_1 i9) (by decide) rfl ?_
                    refine A_goto (tgt := 35) dX8_out_84 rfl ?_
                    refine A_forget (lo2 := [some (.ref 60), some (.int 1), some (.int (nI b9)), some (.int (nI (i9 + 1))), none]) ⟨rfl, rfl, rfl, rfl, trivial⟩ ?_
                    refine ih (i9 + 1) _ _ (by omega) ((((hs9.kp _).w (j := 34) rfl _).kp _).w (j := 34) rfl _) (by omega) (zbst_s2 hb9 (fun q => Int32.not_lt.mpr h_13 ((zsub_pos (zwhen_le (zleave (xN σ) i9) 60) (zwhen_le (zleave (xN σ) b9) 60)).2.mpr (zcmp_ff.mp q))))
                  · skip
                    refine A_iload_n dX8_out_75 rfl rfl ?_
                    refine A_goto (tgt := 80) dX8_out_76 rfl ?_
                    refine A_istore_n (lo2 := [some (.ref 60), some (.int 1), some (.int (nI i9)), some (.int (nI i9)), some (.int (nI (zwhen (zleave (xN σ) i9) 60) - nI (zwhen (zleave (xN σ) b9) 60)))]) dX8_out_80 rfl (by decide) rfl ?_
                    refine A_iinc (v := nI (i9 + 1)) (lo2 := [some (.ref 60), some (.int 1), some (.int (nI i9)), some (.int (nI (i9 + 1))), some (.int (nI (zwhen (zleave (xN σ) i9) 60) - nI (zwhen (zleave (xN σ) b9) 60)))]) dX8_out_81 rfl (nI_1 i9) (by decide) rfl ?_
                    refine A_goto (tgt := 35) dX8_out_84 rfl ?_
                    refine A_forget (lo2 := [some (.ref 60), some (.int 1), some (.int (nI i9)), some (.int (nI (i9 + 1))), none]) ⟨rfl, rfl, rfl, rfl, trivial⟩ ?_
                    refine ih (i9 + 1) _ _ (by omega) ((((hs9.kp _).w (j := 34) rfl _).kp _).w (j := 34) rfl _) (by omega) (zbst_s1 hb9 (zcmp_ff.mpr ((zsub_pos (zwhen_le (zleave (xN σ) i9) 60) (zwhen_le (zleave (xN σ) b9) 60)).2.mp (Int32.not_le.mp h_13))))
              · skip
                exact absurd h_11 (by decide)
        exact loop (((cN (xN σ))) - (1)) 1 _ _ (by omega) (sC.rf sg) (by omega) rfl
      · skip
        refine A_aload_n dX8_out_24 rfl rfl ?_
        refine A_bipush (v := (-5)) dX8_out_25 (by decide) ?_
        refine A_callV (n := 0) dX8_out_27 kvX8_refuse mlX8_101 rfl (az_rc_obj clX8 (hM 0 _ rfl)) (c_X8_refuse l G (d + 31) sh (mput sg 60 (xN σ)) la kp tr (-5) 3 hM (by decide) (by decide)) (by omega) (Nat.le_refl _) (Nat.le_refl _) rfl (Nat.le_of_ble_eq_true rfl) (fun r S1 hp => ?_)
        obtain ⟨rfl, rfl⟩ := hp
        show AW l G mX8_out (d + 32) (az_F G Post) 0 0 30 [some (.ref 60), some (.int 1), none, none, none] [.int (-5)] (sh, (az_w (mput sg 60 (xN σ)) 76 (3 + 2) ((mput sg 60 (xN σ)) 76 (3 + 2) + 1)), la)
        have hq : (q_out σ (1)) = ((-5), (rfs σ 3)) := by
          unfold q_out
          rw [if_pos (by decide), if_pos (by rw [hO.1]; exact h_8)]
          first | done | rfl
        exact A_iret dX8_out_30 rfl (hP _ _ (RQ_i hq ((hR.fin0 (sC.rf sg)).ref (k := 3) (by decide))))
  · skip
    have h_1' := b2i_0.mp h_1
    refine A_aload_n dX8_out_10 rfl rfl ?_
    refine A_bipush (v := (-2)) dX8_out_11 (by decide) ?_
    refine A_callV (n := 0) dX8_out_13 kvX8_refuse mlX8_101 rfl (az_rc_obj clX8 (hM 0 _ rfl)) (c_X8_refuse l G (d + 31) sh (mput sg 60 (xN σ)) la kp tr (-2) 0 hM (by decide) (by decide)) (by omega) (Nat.le_refl _) (Nat.le_refl _) rfl (Nat.le_of_ble_eq_true rfl) (fun r S1 hp => ?_)
    obtain ⟨rfl, rfl⟩ := hp
    show AW l G mX8_out (d + 32) (az_F G Post) 0 0 16 [some (.ref 60), some (.int w), none, none, none] [.int (-2)] (sh, (az_w (mput sg 60 (xN σ)) 76 (0 + 2) ((mput sg 60 (xN σ)) 76 (0 + 2) + 1)), la)
    have hq : (q_out σ w) = ((-2), (rfs σ 0)) := by
      unfold q_out
      try simp only [h_1', and_true, true_and, and_false, false_and, and_self, or_true, true_or, or_false, false_or, not_true_eq_false, not_false_eq_true, if_true, if_false, ite_true, ite_false, decide_true, decide_false, reduceIte]
      first | done | rfl
    exact A_iret dX8_out_16 rfl (hP _ _ (RQ_i hq ((hR.fin0 (sC.rf sg)).ref (k := 0) (by decide))))
