theorem in_12 {w : Int32} : ((12 : Int64) ≤ w.toInt64 ∧ w.toInt64 ≤ 16) ↔ (0 ≤ w - 12 ∧ w - 12 ≤ 4) := by
  have q := in_i (x := w) (a := 12) (b := 16)
  rw [show (12 : Int32).toInt64 = 12 from by decide, show (16 : Int32).toInt64 = 16 from by decide] at q
  rw [q, Int32.le_iff_toInt_le, Int32.le_iff_toInt_le, Int32.le_iff_toInt_le, Int32.le_iff_toInt_le, Int32.toInt_sub]
  rw [show (12 : Int32).toInt = 12 by decide, show (16 : Int32).toInt = 16 by decide, show (0 : Int32).toInt = 0 by decide, show (4 : Int32).toInt = 4 by decide]
  have h1 := Int32.le_toInt w
  have h2 := Int32.toInt_lt w
  constructor
  · intro h
    rw [Int.bmod_eq_of_le (by omega) (by omega)]
    omega
  · intro h
    by_cases z : -2147483648 + 12 ≤ w.toInt
    · rw [Int.bmod_eq_of_le (by omega) (by omega)] at h
      omega
    · exfalso
      have e : (w.toInt - 12).bmod (2 ^ 32) = w.toInt - 12 + 4294967296 := by
        rw [show (2 : Nat) ^ 32 = 4294967296 from rfl, Int.bmod_def]
        omega
      rw [e] at h
      omega
theorem st_i {w : Int32} {k : Nat} (hk : k ≤ 4) (h : w - 12 = nI k) : w - 10 = nI (k + 2) := by
  have e : w = nI (k + 12) := by
    rw [← Int32.sub_add_cancel w 12, h]
    exact nI_add k 12
  rw [e]
  show nI (k + 12) - nI 10 = _
  rw [nI_sub (by omega) (by omega), show k + 12 - 10 = k + 2 by omega]
set_option maxHeartbeats 1000000 in
set_option maxRecDepth 100000 in
theorem y_status (l : Launch) (G : az_Gh) (d : Nat) (sh : List az_Sh) (sg : Nat → Nat → Int32) (la : Nat → Nat → Int64) (g : GGM) (σ : SGM) (kp tr : Option Nat) (w : Int32) (hM : az_at sh 60 (lyM 60 kp tr)) (hR : RX g sg la σ kp tr) (hW : WF σ)  : AM l G (d + 32) mX8_status [.ref 60, .int w] (sh, sg, la) 0 0 (RQ sh g kp tr (.int (q_status σ w)) σ) := by
  refine az_am knX8_status (Nat.le_of_ble_eq_true rfl) rfl (fun Post hP => ?_)
  show AW l G mX8_status (d + 32) (az_F G Post) 0 0 0 [some (.ref 60), some (.int w), none, none] [] (sh, sg, la)
  have hO := hW.1.1.1
  have hL := cW_lv hW.1
  have haw := hW.1.2.2.1
  have h8 := hO.2
  refine B_sg hR.z.symm ?_
  refine A_iconst (v := 0) dX8_status_0 (by decide) ?_
  refine A_istore_n (lo2 := [some (.ref 60), some (.int w), some (.int 0), none]) dX8_status_1 rfl (by decide) rfl ?_
  refine A_iload_n dX8_status_2 rfl rfl ?_
  rcases az_swd w 9 with ⟨k7, hk7, ek7⟩ | hw
  · skip
    rcases (by omega : k7 = 0 ∨ k7 = 1 ∨ k7 = 2 ∨ k7 = 3 ∨ k7 = 4 ∨ k7 = 5 ∨ k7 = 6 ∨ k7 = 7 ∨ k7 = 8 ∨ k7 = 9) with rfl | rfl | rfl | rfl | rfl | rfl | rfl | rfl | rfl | rfl
    · skip
      subst ek7
      refine A_tableIn (off := 53) (tgt := 56) dX8_status_3 (by decide) (by decide) rfl rfl ?_
      refine A_aload_n dX8_status_56 rfl rfl ?_
      refine B_getV (cPp (xN σ)) dX8_status_57 flX8_88 (hM 0 _ rfl) rfl (mr_14 _ _ _) ?_
      have hq : (q_status σ (nI 0)) = cPp (xN σ) := by
        unfold q_status
        rw [if_pos (by decide)]
      exact A_iret dX8_status_60 rfl (hP _ _ (RQ_0 hq (hR.fin0 (sC.rf sg))))
    · skip
      subst ek7
      refine A_tableIn (off := 58) (tgt := 61) dX8_status_3 (by decide) (by decide) rfl rfl ?_
      refine A_aload_n dX8_status_61 rfl rfl ?_
      refine B_getV (cAir (xN σ)) dX8_status_62 flX8_37 (hM 0 _ rfl) rfl (mr_9 _ _ _) ?_
      have hq : (q_status σ (nI 1)) = cAir (xN σ) := by
        unfold q_status
        rw [if_neg (by decide), if_pos (by decide)]
      exact A_iret dX8_status_65 rfl (hP _ _ (RQ_0 hq (hR.fin0 (sC.rf sg))))
    · skip
      subst ek7
      refine A_tableIn (off := 63) (tgt := 66) dX8_status_3 (by decide) (by decide) rfl rfl ?_
      refine A_aload_n dX8_status_66 rfl rfl ?_
      refine B_getV (cFall (xN σ)) dX8_status_67 flX8_41 (hM 0 _ rfl) rfl (mr_10 _ _ _) ?_
      have hq : (q_status σ (nI 2)) = cFall (xN σ) := by
        unfold q_status
        rw [if_neg (by decide), if_neg (by decide), if_pos (by decide)]
      exact A_iret dX8_status_70 rfl (hP _ _ (RQ_0 hq (hR.fin0 (sC.rf sg))))
    · skip
      subst ek7
      refine A_tableIn (off := 68) (tgt := 71) dX8_status_3 (by decide) (by decide) rfl rfl ?_
      refine A_aload_n dX8_status_71 rfl rfl ?_
      refine B_getV (cDay (xN σ)) dX8_status_72 flX8_139 (hM 0 _ rfl) rfl (mr_11 _ _ _) ?_
      have hq : (q_status σ (nI 3)) = cDay (xN σ) := by
        unfold q_status
        rw [if_neg (by decide), if_neg (by decide), if_neg (by decide), if_pos (by decide)]
      exact A_iret dX8_status_75 rfl (hP _ _ (RQ_0 hq (hR.fin0 (sC.rf sg))))
    · skip
      subst ek7
      refine A_tableIn (off := 73) (tgt := 76) dX8_status_3 (by decide) (by decide) rfl rfl ?_
      refine A_aload_n dX8_status_76 rfl rfl ?_
      refine B_getV (cCoal (xN σ)) dX8_status_77 flX8_47 (hM 0 _ rfl) rfl (mr_13 _ _ _) ?_
      have hq : (q_status σ (nI 4)) = cCoal (xN σ) := by
        unfold q_status
        rw [if_neg (by decide), if_neg (by decide), if_neg (by decide), if_neg (by decide), if_pos (by decide)]
      exact A_iret dX8_status_80 rfl (hP _ _ (RQ_0 hq (hR.fin0 (sC.rf sg))))
    · skip
      subst ek7
      refine A_tableIn (off := 78) (tgt := 81) dX8_status_3 (by decide) (by decide) rfl rfl ?_
      refine A_aload_n dX8_status_81 rfl rfl ?_
      refine B_getV (cWin (xN σ)) dX8_status_82 flX8_44 (hM 0 _ rfl) rfl (mr_12 _ _ _) ?_
      have hq : (q_status σ (nI 5)) = cWin (xN σ) := by
        unfold q_status
        rw [if_neg (by decide), if_neg (by decide), if_neg (by decide), if_neg (by decide), if_neg (by decide), if_pos (by decide)]
      exact A_iret dX8_status_85 rfl (hP _ _ (RQ_0 hq (hR.fin0 (sC.rf sg))))
    · skip
      subst ek7
      refine A_tableIn (off := 83) (tgt := 86) dX8_status_3 (by decide) (by decide) rfl rfl ?_
      refine A_iconst (v := 0) dX8_status_86 (by decide) ?_
      refine A_istore_n (lo2 := [some (.ref 60), some (.int (nI 6)), some (.int 0), some (.int 0)]) dX8_status_87 rfl (by decide) rfl ?_
      have loop : ∀ (q_i9 i9 : Nat) (x2 : Int32), i9 + q_i9 = (cN (xN σ)) → x2 = l_sum (cFe (xN σ)) i9 → AW l G mX8_status (d + 32) (az_F G Post) 0 0 88 [some (.ref 60), some (.int (nI 6)), some (.int x2), some (.int (nI i9))] [] (sh, (mput sg 60 (xN σ)), la) := by
        intro q_i9
        induction q_i9 with
        | zero =>
          intro i9 x2 hi_i9  e_x2
          have hN_i9 : i9 = (cN (xN σ)) := by omega
          subst i9
          refine A_iload_n dX8_status_88 rfl rfl ?_
          refine A_aload_n dX8_status_89 rfl rfl ?_
          refine B_getV (nI (cN (xN σ))) dX8_status_90 flX8_88 (hM 0 _ rfl) rfl ((mr_14 _ _ _).trans hO.1) ?_
          refine A_icmp_ge (tgt := 111) dX8_status_93 rfl (fun h_1 => ?_) (fun h_1 => ?_)
          · skip
            refine A_iload_n dX8_status_111 rfl rfl ?_
            have hq : (q_status σ (nI 6)) = x2 := by
              unfold q_status
              rw [if_neg (by decide), if_neg (by decide), if_neg (by decide), if_neg (by decide), if_neg (by decide), if_neg (by decide), if_pos (by decide), e_x2]
            exact A_iret dX8_status_112 rfl (hP _ _ (RQ_0 hq (hR.fin0 (sC.rf sg))))
          · skip
            exact absurd (Int32.le_refl _) h_1
        | succ q_i9 ih =>
          intro i9 x2 hi_i9  e_x2
          refine A_iload_n dX8_status_88 rfl rfl ?_
          refine A_aload_n dX8_status_89 rfl rfl ?_
          refine B_getV (nI (cN (xN σ))) dX8_status_90 flX8_88 (hM 0 _ rfl) rfl ((mr_14 _ _ _).trans hO.1) ?_
          refine A_icmp_ge (tgt := 111) dX8_status_93 rfl (fun h_2 => ?_) (fun h_2 => ?_)
          · skip
            exact absurd h_2 (nI_ge (by omega) (by omega))
          · skip
            refine A_iload_n dX8_status_96 rfl rfl ?_
            refine A_aload_n dX8_status_97 rfl rfl ?_
            refine B_getR (r := 81) dX8_status_98 flX8_62 (hM 0 _ rfl) rfl ?_
            refine A_iload_n dX8_status_101 rfl rfl ?_
            refine B_ialdV (i := i9) (cFe (xN σ) i9) dX8_status_102 (hM 21 _ rfl) (by decide) (rfl) (by omega) (me_21 _ _ _ _) ?_
            refine A_iadd dX8_status_103 ?_
            refine A_istore_n (lo2 := [some (.ref 60), some (.int (nI 6)), some (.int (x2 + cFe (xN σ) i9)), some (.int (nI i9))]) dX8_status_104 rfl (by decide) rfl ?_
            refine A_iinc (v := nI (i9 + 1)) (lo2 := [some (.ref 60), some (.int (nI 6)), some (.int (x2 + cFe (xN σ) i9)), some (.int (nI (i9 + 1)))]) dX8_status_105 rfl (nI_1 i9) (by decide) rfl ?_
            refine A_goto (tgt := 88) dX8_status_108 rfl ?_
            refine ih (i9 + 1) _ (by omega) ?_
            · skip
              rw [e_x2]; rfl
      exact loop ((cN (xN σ))) 0 _ (by omega) (rfl)
    · skip
      subst ek7
      refine A_tableIn (off := 110) (tgt := 113) dX8_status_3 (by decide) (by decide) rfl rfl ?_
      refine A_aload_n dX8_status_113 rfl rfl ?_
      refine B_getV (nI (xTn σ)) dX8_status_114 flX8_144 (hM 0 _ rfl) rfl ((mput_f rfl).trans hR.2.1.1) ?_
      have hq : (q_status σ (nI 7)) = nI (xTn σ) := by
        unfold q_status
        rw [if_neg (by decide), if_neg (by decide), if_neg (by decide), if_neg (by decide), if_neg (by decide), if_neg (by decide), if_neg (by decide), if_pos (by decide)]
      exact A_iret dX8_status_117 rfl (hP _ _ (RQ_0 hq (hR.fin0 (sC.rf sg))))
    · skip
      subst ek7
      refine A_tableIn (off := 115) (tgt := 118) dX8_status_3 (by decide) (by decide) rfl rfl ?_
      refine A_aload_n dX8_status_118 rfl rfl ?_
      refine B_getV (cSeed (xN σ)) dX8_status_119 flX8_65 (hM 0 _ rfl) rfl (mr_20 _ _ _) ?_
      have hq : (q_status σ (nI 8)) = cSeed (xN σ) := by
        unfold q_status
        rw [if_neg (by decide), if_neg (by decide), if_neg (by decide), if_neg (by decide), if_neg (by decide), if_neg (by decide), if_neg (by decide), if_neg (by decide), if_pos (by decide)]
      exact A_iret dX8_status_122 rfl (hP _ _ (RQ_0 hq (hR.fin0 (sC.rf sg))))
    · skip
      subst ek7
      refine A_tableIn (off := 120) (tgt := 123) dX8_status_3 (by decide) (by decide) rfl rfl ?_
      refine A_iconst (v := 0) dX8_status_123 (by decide) ?_
      refine A_istore_n (lo2 := [some (.ref 60), some (.int (nI 9)), some (.int 0), some (.int 0)]) dX8_status_124 rfl (by decide) rfl ?_
      have loop : ∀ (q_i9 i9 : Nat) (x2 : Int32), i9 + q_i9 = 8 → x2 = nI (fa_cnt (q_use σ) i9) → AW l G mX8_status (d + 32) (az_F G Post) 0 0 125 [some (.ref 60), some (.int (nI 9)), some (.int x2), some (.int (nI i9))] [] (sh, (mput sg 60 (xN σ)), la) := by
        intro q_i9
        induction q_i9 with
        | zero =>
          intro i9 x2 hi_i9  e_x2
          have hN_i9 : i9 = 8 := by omega
          subst i9
          refine A_iload_n dX8_status_125 rfl rfl ?_
          refine A_bipush (v := 8) dX8_status_126 (by decide) ?_
          refine A_icmp_ge (tgt := 154) dX8_status_128 rfl (fun h_3 => ?_) (fun h_3 => ?_)
          · skip
            refine A_iload_n dX8_status_154 rfl rfl ?_
            have hq : (q_status σ (nI 9)) = x2 := by
              unfold q_status
              rw [if_neg (by decide), if_neg (by decide), if_neg (by decide), if_neg (by decide), if_neg (by decide), if_neg (by decide), if_neg (by decide), if_neg (by decide), if_neg (by decide), if_pos (by decide), e_x2]
            exact A_iret dX8_status_155 rfl (hP _ _ (RQ_0 hq (hR.fin0 (sC.rf sg))))
          · skip
            exact absurd (Int32.le_refl _) h_3
        | succ q_i9 ih =>
          intro i9 x2 hi_i9  e_x2
          refine A_iload_n dX8_status_125 rfl rfl ?_
          refine A_bipush (v := 8) dX8_status_126 (by decide) ?_
          refine A_icmp_ge (tgt := 154) dX8_status_128 rfl (fun h_4 => ?_) (fun h_4 => ?_)
          · skip
            exact absurd h_4 (nI_ge (b := 8) (by omega) (by decide))
          · skip
            refine A_iload_n dX8_status_131 rfl rfl ?_
            refine A_aload_n dX8_status_132 rfl rfl ?_
            refine B_getR (r := 61) dX8_status_133 flX8_7 (hM 0 _ rfl) rfl ?_
            refine A_iload_n dX8_status_136 rfl rfl ?_
            refine B_ialdV (i := i9) (rTag (xS σ i9)) dX8_status_137 (hM 1 _ rfl) (by decide) (rfl) (by omega) ((congrFun (mput_ne (by decide) (by decide)) _).trans (hR.tag (by omega))) ?_
            refine A_if_eq (tgt := 145) dX8_status_138 rfl (fun h_5 => ?_) (fun h_5 => ?_)
            · skip
              refine A_iconst (v := 0) dX8_status_145 (by decide) ?_
              refine A_iadd dX8_status_146 ?_
              refine A_istore_n (lo2 := [some (.ref 60), some (.int (nI 9)), some (.int (x2 + 0)), some (.int (nI i9))]) dX8_status_147 rfl (by decide) rfl ?_
              refine A_iinc (v := nI (i9 + 1)) (lo2 := [some (.ref 60), some (.int (nI 9)), some (.int (x2 + 0)), some (.int (nI (i9 + 1)))]) dX8_status_148 rfl (nI_1 i9) (by decide) rfl ?_
              refine A_goto (tgt := 125) dX8_status_151 rfl ?_
              refine ih (i9 + 1) _ (by omega) ?_
              · skip
                rw [e_x2, fa_cnt_no (p := q_use σ) (by unfold q_use; rw [decide_eq_true (rTag_0.mp h_5)]; rfl)]; exact Int32.add_zero _
            · skip
              refine A_iconst (v := 1) dX8_status_141 (by decide) ?_
              refine A_goto (tgt := 146) dX8_status_142 rfl ?_
              refine A_iadd dX8_status_146 ?_
              refine A_istore_n (lo2 := [some (.ref 60), some (.int (nI 9)), some (.int (x2 + 1)), some (.int (nI i9))]) dX8_status_147 rfl (by decide) rfl ?_
              refine A_iinc (v := nI (i9 + 1)) (lo2 := [some (.ref 60), some (.int (nI 9)), some (.int (x2 + 1)), some (.int (nI (i9 + 1)))]) dX8_status_148 rfl (nI_1 i9) (by decide) rfl ?_
              refine A_goto (tgt := 125) dX8_status_151 rfl ?_
              refine ih (i9 + 1) _ (by omega) ?_
              · skip
                rw [e_x2, fa_cnt_yes (p := q_use σ) (by unfold q_use; rw [decide_eq_false (fun q => h_5 (rTag_0.mpr q))]; rfl)]; exact nI_1 _
      exact loop (8) 0 _ (by omega) (rfl)
  · skip
    refine A_tableOut (tgt := 156) dX8_status_3 hw rfl ?_
    refine A_iload_n dX8_status_156 rfl rfl ?_
    refine A_i2l dX8_status_157 ?_
    refine A_ldc2 (v := 12) dX8_status_158 lcX8_362 ?_
    refine A_ldc2 (v := 16) dX8_status_161 lcX8_364 ?_
    refine A_callS (n := 0) dX8_status_164 ksX8_in mlX8_91 rfl (c_X8_in l G (d + 31) sh (mput sg 60 (xN σ)) la (Int32.toInt64 w) 12 16) (by omega) (Nat.le_refl _) (Nat.le_refl _) rfl (Nat.le_of_ble_eq_true rfl) (fun r S1 hp => ?_)
    obtain ⟨rfl, rfl⟩ := hp
    show AW l G mX8_status (d + 32) (az_F G Post) 0 0 167 [some (.ref 60), some (.int w), some (.int 0), none] [.int (b2i (12 ≤ (Int32.toInt64 w) ∧ (Int32.toInt64 w) ≤ 16))] (sh, (mput sg 60 (xN σ)), la)
    refine A_if_eq (tgt := 182) dX8_status_167 rfl (fun h_6 => ?_) (fun h_6 => ?_)
    · skip
      have h_6' := b2i_0.mp h_6
      refine A_iconst (v := (-1)) dX8_status_182 (by decide) ?_
      have hq : (q_status σ w) = (-1) := by
        unfold q_status
        rw [if_neg (az_ne hw 0 (by decide) (by decide)), if_neg (az_ne hw 1 (by decide) (by decide)), if_neg (az_ne hw 2 (by decide) (by decide)), if_neg (az_ne hw 3 (by decide) (by decide)), if_neg (az_ne hw 4 (by decide) (by decide)), if_neg (az_ne hw 5 (by decide) (by decide)), if_neg (az_ne hw 6 (by decide) (by decide)), if_neg (az_ne hw 7 (by decide) (by decide)), if_neg (az_ne hw 8 (by decide) (by decide)), if_neg (az_ne hw 9 (by decide) (by decide)), if_neg (fun q => h_6' (in_12.mpr q))]
      exact A_iret dX8_status_183 rfl (hP _ _ (RQ_0 hq (hR.fin0 (sC.rf sg))))
    · skip
      have h_6' := b2i_n.mp h_6
      obtain ⟨k8, hk8, ek8⟩ := nI_ex (m := 4) (in_12.mp h_6')
      refine A_aload_n dX8_status_170 rfl rfl ?_
      refine B_getR (r := 76) dX8_status_171 flX8_34 (hM 0 _ rfl) rfl ?_
      refine A_iload_n dX8_status_174 rfl rfl ?_
      refine A_bipush (v := 10) dX8_status_175 (by decide) ?_
      refine A_isub dX8_status_177 ?_
      refine B_top (st_i hk8 ek8) ?_
      refine B_ialdV (i := (k8 + 2)) (xR σ k8) dX8_status_178 (hM 16 _ rfl) (by decide) (rfl) (by omega) ((congrFun (mput_ne (by decide) (by decide)) _).trans (hR.2.2.2.1 k8 (by omega))) ?_
      refine A_goto (tgt := 183) dX8_status_179 rfl ?_
      have hq : (q_status σ w) = xR σ k8 := by
        unfold q_status
        rw [if_neg (az_ne hw 0 (by decide) (by decide)), if_neg (az_ne hw 1 (by decide) (by decide)), if_neg (az_ne hw 2 (by decide) (by decide)), if_neg (az_ne hw 3 (by decide) (by decide)), if_neg (az_ne hw 4 (by decide) (by decide)), if_neg (az_ne hw 5 (by decide) (by decide)), if_neg (az_ne hw 6 (by decide) (by decide)), if_neg (az_ne hw 7 (by decide) (by decide)), if_neg (az_ne hw 8 (by decide) (by decide)), if_neg (az_ne hw 9 (by decide) (by decide)), if_pos (in_12.mp h_6'), ek8, nI_clamp (by omega)]
      exact A_iret dX8_status_183 rfl (hP _ _ (RQ_0 hq (hR.fin0 (sC.rf sg))))
def q_noTwos (σ : SGM) (s n : Int32) (m : Bool) : Int32 × SGM := if m = true then (if q_tf σ s n = 0 then (0, σ) else qr σ (q_tf σ s n)) else qr σ (-2)
theorem q_nt_0 {σ : SGM} {s n : Int32} {m : Bool} (h : (q_noTwos σ s n m).1 = 0) : m = true ∧ q_tf σ s n = 0 := by
  unfold q_noTwos at h
  by_cases q : m = true
  · rw [if_pos q] at h
    by_cases z : q_tf σ s n = 0
    · exact ⟨q, z⟩
    · rw [if_neg z] at h; exact absurd h z
  · rw [if_neg q] at h; exact absurd (show (-2 : Int32) = 0 from h) (by decide)
theorem q_rf_n0 {σ : SGM} {s n : Int32} (hn : ∃ k, k ≤ 40 ∧ n = nI k) (h : ¬ q_rf σ s 0 = 0) (hW : WF σ) : q_rf σ s n = q_rf σ s 0 := by
  by_cases h1 : 0 ≤ s ∧ s ≤ 7
  · by_cases h2 : rTag (xf σ s) = 2
    · rw [q_rf_b h1 h2, q_rf_b h1 h2]
    · by_cases h3 : rTag (xf σ s) = 0
      · rw [q_rf_c h1 h3, q_rf_c h1 h3]
      · exact absurd (q_rf_p hW h1 h2 h3) h
  · rw [q_rf_a h1, q_rf_a h1]
theorem q_rf_n {σ : SGM} {s n : Int32} (h : q_rf σ s 0 = 0) : q_rf σ s n = if n ≤ nI (fSz (xf σ s)) then 0 else -2 := by
  obtain ⟨h1, h2, h3, _⟩ := q_rf_0 h
  unfold q_rf
  rw [if_pos h1, if_neg (fun q => q h2), if_neg (fun q => h3 q.1)]
set_option maxHeartbeats 1000000 in
set_option maxRecDepth 100000 in
theorem y_noTwos (l : Launch) (G : az_Gh) (d : Nat) (sh : List az_Sh) (sg : Nat → Nat → Int32) (la : Nat → Nat → Int64) (g : GGM) (σ : SGM) (kp tr : Option Nat) (s n : Int32) (m : Bool) (hM : az_at sh 60 (lyM 60 kp tr)) (hR : RX g sg la σ kp tr) (hW : WF σ)  : AM l G (d + 5) mX8_noTwos [.ref 60, .int s, .int n, .int (b2i (m = true))] (sh, sg, la) 0 0 (RQ sh g kp tr (.int (q_noTwos σ s n m).1) (q_noTwos σ s n m).2) := by
  refine az_am knX8_noTwos (Nat.le_of_ble_eq_true rfl) rfl (fun Post hP => ?_)
  show AW l G mX8_noTwos (d + 5) (az_F G Post) 0 0 0 [some (.ref 60), some (.int s), some (.int n), some (.int (b2i (m = true))), none] [] (sh, sg, la)
  have hO := hW.1.1.1
  have hL := cW_lv hW.1
  have haw := hW.1.2.2.1
  have h8 := hO.2
  refine A_iload_n dX8_noTwos_0 rfl rfl ?_
  refine A_i2l dX8_noTwos_1 ?_
  refine A_lconst (v := 0) dX8_noTwos_2 (by decide) ?_
  refine A_ldc2 (v := 7) dX8_noTwos_3 lcX8_95 ?_
  refine A_callS (n := 0) dX8_noTwos_6 ksX8_in mlX8_91 rfl (c_X8_inI l G (d + 4) sh sg la s 7 7 (by decide)) (by omega) (Nat.le_refl _) (Nat.le_refl _) rfl (Nat.le_of_ble_eq_true rfl) (fun r S1 hp => ?_)
  obtain ⟨rfl, rfl⟩ := hp
  show AW l G mX8_noTwos (d + 5) (az_F G Post) 0 0 9 [some (.ref 60), some (.int s), some (.int n), some (.int (b2i (m = true))), none] [.int (b2i (0 ≤ s ∧ s ≤ 7))] (sh, sg, la)
  refine A_if_eq (tgt := 28) dX8_noTwos_9 rfl (fun h_1 => ?_) (fun h_1 => ?_)
  · skip
    have h_1' := b2i_0.mp h_1
    refine A_aload_n dX8_noTwos_28 rfl rfl ?_
    refine A_bipush (v := (-2)) dX8_noTwos_29 (by decide) ?_
    refine A_callV (n := 0) dX8_noTwos_31 kvX8_refuse mlX8_101 rfl (az_rc_obj clX8 (hM 0 _ rfl)) (c_X8_refuse l G (d + 4) sh sg la kp tr (-2) 0 hM (by decide) (by decide)) (by omega) (Nat.le_refl _) (Nat.le_refl _) rfl (Nat.le_of_ble_eq_true rfl) (fun r S1 hp => ?_)
    obtain ⟨rfl, rfl⟩ := hp
    show AW l G mX8_noTwos (d + 5) (az_F G Post) 0 0 34 [some (.ref 60), some (.int s), some (.int n), some (.int (b2i (m = true))), none] [.int (-2)] (sh, (az_w sg 76 (0 + 2) (sg 76 (0 + 2) + 1)), la)
    have hq : (q_noTwos σ s n m) = ((-2), (rfs σ 0)) := by
      unfold q_noTwos q_tf
      rw [q_rf_a h_1']
      by_cases q : m = true
      · rw [if_pos q]; by_cases z : 0 ≤ n ∧ n ≤ 20
        · rw [if_pos z]; rfl
        · rw [if_neg z]; rfl
      · rw [if_neg q]; rfl
    exact A_iret dX8_noTwos_34 rfl (hP _ _ (RQ_i hq (hR.ref (k := 0) (by decide))))
  · skip
    have h_1' := b2i_n.mp h_1
    refine A_iload_n dX8_noTwos_12 rfl rfl ?_
    refine A_i2l dX8_noTwos_13 ?_
    refine A_lconst (v := 0) dX8_noTwos_14 (by decide) ?_
    refine A_ldc2 (v := 20) dX8_noTwos_15 lcX8_127 ?_
    refine A_callS (n := 0) dX8_noTwos_18 ksX8_in mlX8_91 rfl (c_X8_inI l G (d + 4) sh sg la n 20 20 (by decide)) (by omega) (Nat.le_refl _) (Nat.le_refl _) rfl (Nat.le_of_ble_eq_true rfl) (fun r S1 hp => ?_)
    obtain ⟨rfl, rfl⟩ := hp
    show AW l G mX8_noTwos (d + 5) (az_F G Post) 0 0 21 [some (.ref 60), some (.int s), some (.int n), some (.int (b2i (m = true))), none] [.int (b2i (0 ≤ n ∧ n ≤ 20))] (sh, sg, la)
    refine A_if_eq (tgt := 28) dX8_noTwos_21 rfl (fun h_2 => ?_) (fun h_2 => ?_)
    · skip
      have h_2' := b2i_0.mp h_2
      refine A_aload_n dX8_noTwos_28 rfl rfl ?_
      refine A_bipush (v := (-2)) dX8_noTwos_29 (by decide) ?_
      refine A_callV (n := 0) dX8_noTwos_31 kvX8_refuse mlX8_101 rfl (az_rc_obj clX8 (hM 0 _ rfl)) (c_X8_refuse l G (d + 4) sh sg la kp tr (-2) 0 hM (by decide) (by decide)) (by omega) (Nat.le_refl _) (Nat.le_refl _) rfl (Nat.le_of_ble_eq_true rfl) (fun r S1 hp => ?_)
      obtain ⟨rfl, rfl⟩ := hp
      show AW l G mX8_noTwos (d + 5) (az_F G Post) 0 0 34 [some (.ref 60), some (.int s), some (.int n), some (.int (b2i (m = true))), none] [.int (-2)] (sh, (az_w sg 76 (0 + 2) (sg 76 (0 + 2) + 1)), la)
      have hq : (q_noTwos σ s n m) = ((-2), (rfs σ 0)) := by
        unfold q_noTwos q_tf
        rw [if_neg h_2']
        by_cases q : m = true
        · rw [if_pos q]; rfl
        · rw [if_neg q]; rfl
      exact A_iret dX8_noTwos_34 rfl (hP _ _ (RQ_i hq (hR.ref (k := 0) (by decide))))
    · skip
      have h_2' := b2i_n.mp h_2
      refine A_iload_n dX8_noTwos_24 rfl rfl ?_
      refine A_if_ne (tgt := 35) dX8_noTwos_25 rfl (fun h_3 => ?_) (fun h_3 => ?_)
      · skip
        have h_3' := b2i_n.mp h_3
        have hm : m = true := h_3'
        obtain ⟨n1, hn1, rfl⟩ := nI_ex (m := 20) h_2'
        have e2n : 2 * nI n1 = nI (2 * n1) := nI_mul 2 n1
        refine A_aload_n dX8_noTwos_35 rfl rfl ?_
        refine A_iload_n dX8_noTwos_36 rfl rfl ?_
        refine A_callV (n := 0) dX8_noTwos_37 kvX8_noRow mlX8_105 rfl (az_rc_obj clX8 (hM 0 _ rfl)) (y_noRow l G (d + 1) sh sg la g σ kp tr s hM hR hW) (by omega) (Nat.le_refl _) (Nat.le_refl _) rfl (Nat.le_of_ble_eq_true rfl) (fun r S1 hp => ?_)
        obtain ⟨rfl, sg1, la1, rfl, hR1⟩ := hp
        show AW l G mX8_noTwos (d + 5) (az_F G Post) 0 0 40 [some (.ref 60), some (.int s), some (.int (nI n1)), some (.int (b2i (m = true))), none] [.int (q_noRow σ s).1] (sh, sg1, la1)
        refine A_istore (lo2 := [some (.ref 60), some (.int s), some (.int (nI n1)), some (.int (b2i (m = true))), some (.int (q_noRow σ s).1)]) dX8_noTwos_40 (by decide) rfl ?_
        refine A_iload dX8_noTwos_42 rfl ?_
        refine A_if_eq (tgt := 50) dX8_noTwos_44 rfl (fun h_4 => ?_) (fun h_4 => ?_)
        · skip
          have hnz : q_rf σ s 0 = 0 := q_nr_0 h_4
          have enr : q_noRow σ s = (0, σ) := by unfold q_noRow; rw [if_pos hnz]
          rw [enr] at hR1
          obtain ⟨hsh, hb1, hb2, hb3⟩ := q_rf_0 hnz
          obtain ⟨s1, hs1, rfl⟩ := nI_ex (m := 7) hsh
          have hc_s1 : (nI s1).toNatClampNeg = s1 := nI_clamp (by omega)
          have hs8 : s1 < 8 := by omega
          have exf : xf σ (nI s1) = xS σ s1 := by unfold xf; rw [hc_s1]
          rw [exf] at hb1 hb2 hb3
          have etf : q_tf σ (nI s1) (nI n1) = if 2 * nI n1 ≤ nI (fSz (xS σ s1)) then 0 else -2 := by unfold q_tf; rw [if_pos h_2', q_rf_n hnz, exf]
          refine A_aload_n dX8_noTwos_50 rfl rfl ?_
          refine B_getR (r := 63) dX8_noTwos_51 flX8_16 (hM 0 _ rfl) rfl ?_
          refine A_iload_n dX8_noTwos_54 rfl rfl ?_
          refine B_ialdV (i := s1) (nI (fSz (xS σ s1))) dX8_noTwos_55 (hM 3 _ rfl) (by decide) (rfl) (by omega) (((hR1.sh (s := s1) (by omega)).2.1 hb2).2) ?_
          refine A_iconst (v := 2) dX8_noTwos_56 (by decide) ?_
          refine A_iload_n dX8_noTwos_57 rfl rfl ?_
          refine A_imul dX8_noTwos_58 ?_
          refine A_icmp_ge (tgt := 71) dX8_noTwos_59 rfl (fun h_5 => ?_) (fun h_5 => ?_)
          · skip
            refine A_iconst (v := 0) dX8_noTwos_71 (by decide) ?_
            have hq : (q_noTwos σ (nI s1) (nI n1) m) = (0, σ) := by
              unfold q_noTwos
              rw [if_pos hm, etf, if_pos h_5, if_pos rfl]
            exact A_iret dX8_noTwos_72 rfl (hP _ _ (RQ_i hq hR1))
          · skip
            refine A_aload_n dX8_noTwos_62 rfl rfl ?_
            refine A_bipush (v := (-2)) dX8_noTwos_63 (by decide) ?_
            refine A_callV (n := 0) dX8_noTwos_65 kvX8_refuse mlX8_101 rfl (az_rc_obj clX8 (hM 0 _ rfl)) (c_X8_refuse l G (d + 4) sh sg1 la1 kp tr (-2) 0 hM (by decide) (by decide)) (by omega) (Nat.le_refl _) (Nat.le_refl _) rfl (Nat.le_of_ble_eq_true rfl) (fun r S1 hp => ?_)
            obtain ⟨rfl, rfl⟩ := hp
            show AW l G mX8_noTwos (d + 5) (az_F G Post) 0 0 68 [some (.ref 60), some (.int (nI s1)), some (.int (nI n1)), some (.int (b2i (m = true))), some (.int (q_noRow σ (nI s1)).1)] [.int (-2)] (sh, (az_w sg1 76 (0 + 2) (sg1 76 (0 + 2) + 1)), la1)
            refine A_goto (tgt := 72) dX8_noTwos_68 rfl ?_
            have hq : (q_noTwos σ (nI s1) (nI n1) m) = ((-2), (rfs σ 0)) := by
              unfold q_noTwos
              rw [if_pos hm, etf, if_neg h_5, if_neg (by decide)]
              first | done | rfl
            exact A_iret dX8_noTwos_72 rfl (hP _ _ (RQ_i hq (hR1.ref (k := 0) (by decide))))
        · skip
          have hnz : ¬ q_rf σ s 0 = 0 := fun q => h_4 (by unfold q_noRow; rw [if_pos q])
          have enr : q_noRow σ s = qr σ (q_rf σ s 0) := by unfold q_noRow; rw [if_neg hnz]
          have etf : q_tf σ s (nI n1) = q_rf σ s 0 := by unfold q_tf; rw [if_pos h_2', q_rf_n0 ⟨2 * n1, by omega, e2n⟩ hnz hW]
          refine A_iload dX8_noTwos_47 rfl ?_
          have hq : (q_noTwos σ s (nI n1) m) = ((q_noRow σ s).1, (q_noRow σ s).2) := by
            unfold q_noTwos
            rw [if_pos hm, etf, if_neg hnz, enr]
            first | done | rfl
          exact A_iret dX8_noTwos_49 rfl (hP _ _ (RQ_i hq hR1))
      · skip
        have h_3' := b2i_0.mp h_3
        refine A_aload_n dX8_noTwos_28 rfl rfl ?_
        refine A_bipush (v := (-2)) dX8_noTwos_29 (by decide) ?_
        refine A_callV (n := 0) dX8_noTwos_31 kvX8_refuse mlX8_101 rfl (az_rc_obj clX8 (hM 0 _ rfl)) (c_X8_refuse l G (d + 4) sh sg la kp tr (-2) 0 hM (by decide) (by decide)) (by omega) (Nat.le_refl _) (Nat.le_refl _) rfl (Nat.le_of_ble_eq_true rfl) (fun r S1 hp => ?_)
        obtain ⟨rfl, rfl⟩ := hp
        show AW l G mX8_noTwos (d + 5) (az_F G Post) 0 0 34 [some (.ref 60), some (.int s), some (.int n), some (.int (b2i (m = true))), none] [.int (-2)] (sh, (az_w sg 76 (0 + 2) (sg 76 (0 + 2) + 1)), la)
        have hq : (q_noTwos σ s n m) = ((-2), (rfs σ 0)) := by
          unfold q_noTwos
          rw [if_neg h_3']
          first | done | rfl
        exact A_iret dX8_noTwos_34 rfl (hP _ _ (RQ_i hq (hR.ref (k := 0) (by decide))))
