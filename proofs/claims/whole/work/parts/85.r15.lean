def q_noBowls (σ : SGM) (s n : Int32) : Int32 × SGM := if q_bf σ s n = 0 then (0, σ) else qr σ (q_bf σ s n)
def RB (sh : List az_Sh) (g : GGM) (kp tr : Option Nat) (σ : SGM) (s n : Int32) : Option Value → az_St → Prop := fun r S1 => r = some (.int (q_noBowls σ s n).1) ∧ ∃ sg la, S1 = (sh, sg, la) ∧ RX g sg la (q_noBowls σ s n).2 kp tr ∧ (q_bf σ s n = 0 → ∀ j, j < cN (xN σ) → sg 84 j = q_B σ s n j)
theorem RB_i {sh : List az_Sh} {g : GGM} {kp tr : Option Nat} {σ τ : SGM} {s n v : Int32} {sg : Nat → Nat → Int32} {la : Nat → Nat → Int64} (h : q_noBowls σ s n = (v, τ)) (hK : RX g sg la τ kp tr) (hb : q_bf σ s n = 0 → ∀ j, j < cN (xN σ) → sg 84 j = q_B σ s n j) : RB sh g kp tr σ s n (some (.int v)) (sh, sg, la) := by
  refine ⟨by rw [h], sg, la, rfl, by rw [h]; exact hK, hb⟩
theorem q_nb_0 {σ : SGM} {s n : Int32} (h : (q_noBowls σ s n).1 = 0) : q_bf σ s n = 0 := by
  unfold q_noBowls at h
  by_cases q : q_bf σ s n = 0
  · exact q
  · rw [if_neg q] at h; exact h
set_option maxHeartbeats 1000000 in
set_option maxRecDepth 100000 in
theorem y_clash (l : Launch) (G : az_Gh) (d : Nat) (sh : List az_Sh) (sg : Nat → Nat → Int32) (la : Nat → Nat → Int64) (g : GGM) (σ : SGM) (kp tr : Option Nat) (s n : Int32) (hM : az_at sh 60 (lyM 60 kp tr)) (hR : RX g sg la σ kp tr) (hW : WF σ)  : AM l G (d + 32) mX8_clash [.ref 60, .int s, .int n] (sh, sg, la) 0 0 (RQ sh g kp tr (.int (q_clash σ s n).1) (q_clash σ s n).2) := by
  refine az_am knX8_clash (Nat.le_of_ble_eq_true rfl) rfl (fun Post hP => ?_)
  show AW l G mX8_clash (d + 32) (az_F G Post) 0 0 0 [some (.ref 60), some (.int s), some (.int n), none] [] (sh, sg, la)
  have hO := hW.1.1.1
  have hL := cW_lv hW.1
  have haw := hW.1.2.2.1
  have h8 := hO.2
  refine B_sg hR.z.symm ?_
  refine A_aload_n dX8_clash_0 rfl rfl ?_
  refine A_iload_n dX8_clash_1 rfl rfl ?_
  refine A_iload_n dX8_clash_2 rfl rfl ?_
  refine A_iconst (v := 1) dX8_clash_3 (by decide) ?_
  refine B_top (show (1 : Int32) = b2i (true = true) from rfl) ?_
  refine B_sg hR.z ?_
  refine A_callV (n := 0) dX8_clash_4 kvX8_noTwos mlX8_306 rfl (az_rc_obj clX8 (hM 0 _ rfl)) (y_noTwos l G (d + 26) sh sg la g σ kp tr s n true hM hR hW) (by omega) (Nat.le_refl _) (Nat.le_refl _) rfl (Nat.le_of_ble_eq_true rfl) (fun r S1 hp => ?_)
  obtain ⟨rfl, sg1, la1, rfl, hR1⟩ := hp
  show AW l G mX8_clash (d + 32) (az_F G Post) 0 0 7 [some (.ref 60), some (.int s), some (.int n), none] [.int (q_noTwos σ s n true).1] (sh, sg1, la1)
  refine A_istore_n (lo2 := [some (.ref 60), some (.int s), some (.int n), some (.int (q_noTwos σ s n true).1)]) dX8_clash_7 rfl (by decide) rfl ?_
  refine A_iload_n dX8_clash_8 rfl rfl ?_
  refine A_if_eq (tgt := 16) dX8_clash_9 rfl (fun h_1 => ?_) (fun h_1 => ?_)
  · skip
    obtain ⟨hm9, htf⟩ := q_nt_0 h_1
    have enr : q_noTwos σ s n true = (0, σ) := q_nt_t htf
    rw [enr] at hR1
    have hR1 : RX g sg1 la1 σ kp tr := hR1
    obtain ⟨hnn, hrf⟩ := q_tf_0 htf
    obtain ⟨hsh, hb1, hb2, hb3⟩ := q_rf_0 hrf
    obtain ⟨s1, hs1, rfl⟩ := nI_ex (m := 7) hsh
    have hc_s1 : (nI s1).toNatClampNeg = s1 := nI_clamp (by omega)
    obtain ⟨n1, hn1, rfl⟩ := nI_ex (m := 20) hnn
    have hc_n1 : (nI n1).toNatClampNeg = n1 := nI_clamp (by omega)
    have hs8 : s1 < 8 := by omega
    have exf : xf σ (nI s1) = xS σ s1 := by unfold xf; rw [hc_s1]
    rw [exf] at hb1 hb2 hb3
    have hz4 := (hW.2.2.2 s1 hs8).2.1
    have hz2 : 2 * n1 ≤ fSz (xS σ s1) := by rw [show 2 * nI n1 = nI (2 * n1) from nI_mul 2 n1] at hb3; exact (nI_leI (by omega) (by omega)).mp hb3
    have hla1 := (hR1.sh hs8).2.2.2
    refine B_sg hR1.z.symm ?_
    refine A_aload_n dX8_clash_16 rfl rfl ?_
    refine A_iload_n dX8_clash_17 rfl rfl ?_
    refine A_iload_n dX8_clash_18 rfl rfl ?_
    have ecl : zclash (cN (xN σ)) (q_r1 σ (nI s1)) (q_r2 σ (nI s1)) n1 = q_cl σ (nI s1) (nI n1) := by unfold q_cl; rw [hc_n1]
    have eqB : zcl (cN (xN σ)) (q_r1 σ (nI s1)) (q_r2 σ (nI s1)) n1 = q_B σ (nI s1) (nI n1) := by unfold q_B; rw [hc_n1]
    refine A_callV (n := 0) dX8_clash_19 kvX8_findClash mlX8_322 rfl (az_rc_obj clX8 (hM 0 _ rfl)) (r_findClash l G (d + 29) sh sg1 la1 kp tr (xN σ) σ s1 n1 hM hO hs8 hla1 hz2 hz4) (by omega) (Nat.le_refl _) (Nat.le_refl _) rfl (Nat.le_of_ble_eq_true rfl) (fun r S1 hp => ?_)
    obtain ⟨rfl, u2, hs2, hbc, rfl⟩ := hp
    rw [ecl] at hbc
    rw [ecl]
    show AW l G mX8_clash (d + 32) (az_F G Post) 0 0 22 [some (.ref 60), some (.int (nI s1)), some (.int (nI n1)), some (.int (q_noTwos σ (nI s1) (nI n1) true).1)] [.int (oI (q_cl σ (nI s1) (nI n1)))] (sh, (mput u2 60 (xN σ)), la1)
    have hq : (q_clash σ (nI s1) (nI n1)) = (oI (q_cl σ (nI s1) (nI n1)), σ) := by
      unfold q_clash
      rw [if_pos htf]
    exact A_iret dX8_clash_22 rfl (hP _ _ (RQ_i hq (hR1.fin0 ((sC.rf sg1).tr hs2))))
  · skip
    refine A_iload_n dX8_clash_12 rfl rfl ?_
    refine A_goto (tgt := 22) dX8_clash_13 rfl ?_
    have hq : (q_clash σ s n) = ((q_noTwos σ s n true).1, (q_noTwos σ s n true).2) := by
      have hz : ¬ (q_noTwos σ s n true).1 = 0 := h_1
      have z : ¬ q_tf σ s n = 0 := fun q => hz (by rw [q_nt_t q])
      unfold q_clash q_noTwos
      rw [if_neg z, if_pos rfl, if_neg z]
    exact A_iret dX8_clash_22 rfl (hP _ _ (RQ_i hq hR1))
set_option maxHeartbeats 1000000 in
set_option maxRecDepth 100000 in
theorem y_noBowls (l : Launch) (G : az_Gh) (d : Nat) (sh : List az_Sh) (sg : Nat → Nat → Int32) (la : Nat → Nat → Int64) (g : GGM) (σ : SGM) (kp tr : Option Nat) (s n : Int32) (hM : az_at sh 60 (lyM 60 kp tr)) (hR : RX g sg la σ kp tr) (hW : WF σ)  : AM l G (d + 8) mX8_noBowls [.ref 60, .int s, .int n] (sh, sg, la) 0 0 (RB sh g kp tr σ s n) := by
  refine az_am knX8_noBowls (Nat.le_of_ble_eq_true rfl) rfl (fun Post hP => ?_)
  show AW l G mX8_noBowls (d + 8) (az_F G Post) 0 0 0 [some (.ref 60), some (.int s), some (.int n), none] [] (sh, sg, la)
  have hO := hW.1.1.1
  have hL := cW_lv hW.1
  have haw := hW.1.2.2.1
  have h8 := hO.2
  refine B_sg hR.z.symm ?_
  refine A_aload_n dX8_noBowls_0 rfl rfl ?_
  refine A_iload_n dX8_noBowls_1 rfl rfl ?_
  refine A_iload_n dX8_noBowls_2 rfl rfl ?_
  refine A_iconst (v := 1) dX8_noBowls_3 (by decide) ?_
  refine B_top (show (1 : Int32) = b2i (true = true) from rfl) ?_
  refine B_sg hR.z ?_
  refine A_callV (n := 0) dX8_noBowls_4 kvX8_noTwos mlX8_306 rfl (az_rc_obj clX8 (hM 0 _ rfl)) (y_noTwos l G (d + 2) sh sg la g σ kp tr s n true hM hR hW) (by omega) (Nat.le_refl _) (Nat.le_refl _) rfl (Nat.le_of_ble_eq_true rfl) (fun r S1 hp => ?_)
  obtain ⟨rfl, sg1, la1, rfl, hR1⟩ := hp
  show AW l G mX8_noBowls (d + 8) (az_F G Post) 0 0 7 [some (.ref 60), some (.int s), some (.int n), none] [.int (q_noTwos σ s n true).1] (sh, sg1, la1)
  refine A_istore_n (lo2 := [some (.ref 60), some (.int s), some (.int n), some (.int (q_noTwos σ s n true).1)]) dX8_noBowls_7 rfl (by decide) rfl ?_
  refine A_iload_n dX8_noBowls_8 rfl rfl ?_
  refine A_if_eq (tgt := 14) dX8_noBowls_9 rfl (fun h_1 => ?_) (fun h_1 => ?_)
  · skip
    obtain ⟨hm9, htf⟩ := q_nt_0 h_1
    have enr : q_noTwos σ s n true = (0, σ) := q_nt_t htf
    rw [enr] at hR1
    have hR1 : RX g sg1 la1 σ kp tr := hR1
    obtain ⟨hnn, hrf⟩ := q_tf_0 htf
    obtain ⟨hsh, hb1, hb2, hb3⟩ := q_rf_0 hrf
    obtain ⟨s1, hs1, rfl⟩ := nI_ex (m := 7) hsh
    have hc_s1 : (nI s1).toNatClampNeg = s1 := nI_clamp (by omega)
    obtain ⟨n1, hn1, rfl⟩ := nI_ex (m := 20) hnn
    have hc_n1 : (nI n1).toNatClampNeg = n1 := nI_clamp (by omega)
    have hs8 : s1 < 8 := by omega
    have exf : xf σ (nI s1) = xS σ s1 := by unfold xf; rw [hc_s1]
    rw [exf] at hb1 hb2 hb3
    have hz4 := (hW.2.2.2 s1 hs8).2.1
    have hz2 : 2 * n1 ≤ fSz (xS σ s1) := by rw [show 2 * nI n1 = nI (2 * n1) from nI_mul 2 n1] at hb3; exact (nI_leI (by omega) (by omega)).mp hb3
    have hla1 := (hR1.sh hs8).2.2.2
    refine B_sg hR1.z.symm ?_
    refine A_aload_n dX8_noBowls_14 rfl rfl ?_
    refine A_iload_n dX8_noBowls_15 rfl rfl ?_
    refine A_iload_n dX8_noBowls_16 rfl rfl ?_
    have ecl : zclash (cN (xN σ)) (q_r1 σ (nI s1)) (q_r2 σ (nI s1)) n1 = q_cl σ (nI s1) (nI n1) := by unfold q_cl; rw [hc_n1]
    have eqB : zcl (cN (xN σ)) (q_r1 σ (nI s1)) (q_r2 σ (nI s1)) n1 = q_B σ (nI s1) (nI n1) := by unfold q_B; rw [hc_n1]
    refine A_callV (n := 0) dX8_noBowls_17 kvX8_findClash mlX8_322 rfl (az_rc_obj clX8 (hM 0 _ rfl)) (r_findClash l G (d + 5) sh sg1 la1 kp tr (xN σ) σ s1 n1 hM hO hs8 hla1 hz2 hz4) (by omega) (Nat.le_refl _) (Nat.le_refl _) rfl (Nat.le_of_ble_eq_true rfl) (fun r S1 hp => ?_)
    obtain ⟨rfl, u2, hs2, hbc, rfl⟩ := hp
    rw [ecl] at hbc
    rw [ecl]
    show AW l G mX8_noBowls (d + 8) (az_F G Post) 0 0 20 [some (.ref 60), some (.int (nI s1)), some (.int (nI n1)), some (.int (q_noTwos σ (nI s1) (nI n1) true).1)] [.int (oI (q_cl σ (nI s1) (nI n1)))] (sh, (mput u2 60 (xN σ)), la1)
    refine A_iconst (v := (-1)) dX8_noBowls_20 (by decide) ?_
    refine A_icmp_ne (tgt := 28) dX8_noBowls_21 rfl (fun h_2 => ?_) (fun h_2 => ?_)
    · skip
      refine A_aload_n dX8_noBowls_28 rfl rfl ?_
      refine A_bipush (v := (-5)) dX8_noBowls_29 (by decide) ?_
      refine A_callV (n := 0) dX8_noBowls_31 kvX8_refuse mlX8_101 rfl (az_rc_obj clX8 (hM 0 _ rfl)) (c_X8_refuse l G (d + 7) sh (mput u2 60 (xN σ)) la1 kp tr (-5) 3 hM (by decide) (by decide)) (by omega) (Nat.le_refl _) (Nat.le_refl _) rfl (Nat.le_of_ble_eq_true rfl) (fun r S1 hp => ?_)
      obtain ⟨rfl, rfl⟩ := hp
      show AW l G mX8_noBowls (d + 8) (az_F G Post) 0 0 34 [some (.ref 60), some (.int (nI s1)), some (.int (nI n1)), some (.int (q_noTwos σ (nI s1) (nI n1) true).1)] [.int (-5)] (sh, (az_w (mput u2 60 (xN σ)) 76 (3 + 2) ((mput u2 60 (xN σ)) 76 (3 + 2) + 1)), la1)
      have hcl : ¬ q_cl σ (nI s1) (nI n1) = none := fun q => h_2 (by rw [q]; rfl)
      have ebf : q_bf σ (nI s1) (nI n1) = -5 := by unfold q_bf; rw [if_pos htf, if_neg hcl]
      have hq : q_noBowls σ (nI s1) (nI n1) = (-5, (rfs σ 3)) := by unfold q_noBowls; rw [ebf, if_neg (by decide)]; rfl
      exact A_iret dX8_noBowls_34 rfl (hP _ _ (RB_i hq ((hR1.fin0 ((sC.rf sg1).tr hs2)).ref (k := 3) (by decide)) (fun q => absurd (ebf.symm.trans q) (by decide))))
    · skip
      refine A_iconst (v := 0) dX8_noBowls_24 (by decide) ?_
      refine A_goto (tgt := 34) dX8_noBowls_25 rfl ?_
      have hcl : q_cl σ (nI s1) (nI n1) = none := (oI_n (fun k hk => by have := (zfind_lt hk).1; rw [hc_n1] at this; omega)).mp h_2
      have ebf : q_bf σ (nI s1) (nI n1) = 0 := by unfold q_bf; rw [if_pos htf, if_pos hcl]
      have hq : q_noBowls σ (nI s1) (nI n1) = (0, σ) := by unfold q_noBowls; rw [if_pos ebf]
      exact A_iret dX8_noBowls_34 rfl (hP _ _ (RB_i hq (hR1.fin0 ((sC.rf sg1).tr hs2)) (fun _ j hj => by rw [mput_ne (by decide) (by decide), hbc hcl j hj, eqB])))
  · skip
    refine A_iload_n dX8_noBowls_12 rfl rfl ?_
    have hz : ¬ (q_noTwos σ s n true).1 = 0 := h_1
    have z : ¬ q_tf σ s n = 0 := fun q => hz (by rw [q_nt_t q])
    have ebf : q_bf σ s n = q_tf σ s n := by unfold q_bf; rw [if_neg z]
    have hq : q_noBowls σ s n = ((q_noTwos σ s n true).1, (q_noTwos σ s n true).2) := by unfold q_noBowls q_noTwos; rw [ebf, if_neg z, if_pos rfl]
    exact A_iret dX8_noBowls_13 rfl (hP _ _ (RB_i hq hR1 (fun q => absurd (ebf.symm.trans q) z)))
theorem and_not_or (x a b : Int32) : (x &&& (a ^^^ -1)) &&& (b ^^^ -1) = x &&& ((a ||| b) ^^^ -1) := by
  apply Int32.toBitVec_inj.mp
  have hm : (-1 : Int32).toBitVec = BitVec.allOnes 32 := by decide
  simp only [Int32.toBitVec_and, Int32.toBitVec_or, Int32.toBitVec_xor, hm]
  ext i hi
  simp only [BitVec.getElem_and, BitVec.getElem_or, BitVec.getElem_xor, BitVec.getElem_allOnes]
  cases x.toBitVec[i] <;> cases a.toBitVec[i] <;> cases b.toBitVec[i] <;> rfl
theorem and_z (x : Int32) : x &&& ((0 : Int32) ^^^ -1) = x := by
  rw [show ((0 : Int32) ^^^ -1) = -1 by decide]
  exact Int32.and_neg_one
set_option maxHeartbeats 1000000 in
set_option maxRecDepth 100000 in
theorem y_mayBe (l : Launch) (G : az_Gh) (d : Nat) (sh : List az_Sh) (sg : Nat → Nat → Int32) (la : Nat → Nat → Int64) (g : GGM) (σ : SGM) (kp tr : Option Nat) (s n : Int32) (hM : az_at sh 60 (lyM 60 kp tr)) (hR : RX g sg la σ kp tr) (hW : WF σ)  : AM l G (d + 32) mX8_mayBe [.ref 60, .int s, .int n] (sh, sg, la) 0 0 (RQ sh g kp tr (.int (q_mayBe σ s n).1) (q_mayBe σ s n).2) := by
  refine az_am knX8_mayBe (Nat.le_of_ble_eq_true rfl) rfl (fun Post hP => ?_)
  show AW l G mX8_mayBe (d + 32) (az_F G Post) 0 0 0 [some (.ref 60), some (.int s), some (.int n), none, none, none] [] (sh, sg, la)
  have hO := hW.1.1.1
  have hL := cW_lv hW.1
  have haw := hW.1.2.2.1
  have h8 := hO.2
  refine B_sg hR.z.symm ?_
  refine A_aload_n dX8_mayBe_0 rfl rfl ?_
  refine A_iload_n dX8_mayBe_1 rfl rfl ?_
  refine A_iload_n dX8_mayBe_2 rfl rfl ?_
  refine B_sg hR.z ?_
  refine A_callV (n := 0) dX8_mayBe_3 kvX8_noBowls mlX8_326 rfl (az_rc_obj clX8 (hM 0 _ rfl)) (y_noBowls l G (d + 23) sh sg la g σ kp tr s n hM hR hW) (by omega) (Nat.le_refl _) (Nat.le_refl _) rfl (Nat.le_of_ble_eq_true rfl) (fun r S1 hp => ?_)
  obtain ⟨rfl, sg1, la1, rfl, hR1, hbB⟩ := hp
  show AW l G mX8_mayBe (d + 32) (az_F G Post) 0 0 6 [some (.ref 60), some (.int s), some (.int n), none, none, none] [.int (q_noBowls σ s n).1] (sh, sg1, la1)
  refine A_istore_n (lo2 := [some (.ref 60), some (.int s), some (.int n), some (.int (q_noBowls σ s n).1), none, none]) dX8_mayBe_6 rfl (by decide) rfl ?_
  refine A_iload_n dX8_mayBe_7 rfl rfl ?_
  refine A_if_eq (tgt := 13) dX8_mayBe_8 rfl (fun h_1 => ?_) (fun h_1 => ?_)
  · skip
    have hbf := q_nb_0 h_1
    have enr : q_noBowls σ s n = (0, σ) := by unfold q_noBowls; rw [if_pos hbf]
    rw [enr] at hR1
    have hR1 : RX g sg1 la1 σ kp tr := hR1
    have hbB := hbB hbf
    refine B_sg hR1.z.symm ?_
    refine A_iconst (v := 1) dX8_mayBe_13 (by decide) ?_
    refine A_aload_n dX8_mayBe_14 rfl rfl ?_
    refine B_getV (nI (cN (xN σ))) dX8_mayBe_15 flX8_88 (hM 0 _ rfl) rfl ((mr_14 _ _ _).trans hO.1) ?_
    refine A_ishl dX8_mayBe_18 ?_
    refine A_iconst (v := 1) dX8_mayBe_19 (by decide) ?_
    refine A_isub dX8_mayBe_20 ?_
    refine A_istore (lo2 := [some (.ref 60), some (.int s), some (.int n), some (.int (q_noBowls σ s n).1), some (.int ((1 <<< (nI (cN (xN σ)) &&& 31)) - 1)), none]) dX8_mayBe_21 (by decide) rfl ?_
    refine A_iconst (v := 0) dX8_mayBe_23 (by decide) ?_
    refine A_istore (lo2 := [some (.ref 60), some (.int s), some (.int n), some (.int (q_noBowls σ s n).1), some (.int ((1 <<< (nI (cN (xN σ)) &&& 31)) - 1)), some (.int 0)]) dX8_mayBe_24 (by decide) rfl ?_
    refine az_jn2 (show ((1 : Int32) <<< (nI (cN (xN σ)) &&& 31) - 1) = ((1 : Int32) <<< (nI (cN (xN σ)) &&& 31) - 1) &&& (zors (q_B σ s n) 0 ^^^ (-1)) from (and_z _).symm) (P := fun z => AW l G mX8_mayBe (d + 32) (az_F G Post) 0 0 26 [some (.ref 60), some (.int s), some (.int n), some (.int (q_noBowls σ s n).1), some (.int z), some (.int 0)] [] (sh, (mput sg1 60 (xN σ)), la1)) ?_
    have loop : ∀ (q_i9 i9 : Nat) (x4 : Int32), i9 + q_i9 = (cN (xN σ)) → x4 = ((1 : Int32) <<< (nI (cN (xN σ)) &&& 31) - 1) &&& (zors (q_B σ s n) i9 ^^^ (-1)) → AW l G mX8_mayBe (d + 32) (az_F G Post) 0 0 26 [some (.ref 60), some (.int s), some (.int n), some (.int (q_noBowls σ s n).1), some (.int x4), some (.int (nI i9))] [] (sh, (mput sg1 60 (xN σ)), la1) := by
      intro q_i9
      induction q_i9 with
      | zero =>
        intro i9 x4 hi_i9  e_x4
        have hN_i9 : i9 = (cN (xN σ)) := by omega
        subst i9
        refine A_iload dX8_mayBe_26 rfl ?_
        refine A_aload_n dX8_mayBe_28 rfl rfl ?_
        refine B_getV (nI (cN (xN σ))) dX8_mayBe_29 flX8_88 (hM 0 _ rfl) rfl ((mr_14 _ _ _).trans hO.1) ?_
        refine A_icmp_ge (tgt := 55) dX8_mayBe_32 rfl (fun h_2 => ?_) (fun h_2 => ?_)
        · skip
          refine A_iload dX8_mayBe_55 rfl ?_
          have hq : (q_mayBe σ s n) = (x4, σ) := by
            unfold q_mayBe zunb
            rw [if_pos hbf, e_x4]
          exact A_iret dX8_mayBe_57 rfl (hP _ _ (RQ_i hq (hR1.fin0 (sC.rf sg1))))
        · skip
          exact absurd (Int32.le_refl _) h_2
      | succ q_i9 ih =>
        intro i9 x4 hi_i9  e_x4
        refine A_iload dX8_mayBe_26 rfl ?_
        refine A_aload_n dX8_mayBe_28 rfl rfl ?_
        refine B_getV (nI (cN (xN σ))) dX8_mayBe_29 flX8_88 (hM 0 _ rfl) rfl ((mr_14 _ _ _).trans hO.1) ?_
        refine A_icmp_ge (tgt := 55) dX8_mayBe_32 rfl (fun h_3 => ?_) (fun h_3 => ?_)
        · skip
          exact absurd h_3 (nI_ge (by omega) (by omega))
        · skip
          refine A_iload dX8_mayBe_35 rfl ?_
          refine A_aload_n dX8_mayBe_37 rfl rfl ?_
          refine B_getR (r := 84) dX8_mayBe_38 flX8_77 (hM 0 _ rfl) rfl ?_
          refine A_iload dX8_mayBe_41 rfl ?_
          refine B_ialdV (i := i9) (q_B σ s n i9) dX8_mayBe_43 (hM 24 _ rfl) (by decide) (rfl) (by omega) ((congrFun (mput_ne (by decide) (by decide)) _).trans (hbB _ (by omega))) ?_
          refine A_iconst (v := (-1)) dX8_mayBe_44 (by decide) ?_
          refine A_ixor dX8_mayBe_45 ?_
          refine A_iand dX8_mayBe_46 ?_
          refine A_istore (lo2 := [some (.ref 60), some (.int s), some (.int n), some (.int (q_noBowls σ s n).1), some (.int (x4 &&& (q_B σ s n i9 ^^^ (-1)))), some (.int (nI i9))]) dX8_mayBe_47 (by decide) rfl ?_
          refine A_iinc (v := nI (i9 + 1)) (lo2 := [some (.ref 60), some (.int s), some (.int n), some (.int (q_noBowls σ s n).1), some (.int (x4 &&& (q_B σ s n i9 ^^^ (-1)))), some (.int (nI (i9 + 1)))]) dX8_mayBe_49 rfl (nI_1 i9) (by decide) rfl ?_
          refine A_goto (tgt := 26) dX8_mayBe_52 rfl ?_
          refine ih (i9 + 1) _ (by omega) ?_
          · skip
            rw [e_x4]; exact and_not_or _ _ _
    exact loop ((cN (xN σ))) 0 _ (by omega) (rfl)
  · skip
    refine A_iload_n dX8_mayBe_11 rfl rfl ?_
    have hq : (q_mayBe σ s n) = ((q_noBowls σ s n).1, (q_noBowls σ s n).2) := by
      have z : ¬ q_bf σ s n = 0 := fun q => h_1 (by unfold q_noBowls; rw [if_pos q])
      unfold q_mayBe q_noBowls
      rw [if_neg z, if_neg z]
    exact A_iret dX8_mayBe_12 rfl (hP _ _ (RQ_i hq hR1))
set_option maxHeartbeats 1000000 in
set_option maxRecDepth 100000 in
theorem y_wrongBowls (l : Launch) (G : az_Gh) (d : Nat) (sh : List az_Sh) (sg : Nat → Nat → Int32) (la : Nat → Nat → Int64) (g : GGM) (σ : SGM) (kp tr : Option Nat) (s n : Int32) (hM : az_at sh 60 (lyM 60 kp tr)) (hR : RX g sg la σ kp tr) (hW : WF σ)  : AM l G (d + 32) mX8_wrongBowls [.ref 60, .int s, .int n] (sh, sg, la) 0 0 (RQ sh g kp tr (.int (q_wrongBowls σ s n).1) (q_wrongBowls σ s n).2) := by
  refine az_am knX8_wrongBowls (Nat.le_of_ble_eq_true rfl) rfl (fun Post hP => ?_)
  show AW l G mX8_wrongBowls (d + 32) (az_F G Post) 0 0 0 [some (.ref 60), some (.int s), some (.int n), none, none, none] [] (sh, sg, la)
  have hO := hW.1.1.1
  have hL := cW_lv hW.1
  have haw := hW.1.2.2.1
  have h8 := hO.2
  refine B_sg hR.z.symm ?_
  refine A_aload_n dX8_wrongBowls_0 rfl rfl ?_
  refine A_iload_n dX8_wrongBowls_1 rfl rfl ?_
  refine A_iload_n dX8_wrongBowls_2 rfl rfl ?_
  refine B_sg hR.z ?_
  refine A_callV (n := 0) dX8_wrongBowls_3 kvX8_noBowls mlX8_326 rfl (az_rc_obj clX8 (hM 0 _ rfl)) (y_noBowls l G (d + 23) sh sg la g σ kp tr s n hM hR hW) (by omega) (Nat.le_refl _) (Nat.le_refl _) rfl (Nat.le_of_ble_eq_true rfl) (fun r S1 hp => ?_)
  obtain ⟨rfl, sg1, la1, rfl, hR1, hbB⟩ := hp
  show AW l G mX8_wrongBowls (d + 32) (az_F G Post) 0 0 6 [some (.ref 60), some (.int s), some (.int n), none, none, none] [.int (q_noBowls σ s n).1] (sh, sg1, la1)
  refine A_istore_n (lo2 := [some (.ref 60), some (.int s), some (.int n), some (.int (q_noBowls σ s n).1), none, none]) dX8_wrongBowls_6 rfl (by decide) rfl ?_
  refine A_iload_n dX8_wrongBowls_7 rfl rfl ?_
  refine A_if_eq (tgt := 13) dX8_wrongBowls_8 rfl (fun h_1 => ?_) (fun h_1 => ?_)
  · skip
    have hbf := q_nb_0 h_1
    have enr : q_noBowls σ s n = (0, σ) := by unfold q_noBowls; rw [if_pos hbf]
    rw [enr] at hR1
    have hR1 : RX g sg1 la1 σ kp tr := hR1
    have hbB := hbB hbf
    refine B_sg hR1.z.symm ?_
    obtain ⟨htf, hcl⟩ := q_bf_0 hbf
    obtain ⟨hnn, hrf⟩ := q_tf_0 htf
    obtain ⟨hsh, hb1, hb2, hb3⟩ := q_rf_0 hrf
    obtain ⟨s1, hs1, rfl⟩ := nI_ex (m := 7) hsh
    have hc_s1 : (nI s1).toNatClampNeg = s1 := nI_clamp (by omega)
    obtain ⟨n1, hn1, rfl⟩ := nI_ex (m := 20) hnn
    have hc_n1 : (nI n1).toNatClampNeg = n1 := nI_clamp (by omega)
    have hs8 : s1 < 8 := by omega
    have exf : xf σ (nI s1) = xS σ s1 := by unfold xf; rw [hc_s1]
    rw [exf] at hb1 hb2 hb3
    have hz4 := (hW.2.2.2 s1 hs8).2.1
    have hz2 : 2 * n1 ≤ fSz (xS σ s1) := by rw [show 2 * nI n1 = nI (2 * n1) from nI_mul 2 n1] at hb3; exact (nI_leI (by omega) (by omega)).mp hb3
    have hla1 := (hR1.sh hs8).2.2.2
    refine A_iconst (v := 0) dX8_wrongBowls_13 (by decide) ?_
    refine A_istore (lo2 := [some (.ref 60), some (.int (nI s1)), some (.int (nI n1)), some (.int (q_noBowls σ (nI s1) (nI n1)).1), some (.int 0), none]) dX8_wrongBowls_14 (by decide) rfl ?_
    refine A_iconst (v := 0) dX8_wrongBowls_16 (by decide) ?_
    refine A_istore (lo2 := [some (.ref 60), some (.int (nI s1)), some (.int (nI n1)), some (.int (q_noBowls σ (nI s1) (nI n1)).1), some (.int 0), some (.int 0)]) dX8_wrongBowls_17 (by decide) rfl ?_
    have loop : ∀ (q_i9 i9 : Nat) (x4 : Int32), i9 + q_i9 = n1 → x4 = nI (fa_cnt (fun k => !(q_wb σ (nI s1) k)) i9) → AW l G mX8_wrongBowls (d + 32) (az_F G Post) 0 0 19 [some (.ref 60), some (.int (nI s1)), some (.int (nI n1)), some (.int (q_noBowls σ (nI s1) (nI n1)).1), some (.int x4), some (.int (nI i9))] [] (sh, (mput sg1 60 (xN σ)), la1) := by
      intro q_i9
      induction q_i9 with
      | zero =>
        intro i9 x4 hi_i9  e_x4
        have hN_i9 : i9 = n1 := by omega
        subst i9
        refine A_iload dX8_wrongBowls_19 rfl ?_
        refine A_iload_n dX8_wrongBowls_21 rfl rfl ?_
        refine A_icmp_ge (tgt := 78) dX8_wrongBowls_22 rfl (fun h_2 => ?_) (fun h_2 => ?_)
        · skip
          refine A_iload dX8_wrongBowls_78 rfl ?_
          have hq : (q_wrongBowls σ (nI s1) (nI n1)) = (x4, σ) := by
            unfold q_wrongBowls
            rw [if_pos hbf, hc_n1, e_x4]
          exact A_iret dX8_wrongBowls_80 rfl (hP _ _ (RQ_i hq (hR1.fin0 (sC.rf sg1))))
        · skip
          exact absurd (Int32.le_refl _) h_2
      | succ q_i9 ih =>
        intro i9 x4 hi_i9  e_x4
        refine A_iload dX8_wrongBowls_19 rfl ?_
        refine A_iload_n dX8_wrongBowls_21 rfl rfl ?_
        refine A_icmp_ge (tgt := 78) dX8_wrongBowls_22 rfl (fun h_3 => ?_) (fun h_3 => ?_)
        · skip
          exact absurd h_3 (nI_ge (by omega) (by omega))
        · skip
          obtain ⟨hin1, hin2⟩ := q_cl_in hcl (k := i9) (by omega)
          have ha1 := zIn_at hO.2 hin1
          have ha2 := zIn_at hO.2 hin2
          refine A_iload dX8_wrongBowls_25 rfl ?_
          refine A_aload_n dX8_wrongBowls_27 rfl rfl ?_
          refine A_aload_n dX8_wrongBowls_28 rfl rfl ?_
          refine B_getR (r := 64) dX8_wrongBowls_29 flX8_21 (hM 0 _ rfl) rfl ?_
          refine A_iload_n dX8_wrongBowls_32 rfl rfl ?_
          have hL_s1 := lyM_row' hM (show s1 < 8 by omega)
          refine B_aald (i := s1) (r := (65 + s1)) dX8_wrongBowls_33 (hM 4 _ rfl) (by decide) rfl rfl (by decide) (rfl) (by omega) (zsm_r (show s1 < 8 by omega)) ?_
          refine A_iconst (v := 2) dX8_wrongBowls_34 (by decide) ?_
          refine A_iload dX8_wrongBowls_35 rfl ?_
          refine A_imul dX8_wrongBowls_37 ?_
          refine B_laldV (i := (2 * i9)) (q_r1 σ (nI s1) i9) dX8_wrongBowls_38 (hL_s1 0 _ rfl) (by decide) (nI_mul 2 i9) (by omega) ((congrFun hla1 _).trans (q_r1_l hs8 (by omega) (by omega)).symm) ?_
          refine A_l2i dX8_wrongBowls_39 ?_
          refine B_top ha1.1 ?_
          refine A_callV (n := 0) dX8_wrongBowls_40 kvX8_cold mlX8_122 rfl (az_rc_obj clX8 (hM 0 _ rfl)) (r_cold l G (d + 30) sh sg1 la1 kp tr (xN σ) (zpx (q_r1 σ (nI s1) i9)) hM hO hL ha1.2 (by rw [haw]; exact nI_n1 (by have := ha1.2; omega))) (by omega) (Nat.le_refl _) (Nat.le_refl _) rfl (Nat.le_of_ble_eq_true rfl) (fun r S1 hp => ?_)
          obtain ⟨rfl, rfl⟩ := hp
          show AW l G mX8_wrongBowls (d + 32) (az_F G Post) 0 0 43 [some (.ref 60), some (.int (nI s1)), some (.int (nI n1)), some (.int (q_noBowls σ (nI s1) (nI n1)).1), some (.int x4), some (.int (nI i9))] [.int (zc (xN σ) (zpx (q_r1 σ (nI s1) i9))), .int x4] (sh, (mput sg1 60 (xN σ)), la1)
          refine A_aload_n dX8_wrongBowls_43 rfl rfl ?_
          refine A_aload_n dX8_wrongBowls_44 rfl rfl ?_
          refine B_getR (r := 64) dX8_wrongBowls_45 flX8_21 (hM 0 _ rfl) rfl ?_
          refine A_iload_n dX8_wrongBowls_48 rfl rfl ?_
          refine B_aald (i := s1) (r := (65 + s1)) dX8_wrongBowls_49 (hM 4 _ rfl) (by decide) rfl rfl (by decide) (rfl) (by omega) (zsm_r (show s1 < 8 by omega)) ?_
          refine A_iconst (v := 2) dX8_wrongBowls_50 (by decide) ?_
          refine A_iload dX8_wrongBowls_51 rfl ?_
          refine A_imul dX8_wrongBowls_53 ?_
          refine A_iconst (v := 1) dX8_wrongBowls_54 (by decide) ?_
          refine A_iadd dX8_wrongBowls_55 ?_
          refine B_laldV (i := (2 * i9 + 1)) (q_r2 σ (nI s1) i9) dX8_wrongBowls_56 (hL_s1 0 _ rfl) (by decide) ((congrArg (· + 1) (nI_mul 2 i9)).trans (nI_1 _)) (by omega) ((congrFun hla1 _).trans (q_r2_l hs8 (by omega) (by omega)).symm) ?_
          refine A_l2i dX8_wrongBowls_57 ?_
          refine B_top ha2.1 ?_
          refine A_callV (n := 0) dX8_wrongBowls_58 kvX8_cold mlX8_122 rfl (az_rc_obj clX8 (hM 0 _ rfl)) (r_cold l G (d + 30) sh sg1 la1 kp tr (xN σ) (zpx (q_r2 σ (nI s1) i9)) hM hO hL ha2.2 (by rw [haw]; exact nI_n1 (by have := ha2.2; omega))) (by omega) (Nat.le_refl _) (Nat.le_refl _) rfl (Nat.le_of_ble_eq_true rfl) (fun r S1 hp => ?_)
          obtain ⟨rfl, rfl⟩ := hp
          show AW l G mX8_wrongBowls (d + 32) (az_F G Post) 0 0 61 [some (.ref 60), some (.int (nI s1)), some (.int (nI n1)), some (.int (q_noBowls σ (nI s1) (nI n1)).1), some (.int x4), some (.int (nI i9))] [.int (zc (xN σ) (zpx (q_r2 σ (nI s1) i9))), .int (zc (xN σ) (zpx (q_r1 σ (nI s1) i9))), .int x4] (sh, (mput sg1 60 (xN σ)), la1)
          refine A_icmp_le (tgt := 68) dX8_wrongBowls_61 rfl (fun h_4 => ?_) (fun h_4 => ?_)
          · skip
            refine A_iconst (v := 1) dX8_wrongBowls_68 (by decide) ?_
            refine A_iadd dX8_wrongBowls_69 ?_
            refine A_istore (lo2 := [some (.ref 60), some (.int (nI s1)), some (.int (nI n1)), some (.int (q_noBowls σ (nI s1) (nI n1)).1), some (.int (x4 + 1)), some (.int (nI i9))]) dX8_wrongBowls_70 (by decide) rfl ?_
            refine A_iinc (v := nI (i9 + 1)) (lo2 := [some (.ref 60), some (.int (nI s1)), some (.int (nI n1)), some (.int (q_noBowls σ (nI s1) (nI n1)).1), some (.int (x4 + 1)), some (.int (nI (i9 + 1)))]) dX8_wrongBowls_72 rfl (nI_1 i9) (by decide) rfl ?_
            refine A_goto (tgt := 19) dX8_wrongBowls_75 rfl ?_
            refine ih (i9 + 1) _ (by omega) ?_
            · skip
              rw [e_x4, fa_cnt_yes (p := fun k => !(q_wb σ (nI s1) k)) (by show (!(decide _)) = true; rw [decide_eq_false (Int32.not_lt.mpr h_4)]; rfl)]; exact nI_1 _
          · skip
            refine A_iconst (v := 0) dX8_wrongBowls_64 (by decide) ?_
            refine A_goto (tgt := 69) dX8_wrongBowls_65 rfl ?_
            refine A_iadd dX8_wrongBowls_69 ?_
            refine A_istore (lo2 := [some (.ref 60), some (.int (nI s1)), some (.int (nI n1)), some (.int (q_noBowls σ (nI s1) (nI n1)).1), some (.int (x4 + 0)), some (.int (nI i9))]) dX8_wrongBowls_70 (by decide) rfl ?_
            refine A_iinc (v := nI (i9 + 1)) (lo2 := [some (.ref 60), some (.int (nI s1)), some (.int (nI n1)), some (.int (q_noBowls σ (nI s1) (nI n1)).1), some (.int (x4 + 0)), some (.int (nI (i9 + 1)))]) dX8_wrongBowls_72 rfl (nI_1 i9) (by decide) rfl ?_
            refine A_goto (tgt := 19) dX8_wrongBowls_75 rfl ?_
            refine ih (i9 + 1) _ (by omega) ?_
            · skip
              rw [e_x4, fa_cnt_no (p := fun k => !(q_wb σ (nI s1) k)) (by show (!(decide _)) = false; rw [decide_eq_true (Int32.not_le.mp h_4)]; rfl)]; exact Int32.add_zero _
    exact loop (n1) 0 _ (by omega) (rfl)
  · skip
    refine A_iload_n dX8_wrongBowls_11 rfl rfl ?_
    have hq : (q_wrongBowls σ s n) = ((q_noBowls σ s n).1, (q_noBowls σ s n).2) := by
      have z : ¬ q_bf σ s n = 0 := fun q => h_1 (by unfold q_noBowls; rw [if_pos q])
      unfold q_wrongBowls q_noBowls
      rw [if_neg z, if_neg z]
    exact A_iret dX8_wrongBowls_12 rfl (hP _ _ (RQ_i hq hR1))
