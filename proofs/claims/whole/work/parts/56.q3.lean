theorem az_swd (t : Int32) (n : Nat) : (∃ k, k ≤ n ∧ t = nI k) ∨ (t.toInt < 0 ∨ (n : Int) < t.toInt) := by
  by_cases h : t.toInt < 0
  · exact Or.inr (Or.inl h)
  · by_cases h2 : (n : Int) < t.toInt
    · exact Or.inr (Or.inr h2)
    · exact Or.inl (iR_nI ⟨by omega, by omega⟩)
theorem lt8_of {c : CT} (hO : cOk c) (h : ¬ 8 ≤ cPp c) : cN c < 8 := by
  rcases Nat.lt_or_ge (cN c) 8 with q | q
  · exact q
  · exact absurd (by rw [hO.1]; exact nI_le (a := 8) q (by have := hO.2; omega)) h
theorem zmg_ex {G : az_Gh} {k : Nat} (h : k ≤ 2) : (az_ex G 1001).2 k = zmg (nI k) := by
  rcases (by omega : k = 0 ∨ k = 1 ∨ k = 2) with rfl | rfl | rfl
  · rfl
  · rfl
  · rfl
theorem zmt_ex {G : az_Gh} {k : Nat} (h : k ≤ 3) : (az_ex G 1002).2 k = zmt k := by
  rcases (by omega : k = 0 ∨ k = 1 ∨ k = 2 ∨ k = 3) with rfl | rfl | rfl | rfl
  · rfl
  · rfl
  · rfl
  · rfl
theorem kx_change (l : Launch) (G : az_Gh) (d : Nat) (sh : List az_Sh) (sg : Nat → Nat → Int32) (la : Nat → Nat → Int64) (c : CT) (k : Nat) (v : Int32) (hk : k ≤ 3) (hC : az_at sh 1 (lyC 1)) : FM l G d mX2_change [.ref 1, .int (nI k), .int v] (sh, zput sg 1 c, la) (some (.int (zget c (nI k)))) (sh, zput sg 1 (zset c k v), la) := by
  rcases (by omega : k = 0 ∨ k = 1 ∨ k = 2 ∨ k = 3) with rfl | rfl | rfl | rfl
  · exact z_X2_change0 l G d sh sg la 1 c v hC
  · exact z_X2_change1 l G d sh sg la 1 c v hC
  · exact z_X2_change2 l G d sh sg la 1 c v hC
  · exact z_X2_change3 l G d sh sg la 1 c v hC
set_option maxHeartbeats 1000000 in
set_option maxRecDepth 100000 in
theorem x_person (l : Launch) (G : az_Gh) (d : Nat) (sh : List az_Sh) (sg : Nat → Nat → Int32) (la : Nat → Nat → Int64) (g : GGM) (σ : SGM) (k a p : Int32) (hX : az_at sh 0 lyX) (hK : KX g sg la σ) : AM l G (d + 32) mX7_person [.ref 0, .int k, .int a, .int p] (sh, sg, la) 0 0 (XQ sh g (.int (q_person σ k a p).1) (q_person σ k a p).2) := by
  refine az_am knX7_person (Nat.le_of_ble_eq_true rfl) rfl (fun Post hP => ?_)
  show AW l G mX7_person (d + 32) (az_F G Post) 0 0 0 [some (.ref 0), some (.int k), some (.int a), some (.int p)] [] (sh, sg, la)
  have hC := lyX_now hX
  have h8N := hK.ok.2
  refine B_sg hK.z1.symm ?_
  refine A_iload_n dX7_person_0 rfl rfl ?_
  refine A_callS (n := 0) dX7_person_1 ksX7_isKind mlX7_134 rfl (c_X7_isKind l G (d + 30) sh (zput sg 1 (xN σ)) la k) (by omega) (Nat.le_refl _) (Nat.le_refl _) rfl (Nat.le_of_ble_eq_true rfl) (fun r S1 hp => ?_)
  obtain ⟨rfl, rfl⟩ := hp
  show AW l G mX7_person (d + 32) (az_F G Post) 0 0 4 [some (.ref 0), some (.int k), some (.int a), some (.int p)] [.int (b2i (0 ≤ k ∧ k ≤ 5))] (sh, (zput sg 1 (xN σ)), la)
  refine A_if_eq (tgt := 25) dX7_person_4 rfl (fun h_1 => ?_) (fun h_1 => ?_)
  · skip
    have h_1' := b2i_0.mp h_1
    refine A_aload_n dX7_person_25 rfl rfl ?_
    refine A_bipush (v := (-2)) dX7_person_26 (by decide) ?_
    refine A_callV (n := 0) dX7_person_28 kvX7_refuse mlX7_77 rfl (az_rc_obj clX7 (hX 0 _ rfl)) (c_X7_refuse l G (d + 30) sh (zput sg 1 (xN σ)) la (-2) 0 hX (by decide) (by decide)) (by omega) (Nat.le_refl _) (Nat.le_refl _) rfl (Nat.le_of_ble_eq_true rfl) (fun r S1 hp => ?_)
    obtain ⟨rfl, rfl⟩ := hp
    show AW l G mX7_person (d + 32) (az_F G Post) 0 0 31 [some (.ref 0), some (.int k), some (.int a), some (.int p)] [.int (-2)] (sh, (az_w (zput sg 1 (xN σ)) 43 0 ((zput sg 1 (xN σ)) 43 0 + 1)), la)
    have hq : (q_person σ k a p) = ((-2), (rfs σ 0)) := by
      unfold q_person
      try simp only [h_1', and_true, true_and, and_false, false_and, and_self, or_true, true_or, or_false, false_or, not_true_eq_false, not_false_eq_true, if_true, if_false, ite_true, ite_false, decide_true, decide_false, reduceIte]
      first | done | rfl | (rw [Int32.add_comm]; done)
    exact A_iret dX7_person_31 rfl (hP _ _ (XQ_i hq (hK.on1.ref (by decide))))
  · skip
    have h_1' := b2i_n.mp h_1
    refine A_iload_n dX7_person_7 rfl rfl ?_
    refine A_bipush (v := 9) dX7_person_8 (by decide) ?_
    refine A_callS (n := 0) dX7_person_10 ksX7_isWithin mlX7_73 rfl (c_X7_isWithin l G (d + 31) sh (zput sg 1 (xN σ)) la a 9) (by omega) (Nat.le_refl _) (Nat.le_refl _) rfl (Nat.le_of_ble_eq_true rfl) (fun r S1 hp => ?_)
    obtain ⟨rfl, rfl⟩ := hp
    show AW l G mX7_person (d + 32) (az_F G Post) 0 0 13 [some (.ref 0), some (.int k), some (.int a), some (.int p)] [.int (b2i (0 ≤ a ∧ a ≤ 9))] (sh, (zput sg 1 (xN σ)), la)
    refine A_if_eq (tgt := 25) dX7_person_13 rfl (fun h_2 => ?_) (fun h_2 => ?_)
    · skip
      have h_2' := b2i_0.mp h_2
      refine A_aload_n dX7_person_25 rfl rfl ?_
      refine A_bipush (v := (-2)) dX7_person_26 (by decide) ?_
      refine A_callV (n := 0) dX7_person_28 kvX7_refuse mlX7_77 rfl (az_rc_obj clX7 (hX 0 _ rfl)) (c_X7_refuse l G (d + 30) sh (zput sg 1 (xN σ)) la (-2) 0 hX (by decide) (by decide)) (by omega) (Nat.le_refl _) (Nat.le_refl _) rfl (Nat.le_of_ble_eq_true rfl) (fun r S1 hp => ?_)
      obtain ⟨rfl, rfl⟩ := hp
      show AW l G mX7_person (d + 32) (az_F G Post) 0 0 31 [some (.ref 0), some (.int k), some (.int a), some (.int p)] [.int (-2)] (sh, (az_w (zput sg 1 (xN σ)) 43 0 ((zput sg 1 (xN σ)) 43 0 + 1)), la)
      have hq : (q_person σ k a p) = ((-2), (rfs σ 0)) := by
        unfold q_person
        try simp only [h_1', h_2', and_true, true_and, and_false, false_and, and_self, or_true, true_or, or_false, false_or, not_true_eq_false, not_false_eq_true, if_true, if_false, ite_true, ite_false, decide_true, decide_false, reduceIte]
        first | done | rfl | (rw [Int32.add_comm]; done)
      exact A_iret dX7_person_31 rfl (hP _ _ (XQ_i hq (hK.on1.ref (by decide))))
    · skip
      have h_2' := b2i_n.mp h_2
      refine A_iload_n dX7_person_16 rfl rfl ?_
      refine A_bipush (v := 20) dX7_person_17 (by decide) ?_
      refine A_callS (n := 0) dX7_person_19 ksX7_isWithin mlX7_73 rfl (c_X7_isWithin l G (d + 31) sh (zput sg 1 (xN σ)) la p 20) (by omega) (Nat.le_refl _) (Nat.le_refl _) rfl (Nat.le_of_ble_eq_true rfl) (fun r S1 hp => ?_)
      obtain ⟨rfl, rfl⟩ := hp
      show AW l G mX7_person (d + 32) (az_F G Post) 0 0 22 [some (.ref 0), some (.int k), some (.int a), some (.int p)] [.int (b2i (0 ≤ p ∧ p ≤ 20))] (sh, (zput sg 1 (xN σ)), la)
      refine A_if_ne (tgt := 32) dX7_person_22 rfl (fun h_3 => ?_) (fun h_3 => ?_)
      · skip
        have h_3' := b2i_n.mp h_3
        refine A_aload_n dX7_person_32 rfl rfl ?_
        refine B_getR (r := 1) dX7_person_33 flX7_10 (hX 0 _ rfl) rfl ?_
        refine A_callV (n := 0) dX7_person_36 kvX2_isFull mlX7_152 rfl (az_rc_obj clX2 (hX 1 _ rfl)) (kx_isFull l G (d + 31) sh (zput sg 1 (xN σ)) la g σ hX hK.on1) (by omega) (Nat.le_refl _) (Nat.le_refl _) rfl (Nat.le_of_ble_eq_true rfl) (fun r S1 hp => ?_)
        obtain ⟨rfl, rfl⟩ := hp
        show AW l G mX7_person (d + 32) (az_F G Post) 0 0 39 [some (.ref 0), some (.int k), some (.int a), some (.int p)] [.int (b2i (8 ≤ cPp (xN σ)))] (sh, (zput sg 1 (xN σ)), la)
        refine A_if_eq (tgt := 51) dX7_person_39 rfl (fun h_4 => ?_) (fun h_4 => ?_)
        · skip
          have h_4' := b2i_0.mp h_4
          have h7 := lt8_of hK.ok h_4'
          refine A_aload_n dX7_person_51 rfl rfl ?_
          refine B_getR (r := 1) dX7_person_52 flX7_10 (hX 0 _ rfl) rfl ?_
          refine A_iload_n dX7_person_55 rfl rfl ?_
          refine A_iload_n dX7_person_56 rfl rfl ?_
          refine A_iload_n dX7_person_57 rfl rfl ?_
          refine A_callV (n := 0) dX7_person_58 kvX2_settle mlX7_155 rfl (az_rc_obj clX2 (hX 1 _ rfl)) (z_X2_settle l G (d + 30) sh sg la 1 (xN σ) k a p hC hK.ok h7) (by omega) (Nat.le_refl _) (Nat.le_refl _) rfl (Nat.le_of_ble_eq_true rfl) (fun r S1 hp => ?_)
          obtain ⟨rfl, rfl⟩ := hp
          show AW l G mX7_person (d + 32) (az_F G Post) 0 0 61 [some (.ref 0), some (.int k), some (.int a), some (.int p)] [.int (nI (cN (xN σ)))] (sh, (zput sg 1 (zsettle (xN σ) k a p)), la)
          have hq : (q_person σ k a p) = (nI (cN (xN σ)), (yN σ (zsettle (xN σ) k a p))) := by
            unfold q_person
            try simp only [h_1', h_2', h_3', h_4', and_true, true_and, and_false, false_and, and_self, or_true, true_or, or_false, false_or, not_true_eq_false, not_false_eq_true, if_true, if_false, ite_true, ite_false, decide_true, decide_false, reduceIte]
            first | done | rfl | (rw [Int32.add_comm]; done)
          exact A_iret dX7_person_61 rfl (hP _ _ (XQ_i hq (hK.setN (WF_N hK.wf (cW_settle hK.cw h7 (iR_ofI (m := 5) h_1' (by decide)) (iR_ofI (m := 9) h_2' (by decide)) (iR_ofI (m := 20) h_3' (by decide))) (by rw [cN_settle hK.ok h7]; omega)))))
        · skip
          have h_4' := b2i_n.mp h_4
          refine A_aload_n dX7_person_42 rfl rfl ?_
          refine A_bipush (v := (-6)) dX7_person_43 (by decide) ?_
          refine A_callV (n := 0) dX7_person_45 kvX7_refuse mlX7_77 rfl (az_rc_obj clX7 (hX 0 _ rfl)) (c_X7_refuse l G (d + 30) sh (zput sg 1 (xN σ)) la (-6) 4 hX (by decide) (by decide)) (by omega) (Nat.le_refl _) (Nat.le_refl _) rfl (Nat.le_of_ble_eq_true rfl) (fun r S1 hp => ?_)
          obtain ⟨rfl, rfl⟩ := hp
          show AW l G mX7_person (d + 32) (az_F G Post) 0 0 48 [some (.ref 0), some (.int k), some (.int a), some (.int p)] [.int (-6)] (sh, (az_w (zput sg 1 (xN σ)) 43 4 ((zput sg 1 (xN σ)) 43 4 + 1)), la)
          refine A_goto (tgt := 61) dX7_person_48 rfl ?_
          have hq : (q_person σ k a p) = ((-6), (rfs σ 4)) := by
            unfold q_person
            try simp only [h_1', h_2', h_3', h_4', and_true, true_and, and_false, false_and, and_self, or_true, true_or, or_false, false_or, not_true_eq_false, not_false_eq_true, if_true, if_false, ite_true, ite_false, decide_true, decide_false, reduceIte]
            first | done | rfl | (rw [Int32.add_comm]; done)
          exact A_iret dX7_person_61 rfl (hP _ _ (XQ_i hq (hK.on1.ref (by decide))))
      · skip
        have h_3' := b2i_0.mp h_3
        refine A_aload_n dX7_person_25 rfl rfl ?_
        refine A_bipush (v := (-2)) dX7_person_26 (by decide) ?_
        refine A_callV (n := 0) dX7_person_28 kvX7_refuse mlX7_77 rfl (az_rc_obj clX7 (hX 0 _ rfl)) (c_X7_refuse l G (d + 30) sh (zput sg 1 (xN σ)) la (-2) 0 hX (by decide) (by decide)) (by omega) (Nat.le_refl _) (Nat.le_refl _) rfl (Nat.le_of_ble_eq_true rfl) (fun r S1 hp => ?_)
        obtain ⟨rfl, rfl⟩ := hp
        show AW l G mX7_person (d + 32) (az_F G Post) 0 0 31 [some (.ref 0), some (.int k), some (.int a), some (.int p)] [.int (-2)] (sh, (az_w (zput sg 1 (xN σ)) 43 0 ((zput sg 1 (xN σ)) 43 0 + 1)), la)
        have hq : (q_person σ k a p) = ((-2), (rfs σ 0)) := by
          unfold q_person
          try simp only [h_1', h_2', h_3', and_true, true_and, and_false, false_and, and_self, or_true, true_or, or_false, false_or, not_true_eq_false, not_false_eq_true, if_true, if_false, ite_true, ite_false, decide_true, decide_false, reduceIte]
          first | done | rfl | (rw [Int32.add_comm]; done)
        exact A_iret dX7_person_31 rfl (hP _ _ (XQ_i hq (hK.on1.ref (by decide))))
set_option maxHeartbeats 1000000 in
set_option maxRecDepth 100000 in
theorem x_give (l : Launch) (G : az_Gh) (d : Nat) (sh : List az_Sh) (sg : Nat → Nat → Int32) (la : Nat → Nat → Int64) (g : GGM) (σ : SGM) (p w v : Int32) (hX : az_at sh 0 lyX) (hK : KX g sg la σ) : AM l G (d + 32) mX7_give [.ref 0, .int p, .int w, .int v] (sh, sg, la) 0 0 (XQ sh g (.int (q_give σ p w v).1) (q_give σ p w v).2) := by
  refine az_am knX7_give (Nat.le_of_ble_eq_true rfl) rfl (fun Post hP => ?_)
  show AW l G mX7_give (d + 32) (az_F G Post) 0 0 0 [some (.ref 0), some (.int p), some (.int w), some (.int v), none, none] [] (sh, sg, la)
  have hC := lyX_now hX
  have h8N := hK.ok.2
  refine B_sg hK.z1.symm ?_
  refine A_aload_n dX7_give_0 rfl rfl ?_
  refine B_getR (r := 1) dX7_give_1 flX7_10 (hX 0 _ rfl) rfl ?_
  refine A_iload_n dX7_give_4 rfl rfl ?_
  refine A_callV (n := 0) dX7_give_5 kvX2_hasOne mlX7_127 rfl (az_rc_obj clX2 (hX 1 _ rfl)) (kx_hasOne l G (d + 31) sh (zput sg 1 (xN σ)) la g σ p hX hK.on1) (by omega) (Nat.le_refl _) (Nat.le_refl _) rfl (Nat.le_of_ble_eq_true rfl) (fun r S1 hp => ?_)
  obtain ⟨rfl, rfl⟩ := hp
  show AW l G mX7_give (d + 32) (az_F G Post) 0 0 8 [some (.ref 0), some (.int p), some (.int w), some (.int v), none, none] [.int (b2i (0 ≤ p ∧ p < cPp (xN σ)))] (sh, (zput sg 1 (xN σ)), la)
  refine A_if_eq (tgt := 24) dX7_give_8 rfl (fun h_1 => ?_) (fun h_1 => ?_)
  · skip
    have h_1' := b2i_0.mp h_1
    refine A_aload_n dX7_give_24 rfl rfl ?_
    refine A_bipush (v := (-2)) dX7_give_25 (by decide) ?_
    refine A_callV (n := 0) dX7_give_27 kvX7_refuse mlX7_77 rfl (az_rc_obj clX7 (hX 0 _ rfl)) (c_X7_refuse l G (d + 30) sh (zput sg 1 (xN σ)) la (-2) 0 hX (by decide) (by decide)) (by omega) (Nat.le_refl _) (Nat.le_refl _) rfl (Nat.le_of_ble_eq_true rfl) (fun r S1 hp => ?_)
    obtain ⟨rfl, rfl⟩ := hp
    show AW l G mX7_give (d + 32) (az_F G Post) 0 0 30 [some (.ref 0), some (.int p), some (.int w), some (.int v), none, none] [.int (-2)] (sh, (az_w (zput sg 1 (xN σ)) 43 0 ((zput sg 1 (xN σ)) 43 0 + 1)), la)
    have hq : (q_give σ p w v) = ((-2), (rfs σ 0)) := by
      unfold q_give
      try simp only [h_1', and_true, true_and, and_false, false_and, and_self, or_true, true_or, or_false, false_or, not_true_eq_false, not_false_eq_true, if_true, if_false, ite_true, ite_false, decide_true, decide_false, reduceIte]
      first | done | rfl | (rw [Int32.add_comm]; done)
    exact A_iret dX7_give_30 rfl (hP _ _ (XQ_i hq (hK.on1.ref (by decide))))
  · skip
    have h_1' := b2i_n.mp h_1
    obtain ⟨p1, hp1, rfl⟩ := nI_exp hK.on1.ok h_1'
    have hc_p1 : (nI p1).toNatClampNeg = p1 := nI_clamp (by omega)
    refine A_iload_n dX7_give_11 rfl rfl ?_
    refine A_gets (k := 1001) dX7_give_12 (by decide) (fun U h => h.2.2.2.2.2.1.2.1) flX7_159 ?_
    refine A_elen dX7_give_15 (by decide) (by decide) ?_
    refine A_iconst (v := 1) dX7_give_16 (by decide) ?_
    refine A_isub dX7_give_17 ?_
    refine B_top (show nI (az_ex G 1001).1 - 1 = 2 from (show nI 3 - 1 = 2 from by decide)) ?_
    refine A_callS (n := 0) dX7_give_18 ksX7_isWithin mlX7_73 rfl (c_X7_isWithin l G (d + 31) sh (zput sg 1 (xN σ)) la w 2) (by omega) (Nat.le_refl _) (Nat.le_refl _) rfl (Nat.le_of_ble_eq_true rfl) (fun r S1 hp => ?_)
    obtain ⟨rfl, rfl⟩ := hp
    show AW l G mX7_give (d + 32) (az_F G Post) 0 0 21 [some (.ref 0), some (.int (nI p1)), some (.int w), some (.int v), none, none] [.int (b2i (0 ≤ w ∧ w ≤ 2))] (sh, (zput sg 1 (xN σ)), la)
    refine A_if_ne (tgt := 31) dX7_give_21 rfl (fun h_2 => ?_) (fun h_2 => ?_)
    · skip
      have h_2' := b2i_n.mp h_2
      obtain ⟨w1, hw1, rfl⟩ := nI_ex (m := 2) h_2'
      have hc_w1 : (nI w1).toNatClampNeg = w1 := nI_clamp (by omega)
      refine A_iload_n dX7_give_31 rfl rfl ?_
      refine A_gets (k := 1001) dX7_give_32 (by decide) (fun U h => h.2.2.2.2.2.1.2.1) flX7_159 ?_
      refine A_iload_n dX7_give_35 rfl rfl ?_
      refine A_eald (i := w1) dX7_give_36 (by decide) (by decide) (show w1 < 3 by omega) (show 3 < 2 ^ 31 by decide) (rfl) ?_
      refine B_top (zmg_ex hw1) ?_
      refine A_callS (n := 0) dX7_give_37 ksX7_isWithin mlX7_73 rfl (c_X7_isWithin l G (d + 31) sh (zput sg 1 (xN σ)) la v (zmg (nI w1))) (by omega) (Nat.le_refl _) (Nat.le_refl _) rfl (Nat.le_of_ble_eq_true rfl) (fun r S1 hp => ?_)
      obtain ⟨rfl, rfl⟩ := hp
      show AW l G mX7_give (d + 32) (az_F G Post) 0 0 40 [some (.ref 0), some (.int (nI p1)), some (.int (nI w1)), some (.int v), none, none] [.int (b2i (0 ≤ v ∧ v ≤ zmg (nI w1)))] (sh, (zput sg 1 (xN σ)), la)
      refine A_if_ne (tgt := 50) dX7_give_40 rfl (fun h_3 => ?_) (fun h_3 => ?_)
      · skip
        have h_3' := b2i_n.mp h_3
        refine A_iload_n dX7_give_50 rfl rfl ?_
        refine A_if_ne (tgt := 64) dX7_give_51 rfl (fun h_4 => ?_) (fun h_4 => ?_)
        · skip
          refine A_iload_n dX7_give_64 rfl rfl ?_
          refine A_iconst (v := 1) dX7_give_65 (by decide) ?_
          refine A_icmp_ne (tgt := 79) dX7_give_66 rfl (fun h_5 => ?_) (fun h_5 => ?_)
          · skip
            refine A_aload_n dX7_give_79 rfl rfl ?_
            refine B_getR (r := 1) dX7_give_80 flX7_10 (hX 0 _ rfl) rfl ?_
            refine B_getR (r := 6) dX7_give_83 flX7_165 (hX 1 _ rfl) rfl ?_
            refine A_astore (lo2 := [some (.ref 0), some (.int (nI p1)), some (.int (nI w1)), some (.int v), some (.ref 6), none]) dX7_give_86 (by decide) rfl ?_
            refine A_aload dX7_give_88 rfl ?_
            refine A_iload_n dX7_give_90 rfl rfl ?_
            refine B_ialdV (i := p1) (cFe (xN σ) p1) dX7_give_91 (hX 6 _ rfl) (by decide) (rfl) (by omega) (ze_5 _ _ _ _) ?_
            refine A_istore (lo2 := [some (.ref 0), some (.int (nI p1)), some (.int (nI w1)), some (.int v), some (.ref 6), some (.int (cFe (xN σ) p1))]) dX7_give_92 (by decide) rfl ?_
            refine A_aload dX7_give_94 rfl ?_
            refine A_iload_n dX7_give_96 rfl rfl ?_
            refine A_iload_n dX7_give_97 rfl rfl ?_
            refine B_iast (i := p1) dX7_give_98 (hX 6 _ rfl) (by decide) (rfl) (by omega) ?_
            refine B_sg (show _ = (zput sg 1 (sFe (xN σ) (va_up (cFe (xN σ)) p1 v))) from zx_5 _ _ _ _ _) ?_
            refine A_iload dX7_give_99 rfl ?_
            have hv : iR v 40 := iR_ofI (m := 40) (by have q := h_3'; unfold zmg at q; rw [if_neg h_4, if_neg h_5] at q; exact q) (by decide)
            have hq : (q_give σ (nI p1) (nI w1) v) = (cFe (xN σ) p1, (yN σ (sFe (xN σ) (va_up (cFe (xN σ)) p1 v)))) := by
              unfold q_give
              rw [if_pos ⟨h_1', h_2', h_3'⟩, if_neg h_4, if_neg h_5, hc_p1]
            exact A_iret dX7_give_101 rfl (hP _ _ (XQ_i hq (hK.setN (WF_N hK.wf (cW_fe hK.cw (by omega) hv) (Nat.le_refl _)))))
          · skip
            refine A_aload_n dX7_give_69 rfl rfl ?_
            refine B_getR (r := 1) dX7_give_70 flX7_10 (hX 0 _ rfl) rfl ?_
            refine B_getR (r := 5) dX7_give_73 flX7_162 (hX 1 _ rfl) rfl ?_
            refine A_goto (tgt := 86) dX7_give_76 rfl ?_
            refine A_astore (lo2 := [some (.ref 0), some (.int (nI p1)), some (.int (nI w1)), some (.int v), some (.ref 5), none]) dX7_give_86 (by decide) rfl ?_
            refine A_aload dX7_give_88 rfl ?_
            refine A_iload_n dX7_give_90 rfl rfl ?_
            refine B_ialdV (i := p1) (cBr (xN σ) p1) dX7_give_91 (hX 5 _ rfl) (by decide) (rfl) (by omega) (ze_4 _ _ _ _) ?_
            refine A_istore (lo2 := [some (.ref 0), some (.int (nI p1)), some (.int (nI w1)), some (.int v), some (.ref 5), some (.int (cBr (xN σ) p1))]) dX7_give_92 (by decide) rfl ?_
            refine A_aload dX7_give_94 rfl ?_
            refine A_iload_n dX7_give_96 rfl rfl ?_
            refine A_iload_n dX7_give_97 rfl rfl ?_
            refine B_iast (i := p1) dX7_give_98 (hX 5 _ rfl) (by decide) (rfl) (by omega) ?_
            refine B_sg (show _ = (zput sg 1 (sBr (xN σ) (va_up (cBr (xN σ)) p1 v))) from zx_4 _ _ _ _ _) ?_
            refine A_iload dX7_give_99 rfl ?_
            have hv : iR v 9 := iR_ofI (m := 9) (by have q := h_3'; unfold zmg at q; rw [if_neg h_4, if_pos h_5] at q; exact q) (by decide)
            have hq : (q_give σ (nI p1) (nI w1) v) = (cBr (xN σ) p1, (yN σ (sBr (xN σ) (va_up (cBr (xN σ)) p1 v)))) := by
              unfold q_give
              rw [if_pos ⟨h_1', h_2', h_3'⟩, if_neg h_4, if_pos h_5, hc_p1]
            exact A_iret dX7_give_101 rfl (hP _ _ (XQ_i hq (hK.setN (WF_N hK.wf (cW_br hK.cw (by omega) hv) (Nat.le_refl _)))))
        · skip
          refine A_aload_n dX7_give_54 rfl rfl ?_
          refine B_getR (r := 1) dX7_give_55 flX7_10 (hX 0 _ rfl) rfl ?_
          refine B_getR (r := 4) dX7_give_58 flX7_146 (hX 1 _ rfl) rfl ?_
          refine A_goto (tgt := 86) dX7_give_61 rfl ?_
          refine A_astore (lo2 := [some (.ref 0), some (.int (nI p1)), some (.int (nI w1)), some (.int v), some (.ref 4), none]) dX7_give_86 (by decide) rfl ?_
          refine A_aload dX7_give_88 rfl ?_
          refine A_iload_n dX7_give_90 rfl rfl ?_
          refine B_ialdV (i := p1) (cPr (xN σ) p1) dX7_give_91 (hX 4 _ rfl) (by decide) (rfl) (by omega) (ze_3 _ _ _ _) ?_
          refine A_istore (lo2 := [some (.ref 0), some (.int (nI p1)), some (.int (nI w1)), some (.int v), some (.ref 4), some (.int (cPr (xN σ) p1))]) dX7_give_92 (by decide) rfl ?_
          refine A_aload dX7_give_94 rfl ?_
          refine A_iload_n dX7_give_96 rfl rfl ?_
          refine A_iload_n dX7_give_97 rfl rfl ?_
          refine B_iast (i := p1) dX7_give_98 (hX 4 _ rfl) (by decide) (rfl) (by omega) ?_
          refine B_sg (show _ = (zput sg 1 (sPr (xN σ) (va_up (cPr (xN σ)) p1 v))) from zx_3 _ _ _ _ _) ?_
          refine A_iload dX7_give_99 rfl ?_
          have hv : iR v 20 := iR_ofI (m := 20) (by have q := h_3'; unfold zmg at q; rw [if_pos h_4] at q; exact q) (by decide)
          have hq : (q_give σ (nI p1) (nI w1) v) = (cPr (xN σ) p1, (yN σ (sPr (xN σ) (va_up (cPr (xN σ)) p1 v)))) := by
            unfold q_give
            rw [if_pos ⟨h_1', h_2', h_3'⟩, if_pos h_4, hc_p1]
          exact A_iret dX7_give_101 rfl (hP _ _ (XQ_i hq (hK.setN (WF_N hK.wf (cW_pr hK.cw (by omega) hv) (Nat.le_refl _)))))
      · skip
        have h_3' := b2i_0.mp h_3
        refine A_aload_n dX7_give_43 rfl rfl ?_
        refine A_bipush (v := (-2)) dX7_give_44 (by decide) ?_
        refine A_callV (n := 0) dX7_give_46 kvX7_refuse mlX7_77 rfl (az_rc_obj clX7 (hX 0 _ rfl)) (c_X7_refuse l G (d + 30) sh (zput sg 1 (xN σ)) la (-2) 0 hX (by decide) (by decide)) (by omega) (Nat.le_refl _) (Nat.le_refl _) rfl (Nat.le_of_ble_eq_true rfl) (fun r S1 hp => ?_)
        obtain ⟨rfl, rfl⟩ := hp
        show AW l G mX7_give (d + 32) (az_F G Post) 0 0 49 [some (.ref 0), some (.int (nI p1)), some (.int (nI w1)), some (.int v), none, none] [.int (-2)] (sh, (az_w (zput sg 1 (xN σ)) 43 0 ((zput sg 1 (xN σ)) 43 0 + 1)), la)
        have hq : (q_give σ (nI p1) (nI w1) v) = ((-2), (rfs σ 0)) := by
          unfold q_give
          try simp only [h_1', h_2', h_3', hc_p1, hc_w1, and_true, true_and, and_false, false_and, and_self, or_true, true_or, or_false, false_or, not_true_eq_false, not_false_eq_true, if_true, if_false, ite_true, ite_false, decide_true, decide_false, reduceIte]
          first | done | rfl | (rw [Int32.add_comm]; done)
        exact A_iret dX7_give_49 rfl (hP _ _ (XQ_i hq (hK.on1.ref (by decide))))
    · skip
      have h_2' := b2i_0.mp h_2
      refine A_aload_n dX7_give_24 rfl rfl ?_
      refine A_bipush (v := (-2)) dX7_give_25 (by decide) ?_
      refine A_callV (n := 0) dX7_give_27 kvX7_refuse mlX7_77 rfl (az_rc_obj clX7 (hX 0 _ rfl)) (c_X7_refuse l G (d + 30) sh (zput sg 1 (xN σ)) la (-2) 0 hX (by decide) (by decide)) (by omega) (Nat.le_refl _) (Nat.le_refl _) rfl (Nat.le_of_ble_eq_true rfl) (fun r S1 hp => ?_)
      obtain ⟨rfl, rfl⟩ := hp
      show AW l G mX7_give (d + 32) (az_F G Post) 0 0 30 [some (.ref 0), some (.int (nI p1)), some (.int w), some (.int v), none, none] [.int (-2)] (sh, (az_w (zput sg 1 (xN σ)) 43 0 ((zput sg 1 (xN σ)) 43 0 + 1)), la)
      have hq : (q_give σ (nI p1) w v) = ((-2), (rfs σ 0)) := by
        unfold q_give
        try simp only [h_1', h_2', hc_p1, and_true, true_and, and_false, false_and, and_self, or_true, true_or, or_false, false_or, not_true_eq_false, not_false_eq_true, if_true, if_false, ite_true, ite_false, decide_true, decide_false, reduceIte]
        first | done | rfl | (rw [Int32.add_comm]; done)
      exact A_iret dX7_give_30 rfl (hP _ _ (XQ_i hq (hK.on1.ref (by decide))))
theorem cN_set (c : CT) (w : Nat) (v : Int32) : cN (zset c w v) = cN c := by
  unfold zset
  split
  · rfl
  · split
    · rfl
    · split
      · rfl
      · rfl
set_option maxHeartbeats 1000000 in
set_option maxRecDepth 100000 in
theorem x_tell (l : Launch) (G : az_Gh) (d : Nat) (sh : List az_Sh) (sg : Nat → Nat → Int32) (la : Nat → Nat → Int64) (g : GGM) (σ : SGM) (w v : Int32) (hX : az_at sh 0 lyX) (hK : KX g sg la σ) : AM l G (d + 32) mX7_tell [.ref 0, .int w, .int v] (sh, sg, la) 0 0 (XQ sh g (.int (q_tell σ w v).1) (q_tell σ w v).2) := by
  refine az_am knX7_tell (Nat.le_of_ble_eq_true rfl) rfl (fun Post hP => ?_)
  show AW l G mX7_tell (d + 32) (az_F G Post) 0 0 0 [some (.ref 0), some (.int w), some (.int v)] [] (sh, sg, la)
  have hC := lyX_now hX
  have h8N := hK.ok.2
  refine B_sg hK.z1.symm ?_
  refine A_iload_n dX7_tell_0 rfl rfl ?_
  refine A_gets (k := 1002) dX7_tell_1 (by decide) (fun U h => h.2.2.2.2.2.1.2.2) flX7_168 ?_
  refine A_elen dX7_tell_4 (by decide) (by decide) ?_
  refine A_iconst (v := 1) dX7_tell_5 (by decide) ?_
  refine A_isub dX7_tell_6 ?_
  refine B_top (show nI (az_ex G 1002).1 - 1 = 3 from (show nI 4 - 1 = 3 from by decide)) ?_
  refine A_callS (n := 0) dX7_tell_7 ksX7_isWithin mlX7_73 rfl (c_X7_isWithin l G (d + 31) sh (zput sg 1 (xN σ)) la w 3) (by omega) (Nat.le_refl _) (Nat.le_refl _) rfl (Nat.le_of_ble_eq_true rfl) (fun r S1 hp => ?_)
  obtain ⟨rfl, rfl⟩ := hp
  show AW l G mX7_tell (d + 32) (az_F G Post) 0 0 10 [some (.ref 0), some (.int w), some (.int v)] [.int (b2i (0 ≤ w ∧ w ≤ 3))] (sh, (zput sg 1 (xN σ)), la)
  refine A_if_eq (tgt := 25) dX7_tell_10 rfl (fun h_1 => ?_) (fun h_1 => ?_)
  · skip
    have h_1' := b2i_0.mp h_1
    refine A_aload_n dX7_tell_25 rfl rfl ?_
    refine A_bipush (v := (-2)) dX7_tell_26 (by decide) ?_
    refine A_callV (n := 0) dX7_tell_28 kvX7_refuse mlX7_77 rfl (az_rc_obj clX7 (hX 0 _ rfl)) (c_X7_refuse l G (d + 30) sh (zput sg 1 (xN σ)) la (-2) 0 hX (by decide) (by decide)) (by omega) (Nat.le_refl _) (Nat.le_refl _) rfl (Nat.le_of_ble_eq_true rfl) (fun r S1 hp => ?_)
    obtain ⟨rfl, rfl⟩ := hp
    show AW l G mX7_tell (d + 32) (az_F G Post) 0 0 31 [some (.ref 0), some (.int w), some (.int v)] [.int (-2)] (sh, (az_w (zput sg 1 (xN σ)) 43 0 ((zput sg 1 (xN σ)) 43 0 + 1)), la)
    have hq : (q_tell σ w v) = ((-2), (rfs σ 0)) := by
      unfold q_tell
      rw [if_neg (fun q => h_1' q.1)]
      first | done | rfl
    exact A_iret dX7_tell_31 rfl (hP _ _ (XQ_i hq (hK.on1.ref (by decide))))
  · skip
    have h_1' := b2i_n.mp h_1
    obtain ⟨w1, hw1, rfl⟩ := nI_ex (m := 3) h_1'
    have hc_w1 : (nI w1).toNatClampNeg = w1 := nI_clamp (by omega)
    refine A_iload_n dX7_tell_13 rfl rfl ?_
    refine A_gets (k := 1002) dX7_tell_14 (by decide) (fun U h => h.2.2.2.2.2.1.2.2) flX7_168 ?_
    refine A_iload_n dX7_tell_17 rfl rfl ?_
    refine A_eald (i := w1) dX7_tell_18 (by decide) (by decide) (show w1 < 4 by omega) (show 4 < 2 ^ 31 by decide) (rfl) ?_
    refine B_top (zmt_ex hw1) ?_
    refine A_callS (n := 0) dX7_tell_19 ksX7_isWithin mlX7_73 rfl (c_X7_isWithin l G (d + 31) sh (zput sg 1 (xN σ)) la v (zmt w1)) (by omega) (Nat.le_refl _) (Nat.le_refl _) rfl (Nat.le_of_ble_eq_true rfl) (fun r S1 hp => ?_)
    obtain ⟨rfl, rfl⟩ := hp
    show AW l G mX7_tell (d + 32) (az_F G Post) 0 0 22 [some (.ref 0), some (.int (nI w1)), some (.int v)] [.int (b2i (0 ≤ v ∧ v ≤ zmt w1))] (sh, (zput sg 1 (xN σ)), la)
    refine A_if_ne (tgt := 32) dX7_tell_22 rfl (fun h_2 => ?_) (fun h_2 => ?_)
    · skip
      have h_2' := b2i_n.mp h_2
      refine A_aload_n dX7_tell_32 rfl rfl ?_
      refine B_getR (r := 1) dX7_tell_33 flX7_10 (hX 0 _ rfl) rfl ?_
      refine A_iload_n dX7_tell_36 rfl rfl ?_
      refine A_iload_n dX7_tell_37 rfl rfl ?_
      refine A_callV (n := 0) dX7_tell_38 kvX2_change mlX7_171 rfl (az_rc_obj clX2 (hX 1 _ rfl)) (kx_change l G (d + 31) sh sg la (xN σ) w1 v hw1 hC) (by omega) (Nat.le_refl _) (Nat.le_refl _) rfl (Nat.le_of_ble_eq_true rfl) (fun r S1 hp => ?_)
      obtain ⟨rfl, rfl⟩ := hp
      show AW l G mX7_tell (d + 32) (az_F G Post) 0 0 41 [some (.ref 0), some (.int (nI w1)), some (.int v)] [.int (zget (xN σ) (nI w1))] (sh, (zput sg 1 (zset (xN σ) w1 v)), la)
      have hq : (q_tell σ (nI w1) v) = (zget (xN σ) (nI w1), (yN σ (zset (xN σ) w1 v))) := by
        unfold q_tell
        rw [hc_w1, if_pos ⟨h_1', h_2'⟩]
      exact A_iret dX7_tell_41 rfl (hP _ _ (XQ_i hq (hK.setN (WF_N hK.wf (cW_set hK.cw h_2') (Nat.le_of_eq (cN_set _ _ _).symm)))))
    · skip
      have h_2' := b2i_0.mp h_2
      refine A_aload_n dX7_tell_25 rfl rfl ?_
      refine A_bipush (v := (-2)) dX7_tell_26 (by decide) ?_
      refine A_callV (n := 0) dX7_tell_28 kvX7_refuse mlX7_77 rfl (az_rc_obj clX7 (hX 0 _ rfl)) (c_X7_refuse l G (d + 30) sh (zput sg 1 (xN σ)) la (-2) 0 hX (by decide) (by decide)) (by omega) (Nat.le_refl _) (Nat.le_refl _) rfl (Nat.le_of_ble_eq_true rfl) (fun r S1 hp => ?_)
      obtain ⟨rfl, rfl⟩ := hp
      show AW l G mX7_tell (d + 32) (az_F G Post) 0 0 31 [some (.ref 0), some (.int (nI w1)), some (.int v)] [.int (-2)] (sh, (az_w (zput sg 1 (xN σ)) 43 0 ((zput sg 1 (xN σ)) 43 0 + 1)), la)
      have hq : (q_tell σ (nI w1) v) = ((-2), (rfs σ 0)) := by
        unfold q_tell
        rw [hc_w1, if_neg (fun q => h_2' q.2)]
        first | done | rfl
      exact A_iret dX7_tell_31 rfl (hP _ _ (XQ_i hq (hK.on1.ref (by decide))))
set_option maxHeartbeats 1000000 in
set_option maxRecDepth 100000 in
theorem x_thaw (l : Launch) (G : az_Gh) (d : Nat) (sh : List az_Sh) (sg : Nat → Nat → Int32) (la : Nat → Nat → Int64) (g : GGM) (σ : SGM)  (hX : az_at sh 0 lyX) (hK : KX g sg la σ) : AM l G (d + 32) mX7_thaw [.ref 0] (sh, sg, la) 0 0 (XQ sh g (.int (q_thaw σ).1) (q_thaw σ).2) := by
  refine az_am knX7_thaw (Nat.le_of_ble_eq_true rfl) rfl (fun Post hP => ?_)
  show AW l G mX7_thaw (d + 32) (az_F G Post) 0 0 0 [some (.ref 0), none] [] (sh, sg, la)
  have hC := lyX_now hX
  have h8N := hK.ok.2
  refine B_sg hK.z1.symm ?_
  refine A_aload_n dX7_thaw_0 rfl rfl ?_
  refine B_getR (r := 1) dX7_thaw_1 flX7_10 (hX 0 _ rfl) rfl ?_
  refine B_getV (cWin (xN σ)) dX7_thaw_4 flX7_174 (hX 1 _ rfl) rfl (zr_9 _ _ _) ?_
  refine A_iconst (v := (-1)) dX7_thaw_7 (by decide) ?_
  refine A_icmp_eq (tgt := 15) dX7_thaw_8 rfl (fun h_1 => ?_) (fun h_1 => ?_)
  · skip
    refine A_iconst (v := 0) dX7_thaw_15 (by decide) ?_
    refine B_top (y := b2i (¬ cWin (xN σ) = -1)) (b2i_f (fun q => q h_1)) ?_
    refine A_istore_n (lo2 := [some (.ref 0), some (.int (b2i (¬ cWin (xN σ) = -1)))]) dX7_thaw_16 rfl (by decide) rfl ?_
    refine A_aload_n dX7_thaw_17 rfl rfl ?_
    refine B_getR (r := 1) dX7_thaw_18 flX7_10 (hX 0 _ rfl) rfl ?_
    refine A_iconst (v := (-1)) dX7_thaw_21 (by decide) ?_
    refine B_putI dX7_thaw_22 fwX7_174 (hX 1 _ rfl) rfl ?_
    refine B_sg (show _ = (zput sg 1 (sWin (xN σ) (-1))) from zw_9 _ _ _ _) ?_
    refine A_iload_n dX7_thaw_25 rfl rfl ?_
    refine A_callS (n := 0) dX7_thaw_26 ksX7_asNumber mlX7_177 rfl (c_X7_asNumber l G (d + 31) sh (zput sg 1 (sWin (xN σ) (-1))) la (¬ cWin (xN σ) = -1)) (by omega) (Nat.le_refl _) (Nat.le_refl _) rfl (Nat.le_of_ble_eq_true rfl) (fun r S1 hp => ?_)
    obtain ⟨rfl, rfl⟩ := hp
    show AW l G mX7_thaw (d + 32) (az_F G Post) 0 0 29 [some (.ref 0), some (.int (b2i (¬ cWin (xN σ) = -1)))] [.int (b2i (¬ cWin (xN σ) = -1))] (sh, (zput sg 1 (sWin (xN σ) (-1))), la)
    have hq : (q_thaw σ) = (b2i (¬ cWin (xN σ) = -1), (yN σ (sWin (xN σ) (-1)))) := by
      rfl
    exact A_iret dX7_thaw_29 rfl (hP _ _ (XQ_i hq (hK.setN (WF_N hK.wf (c := sWin (xN σ) (-1)) hK.cw (Nat.le_refl _)))))
  · skip
    refine A_iconst (v := 1) dX7_thaw_11 (by decide) ?_
    refine A_goto (tgt := 16) dX7_thaw_12 rfl ?_
    refine B_top (y := b2i (¬ cWin (xN σ) = -1)) (b2i_t h_1) ?_
    refine A_istore_n (lo2 := [some (.ref 0), some (.int (b2i (¬ cWin (xN σ) = -1)))]) dX7_thaw_16 rfl (by decide) rfl ?_
    refine A_aload_n dX7_thaw_17 rfl rfl ?_
    refine B_getR (r := 1) dX7_thaw_18 flX7_10 (hX 0 _ rfl) rfl ?_
    refine A_iconst (v := (-1)) dX7_thaw_21 (by decide) ?_
    refine B_putI dX7_thaw_22 fwX7_174 (hX 1 _ rfl) rfl ?_
    refine B_sg (show _ = (zput sg 1 (sWin (xN σ) (-1))) from zw_9 _ _ _ _) ?_
    refine A_iload_n dX7_thaw_25 rfl rfl ?_
    refine A_callS (n := 0) dX7_thaw_26 ksX7_asNumber mlX7_177 rfl (c_X7_asNumber l G (d + 31) sh (zput sg 1 (sWin (xN σ) (-1))) la (¬ cWin (xN σ) = -1)) (by omega) (Nat.le_refl _) (Nat.le_refl _) rfl (Nat.le_of_ble_eq_true rfl) (fun r S1 hp => ?_)
    obtain ⟨rfl, rfl⟩ := hp
    show AW l G mX7_thaw (d + 32) (az_F G Post) 0 0 29 [some (.ref 0), some (.int (b2i (¬ cWin (xN σ) = -1)))] [.int (b2i (¬ cWin (xN σ) = -1))] (sh, (zput sg 1 (sWin (xN σ) (-1))), la)
    have hq : (q_thaw σ) = (b2i (¬ cWin (xN σ) = -1), (yN σ (sWin (xN σ) (-1)))) := by
      rfl
    exact A_iret dX7_thaw_29 rfl (hP _ _ (XQ_i hq (hK.setN (WF_N hK.wf (c := sWin (xN σ) (-1)) hK.cw (Nat.le_refl _)))))
set_option maxHeartbeats 1000000 in
set_option maxRecDepth 100000 in
theorem x_seed (l : Launch) (G : az_Gh) (d : Nat) (sh : List az_Sh) (sg : Nat → Nat → Int32) (la : Nat → Nat → Int64) (g : GGM) (σ : SGM) (v : Int32) (hX : az_at sh 0 lyX) (hK : KX g sg la σ) : AM l G (d + 32) mX7_seed [.ref 0, .int v] (sh, sg, la) 0 0 (XQ sh g (.int (q_seed σ v).1) (q_seed σ v).2) := by
  refine az_am knX7_seed (Nat.le_of_ble_eq_true rfl) rfl (fun Post hP => ?_)
  show AW l G mX7_seed (d + 32) (az_F G Post) 0 0 0 [some (.ref 0), some (.int v), none] [] (sh, sg, la)
  have hC := lyX_now hX
  have h8N := hK.ok.2
  refine B_sg hK.z1.symm ?_
  refine A_aload_n dX7_seed_0 rfl rfl ?_
  refine B_getR (r := 1) dX7_seed_1 flX7_10 (hX 0 _ rfl) rfl ?_
  refine B_getV (cSeed (xN σ)) dX7_seed_4 flX7_332 (hX 1 _ rfl) rfl (zr_11 _ _ _) ?_
  refine A_istore_n (lo2 := [some (.ref 0), some (.int v), some (.int (cSeed (xN σ)))]) dX7_seed_7 rfl (by decide) rfl ?_
  refine A_aload_n dX7_seed_8 rfl rfl ?_
  refine B_getR (r := 1) dX7_seed_9 flX7_10 (hX 0 _ rfl) rfl ?_
  refine A_iload_n dX7_seed_12 rfl rfl ?_
  refine B_putI dX7_seed_13 fwX7_332 (hX 1 _ rfl) rfl ?_
  refine B_sg (show _ = (zput sg 1 (sSeed (xN σ) v)) from zw_11 _ _ _ _) ?_
  refine A_iload_n dX7_seed_16 rfl rfl ?_
  have hq : (q_seed σ v) = (cSeed (xN σ), (yN σ (sSeed (xN σ) v))) := by
    rfl
  exact A_iret dX7_seed_17 rfl (hP _ _ (XQ_i hq (hK.setN (WF_N hK.wf (c := sSeed (xN σ) v) hK.cw (Nat.le_refl _)))))
set_option maxHeartbeats 1000000 in
set_option maxRecDepth 100000 in
theorem x_feed (l : Launch) (G : az_Gh) (d : Nat) (sh : List az_Sh) (sg : Nat → Nat → Int32) (la : Nat → Nat → Int64) (g : GGM) (σ : SGM) (x : Int32) (hX : az_at sh 0 lyX) (hK : KX g sg la σ) : AM l G (d + 32) mX7_feed [.ref 0, .int x] (sh, sg, la) 0 0 (XQ sh g (.int (q_feed σ x).1) (q_feed σ x).2) := by
  refine az_am knX7_feed (Nat.le_of_ble_eq_true rfl) rfl (fun Post hP => ?_)
  show AW l G mX7_feed (d + 32) (az_F G Post) 0 0 0 [some (.ref 0), some (.int x)] [] (sh, sg, la)
  have hC := lyX_now hX
  have h8N := hK.ok.2
  refine A_iload_n dX7_feed_0 rfl rfl ?_
  refine A_sipush (v := 255) dX7_feed_1 (by decide) ?_
  refine A_callS (n := 0) dX7_feed_4 ksX7_isWithin mlX7_73 rfl (c_X7_isWithin l G (d + 31) sh sg la x 255) (by omega) (Nat.le_refl _) (Nat.le_refl _) rfl (Nat.le_of_ble_eq_true rfl) (fun r S1 hp => ?_)
  obtain ⟨rfl, rfl⟩ := hp
  show AW l G mX7_feed (d + 32) (az_F G Post) 0 0 7 [some (.ref 0), some (.int x)] [.int (b2i (0 ≤ x ∧ x ≤ 255))] (sh, sg, la)
  refine A_if_ne (tgt := 17) dX7_feed_7 rfl (fun h_1 => ?_) (fun h_1 => ?_)
  · skip
    have h_1' := b2i_n.mp h_1
    refine A_aload_n dX7_feed_17 rfl rfl ?_
    refine B_getR (r := 40) dX7_feed_18 flX7_50 (hX 0 _ rfl) rfl ?_
    refine A_callV (n := 0) dX7_feed_21 kvX5_isFull mlX7_181 rfl (az_rc_obj clX5 (hX 40 _ rfl)) (c_X5_isFull l G (d + 31) sh sg la 40 (lyX_tape hX)) (by omega) (Nat.le_refl _) (Nat.le_refl _) rfl (Nat.le_of_ble_eq_true rfl) (fun r S1 hp => ?_)
    obtain ⟨rfl, rfl⟩ := hp
    show AW l G mX7_feed (d + 32) (az_F G Post) 0 0 24 [some (.ref 0), some (.int x)] [.int (b2i (250 ≤ sg 40 1))] (sh, sg, la)
    refine A_if_eq (tgt := 36) dX7_feed_24 rfl (fun h_2 => ?_) (fun h_2 => ?_)
    · skip
      have h_2' := b2i_0.mp h_2
      have hfl : xTn σ < 250 := by
        rcases Nat.lt_or_ge (xTn σ) 250 with q | q
        · exact q
        · exact absurd (by rw [hK.2.2.2.1.1]; exact nI_le (a := 250) q (by have := hK.wf.2.2.1; omega)) h_2'
      refine A_aload_n dX7_feed_36 rfl rfl ?_
      refine B_getR (r := 40) dX7_feed_37 flX7_50 (hX 0 _ rfl) rfl ?_
      refine A_iload_n dX7_feed_40 rfl rfl ?_
      refine A_callV (n := 0) dX7_feed_41 kvX5_append mlX7_182 rfl (az_rc_obj clX5 (hX 40 _ rfl)) (c_X5_append l G (d + 30) sh sg la 40 (xTn σ) x (lyX_tape hX) hK.2.2.2.1.1 hfl) (by omega) (Nat.le_refl _) (Nat.le_refl _) rfl (Nat.le_of_ble_eq_true rfl) (fun r S1 hp => ?_)
      obtain ⟨rfl, rfl⟩ := hp
      show AW l G mX7_feed (d + 32) (az_F G Post) 0 0 44 [some (.ref 0), some (.int x)] [.int (nI (xTn σ + 1))] (sh, (az_w (az_w sg 40 1 (nI (xTn σ + 1))) (40 + 1) (xTn σ) x), la)
      have hK2 : KX g _ la (yT σ (xTn σ + 1) (va_up (xTb σ) (xTn σ) x)) := hK.setT (s' := (az_w (az_w sg 40 1 (nI (xTn σ + 1))) (40 + 1) (xTn σ) x)) (by omega) (fun k q1 q2 => by rw [az_w_ne q2, az_w_ne q1]) (by rw [az_w_ne (by decide), az_w_at]) (by rw [az_w_same, az_w_ne (by decide), hK.2.2.2.1.2])
      have hq : (q_feed σ x) = (nI (xTn σ + 1), (yT σ (xTn σ + 1) (va_up (xTb σ) (xTn σ) x))) := by
        unfold q_feed
        rw [if_pos h_1', if_neg (by omega)]
      exact A_iret dX7_feed_44 rfl (hP _ _ (XQ_i hq hK2))
    · skip
      have h_2' := b2i_n.mp h_2
      have hfl : 250 ≤ xTn σ := by
        have q := h_2'
        rw [hK.2.2.2.1.1] at q
        exact (nI_leI (a := 250) (by decide) (by have := hK.wf.2.2.1; omega)).mp q
      refine A_aload_n dX7_feed_27 rfl rfl ?_
      refine A_bipush (v := (-6)) dX7_feed_28 (by decide) ?_
      refine A_callV (n := 0) dX7_feed_30 kvX7_refuse mlX7_77 rfl (az_rc_obj clX7 (hX 0 _ rfl)) (c_X7_refuse l G (d + 30) sh sg la (-6) 4 hX (by decide) (by decide)) (by omega) (Nat.le_refl _) (Nat.le_refl _) rfl (Nat.le_of_ble_eq_true rfl) (fun r S1 hp => ?_)
      obtain ⟨rfl, rfl⟩ := hp
      show AW l G mX7_feed (d + 32) (az_F G Post) 0 0 33 [some (.ref 0), some (.int x)] [.int (-6)] (sh, (az_w sg 43 4 (sg 43 4 + 1)), la)
      refine A_goto (tgt := 44) dX7_feed_33 rfl ?_
      have hq : (q_feed σ x) = ((-6), (rfs σ 4)) := by
        unfold q_feed
        rw [if_pos h_1', if_pos hfl]
        first | done | rfl
      exact A_iret dX7_feed_44 rfl (hP _ _ (XQ_i hq (hK.ref (by decide))))
  · skip
    have h_1' := b2i_0.mp h_1
    refine A_aload_n dX7_feed_10 rfl rfl ?_
    refine A_bipush (v := (-2)) dX7_feed_11 (by decide) ?_
    refine A_callV (n := 0) dX7_feed_13 kvX7_refuse mlX7_77 rfl (az_rc_obj clX7 (hX 0 _ rfl)) (c_X7_refuse l G (d + 30) sh sg la (-2) 0 hX (by decide) (by decide)) (by omega) (Nat.le_refl _) (Nat.le_refl _) rfl (Nat.le_of_ble_eq_true rfl) (fun r S1 hp => ?_)
    obtain ⟨rfl, rfl⟩ := hp
    show AW l G mX7_feed (d + 32) (az_F G Post) 0 0 16 [some (.ref 0), some (.int x)] [.int (-2)] (sh, (az_w sg 43 0 (sg 43 0 + 1)), la)
    have hq : (q_feed σ x) = ((-2), (rfs σ 0)) := by
      unfold q_feed
      try simp only [h_1', and_true, true_and, and_false, false_and, and_self, or_true, true_or, or_false, false_or, not_true_eq_false, not_false_eq_true, if_true, if_false, ite_true, ite_false, decide_true, decide_false, reduceIte]
      first | done | rfl | (rw [Int32.add_comm]; done)
    exact A_iret dX7_feed_16 rfl (hP _ _ (XQ_i hq (hK.ref (by decide))))
set_option maxHeartbeats 1000000 in
set_option maxRecDepth 100000 in
theorem x_wipe (l : Launch) (G : az_Gh) (d : Nat) (sh : List az_Sh) (sg : Nat → Nat → Int32) (la : Nat → Nat → Int64) (g : GGM) (σ : SGM)  (hX : az_at sh 0 lyX) (hK : KX g sg la σ) : AM l G (d + 32) mX7_wipe [.ref 0] (sh, sg, la) 0 0 (XQ sh g (.int (q_wipe σ).1) (q_wipe σ).2) := by
  refine az_am knX7_wipe (Nat.le_of_ble_eq_true rfl) rfl (fun Post hP => ?_)
  show AW l G mX7_wipe (d + 32) (az_F G Post) 0 0 0 [some (.ref 0)] [] (sh, sg, la)
  have hC := lyX_now hX
  have h8N := hK.ok.2
  refine A_aload_n dX7_wipe_0 rfl rfl ?_
  refine B_getR (r := 40) dX7_wipe_1 flX7_50 (hX 0 _ rfl) rfl ?_
  refine A_callV (n := 0) dX7_wipe_4 kvX5_clear mlX7_185 rfl (az_rc_obj clX5 (hX 40 _ rfl)) (c_X5_clear l G (d + 31) sh sg la 40 (lyX_tape hX)) (by omega) (Nat.le_refl _) (Nat.le_refl _) rfl (Nat.le_of_ble_eq_true rfl) (fun r S1 hp => ?_)
  obtain ⟨rfl, rfl⟩ := hp
  show AW l G mX7_wipe (d + 32) (az_F G Post) 0 0 7 [some (.ref 0)] [.int (sg 40 1)] (sh, (az_w sg 40 1 0), la)
  have hK2 : KX g _ la (yT σ 0 (xTb σ)) := hK.setT (s' := (az_w sg 40 1 0)) (by omega) (fun k q1 q2 => az_w_ne q1) (az_w_at _ _ _ _) (by rw [az_w_ne (by decide), hK.2.2.2.1.2])
  have hq : (q_wipe σ) = (sg 40 1, (yT σ 0 (xTb σ))) := by
    unfold q_wipe; rw [hK.2.2.2.1.1]
  exact A_iret dX7_wipe_7 rfl (hP _ _ (XQ_i hq hK2))
