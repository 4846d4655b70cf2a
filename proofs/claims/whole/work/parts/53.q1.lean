theorem k_rowFault (l : Launch) (G : az_Gh) (d : Nat) (sh : List az_Sh) (sg : Nat → Nat → Int32) (la : Nat → Nat → Int64) (g : GGM) (σ : SGM) (s n : Int32) (hX : az_at sh 0 lyX) (hK : KX g sg la σ) : FM l G (d + 2) mX7_rowFault [.ref 0, .int s, .int n] (sh, sg, la) (some (.int (q_rf σ s n))) (sh, sg, la) := by
  by_cases h : 0 ≤ s ∧ s ≤ 7
  · obtain ⟨k, hk, rfl⟩ := nI_ex (m := 7) h
    have q := c_X7_rowFault l G d sh sg la k n hX (by omega)
    have e : zrf sg k n = q_rf σ (nI k) n := by
      obtain ⟨e1, e2, e3, _⟩ := hK.sh (show k < 8 by omega)
      unfold zrf q_rf xf
      rw [if_pos h, nI_clamp (by omega), e1, e2, e3]
    rw [e] at q; exact q
  · have e : q_rf σ s n = -2 := if_neg h
    rw [e]; exact c_X7_rowFault_no l G d sh sg la s n hX h
theorem q_rf_k (σ : SGM) (s n : Int32) : ∃ k, k < 5 ∧ (q_rf σ s n = 0 ∨ -2 - q_rf σ s n = nI k) := by
  unfold q_rf
  split
  · split
    · exact ⟨1, by omega, Or.inr (by decide)⟩
    · split
      · exact ⟨2, by omega, Or.inr (by decide)⟩
      · split
        · exact ⟨0, by omega, Or.inl rfl⟩
        · exact ⟨0, by omega, Or.inr (by decide)⟩
  · exact ⟨0, by omega, Or.inr (by decide)⟩
theorem q_rf_0 {σ : SGM} {s n : Int32} (h : q_rf σ s n = 0) : (0 ≤ s ∧ s ≤ 7) ∧ fSh (xf σ s) = -1 ∧ ¬ fSo (xf σ s) = -1 ∧ n ≤ nI (fSz (xf σ s)) := by
  unfold q_rf at h
  by_cases h1 : 0 ≤ s ∧ s ≤ 7
  · rw [if_pos h1] at h
    by_cases h2 : ¬ fSh (xf σ s) = -1
    · rw [if_pos h2] at h; exact absurd h (by decide)
    · rw [if_neg h2] at h
      by_cases h3 : fSo (xf σ s) = -1 ∧ fSh (xf σ s) = -1
      · rw [if_pos h3] at h; exact absurd h (by decide)
      · rw [if_neg h3] at h
        by_cases h4 : n ≤ nI (fSz (xf σ s))
        · exact ⟨h1, Decidable.not_not.mp h2, fun q => h3 ⟨q, Decidable.not_not.mp h2⟩, h4⟩
        · rw [if_neg h4] at h; exact absurd h (by decide)
  · rw [if_neg h1] at h; exact absurd h (by decide)
theorem qr_v {σ : SGM} {f : Int32} {k : Nat} (hk : k < 5) (h : -2 - f = nI k) : qr σ f = (f, rfs σ k) := by
  unfold qr
  rw [h, nI_clamp (by omega)]
theorem zat_x {g : GGM} {sg : Nat → Nat → Int32} {la : Nat → Nat → Int64} {σ : SGM} (hK : KX g sg la σ) {s : Nat} (hs : s < 8) : zat sg la (44 + 2 * s) = xat (xS σ s) := by
  funext i
  obtain ⟨e1, e2, e3, e4⟩ := hK.sh hs
  unfold zat xat
  rw [e2, e4]
theorem ks_holdsRow (l : Launch) (G : az_Gh) (d : Nat) (sh : List az_Sh) (sg : Nat → Nat → Int32) (la : Nat → Nat → Int64) (g : GGM) (σ : SGM) (s : Nat)  (hX : az_at sh 0 lyX) (hK : KX g sg la σ) (hs : s < 8) : FM l G d mX4_holdsRow [.ref (44 + 2 * s)] (sh, sg, la) (some (.int (b2i (¬ fSo (xS σ s) = -1)))) (sh, sg, la) := by
  obtain ⟨e1, e2, e3, e4⟩ := hK.sh hs
  have q := c_X4_holdsRow l G d sh sg la (44 + 2 * s) (lyX_shelf hX hs)
  rw [e1] at q
  exact q
theorem ks_holdsOne (l : Launch) (G : az_Gh) (d : Nat) (sh : List az_Sh) (sg : Nat → Nat → Int32) (la : Nat → Nat → Int64) (g : GGM) (σ : SGM) (s : Nat)  (hX : az_at sh 0 lyX) (hK : KX g sg la σ) (hs : s < 8) : FM l G d mX4_holdsOne [.ref (44 + 2 * s)] (sh, sg, la) (some (.int (b2i (¬ fSh (xS σ s) = -1)))) (sh, sg, la) := by
  obtain ⟨e1, e2, e3, e4⟩ := hK.sh hs
  have q := c_X4_holdsOne l G d sh sg la (44 + 2 * s) (lyX_shelf hX hs)
  rw [e3] at q
  exact q
theorem ks_isBare (l : Launch) (G : az_Gh) (d : Nat) (sh : List az_Sh) (sg : Nat → Nat → Int32) (la : Nat → Nat → Int64) (g : GGM) (σ : SGM) (s : Nat)  (hX : az_at sh 0 lyX) (hK : KX g sg la σ) (hs : s < 8) : FM l G (d + 1) mX4_isBare [.ref (44 + 2 * s)] (sh, sg, la) (some (.int (b2i (fSo (xS σ s) = -1 ∧ fSh (xS σ s) = -1)))) (sh, sg, la) := by
  obtain ⟨e1, e2, e3, e4⟩ := hK.sh hs
  have q := c_X4_isBare l G d sh sg la (44 + 2 * s) (lyX_shelf hX hs)
  rw [e1, e3] at q
  exact q
theorem ks_hasPlace (l : Launch) (G : az_Gh) (d : Nat) (sh : List az_Sh) (sg : Nat → Nat → Int32) (la : Nat → Nat → Int64) (g : GGM) (σ : SGM) (s : Nat) (i : Int32) (hX : az_at sh 0 lyX) (hK : KX g sg la σ) (hs : s < 8) : FM l G d mX4_hasPlace [.ref (44 + 2 * s), .int i] (sh, sg, la) (some (.int (b2i (0 ≤ i ∧ i < nI (fSz (xS σ s)))))) (sh, sg, la) := by
  obtain ⟨e1, e2, e3, e4⟩ := hK.sh hs
  have q := c_X4_hasPlace l G d sh sg la (44 + 2 * s) i (lyX_shelf hX hs)
  rw [e2] at q
  exact q
theorem ks_hasStretch (l : Launch) (G : az_Gh) (d : Nat) (sh : List az_Sh) (sg : Nat → Nat → Int32) (la : Nat → Nat → Int64) (g : GGM) (σ : SGM) (s : Nat) (i n : Int32) (hX : az_at sh 0 lyX) (hK : KX g sg la σ) (hs : s < 8) : FM l G d mX4_hasStretch [.ref (44 + 2 * s), .int i, .int n] (sh, sg, la) (some (.int (b2i (0 ≤ n ∧ n ≤ nI (fSz (xS σ s)) ∧ 0 ≤ i ∧ i ≤ nI (fSz (xS σ s)) - n)))) (sh, sg, la) := by
  obtain ⟨e1, e2, e3, e4⟩ := hK.sh hs
  have q := c_X4_hasStretch l G d sh sg la (44 + 2 * s) i n (lyX_shelf hX hs)
  rw [e2] at q
  exact q
theorem ks_at (l : Launch) (G : az_Gh) (d : Nat) (sh : List az_Sh) (sg : Nat → Nat → Int32) (la : Nat → Nat → Int64) (g : GGM) (σ : SGM) (s : Nat) (i : Int32) (hX : az_at sh 0 lyX) (hK : KX g sg la σ) (hs : s < 8) : FM l G (d + 1) mX4_at [.ref (44 + 2 * s), .int i] (sh, sg, la) (some (.long (xat (xS σ s) i))) (sh, sg, la) := by
  obtain ⟨e1, e2, e3, e4⟩ := hK.sh hs
  have q := c_X4_at l G d sh sg la (44 + 2 * s) i (lyX_shelf hX hs) (fSz (xS σ s)) e2 (hK.fw hs).2.1
  rw [zat_x hK hs] at q
  exact q
set_option maxHeartbeats 1000000 in
set_option maxRecDepth 100000 in
theorem x_row (l : Launch) (G : az_Gh) (d : Nat) (sh : List az_Sh) (sg : Nat → Nat → Int32) (la : Nat → Nat → Int64) (g : GGM) (σ : SGM) (s t n : Int32) (hX : az_at sh 0 lyX) (hK : KX g sg la σ) : AM l G (d + 32) mX7_row [.ref 0, .int s, .int t, .int n] (sh, sg, la) 0 0 (XQ sh g (.int (q_row σ s t n).1) (q_row σ s t n).2) := by
  refine az_am knX7_row (Nat.le_of_ble_eq_true rfl) rfl (fun Post hP => ?_)
  show AW l G mX7_row (d + 32) (az_F G Post) 0 0 0 [some (.ref 0), some (.int s), some (.int t), some (.int n)] [] (sh, sg, la)
  have hC := lyX_now hX
  have h8N := hK.ok.2
  refine A_iload_n dX7_row_0 rfl rfl ?_
  refine A_callS (n := 0) dX7_row_1 ksX7_isShelf mlX7_69 rfl (c_X7_isShelf l G (d + 30) sh sg la s) (by omega) (Nat.le_refl _) (Nat.le_refl _) rfl (Nat.le_of_ble_eq_true rfl) (fun r S1 hp => ?_)
  obtain ⟨rfl, rfl⟩ := hp
  show AW l G mX7_row (d + 32) (az_F G Post) 0 0 4 [some (.ref 0), some (.int s), some (.int t), some (.int n)] [.int (b2i (0 ≤ s ∧ s ≤ 7))] (sh, sg, la)
  refine A_if_eq (tgt := 24) dX7_row_4 rfl (fun h_1 => ?_) (fun h_1 => ?_)
  · skip
    have h_1' := b2i_0.mp h_1
    refine A_aload_n dX7_row_24 rfl rfl ?_
    refine A_bipush (v := (-2)) dX7_row_25 (by decide) ?_
    refine A_callV (n := 0) dX7_row_27 kvX7_refuse mlX7_77 rfl (az_rc_obj clX7 (hX 0 _ rfl)) (c_X7_refuse l G (d + 30) sh sg la (-2) 0 hX (by decide) (by decide)) (by omega) (Nat.le_refl _) (Nat.le_refl _) rfl (Nat.le_of_ble_eq_true rfl) (fun r S1 hp => ?_)
    obtain ⟨rfl, rfl⟩ := hp
    show AW l G mX7_row (d + 32) (az_F G Post) 0 0 30 [some (.ref 0), some (.int s), some (.int t), some (.int n)] [.int (-2)] (sh, (az_w sg 43 0 (sg 43 0 + 1)), la)
    have hq : (q_row σ s t n) = ((-2), (rfs σ 0)) := by
      unfold q_row
      unfold xf
      try simp only [h_1', and_true, true_and, and_false, false_and, and_self, or_true, true_or, or_false, false_or, not_true_eq_false, not_false_eq_true, if_true, if_false, ite_true, ite_false, decide_true, decide_false, reduceIte]
      first | done | rfl | (rw [Int32.add_comm]; done)
    exact A_iret dX7_row_30 rfl (hP _ _ (XQ_i hq (hK.ref (by decide))))
  · skip
    have h_1' := b2i_n.mp h_1
    refine A_iload_n dX7_row_7 rfl rfl ?_
    refine A_iconst (v := 4) dX7_row_8 (by decide) ?_
    refine A_callS (n := 0) dX7_row_9 ksX7_isWithin mlX7_73 rfl (c_X7_isWithin l G (d + 31) sh sg la t 4) (by omega) (Nat.le_refl _) (Nat.le_refl _) rfl (Nat.le_of_ble_eq_true rfl) (fun r S1 hp => ?_)
    obtain ⟨rfl, rfl⟩ := hp
    show AW l G mX7_row (d + 32) (az_F G Post) 0 0 12 [some (.ref 0), some (.int s), some (.int t), some (.int n)] [.int (b2i (0 ≤ t ∧ t ≤ 4))] (sh, sg, la)
    refine A_if_eq (tgt := 24) dX7_row_12 rfl (fun h_2 => ?_) (fun h_2 => ?_)
    · skip
      have h_2' := b2i_0.mp h_2
      refine A_aload_n dX7_row_24 rfl rfl ?_
      refine A_bipush (v := (-2)) dX7_row_25 (by decide) ?_
      refine A_callV (n := 0) dX7_row_27 kvX7_refuse mlX7_77 rfl (az_rc_obj clX7 (hX 0 _ rfl)) (c_X7_refuse l G (d + 30) sh sg la (-2) 0 hX (by decide) (by decide)) (by omega) (Nat.le_refl _) (Nat.le_refl _) rfl (Nat.le_of_ble_eq_true rfl) (fun r S1 hp => ?_)
      obtain ⟨rfl, rfl⟩ := hp
      show AW l G mX7_row (d + 32) (az_F G Post) 0 0 30 [some (.ref 0), some (.int s), some (.int t), some (.int n)] [.int (-2)] (sh, (az_w sg 43 0 (sg 43 0 + 1)), la)
      have hq : (q_row σ s t n) = ((-2), (rfs σ 0)) := by
        unfold q_row
        unfold xf
        try simp only [h_1', h_2', and_true, true_and, and_false, false_and, and_self, or_true, true_or, or_false, false_or, not_true_eq_false, not_false_eq_true, if_true, if_false, ite_true, ite_false, decide_true, decide_false, reduceIte]
        first | done | rfl | (rw [Int32.add_comm]; done)
      exact A_iret dX7_row_30 rfl (hP _ _ (XQ_i hq (hK.ref (by decide))))
    · skip
      have h_2' := b2i_n.mp h_2
      refine A_iload_n dX7_row_15 rfl rfl ?_
      refine A_bipush (v := 40) dX7_row_16 (by decide) ?_
      refine A_callS (n := 0) dX7_row_18 ksX7_isWithin mlX7_73 rfl (c_X7_isWithin l G (d + 31) sh sg la n 40) (by omega) (Nat.le_refl _) (Nat.le_refl _) rfl (Nat.le_of_ble_eq_true rfl) (fun r S1 hp => ?_)
      obtain ⟨rfl, rfl⟩ := hp
      show AW l G mX7_row (d + 32) (az_F G Post) 0 0 21 [some (.ref 0), some (.int s), some (.int t), some (.int n)] [.int (b2i (0 ≤ n ∧ n ≤ 40))] (sh, sg, la)
      refine A_if_ne (tgt := 31) dX7_row_21 rfl (fun h_3 => ?_) (fun h_3 => ?_)
      · skip
        have h_3' := b2i_n.mp h_3
        obtain ⟨s1, hs1, rfl⟩ := nI_ex (m := 7) h_1'
        have hc_s1 : (nI s1).toNatClampNeg = s1 := nI_clamp (by omega)
        obtain ⟨t1, ht1, rfl⟩ := nI_ex (m := 4) h_2'
        have hc_t1 : (nI t1).toNatClampNeg = t1 := nI_clamp (by omega)
        obtain ⟨n1, hn1, rfl⟩ := nI_ex (m := 40) h_3'
        have hc_n1 : (nI n1).toNatClampNeg = n1 := nI_clamp (by omega)
        refine A_aload_n dX7_row_31 rfl rfl ?_
        refine B_getR (r := 42) dX7_row_32 flX7_56 (hX 0 _ rfl) rfl ?_
        refine A_iload_n dX7_row_35 rfl rfl ?_
        have hS_s1 := lyX_shelf hX (show s1 < 8 by omega)
        have h8_s1 : s1 < 8 := by omega
        refine B_aald (i := s1) (r := (44 + 2 * s1)) dX7_row_36 (hX 42 _ rfl) (by decide) rfl rfl (by decide) (rfl) (by omega) (zsh_r h8_s1) ?_
        refine A_iload_n dX7_row_37 rfl rfl ?_
        refine A_iload_n dX7_row_38 rfl rfl ?_
        refine A_callV (n := 0) dX7_row_39 kvX4_holdRow mlX7_81 rfl (az_rc_obj clX4 (hS_s1 0 _ rfl)) (c_X4_holdRow l G (d + 30) sh sg la (44 + 2 * s1) (nI t1) (nI n1) hS_s1) (by omega) (Nat.le_refl _) (Nat.le_refl _) rfl (Nat.le_of_ble_eq_true rfl) (fun r S1 hp => ?_)
        obtain ⟨rfl, rfl⟩ := hp
        show AW l G mX7_row (d + 32) (az_F G Post) 0 0 42 [some (.ref 0), some (.int (nI s1)), some (.int (nI t1)), some (.int (nI n1))] [] (sh, (az_w (az_w (az_w sg (44 + 2 * s1) 1 (nI t1)) (44 + 2 * s1) 2 (mx0 (mnI 40 (nI n1)))) (44 + 2 * s1) 3 (-1)), (va_up la ((44 + 2 * s1) + 1) (zfill (la ((44 + 2 * s1) + 1)) 40 0)))
        refine A_iconst (v := 1) dX7_row_42 (by decide) ?_
        have hmm : mx0 (mnI 40 (nI n1)) = nI n1 := by
          have q1 : mnI 40 (nI n1) = nI n1 := by
            unfold mnI
            by_cases q : nI n1 < 40
            · rw [if_pos q]
            · rw [if_neg q]
              have q2 : ¬ n1 < 40 := fun q3 => q (nI_lt (b := 40) q3 (by decide))
              have q4 : n1 = 40 := by omega
              rw [q4]; rfl
          rw [q1]; unfold mx0
          by_cases q : 0 < nI n1
          · rw [if_pos q]
          · rw [if_neg q]
            have q2 : ¬ 0 < n1 := fun q3 => q (nI_lt (a := 0) q3 (by omega))
            have q4 : n1 = 0 := by omega
            rw [q4]; rfl
        have hs0 := hK.sh h8_s1
        have hK2 : KX g _ _ (yS σ (va_up (xS σ) s1 (nI t1, n1, -1, zfill (fEl (xS σ s1)) 40 0))) := hK.setS (s' := (az_w (az_w (az_w sg (44 + 2 * s1) 1 (nI t1)) (44 + 2 * s1) 2 (mx0 (mnI 40 (nI n1)))) (44 + 2 * s1) 3 (-1))) (l' := (va_up la ((44 + 2 * s1) + 1) (zfill (la ((44 + 2 * s1) + 1)) 40 0))) h8_s1 (f := (nI t1, n1, -1, zfill (fEl (xS σ s1)) 40 0)) ⟨Or.inr ⟨t1, ht1, rfl⟩, hn1, fun _ => rfl, fun q => absurd q (nI_n1 (by omega)), Or.inl rfl⟩ (fun k hk => by rw [az_w_ne hk, az_w_ne hk, az_w_ne hk]) (fun k hk => az_up_ne hk) ⟨by rw [az_w_nj (by decide), az_w_nj (by decide), az_w_at]; rfl, by rw [az_w_nj (by decide), az_w_at]; exact hmm, az_w_at _ _ _ _, by rw [az_up_self, hs0.2.2.2]; rfl⟩
        have hq : (q_row σ (nI s1) (nI t1) (nI n1)) = (1, yS σ (va_up (xS σ) s1 (nI t1, n1, -1, zfill (fEl (xS σ s1)) 40 0))) := by
          unfold q_row
          unfold xf
          try simp only [h_1', h_2', h_3', hc_s1, hc_t1, hc_n1, and_true, true_and, and_false, false_and, and_self, or_true, true_or, or_false, false_or, not_true_eq_false, not_false_eq_true, if_true, if_false, ite_true, ite_false, decide_true, decide_false, reduceIte]
          first | done | rfl | (rw [Int32.add_comm]; done)
        exact A_iret dX7_row_43 rfl (hP _ _ (XQ_i hq hK2))
      · skip
        have h_3' := b2i_0.mp h_3
        refine A_aload_n dX7_row_24 rfl rfl ?_
        refine A_bipush (v := (-2)) dX7_row_25 (by decide) ?_
        refine A_callV (n := 0) dX7_row_27 kvX7_refuse mlX7_77 rfl (az_rc_obj clX7 (hX 0 _ rfl)) (c_X7_refuse l G (d + 30) sh sg la (-2) 0 hX (by decide) (by decide)) (by omega) (Nat.le_refl _) (Nat.le_refl _) rfl (Nat.le_of_ble_eq_true rfl) (fun r S1 hp => ?_)
        obtain ⟨rfl, rfl⟩ := hp
        show AW l G mX7_row (d + 32) (az_F G Post) 0 0 30 [some (.ref 0), some (.int s), some (.int t), some (.int n)] [.int (-2)] (sh, (az_w sg 43 0 (sg 43 0 + 1)), la)
        have hq : (q_row σ s t n) = ((-2), (rfs σ 0)) := by
          unfold q_row
          unfold xf
          try simp only [h_1', h_2', h_3', and_true, true_and, and_false, false_and, and_self, or_true, true_or, or_false, false_or, not_true_eq_false, not_false_eq_true, if_true, if_false, ite_true, ite_false, decide_true, decide_false, reduceIte]
          first | done | rfl | (rw [Int32.add_comm]; done)
        exact A_iret dX7_row_30 rfl (hP _ _ (XQ_i hq (hK.ref (by decide))))
set_option maxHeartbeats 1000000 in
set_option maxRecDepth 100000 in
theorem x_set (l : Launch) (G : az_Gh) (d : Nat) (sh : List az_Sh) (sg : Nat → Nat → Int32) (la : Nat → Nat → Int64) (g : GGM) (σ : SGM) (s i : Int32) (v : Int64) (hX : az_at sh 0 lyX) (hK : KX g sg la σ) : AM l G (d + 32) mX7_set [.ref 0, .int s, .int i, .long v] (sh, sg, la) 0 0 (XQ sh g (.int (q_set σ s i v).1) (q_set σ s i v).2) := by
  refine az_am knX7_set (Nat.le_of_ble_eq_true rfl) rfl (fun Post hP => ?_)
  show AW l G mX7_set (d + 32) (az_F G Post) 0 0 0 [some (.ref 0), some (.int s), some (.int i), some (.long v), none, none] [] (sh, sg, la)
  have hC := lyX_now hX
  have h8N := hK.ok.2
  refine A_aload_n dX7_set_0 rfl rfl ?_
  refine A_iload_n dX7_set_1 rfl rfl ?_
  refine A_iconst (v := 0) dX7_set_2 (by decide) ?_
  refine A_callV (n := 0) dX7_set_3 kvX7_rowFault mlX7_85 rfl (az_rc_obj clX7 (hX 0 _ rfl)) (k_rowFault l G (d + 29) sh sg la g σ s 0 hX hK) (by omega) (Nat.le_refl _) (Nat.le_refl _) rfl (Nat.le_of_ble_eq_true rfl) (fun r S1 hp => ?_)
  obtain ⟨rfl, rfl⟩ := hp
  show AW l G mX7_set (d + 32) (az_F G Post) 0 0 6 [some (.ref 0), some (.int s), some (.int i), some (.long v), none, none] [.int (q_rf σ s 0)] (sh, sg, la)
  refine A_istore (lo2 := [some (.ref 0), some (.int s), some (.int i), some (.long v), none, some (.int (q_rf σ s 0))]) dX7_set_6 (by decide) rfl ?_
  refine A_iload dX7_set_8 rfl ?_
  refine A_if_eq (tgt := 20) dX7_set_10 rfl (fun h_1 => ?_) (fun h_1 => ?_)
  · skip
    obtain ⟨hsh, hs1, hs2, hs3⟩ := q_rf_0 h_1
    obtain ⟨s1, hs1, rfl⟩ := nI_ex (m := 7) hsh
    have hc_s1 : (nI s1).toNatClampNeg = s1 := nI_clamp (by omega)
    refine A_aload_n dX7_set_20 rfl rfl ?_
    refine B_getR (r := 42) dX7_set_21 flX7_56 (hX 0 _ rfl) rfl ?_
    refine A_iload_n dX7_set_24 rfl rfl ?_
    have hS_s1 := lyX_shelf hX (show s1 < 8 by omega)
    have h8_s1 : s1 < 8 := by omega
    refine B_aald (i := s1) (r := (44 + 2 * s1)) dX7_set_25 (hX 42 _ rfl) (by decide) rfl rfl (by decide) (rfl) (by omega) (zsh_r h8_s1) ?_
    refine A_iload_n dX7_set_26 rfl rfl ?_
    refine A_callV (n := 0) dX7_set_27 kvX4_hasPlace mlX7_89 rfl (az_rc_obj clX4 (hS_s1 0 _ rfl)) (ks_hasPlace l G (d + 31) sh sg la g σ s1 i hX hK h8_s1) (by omega) (Nat.le_refl _) (Nat.le_refl _) rfl (Nat.le_of_ble_eq_true rfl) (fun r S1 hp => ?_)
    obtain ⟨rfl, rfl⟩ := hp
    show AW l G mX7_set (d + 32) (az_F G Post) 0 0 30 [some (.ref 0), some (.int (nI s1)), some (.int i), some (.long v), none, some (.int (q_rf σ (nI s1) 0))] [.int (b2i (0 ≤ i ∧ i < nI (fSz (xS σ s1))))] (sh, sg, la)
    refine A_if_ne (tgt := 40) dX7_set_30 rfl (fun h_2 => ?_) (fun h_2 => ?_)
    · skip
      have h_2' := b2i_n.mp h_2
      refine A_aload_n dX7_set_40 rfl rfl ?_
      refine B_getR (r := 42) dX7_set_41 flX7_56 (hX 0 _ rfl) rfl ?_
      refine A_iload_n dX7_set_44 rfl rfl ?_
      refine B_aald (i := s1) (r := (44 + 2 * s1)) dX7_set_45 (hX 42 _ rfl) (by decide) rfl rfl (by decide) (rfl) (by omega) (zsh_r h8_s1) ?_
      refine A_iload_n dX7_set_46 rfl rfl ?_
      refine A_lload_n dX7_set_47 rfl rfl ?_
      have hpl := h_2'
      have hs0 := hK.sh h8_s1
      have hf0 := hK.fw h8_s1
      refine A_callV (n := 0) dX7_set_48 kvX4_put mlX7_92 rfl (az_rc_obj clX4 (hS_s1 0 _ rfl)) (c_X4_put l G (d + 30) sh sg la (44 + 2 * s1) i v hS_s1 (fSz (xS σ s1)) hs0.2.1 hf0.2.1 hpl.1 (by rw [hs0.2.1]; exact hpl.2)) (by omega) (Nat.le_refl _) (Nat.le_refl _) rfl (Nat.le_of_ble_eq_true rfl) (fun r S1 hp => ?_)
      obtain ⟨rfl, rfl⟩ := hp
      show AW l G mX7_set (d + 32) (az_F G Post) 0 0 51 [some (.ref 0), some (.int (nI s1)), some (.int i), some (.long v), none, some (.int (q_rf σ (nI s1) 0))] [] (sh, sg, (az_wL la ((44 + 2 * s1) + 1) i.toNatClampNeg (zfit (sg (44 + 2 * s1) 1) v)))
      refine A_iconst (v := 1) dX7_set_51 (by decide) ?_
      have hK2 : KX g _ _ (yS σ (va_up (xS σ) s1 (fSo (xS σ s1), fSz (xS σ s1), fSh (xS σ s1), va_up (fEl (xS σ s1)) i.toNatClampNeg (zfit (fSo (xS σ s1)) v)))) := hK.setS (s' := sg) (l' := (az_wL la ((44 + 2 * s1) + 1) i.toNatClampNeg (zfit (sg (44 + 2 * s1) 1) v))) h8_s1 hf0 (fun k hk => rfl) (fun k hk => by unfold az_wL; exact az_up_ne hk) ⟨hs0.1, hs0.2.1, hs0.2.2.1, by unfold az_wL; rw [az_up_self, hs0.2.2.2, hs0.1]; rfl⟩
      have hq : (q_set σ (nI s1) i v) = (1, yS σ (va_up (xS σ) s1 (fSo (xS σ s1), fSz (xS σ s1), fSh (xS σ s1), va_up (fEl (xS σ s1)) i.toNatClampNeg (zfit (fSo (xS σ s1)) v)))) := by
        unfold q_set
        rw [if_pos h_1]
        unfold xf
        rw [hc_s1, if_pos hpl]
      exact A_iret dX7_set_52 rfl (hP _ _ (XQ_i hq hK2))
    · skip
      have h_2' := b2i_0.mp h_2
      refine A_aload_n dX7_set_33 rfl rfl ?_
      refine A_bipush (v := (-2)) dX7_set_34 (by decide) ?_
      refine A_callV (n := 0) dX7_set_36 kvX7_refuse mlX7_77 rfl (az_rc_obj clX7 (hX 0 _ rfl)) (c_X7_refuse l G (d + 30) sh sg la (-2) 0 hX (by decide) (by decide)) (by omega) (Nat.le_refl _) (Nat.le_refl _) rfl (Nat.le_of_ble_eq_true rfl) (fun r S1 hp => ?_)
      obtain ⟨rfl, rfl⟩ := hp
      show AW l G mX7_set (d + 32) (az_F G Post) 0 0 39 [some (.ref 0), some (.int (nI s1)), some (.int i), some (.long v), none, some (.int (q_rf σ (nI s1) 0))] [.int (-2)] (sh, (az_w sg 43 0 (sg 43 0 + 1)), la)
      have hq : (q_set σ (nI s1) i v) = ((-2), (rfs σ 0)) := by
        unfold q_set
        rw [if_pos h_1]
        unfold xf
        rw [hc_s1, if_neg h_2']
        rfl
      exact A_iret dX7_set_39 rfl (hP _ _ (XQ_i hq (hK.ref (by decide))))
  · skip
    refine A_aload_n dX7_set_13 rfl rfl ?_
    refine A_iload dX7_set_14 rfl ?_
    obtain ⟨k9, hk9, hq9⟩ := q_rf_k σ s 0
    have hq9 := hq9.resolve_left h_1
    refine A_callV (n := 0) dX7_set_16 kvX7_refuse mlX7_77 rfl (az_rc_obj clX7 (hX 0 _ rfl)) (c_X7_refuse l G (d + 30) sh sg la (q_rf σ s 0) k9 hX hk9 hq9) (by omega) (Nat.le_refl _) (Nat.le_refl _) rfl (Nat.le_of_ble_eq_true rfl) (fun r S1 hp => ?_)
    obtain ⟨rfl, rfl⟩ := hp
    show AW l G mX7_set (d + 32) (az_F G Post) 0 0 19 [some (.ref 0), some (.int s), some (.int i), some (.long v), none, some (.int (q_rf σ s 0))] [.int (q_rf σ s 0)] (sh, (az_w sg 43 k9 (sg 43 k9 + 1)), la)
    have hq : (q_set σ s i v) = (q_rf σ s 0, (rfs σ k9)) := by
      unfold q_set
      rw [if_neg h_1]
      exact qr_v hk9 hq9
    exact A_iret dX7_set_19 rfl (hP _ _ (XQ_i hq (hK.ref hk9)))
set_option maxHeartbeats 1000000 in
set_option maxRecDepth 100000 in
theorem x_element (l : Launch) (G : az_Gh) (d : Nat) (sh : List az_Sh) (sg : Nat → Nat → Int32) (la : Nat → Nat → Int64) (g : GGM) (σ : SGM) (s i : Int32) (hX : az_at sh 0 lyX) (hK : KX g sg la σ) : AM l G (d + 32) mX7_element [.ref 0, .int s, .int i] (sh, sg, la) 0 0 (XQ sh g (.long (q_element σ s i)) σ) := by
  refine az_am knX7_element (Nat.le_of_ble_eq_true rfl) rfl (fun Post hP => ?_)
  show AW l G mX7_element (d + 32) (az_F G Post) 0 0 0 [some (.ref 0), some (.int s), some (.int i)] [] (sh, sg, la)
  have hC := lyX_now hX
  have h8N := hK.ok.2
  refine A_iload_n dX7_element_0 rfl rfl ?_
  refine A_callS (n := 0) dX7_element_1 ksX7_isShelf mlX7_69 rfl (c_X7_isShelf l G (d + 30) sh sg la s) (by omega) (Nat.le_refl _) (Nat.le_refl _) rfl (Nat.le_of_ble_eq_true rfl) (fun r S1 hp => ?_)
  obtain ⟨rfl, rfl⟩ := hp
  show AW l G mX7_element (d + 32) (az_F G Post) 0 0 4 [some (.ref 0), some (.int s), some (.int i)] [.int (b2i (0 ≤ s ∧ s ≤ 7))] (sh, sg, la)
  refine A_if_eq (tgt := 20) dX7_element_4 rfl (fun h_1 => ?_) (fun h_1 => ?_)
  · skip
    have h_1' := b2i_0.mp h_1
    refine A_lconst (v := 0) dX7_element_20 (by decide) ?_
    have hq : (q_element σ s i) = 0 := by
      unfold q_element
      rw [if_neg h_1']
    exact A_lret dX7_element_21 rfl (hP _ _ (XQ_l hq hK))
  · skip
    have h_1' := b2i_n.mp h_1
    obtain ⟨s1, hs1, rfl⟩ := nI_ex (m := 7) h_1'
    have hc_s1 : (nI s1).toNatClampNeg = s1 := nI_clamp (by omega)
    refine A_aload_n dX7_element_7 rfl rfl ?_
    refine B_getR (r := 42) dX7_element_8 flX7_56 (hX 0 _ rfl) rfl ?_
    refine A_iload_n dX7_element_11 rfl rfl ?_
    have hS_s1 := lyX_shelf hX (show s1 < 8 by omega)
    have h8_s1 : s1 < 8 := by omega
    refine B_aald (i := s1) (r := (44 + 2 * s1)) dX7_element_12 (hX 42 _ rfl) (by decide) rfl rfl (by decide) (rfl) (by omega) (zsh_r h8_s1) ?_
    refine A_iload_n dX7_element_13 rfl rfl ?_
    refine A_callV (n := 0) dX7_element_14 kvX4_at mlX7_120 rfl (az_rc_obj clX4 (hS_s1 0 _ rfl)) (ks_at l G (d + 30) sh sg la g σ s1 i hX hK h8_s1) (by omega) (Nat.le_refl _) (Nat.le_refl _) rfl (Nat.le_of_ble_eq_true rfl) (fun r S1 hp => ?_)
    obtain ⟨rfl, rfl⟩ := hp
    show AW l G mX7_element (d + 32) (az_F G Post) 0 0 17 [some (.ref 0), some (.int (nI s1)), some (.int i)] [.long (xat (xS σ s1) i)] (sh, sg, la)
    refine A_goto (tgt := 21) dX7_element_17 rfl ?_
    have hq : (q_element σ (nI s1) i) = xat (xS σ s1) i := by
      unfold q_element xf
      rw [if_pos h_1', hc_s1]
    exact A_lret dX7_element_21 rfl (hP _ _ (XQ_l hq hK))
set_option maxHeartbeats 1000000 in
set_option maxRecDepth 100000 in
theorem x_holds (l : Launch) (G : az_Gh) (d : Nat) (sh : List az_Sh) (sg : Nat → Nat → Int32) (la : Nat → Nat → Int64) (g : GGM) (σ : SGM) (s : Int32) (hX : az_at sh 0 lyX) (hK : KX g sg la σ) : AM l G (d + 32) mX7_holds [.ref 0, .int s] (sh, sg, la) 0 0 (XQ sh g (.int (q_holds σ s)) σ) := by
  refine az_am knX7_holds (Nat.le_of_ble_eq_true rfl) rfl (fun Post hP => ?_)
  show AW l G mX7_holds (d + 32) (az_F G Post) 0 0 0 [some (.ref 0), some (.int s)] [] (sh, sg, la)
  have hC := lyX_now hX
  have h8N := hK.ok.2
  refine A_iload_n dX7_holds_0 rfl rfl ?_
  refine A_callS (n := 0) dX7_holds_1 ksX7_isShelf mlX7_69 rfl (c_X7_isShelf l G (d + 30) sh sg la s) (by omega) (Nat.le_refl _) (Nat.le_refl _) rfl (Nat.le_of_ble_eq_true rfl) (fun r S1 hp => ?_)
  obtain ⟨rfl, rfl⟩ := hp
  show AW l G mX7_holds (d + 32) (az_F G Post) 0 0 4 [some (.ref 0), some (.int s)] [.int (b2i (0 ≤ s ∧ s ≤ 7))] (sh, sg, la)
  refine A_if_ne (tgt := 9) dX7_holds_4 rfl (fun h_1 => ?_) (fun h_1 => ?_)
  · skip
    have h_1' := b2i_n.mp h_1
    obtain ⟨s1, hs1, rfl⟩ := nI_ex (m := 7) h_1'
    have hc_s1 : (nI s1).toNatClampNeg = s1 := nI_clamp (by omega)
    refine A_aload_n dX7_holds_9 rfl rfl ?_
    refine B_getR (r := 42) dX7_holds_10 flX7_56 (hX 0 _ rfl) rfl ?_
    refine A_iload_n dX7_holds_13 rfl rfl ?_
    have hS_s1 := lyX_shelf hX (show s1 < 8 by omega)
    have h8_s1 : s1 < 8 := by omega
    refine B_aald (i := s1) (r := (44 + 2 * s1)) dX7_holds_14 (hX 42 _ rfl) (by decide) rfl rfl (by decide) (rfl) (by omega) (zsh_r h8_s1) ?_
    refine A_callV (n := 0) dX7_holds_15 kvX4_holdsOne mlX7_96 rfl (az_rc_obj clX4 (hS_s1 0 _ rfl)) (ks_holdsOne l G (d + 31) sh sg la g σ s1  hX hK h8_s1) (by omega) (Nat.le_refl _) (Nat.le_refl _) rfl (Nat.le_of_ble_eq_true rfl) (fun r S1 hp => ?_)
    obtain ⟨rfl, rfl⟩ := hp
    show AW l G mX7_holds (d + 32) (az_F G Post) 0 0 18 [some (.ref 0), some (.int (nI s1))] [.int (b2i (¬ fSh (xS σ s1) = -1))] (sh, sg, la)
    refine A_if_eq (tgt := 36) dX7_holds_18 rfl (fun h_2 => ?_) (fun h_2 => ?_)
    · skip
      have h_2' := b2i_0.mp h_2
      refine A_aload_n dX7_holds_36 rfl rfl ?_
      refine B_getR (r := 42) dX7_holds_37 flX7_56 (hX 0 _ rfl) rfl ?_
      refine A_iload_n dX7_holds_40 rfl rfl ?_
      refine B_aald (i := s1) (r := (44 + 2 * s1)) dX7_holds_41 (hX 42 _ rfl) (by decide) rfl rfl (by decide) (rfl) (by omega) (zsh_r h8_s1) ?_
      refine B_getV (fSo (xS σ s1)) dX7_holds_42 flX7_103 (hS_s1 0 _ rfl) rfl ((hK.sh h8_s1).1) ?_
      have hq : (q_holds σ (nI s1)) = fSo (xS σ s1) := by
        unfold q_holds xf
        rw [if_pos h_1', hc_s1, if_pos (Decidable.not_not.mp h_2')]
      exact A_iret dX7_holds_45 rfl (hP _ _ (XQ_0 hq hK))
    · skip
      have h_2' := b2i_n.mp h_2
      refine A_bipush (v := 10) dX7_holds_21 (by decide) ?_
      refine A_aload_n dX7_holds_23 rfl rfl ?_
      refine B_getR (r := 42) dX7_holds_24 flX7_56 (hX 0 _ rfl) rfl ?_
      refine A_iload_n dX7_holds_27 rfl rfl ?_
      refine B_aald (i := s1) (r := (44 + 2 * s1)) dX7_holds_28 (hX 42 _ rfl) (by decide) rfl rfl (by decide) (rfl) (by omega) (zsh_r h8_s1) ?_
      refine B_getV (fSh (xS σ s1)) dX7_holds_29 flX7_124 (hS_s1 0 _ rfl) rfl ((hK.sh h8_s1).2.2.1) ?_
      refine A_iadd dX7_holds_32 ?_
      refine A_goto (tgt := 45) dX7_holds_33 rfl ?_
      have hq : (q_holds σ (nI s1)) = (10 + fSh (xS σ s1)) := by
        unfold q_holds xf
        rw [if_pos h_1', hc_s1, if_neg h_2']
      exact A_iret dX7_holds_45 rfl (hP _ _ (XQ_0 hq hK))
  · skip
    have h_1' := b2i_0.mp h_1
    refine A_iconst (v := (-1)) dX7_holds_7 (by decide) ?_
    have hq : (q_holds σ s) = (-1) := by
      unfold q_holds
      rw [if_neg h_1']
    exact A_iret dX7_holds_8 rfl (hP _ _ (XQ_0 hq hK))
