theorem zallb_ch {T : Nat → Int32} {s k : Nat} (h : ∀ i, i < zln k → T (s + i) = zch k i) : zallb (fun i => decide (T (s + i) = zch k i)) (zln k) = true := zallb_i.mpr (fun i hi => decide_eq_true (h i hi))
theorem zallb_cn {T : Nat → Int32} {s k i : Nat} (hi : i < zln k) (h : ¬ T (s + i) = zch k i) : zallb (fun i => decide (T (s + i) = zch k i)) (zln k) = false := Bool.eq_false_iff.mpr (fun q => h (of_decide_eq_true (zallb_i.mp q i hi)))
theorem zln_l9 : ∀ k, k < 7 → zln k ≤ 6 := by decide
theorem mTk_j {u : Nat → Nat → Int32} {a t f g x : Int32} {j : Nat} (h : j ≠ 23 ∧ j ≠ 24 ∧ j ≠ 25 ∧ j ≠ 26) : az_w (mTk u a t f g) 60 j x = mTk (az_w u 60 j x) a t f g := by
  unfold mTk
  rw [az_w_sw (Ne.symm h.2.2.2), az_w_sw (i := 25) (Ne.symm h.2.2.1), az_w_sw (i := 24) (Ne.symm h.2.1), az_w_sw (i := 23) (Ne.symm h.1)]
theorem az_w_k {s : Nat → Nat → Int32} {k q i j : Nat} {x y : Int32} (h : k ≠ q) : az_w (az_w s q i x) k j y = az_w (az_w s k j y) q i x := by
  unfold az_w
  rw [az_up_ne h, az_up_ne (Ne.symm h), az_up_sw _ (Ne.symm h)]
theorem mTk_k {u : Nat → Nat → Int32} {a t f g x : Int32} {k i : Nat} (h : k ≠ 60) : az_w (mTk u a t f g) k i x = mTk (az_w u k i x) a t f g := by
  unfold mTk
  rw [az_w_k h, az_w_k h, az_w_k h, az_w_k h]
theorem num_in {T : Nat → Int32} {m e : Nat} {most : Int32} (he : e ≤ m) (h2 : (zst3 T m e).1 = 2) (hM : most ≤ 999) : ((0 ≤ zfg T m e ∧ zfg T m e ≤ most) ↔ ¬ znum T m e most = -1) ∧ (¬ znum T m e most = -1 → zfg T m e = znum T m e most) := by
  have e1 : zfg T m e = zfk T (zss T m e) ((zst3 T m e).2 - zss T m e) := if_pos h2
  by_cases h3 : (zst3 T m e).2 - zss T m e ≤ 3
  · have e2 : zfg T m e = zvl T (zss T m e) ((zst3 T m e).2 - zss T m e) := by rw [e1]; exact if_pos h3
    by_cases h4 : zvl T (zss T m e) ((zst3 T m e).2 - zss T m e) ≤ most
    · have e3 : znum T m e most = zvl T (zss T m e) ((zst3 T m e).2 - zss T m e) := by unfold znum; rw [if_pos ⟨h2, h3⟩, if_pos h4]
      have hd : ∀ k, k < (zst3 T m e).2 - zss T m e → (48 : Int32) ≤ T (zss T m e + k) ∧ T (zss T m e + k) ≤ 57 := by
        have hs := zst3_le (T := T) he
        have hx : (zst3 T m e).2 = zsd T m e := by
          by_cases a : m ≤ zss T m e
          · rw [zst3_0 a] at h2; exact absurd (show (0 : Int32) = 2 from h2) (by decide)
          · by_cases b : zss T m e < zsl T m e
            · rw [zst3_1 a b] at h2; exact absurd (show (1 : Int32) = 2 from h2) (by decide)
            · by_cases d : zss T m e < zsd T m e
              · rw [zst3_2 a b d]
              · rw [zst3_3 a b d] at h2
                by_cases q : T (zss T m e) = 59
                · rw [if_pos q] at h2; exact absurd (show (3 : Int32) = 2 from h2) (by decide)
                · rw [if_neg q] at h2; exact absurd (show (4 : Int32) = 2 from h2) (by decide)
        obtain ⟨r1, r2, r3, r4⟩ := zrun_facts (zcr T 48 57) (show zss T m e ≤ m by omega)
        intro k hk
        have q := r3 (zss T m e + k) (by omega) (by rw [hx] at hk; have : zsd T m e = zrun (zcr T 48 57) m (zss T m e) := rfl; omega)
        exact ⟨zcr_1 q, zcr_2 q⟩
      obtain ⟨v, hv, ev⟩ := zvl_rng _ h3 hd
      have hv9 : v < 1000 := Nat.lt_of_lt_of_le hv (Nat.le_trans (Nat.pow_le_pow_right (by decide) h3) (by decide))
      rw [e2, e3, ev]
      exact ⟨⟨fun _ => nI_n1 (by omega), fun _ => ⟨nI_pos' (by omega), by rw [← ev]; exact h4⟩⟩, fun _ => rfl⟩
    · have e3 : znum T m e most = -1 := by unfold znum; rw [if_pos ⟨h2, h3⟩, if_neg h4]
      rw [e2, e3]
      exact ⟨⟨fun q => absurd q.2 h4, fun q => absurd rfl q⟩, fun q => absurd rfl q⟩
  · have e2 : zfg T m e = 1000 := by rw [e1]; exact if_neg h3
    have e3 : znum T m e most = -1 := by unfold znum; rw [if_neg (fun q => h3 q.2)]
    rw [e2, e3]
    exact ⟨⟨fun q => absurd (Int32.le_trans q.2 hM) (by decide), fun q => absurd rfl q⟩, fun q => absurd rfl q⟩
theorem num_2 {T : Nat → Int32} {m e : Nat} {most : Int32} (h : ¬ znum T m e most = -1) : (zst3 T m e).1 = 2 := by
  unfold znum at h
  by_cases q : (zst3 T m e).1 = 2 ∧ (zst3 T m e).2 - zss T m e ≤ 3
  · exact q.1
  · rw [if_neg q] at h; exact absurd rfl h
set_option maxHeartbeats 1000000 in
set_option maxRecDepth 100000 in
theorem r_isWord (l : Launch) (G : az_Gh) (d : Nat) (sh : List az_Sh) (u : Nat → Nat → Int32) (la : Nat → Nat → Int64) (kp tr : Option Nat) (c : CT) (T : Nat → Int32) (m e : Nat) (k : Nat) (hM : az_at sh 60 (lyM 60 kp tr)) (hT : u 75 = T) (hm : u 60 7 = nI m) (hm2 : m ≤ 250) (he : e ≤ m) (hk : k < 7) : FM l G (d + 4) mX8_isWord [.ref 60, .ref (2000 + k)] (sh, (mput (mTk u (nI (znx T m e)) (zst3 T m e).1 (nI (zss T m e)) (zfg T m e)) 60 c), la) (some (.int (b2i (zwk T m e k = true)))) (sh, mput (mTk u (nI (znx T m e)) (zst3 T m e).1 (nI (zss T m e)) (zfg T m e)) 60 c, la) := by
  refine az_fm knX8_isWord (Nat.le_of_ble_eq_true rfl) rfl (fun Post hP => ?_)
  show AW l G mX8_isWord (d + 4) (az_F G Post) 0 0 0 [some (.ref 60), some (.ref (2000 + k)), none] [] (sh, (mput (mTk u (nI (znx T m e)) (zst3 T m e).1 (nI (zss T m e)) (zfg T m e)) 60 c), la)
  have hle := zst3_le (T := T) he
  have hnx : znx T m e = (zst3 T m e).2 := rfl
  refine A_aload_n dX8_isWord_0 rfl rfl ?_
  refine B_getV ((zst3 T m e).1) dX8_isWord_1 flX8_156 (hM 0 _ rfl) rfl ((mput_f rfl).trans (mTk_24 _ _ _ _ _)) ?_
  refine A_iconst (v := 1) dX8_isWord_4 (by decide) ?_
  refine A_icmp_ne (tgt := 24) dX8_isWord_5 rfl (fun h_1 => ?_) (fun h_1 => ?_)
  · skip
    refine A_iconst (v := 0) dX8_isWord_24 (by decide) ?_
    refine A_zret dX8_isWord_25 rfl (rfl) (az_pi hP ?_ (rfl))
    exact b2i_f (by unfold zwk; rw [zwd_1 h_1]; decide)
  · skip
    refine A_aload_n dX8_isWord_8 rfl rfl ?_
    refine B_getV (nI (znx T m e)) dX8_isWord_9 flX8_147 (hM 0 _ rfl) rfl ((mput_f rfl).trans (mTk_23 _ _ _ _ _)) ?_
    refine A_aload_n dX8_isWord_12 rfl rfl ?_
    refine B_getV (nI (zss T m e)) dX8_isWord_13 flX8_150 (hM 0 _ rfl) rfl ((mput_f rfl).trans (mTk_25 _ _ _ _ _)) ?_
    refine A_isub dX8_isWord_16 ?_
    refine B_top (nI_sub (show zss T m e ≤ znx T m e from hle.2.1) (by have := hle.2.2; omega)) ?_
    refine A_aload_n dX8_isWord_17 rfl rfl ?_
    refine A_callV (n := 0) dX8_isWord_18 kvJ0_length_8abf5 mlX8_169 rfl (az_rc_str hk) (c_J0_length_8abf5 l G (d + 2) sh (mput (mTk u (nI (znx T m e)) ((zst3 T m e).1) (nI (zss T m e)) (zfg T m e)) 60 c) la k hk) (by omega) (Nat.le_refl _) (Nat.le_refl _) rfl (Nat.le_of_ble_eq_true rfl) (fun r S1 hp => ?_)
    obtain ⟨rfl, rfl⟩ := hp
    show AW l G mX8_isWord (d + 4) (az_F G Post) 0 0 21 [some (.ref 60), some (.ref (2000 + k)), none] [.int (nI (zln k)), .int (nI (znx T m e - zss T m e))] (sh, (mput (mTk u (nI (znx T m e)) ((zst3 T m e).1) (nI (zss T m e)) (zfg T m e)) 60 c), la)
    refine A_icmp_eq (tgt := 26) dX8_isWord_21 rfl (fun h_2 => ?_) (fun h_2 => ?_)
    · skip
      have hz6 := zln_l9 k hk
      have hlen : znx T m e - zss T m e = zln k := (nI_eq (by have := hle.2.2; omega) (by omega)).mp h_2
      refine A_iconst (v := 0) dX8_isWord_26 (by decide) ?_
      refine A_istore_n (lo2 := [some (.ref 60), some (.ref (2000 + k)), some (.int 0)]) dX8_isWord_27 rfl (by decide) rfl ?_
      have loop : ∀ (q_i9 i9 : Nat), i9 + q_i9 = zln k → (∀ i, i < i9 → T (zss T m e + i) = zch k i) → AW l G mX8_isWord (d + 4) (az_F G Post) 0 0 28 [some (.ref 60), some (.ref (2000 + k)), some (.int (nI i9))] [] (sh, (mput (mTk u (nI (znx T m e)) ((zst3 T m e).1) (nI (zss T m e)) (zfg T m e)) 60 c), la) := by
        intro q_i9
        induction q_i9 with
        | zero =>
          intro i9  hi_i9 hall 
          have hN_i9 : i9 = zln k := by omega
          subst i9
          refine A_iload_n dX8_isWord_28 rfl rfl ?_
          refine A_aload_n dX8_isWord_29 rfl rfl ?_
          refine A_callV (n := 0) dX8_isWord_30 kvJ0_length_8abf5 mlX8_169 rfl (az_rc_str hk) (c_J0_length_8abf5 l G (d + 2) sh (mput (mTk u (nI (znx T m e)) ((zst3 T m e).1) (nI (zss T m e)) (zfg T m e)) 60 c) la k hk) (by omega) (Nat.le_refl _) (Nat.le_refl _) rfl (Nat.le_of_ble_eq_true rfl) (fun r S1 hp => ?_)
          obtain ⟨rfl, rfl⟩ := hp
          show AW l G mX8_isWord (d + 4) (az_F G Post) 0 0 33 [some (.ref 60), some (.ref (2000 + k)), some (.int (nI (zln k)))] [.int (nI (zln k)), .int (nI (zln k))] (sh, (mput (mTk u (nI (znx T m e)) ((zst3 T m e).1) (nI (zss T m e)) (zfg T m e)) 60 c), la)
          refine A_icmp_ge (tgt := 63) dX8_isWord_33 rfl (fun h_3 => ?_) (fun h_3 => ?_)
          · skip
            refine A_iconst (v := 1) dX8_isWord_63 (by decide) ?_
            refine A_zret dX8_isWord_64 rfl (rfl) (az_pi hP ?_ (rfl))
            exact b2i_t (zwd_4 h_1 hlen (zallb_ch hall))
          · skip
            exact absurd (Int32.le_refl _) h_3
        | succ q_i9 ih =>
          intro i9  hi_i9 hall 
          refine A_iload_n dX8_isWord_28 rfl rfl ?_
          refine A_aload_n dX8_isWord_29 rfl rfl ?_
          refine A_callV (n := 0) dX8_isWord_30 kvJ0_length_8abf5 mlX8_169 rfl (az_rc_str hk) (c_J0_length_8abf5 l G (d + 2) sh (mput (mTk u (nI (znx T m e)) ((zst3 T m e).1) (nI (zss T m e)) (zfg T m e)) 60 c) la k hk) (by omega) (Nat.le_refl _) (Nat.le_refl _) rfl (Nat.le_of_ble_eq_true rfl) (fun r S1 hp => ?_)
          obtain ⟨rfl, rfl⟩ := hp
          show AW l G mX8_isWord (d + 4) (az_F G Post) 0 0 33 [some (.ref 60), some (.ref (2000 + k)), some (.int (nI i9))] [.int (nI (zln k)), .int (nI i9)] (sh, (mput (mTk u (nI (znx T m e)) ((zst3 T m e).1) (nI (zss T m e)) (zfg T m e)) 60 c), la)
          refine A_icmp_ge (tgt := 63) dX8_isWord_33 rfl (fun h_4 => ?_) (fun h_4 => ?_)
          · skip
            exact absurd h_4 (nI_ge (by omega) (by omega))
          · skip
            refine A_aload_n dX8_isWord_36 rfl rfl ?_
            refine B_getR (r := 75) dX8_isWord_37 flX8_31 (hM 0 _ rfl) rfl ?_
            refine A_aload_n dX8_isWord_40 rfl rfl ?_
            refine B_getV (nI (zss T m e)) dX8_isWord_41 flX8_150 (hM 0 _ rfl) rfl ((mput_f rfl).trans (mTk_25 _ _ _ _ _)) ?_
            refine A_iload_n dX8_isWord_44 rfl rfl ?_
            refine A_iadd dX8_isWord_45 ?_
            refine B_ialdV (i := (zss T m e + i9)) (T (zss T m e + i9)) dX8_isWord_46 (hM 15 _ rfl) (by decide) (nI_add _ _) (by have := hle.2.2; have : znx T m e ≤ m := hle.2.2; omega) ((congrFun ((mput_ne (by decide) (by decide)).trans ((mTk_ne (by decide)).trans hT)) _)) ?_
            refine A_aload_n dX8_isWord_47 rfl rfl ?_
            refine A_iload_n dX8_isWord_48 rfl rfl ?_
            refine A_callV (n := 0) dX8_isWord_49 kvJ0_charAt_5068e mlX8_175 rfl (az_rc_str hk) (c_J0_charAt_5068e l G d sh (mput (mTk u (nI (znx T m e)) ((zst3 T m e).1) (nI (zss T m e)) (zfg T m e)) 60 c) la k i9 hk (by omega)) (by omega) (Nat.le_refl _) (Nat.le_refl _) rfl (Nat.le_of_ble_eq_true rfl) (fun r S1 hp => ?_)
            obtain ⟨rfl, rfl⟩ := hp
            show AW l G mX8_isWord (d + 4) (az_F G Post) 0 0 52 [some (.ref 60), some (.ref (2000 + k)), some (.int (nI i9))] [.int (zch k i9), .int (T (zss T m e + i9))] (sh, (mput (mTk u (nI (znx T m e)) ((zst3 T m e).1) (nI (zss T m e)) (zfg T m e)) 60 c), la)
            refine A_icmp_eq (tgt := 57) dX8_isWord_52 rfl (fun h_5 => ?_) (fun h_5 => ?_)
            · skip
              refine A_iinc (v := nI (i9 + 1)) (lo2 := [some (.ref 60), some (.ref (2000 + k)), some (.int (nI (i9 + 1)))]) dX8_isWord_57 rfl (nI_1 i9) (by decide) rfl ?_
              refine A_goto (tgt := 28) dX8_isWord_60 rfl ?_
              refine ih (i9 + 1) (by omega) (lt_s hall h_5)
            · skip
              refine A_iconst (v := 0) dX8_isWord_55 (by decide) ?_
              refine A_zret dX8_isWord_56 rfl (rfl) (az_pi hP ?_ (rfl))
              exact b2i_f (by unfold zwk; rw [zwd_3 (zallb_cn (i := i9) (by omega) h_5)]; decide)
      exact loop (zln k) 0 (by omega) lt_0
    · skip
      refine A_iconst (v := 0) dX8_isWord_24 (by decide) ?_
      refine A_zret dX8_isWord_25 rfl (rfl) (az_pi hP ?_ (rfl))
      exact b2i_f (by unfold zwk; rw [zwd_2 (fun q => h_2 (congrArg nI q))]; decide)
set_option maxHeartbeats 1000000 in
set_option maxRecDepth 100000 in
theorem r_wrong (l : Launch) (G : az_Gh) (d : Nat) (sh : List az_Sh) (u : Nat → Nat → Int32) (la : Nat → Nat → Int64) (kp tr : Option Nat) (c : CT) (a t f g : Int32) (hM : az_at sh 60 (lyM 60 kp tr))  : FM l G (d) mX8_wrong [.ref 60] (sh, (mput (mTk u a t f g) 60 c), la) (some (.int 0)) (sh, mput (mTk (az_w u 60 27 f) a t f g) 60 c, la) := by
  refine az_fm knX8_wrong (Nat.le_of_ble_eq_true rfl) rfl (fun Post hP => ?_)
  show AW l G mX8_wrong (d) (az_F G Post) 0 0 0 [some (.ref 60)] [] (sh, (mput (mTk u a t f g) 60 c), la)
  refine A_aload_n dX8_wrong_0 rfl rfl ?_
  refine A_aload_n dX8_wrong_1 rfl rfl ?_
  refine B_getV (f) dX8_wrong_2 flX8_150 (hM 0 _ rfl) rfl ((mput_f rfl).trans (mTk_25 _ _ _ _ _)) ?_
  refine B_putI dX8_wrong_5 fwX8_166 (hM 0 _ rfl) rfl ?_
  refine B_sg (show _ = (mput (mTk (az_w u 60 27 f) a t f g) 60 c) from (mput_wj rfl).trans (congrArg (fun z => mput z 60 c) (mTk_j (by decide)))) ?_
  refine A_iconst (v := 0) dX8_wrong_8 (by decide) ?_
  refine A_zret dX8_wrong_9 rfl (rfl) (az_pi hP ?_ (rfl))
  rfl
set_option maxHeartbeats 1000000 in
set_option maxRecDepth 100000 in
theorem r_number_y (l : Launch) (G : az_Gh) (d : Nat) (sh : List az_Sh) (u : Nat → Nat → Int32) (la : Nat → Nat → Int64) (kp tr : Option Nat) (c : CT) (T : Nat → Int32) (m e : Nat) (i : Nat) (most : Int32) (hM : az_at sh 60 (lyM 60 kp tr)) (hT : u 75 = T) (hm : u 60 7 = nI m) (hm2 : m ≤ 250) (he : e ≤ m) (hO : cOk c) (hi : i < 3) (hM9 : most ≤ 999) (hn : ¬ znum T m e most = -1) : FM l G (d + 2) mX8_number [.ref 60, .int (nI i), .int 0, .int most] (sh, (mput (mTk u (nI (znx T m e)) (zst3 T m e).1 (nI (zss T m e)) (zfg T m e)) 60 c), la) (some (.int 1)) (sh, mput (mTk (az_w u 82 i (znum T m e most)) (nI (znx T m (znx T m e))) (zst3 T m (znx T m e)).1 (nI (zss T m (znx T m e))) (zfg T m (znx T m e))) 60 c, la) := by
  refine az_fm knX8_number (Nat.le_of_ble_eq_true rfl) rfl (fun Post hP => ?_)
  show AW l G mX8_number (d + 2) (az_F G Post) 0 0 0 [some (.ref 60), some (.int (nI i)), some (.int 0), some (.int most)] [] (sh, (mput (mTk u (nI (znx T m e)) (zst3 T m e).1 (nI (zss T m e)) (zfg T m e)) 60 c), la)
  refine A_aload_n dX8_number_0 rfl rfl ?_
  refine B_getV ((zst3 T m e).1) dX8_number_1 flX8_156 (hM 0 _ rfl) rfl ((mput_f rfl).trans (mTk_24 _ _ _ _ _)) ?_
  refine A_iconst (v := 2) dX8_number_4 (by decide) ?_
  refine A_icmp_ne (tgt := 23) dX8_number_5 rfl (fun h_1 => ?_) (fun h_1 => ?_)
  · skip
    exact absurd (num_2 hn) h_1
  · skip
    refine A_aload_n dX8_number_8 rfl rfl ?_
    refine B_getV (zfg T m e) dX8_number_9 flX8_153 (hM 0 _ rfl) rfl ((mput_f rfl).trans (mTk_26 _ _ _ _ _)) ?_
    refine A_i2l dX8_number_12 ?_
    refine A_iload_n dX8_number_13 rfl rfl ?_
    refine A_i2l dX8_number_14 ?_
    refine A_iload_n dX8_number_15 rfl rfl ?_
    refine A_i2l dX8_number_16 ?_
    refine A_callS (n := 0) dX8_number_17 ksX8_in mlX8_91 rfl (c_X8_inI l G (d + 1) sh (mput (mTk u (nI (znx T m e)) ((zst3 T m e).1) (nI (zss T m e)) (zfg T m e)) 60 c) la (zfg T m e) most _ rfl) (by omega) (Nat.le_refl _) (Nat.le_refl _) rfl (Nat.le_of_ble_eq_true rfl) (fun r S1 hp => ?_)
    obtain ⟨rfl, rfl⟩ := hp
    show AW l G mX8_number (d + 2) (az_F G Post) 0 0 20 [some (.ref 60), some (.int (nI i)), some (.int 0), some (.int most)] [.int (b2i (0 ≤ zfg T m e ∧ zfg T m e ≤ most))] (sh, (mput (mTk u (nI (znx T m e)) ((zst3 T m e).1) (nI (zss T m e)) (zfg T m e)) 60 c), la)
    refine A_if_ne (tgt := 28) dX8_number_20 rfl (fun h_2 => ?_) (fun h_2 => ?_)
    · skip
      have h_2' := b2i_n.mp h_2
      refine A_aload_n dX8_number_28 rfl rfl ?_
      refine B_getR (r := 82) dX8_number_29 flX8_68 (hM 0 _ rfl) rfl ?_
      refine A_iload_n dX8_number_32 rfl rfl ?_
      refine A_aload_n dX8_number_33 rfl rfl ?_
      refine B_getV (zfg T m e) dX8_number_34 flX8_153 (hM 0 _ rfl) rfl ((mput_f rfl).trans (mTk_26 _ _ _ _ _)) ?_
      refine B_iast (i := i) dX8_number_37 (hM 22 _ rfl) (by decide) (rfl) (by omega) ?_
      refine B_sg (show _ = (mput (mTk (az_w u 82 i (zfg T m e)) (nI (znx T m e)) ((zst3 T m e).1) (nI (zss T m e)) (zfg T m e)) 60 c) from (mput_wk (by decide) (by decide)).trans (congrArg (fun z => mput z 60 c) (mTk_k (by decide)))) ?_
      refine A_aload_n dX8_number_38 rfl rfl ?_
      refine A_callV (n := 0) dX8_number_39 kvX8_look mlX8_183 rfl (az_rc_obj clX8 (hM 0 _ rfl)) (r_look l G d sh (az_w u 82 i (zfg T m e)) la kp tr c T m (znx T m e) ((zst3 T m e).1) (nI (zss T m e)) (zfg T m e) hM hO ((az_w_ne (by decide)).trans hT) ((congrFun (az_w_ne (by decide)) 7).trans hm) hm2 (znx_le he)) (by omega) (Nat.le_refl _) (Nat.le_refl _) rfl (Nat.le_of_ble_eq_true rfl) (fun r S1 hp => ?_)
      obtain ⟨rfl, rfl⟩ := hp
      show AW l G mX8_number (d + 2) (az_F G Post) 0 0 42 [some (.ref 60), some (.int (nI i)), some (.int 0), some (.int most)] [] (sh, (mput (mTk (az_w u 82 i (zfg T m e)) (nI (znx T m (znx T m e))) ((zst3 T m (znx T m e)).1) (nI (zss T m (znx T m e))) (zfg T m (znx T m e))) 60 c), la)
      refine A_iconst (v := 1) dX8_number_42 (by decide) ?_
      refine A_zret dX8_number_43 rfl (rfl) (az_pi hP ?_ (by rw [(num_in he (num_2 hn) hM9).2 hn]))
      rfl
    · skip
      have h_2' := b2i_0.mp h_2
      exact absurd ((num_in he (num_2 hn) hM9).1.mpr hn) (b2i_0.mp h_2)
set_option maxHeartbeats 1000000 in
set_option maxRecDepth 100000 in
theorem r_number_n (l : Launch) (G : az_Gh) (d : Nat) (sh : List az_Sh) (u : Nat → Nat → Int32) (la : Nat → Nat → Int64) (kp tr : Option Nat) (c : CT) (T : Nat → Int32) (m e : Nat) (i : Nat) (most : Int32) (hM : az_at sh 60 (lyM 60 kp tr)) (hT : u 75 = T) (hm : u 60 7 = nI m) (hm2 : m ≤ 250) (he : e ≤ m) (hO : cOk c) (hi : i < 3) (hM9 : most ≤ 999) (hn : znum T m e most = -1) : FM l G (d + 2) mX8_number [.ref 60, .int (nI i), .int 0, .int most] (sh, (mput (mTk u (nI (znx T m e)) (zst3 T m e).1 (nI (zss T m e)) (zfg T m e)) 60 c), la) (some (.int 0)) (sh, mput (mTk (az_w u 60 27 (nI (zss T m e))) (nI (znx T m e)) (zst3 T m e).1 (nI (zss T m e)) (zfg T m e)) 60 c, la) := by
  refine az_fm knX8_number (Nat.le_of_ble_eq_true rfl) rfl (fun Post hP => ?_)
  show AW l G mX8_number (d + 2) (az_F G Post) 0 0 0 [some (.ref 60), some (.int (nI i)), some (.int 0), some (.int most)] [] (sh, (mput (mTk u (nI (znx T m e)) (zst3 T m e).1 (nI (zss T m e)) (zfg T m e)) 60 c), la)
  refine A_aload_n dX8_number_0 rfl rfl ?_
  refine B_getV ((zst3 T m e).1) dX8_number_1 flX8_156 (hM 0 _ rfl) rfl ((mput_f rfl).trans (mTk_24 _ _ _ _ _)) ?_
  refine A_iconst (v := 2) dX8_number_4 (by decide) ?_
  refine A_icmp_ne (tgt := 23) dX8_number_5 rfl (fun h_1 => ?_) (fun h_1 => ?_)
  · skip
    refine A_aload_n dX8_number_23 rfl rfl ?_
    refine A_callV (n := 0) dX8_number_24 kvX8_wrong mlX8_179 rfl (az_rc_obj clX8 (hM 0 _ rfl)) (r_wrong l G (d + 1) sh u la kp tr c (nI (znx T m e)) ((zst3 T m e).1) (nI (zss T m e)) (zfg T m e) hM) (by omega) (Nat.le_refl _) (Nat.le_refl _) rfl (Nat.le_of_ble_eq_true rfl) (fun r S1 hp => ?_)
    obtain ⟨rfl, rfl⟩ := hp
    show AW l G mX8_number (d + 2) (az_F G Post) 0 0 27 [some (.ref 60), some (.int (nI i)), some (.int 0), some (.int most)] [.int 0] (sh, (mput (mTk (az_w u 60 27 (nI (zss T m e))) (nI (znx T m e)) ((zst3 T m e).1) (nI (zss T m e)) (zfg T m e)) 60 c), la)
    refine A_zret dX8_number_27 rfl (rfl) (az_pi hP ?_ (rfl))
    rfl
  · skip
    refine A_aload_n dX8_number_8 rfl rfl ?_
    refine B_getV (zfg T m e) dX8_number_9 flX8_153 (hM 0 _ rfl) rfl ((mput_f rfl).trans (mTk_26 _ _ _ _ _)) ?_
    refine A_i2l dX8_number_12 ?_
    refine A_iload_n dX8_number_13 rfl rfl ?_
    refine A_i2l dX8_number_14 ?_
    refine A_iload_n dX8_number_15 rfl rfl ?_
    refine A_i2l dX8_number_16 ?_
    refine A_callS (n := 0) dX8_number_17 ksX8_in mlX8_91 rfl (c_X8_inI l G (d + 1) sh (mput (mTk u (nI (znx T m e)) ((zst3 T m e).1) (nI (zss T m e)) (zfg T m e)) 60 c) la (zfg T m e) most _ rfl) (by omega) (Nat.le_refl _) (Nat.le_refl _) rfl (Nat.le_of_ble_eq_true rfl) (fun r S1 hp => ?_)
    obtain ⟨rfl, rfl⟩ := hp
    show AW l G mX8_number (d + 2) (az_F G Post) 0 0 20 [some (.ref 60), some (.int (nI i)), some (.int 0), some (.int most)] [.int (b2i (0 ≤ zfg T m e ∧ zfg T m e ≤ most))] (sh, (mput (mTk u (nI (znx T m e)) ((zst3 T m e).1) (nI (zss T m e)) (zfg T m e)) 60 c), la)
    refine A_if_ne (tgt := 28) dX8_number_20 rfl (fun h_2 => ?_) (fun h_2 => ?_)
    · skip
      have h_2' := b2i_n.mp h_2
      exact absurd hn ((num_in he h_1 hM9).1.mp (b2i_n.mp h_2))
    · skip
      have h_2' := b2i_0.mp h_2
      refine A_aload_n dX8_number_23 rfl rfl ?_
      refine A_callV (n := 0) dX8_number_24 kvX8_wrong mlX8_179 rfl (az_rc_obj clX8 (hM 0 _ rfl)) (r_wrong l G (d + 1) sh u la kp tr c (nI (znx T m e)) ((zst3 T m e).1) (nI (zss T m e)) (zfg T m e) hM) (by omega) (Nat.le_refl _) (Nat.le_refl _) rfl (Nat.le_of_ble_eq_true rfl) (fun r S1 hp => ?_)
      obtain ⟨rfl, rfl⟩ := hp
      show AW l G mX8_number (d + 2) (az_F G Post) 0 0 27 [some (.ref 60), some (.int (nI i)), some (.int 0), some (.int most)] [.int 0] (sh, (mput (mTk (az_w u 60 27 (nI (zss T m e))) (nI (znx T m e)) ((zst3 T m e).1) (nI (zss T m e)) (zfg T m e)) 60 c), la)
      refine A_zret dX8_number_27 rfl (rfl) (az_pi hP ?_ (rfl))
      rfl
